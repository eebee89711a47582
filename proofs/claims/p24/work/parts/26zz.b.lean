
set_option maxRecDepth 100000 in
set_option maxHeartbeats 4000000 in
theorem s_X12_comesTo (l : Launch) (D : va_G) (cA : Nat → ClassId) (ad : Nat → Nat) (g0 : Nat → va_E) (fr : Int32) (wi : Int32) (hSh : Shp ad cA g0) (hG : Rng g0) : CT l NN ad cA D yX12_comesTo cX12_comesTo 6 (some FieldType.int) (1, 21) [.ref (ad 129), .int fr, .int wi] g0 (PU g0 (fun r => 0 ≤ r.toInt ∧ r.toInt < 4096 ∧ BS r (Cm (Lm g0) fr wi))) := by
  refine q_enterI (by decide) (Nat.le_of_ble_eq_true rfl) rfl (fun K H locs ls _ _ hM hW0 hR hC hE hl => ?_)
  have hl : lv_has ls 6 [(0, .ref (ad 129)), (1, .int fr), (2, .int wi)] := hl
  have hW : WS ad cA (fun i k => False) g0 K g0 H locs := ⟨hW0, hSh, FR.rf⟩
  refine q_iconst (v := (0 : Int32)) hM dX12_comesTo_0 (by decide) ?_
  refine q_istore_n (lv9 := [(3, .int (0 : Int32)), (0, .ref (ad 129)), (1, .int fr), (2, .int wi)]) hM dX12_comesTo_1 hl (by decide) rfl (fun ls hl => ?_)
  refine q_iconst (v := (0 : Int32)) hM dX12_comesTo_2 (by decide) ?_
  refine q_istore (lv9 := [(4, .int (0 : Int32)), (3, .int (0 : Int32)), (0, .ref (ad 129)), (1, .int fr), (2, .int wi)]) hM dX12_comesTo_3 hl (by decide) rfl (fun ls hl => ?_)
  have L5 : ∀ (fu5 : Nat) (w5_3 : Int32) (w5_4 : Int32) (H : Heap) (locs : List Loc) (ls : Array Slot), (12 - w5_4.toInt).toNat < fu5 → (0 ≤ w5_4.toInt) → (w5_4.toInt ≤ 12) → (0 ≤ w5_3.toInt) → (w5_3.toInt < 4096) → (BS w5_3 (Cd (Lm g0) fr wi w5_4.toInt)) → lv_has ls 6 [(0, .ref (ad 129)), (1, .int fr), (2, .int wi), (3, .int w5_3), (4, .int w5_4)] → WS ad cA (fun i k => False) g0 K g0 H locs → XX K 0 0 H locs 5 ls [] := by
    intro fu5
    induction fu5 with
    | zero => intro w5_3 w5_4 H locs ls h0; omega
    | succ fu5 ih5 =>
      intro w5_3 w5_4 H locs ls hm5 i5_0 i5_1 i5_2 i5_3 i5_4 hl hW
      refine q_iload hM dX12_comesTo_5 (lv_at hl 4 rfl) ?_
      refine q_bipush (v := (12 : Int32)) hM dX12_comesTo_7 (by decide) ?_
      refine q_icmp_ge (tgt := 75) hM dX12_comesTo_9 (by decide) (rfl : w5_4.toInt = w5_4.toInt) (kc_12 : (12 : Int32).toInt = 12) (fun h9 => ?_) (fun h9 => ?_)
      · refine q_iload_n hM dX12_comesTo_75 (lv_at hl 3 rfl) ?_
        exact hE _ _ _ _ _ _ hW.1 ⟨_, rfl, ⟨by omega, by omega, Cd_end i5_4 (fun _ _ h => h.1) (by omega)⟩, rfl⟩ dX12_comesTo_76
      · refine q_iconst (v := (0 : Int32)) hM dX12_comesTo_12 (by decide) ?_
        refine q_istore (lv9 := [(5, .int (0 : Int32)), (0, .ref (ad 129)), (1, .int fr), (2, .int wi), (3, .int w5_3), (4, .int w5_4)]) hM dX12_comesTo_13 hl (by decide) rfl (fun ls hl => ?_)
        have L15 : ∀ (fu15 : Nat) (w15_3 : Int32) (w15_5 : Int32) (H : Heap) (locs : List Loc) (ls : Array Slot), (12 - w15_5.toInt).toNat < fu15 → (0 ≤ w15_5.toInt) → (w15_5.toInt ≤ 12) → (0 ≤ w15_3.toInt) → (w15_3.toInt < 4096) → (BS w15_3 (Ce (Lm g0) fr wi w5_4 w15_5.toInt)) → lv_has ls 6 [(0, .ref (ad 129)), (1, .int fr), (2, .int wi), (3, .int w15_3), (4, .int w5_4), (5, .int w15_5)] → WS ad cA (fun i k => False) g0 K g0 H locs → XX K 0 0 H locs 15 ls [] := by
          intro fu15
          induction fu15 with
          | zero => intro w15_3 w15_5 H locs ls h0; omega
          | succ fu15 ih15 =>
            intro w15_3 w15_5 H locs ls hm15 i15_0 i15_1 i15_2 i15_3 i15_4 hl hW
            refine q_iload hM dX12_comesTo_15 (lv_at hl 5 rfl) ?_
            refine q_bipush (v := (12 : Int32)) hM dX12_comesTo_17 (by decide) ?_
            refine q_icmp_ge (tgt := 69) hM dX12_comesTo_19 (by decide) (rfl : w15_5.toInt = w15_5.toInt) (kc_12 : (12 : Int32).toInt = 12) (fun h19 => ?_) (fun h19 => ?_)
            · refine q_iinc (lv9 := fun z13573 => [(4, .int z13573), (0, .ref (ad 129)), (1, .int fr), (2, .int wi), (3, .int w15_3), (5, .int w15_5)]) hM dX12_comesTo_69 hl (kq := 4) rfl (by decide) (fun _ => rfl) (fun z13573 ls hz13573 hl => ?_)
              first | have tz13573 := i_addT hz13573 (rfl : w5_4.toInt = w5_4.toInt) (kc_1 : (Int32.ofInt 1).toInt = 1) (by omega) (by omega) | skip
              refine q_goto (tgt := 5) hM dX12_comesTo_72 (by decide) ?_
              exact ih5 w15_3 z13573 _ _ _ (by omega) (by omega) (by omega) (by omega) (by omega) (Cd_next i15_4 Lmb (by omega) (Or.inr (by omega)) (by omega)) (lv_sub hl [1, 2, 3, 4, 0] rfl) hW
            · refine q_iload_n hM dX12_comesTo_22 (lv_at hl 1 rfl) ?_
              refine q_iload hM dX12_comesTo_23 (lv_at hl 4 rfl) ?_
              refine q_callS (As := [.int fr, .int w5_4]) (rest := []) hM hW.1 hR hC myX12_has (kAW (v_5_6 (List.mem_of_getElem? (i := 7) rfl)) rfl) (c_X12_has _ _ cA ad g0 fr w5_4 hW.2.1 (by omega) (by omega)) ⟨by decide, by decide⟩ rfl rfl hl.1 (Nat.le_of_ble_eq_true rfl) dX12_comesTo_25 (fun v g13576 H locs hp hW1 => ?_)
              obtain ⟨r13575, rfl, hr13575, rfl⟩ := hp
              have hW : WS ad cA (fun i k => False) g0 K g0 H locs := ⟨hW1, hW.2.1, hW.2.2⟩
              refine q_if_eq (tgt := 69) hM dX12_comesTo_28 (by decide) (rfl : r13575.toInt = r13575.toInt) (fun h28 => ?_) (fun h28 => ?_)
              · refine q_iinc (lv9 := fun z13578 => [(4, .int z13578), (0, .ref (ad 129)), (1, .int fr), (2, .int wi), (3, .int w15_3), (5, .int w15_5)]) hM dX12_comesTo_69 hl (kq := 4) rfl (by decide) (fun _ => rfl) (fun z13578 ls hz13578 hl => ?_)
                first | have tz13578 := i_addT hz13578 (rfl : w5_4.toInt = w5_4.toInt) (kc_1 : (Int32.ofInt 1).toInt = 1) (by omega) (by omega) | skip
                refine q_goto (tgt := 5) hM dX12_comesTo_72 (by decide) ?_
                exact ih5 w15_3 z13578 _ _ _ (by omega) (by omega) (by omega) (by omega) (by omega) (Cd_next i15_4 Lmb (by omega) (Or.inl (by rcases hr13575 with h | h; exact absurd h.1 (by omega); exact h.2)) (by omega)) (lv_sub hl [1, 2, 3, 4, 0] rfl) hW
              · refine q_aload_n hM dX12_comesTo_31 (lv_at hl 0 rfl) ?_
                refine w_get (v := .ref (ad 133)) hM hW FG_X12_25 lb_129 (rf_129_12 hW.2.1) dX12_comesTo_32 ?_
                refine q_bipush (v := (12 : Int32)) hM dX12_comesTo_35 (by decide) ?_
                refine q_iload hM dX12_comesTo_37 (lv_at hl 4 rfl) ?_
                refine q_imul hM dX12_comesTo_39 (fun z13580 hz13580 => ?_)
                first | have tz13580 := i_mulT hz13580 (kc_12 : (12 : Int32).toInt = 12) (rfl : w5_4.toInt = w5_4.toInt) (by omega) (by omega) | skip
                refine q_iload hM dX12_comesTo_40 (lv_at hl 5 rfl) ?_
                refine q_iadd hM dX12_comesTo_42 (fun z13581 hz13581 => ?_)
                first | have tz13581 := i_addT hz13581 (rfl : z13580.toInt = z13580.toInt) (rfl : w15_5.toInt = w15_5.toInt) (by omega) (by omega) | skip
                refine w_iald hM hW lb_133 (i_in (by omega) (by omega)) dX12_comesTo_43 ?_
                refine q_top (fun y13582 hy13582 => ?_)
                rw [show z13581.toNatClampNeg = 12 * w5_4.toInt.toNat + w15_5.toInt.toNat by show z13581.toInt.toNat = _; omega] at hy13582
                refine q_if_le (tgt := 63) hM dX12_comesTo_44 (by decide) (rfl : y13582.toInt = y13582.toInt) (fun h44 => ?_) (fun h44 => ?_)
                · refine q_iinc (lv9 := fun z13584 => [(5, .int z13584), (0, .ref (ad 129)), (1, .int fr), (2, .int wi), (3, .int w15_3), (4, .int w5_4)]) hM dX12_comesTo_63 hl (kq := 5) rfl (by decide) (fun _ => rfl) (fun z13584 ls hz13584 hl => ?_)
                  first | have tz13584 := i_addT hz13584 (rfl : w15_5.toInt = w15_5.toInt) (kc_1 : (Int32.ofInt 1).toInt = 1) (by omega) (by omega) | skip
                  refine q_goto (tgt := 15) hM dX12_comesTo_66 (by decide) ?_
                  exact ih15 w15_3 z13584 _ _ _ (by omega) (by omega) (by omega) (by omega) (by omega) (Ce_no i15_4 (by omega) (Or.inl (fun h9 => absurd h9.2.2 (by rw [← hy13582]; omega))) (by omega)) (lv_sub hl [1, 2, 3, 4, 5, 0] rfl) hW
                · refine q_iload_n hM dX12_comesTo_47 (lv_at hl 2 rfl) ?_
                  refine q_iload hM dX12_comesTo_48 (lv_at hl 5 rfl) ?_
                  refine q_callS (As := [.int wi, .int w15_5]) (rest := []) hM hW.1 hR hC myX12_has (kAW (v_5_6 (List.mem_of_getElem? (i := 7) rfl)) rfl) (c_X12_has _ _ cA ad g0 wi w15_5 hW.2.1 (by omega) (by omega)) ⟨by decide, by decide⟩ rfl rfl hl.1 (Nat.le_of_ble_eq_true rfl) dX12_comesTo_50 (fun v g13587 H locs hp hW1 => ?_)
                  obtain ⟨r13586, rfl, hr13586, rfl⟩ := hp
                  have hW : WS ad cA (fun i k => False) g0 K g0 H locs := ⟨hW1, hW.2.1, hW.2.2⟩
                  refine q_if_ne (tgt := 63) hM dX12_comesTo_53 (by decide) (rfl : r13586.toInt = r13586.toInt) (fun h53 => ?_) (fun h53 => ?_)
                  · refine q_iinc (lv9 := fun z13589 => [(5, .int z13589), (0, .ref (ad 129)), (1, .int fr), (2, .int wi), (3, .int w15_3), (4, .int w5_4)]) hM dX12_comesTo_63 hl (kq := 5) rfl (by decide) (fun _ => rfl) (fun z13589 ls hz13589 hl => ?_)
                    first | have tz13589 := i_addT hz13589 (rfl : w15_5.toInt = w15_5.toInt) (kc_1 : (Int32.ofInt 1).toInt = 1) (by omega) (by omega) | skip
                    refine q_goto (tgt := 15) hM dX12_comesTo_66 (by decide) ?_
                    exact ih15 w15_3 z13589 _ _ _ (by omega) (by omega) (by omega) (by omega) (by omega) (Ce_no i15_4 (by omega) (Or.inr (by rcases hr13586 with h | h; exact h.2; exact absurd h.1 (by omega))) (by omega)) (lv_sub hl [1, 2, 3, 4, 5, 0] rfl) hW
                  · refine q_iload_n hM dX12_comesTo_56 (lv_at hl 3 rfl) ?_
                    refine q_iconst (v := (1 : Int32)) hM dX12_comesTo_57 (by decide) ?_
                    refine q_iload hM dX12_comesTo_58 (lv_at hl 5 rfl) ?_
                    refine q_ishl hM dX12_comesTo_60 (fun z13591 hz13591 => ?_)
                    first | have sz13591 := i_shl1 12 (by decide) hz13591 (by omega) (by omega) | skip
                    refine q_ior hM dX12_comesTo_61 (fun z13592 hz13592 => ?_)
                    first | have oz13592 := i_ork 12 (by decide) hz13592 (by omega) (by omega) (by omega) (by omega) | skip
                    first | have ogz13592 := i_or_ge hz13592 (by omega) (by omega) | skip
                    refine q_istore_n (lv9 := [(3, .int z13592), (0, .ref (ad 129)), (1, .int fr), (2, .int wi), (4, .int w5_4), (5, .int w15_5)]) hM dX12_comesTo_62 hl (by decide) rfl (fun ls hl => ?_)
                    refine q_iinc (lv9 := fun z13593 => [(5, .int z13593), (3, .int z13592), (0, .ref (ad 129)), (1, .int fr), (2, .int wi), (4, .int w5_4)]) hM dX12_comesTo_63 hl (kq := 5) rfl (by decide) (fun _ => rfl) (fun z13593 ls hz13593 hl => ?_)
                    first | have tz13593 := i_addT hz13593 (rfl : w15_5.toInt = w15_5.toInt) (kc_1 : (Int32.ofInt 1).toInt = 1) (by omega) (by omega) | skip
                    refine q_goto (tgt := 15) hM dX12_comesTo_66 (by decide) ?_
                    exact ih15 z13592 z13593 _ _ _ (by omega) (by omega) (by omega) (by omega) (by omega) (Ce_yes i15_4 hz13591 hz13592 (by omega) (by omega) (by rcases hr13575 with h | h; exact h.2; exact absurd h.1 (by omega)) ⟨by omega, by omega, by rw [← hy13582]; omega⟩ (by rcases hr13586 with h | h; exact absurd h.1 (by omega); exact h.2) (by omega)) (lv_sub hl [2, 3, 4, 1, 5, 0] rfl) hW
        have := kc_0
        exact L15 _ w5_3 (0 : Int32) _ _ _ (Nat.lt_succ_self _) (by omega) (by omega) (by omega) (by omega) (by rw [kc_0]; exact Ce_0 i5_4) (lv_sub hl [1, 2, 3, 4, 5, 0] rfl) hW
  have := kc_0
  have := kc_0
  exact L5 _ (0 : Int32) (0 : Int32) _ _ _ (Nat.lt_succ_self _) (by omega) (by omega) (by omega) (by omega) (by rw [kc_0]; exact Cd_0) (lv_sub hl [2, 3, 4, 1, 0] rfl) hW


set_option maxRecDepth 100000 in
set_option maxHeartbeats 4000000 in
theorem s_X12_reachOf (l : Launch) (D : va_G) (cA : Nat → ClassId) (ad : Nat → Nat) (g0 : Nat → va_E) (i : Int32) (wi : Int32) (hSh : Shp ad cA g0) (hG : Rng g0) (i0 : 0 ≤ i.toInt) (i12 : i.toInt < 12) : CT l NN ad cA D yX12_reachOf cX12_reachOf 5 (some FieldType.int) (2, 46) [.ref (ad 129), .int i, .int wi] g0 (PU g0 (fun r => 0 ≤ r.toInt ∧ r.toInt < 4096 ∧ BS r (Rch (Lm g0) (fun q => bt wi q = true) i.toInt.toNat))) := by
  refine q_enterI (by decide) (Nat.le_of_ble_eq_true rfl) rfl (fun K H locs ls _ _ hM hW0 hR hC hE hl => ?_)
  have hl : lv_has ls 5 [(0, .ref (ad 129)), (1, .int i), (2, .int wi)] := hl
  have hW : WS ad cA (fun i k => False) g0 K g0 H locs := ⟨hW0, hSh, FR.rf⟩
  refine q_iconst (v := (0 : Int32)) hM dX12_reachOf_0 (by decide) ?_
  refine q_istore_n (lv9 := [(3, .int (0 : Int32)), (0, .ref (ad 129)), (1, .int i), (2, .int wi)]) hM dX12_reachOf_1 hl (by decide) rfl (fun ls hl => ?_)
  refine q_aload_n hM dX12_reachOf_2 (lv_at hl 1 rfl) ?_
  refine q_iconst (v := (1 : Int32)) hM dX12_reachOf_3 (by decide) ?_
  refine q_iload_n hM dX12_reachOf_4 (lv_at hl 2 rfl) ?_
  refine q_ishl hM dX12_reachOf_5 (fun z13594 hz13594 => ?_)
  first | have sz13594 := i_shl1 12 (by decide) hz13594 (by omega) (by omega) | skip
  refine q_iload_n hM dX12_reachOf_6 (lv_at hl 3 rfl) ?_
  refine q_callV (As := [.int z13594, .int wi]) (rest := []) hM hW.1 hR hC myX12_comesTo (kAW (v_5_6 (List.mem_of_getElem? (i := 3) rfl)) rfl) (rfl : vwCl[12]? = some (RX12, TX12, 86)) rfl lb_129.1 (shO hW.2.1 lb_129) (s_X12_comesTo _ _ cA ad g0 z13594 wi hW.2.1 hG) ⟨by decide, by decide⟩ rfl rfl hl.1 (Nat.le_of_ble_eq_true rfl) dX12_reachOf_7 (fun v g13596 H locs hp hW1 => ?_)
  obtain ⟨r13595, rfl, hr13595, rfl⟩ := hp
  have hW : WS ad cA (fun i k => False) g0 K g0 H locs := ⟨hW1, hW.2.1, hW.2.2⟩
  refine q_istore (lv9 := [(4, .int r13595), (3, .int (0 : Int32)), (0, .ref (ad 129)), (1, .int i), (2, .int wi)]) hM dX12_reachOf_10 hl (by decide) rfl (fun ls hl => ?_)
  have L12 : ∀ (fu12 : Nat) (w12_3 : Int32) (w12_4 : Int32) (H : Heap) (locs : List Loc) (ls : Array Slot), (4096 - w12_3.toInt).toNat < fu12 → (0 ≤ w12_3.toInt) → (w12_3.toInt ≤ w12_4.toInt) → (w12_4.toInt < 4096) → (RMs (Lm g0) wi i w12_3 w12_4) → lv_has ls 5 [(0, .ref (ad 129)), (1, .int i), (2, .int wi), (3, .int w12_3), (4, .int w12_4)] → WS ad cA (fun i k => False) g0 K g0 H locs → XX K 0 0 H locs 12 ls [] := by
    intro fu12
    induction fu12 with
    | zero => intro w12_3 w12_4 H locs ls h0; omega
    | succ fu12 ih12 =>
      intro w12_3 w12_4 H locs ls hm12 i12_0 i12_1 i12_2 i12_3 hl hW
      refine q_iload hM dX12_reachOf_12 (lv_at hl 4 rfl) ?_
      refine q_iload_n hM dX12_reachOf_14 (lv_at hl 3 rfl) ?_
      refine q_icmp_eq (tgt := 34) hM dX12_reachOf_15 (by decide) (rfl : w12_4.toInt = w12_4.toInt) (rfl : w12_3.toInt = w12_3.toInt) (fun h15 => ?_) (fun h15 => ?_)
      · refine q_iload_n hM dX12_reachOf_34 (lv_at hl 3 rfl) ?_
        exact hE _ _ _ _ _ _ hW.1 ⟨_, rfl, ⟨by omega, by omega, RM_end i12_3 (by omega)⟩, rfl⟩ dX12_reachOf_35
      · refine q_iload hM dX12_reachOf_18 (lv_at hl 4 rfl) ?_
        refine q_istore_n (lv9 := [(3, .int w12_4), (0, .ref (ad 129)), (1, .int i), (2, .int wi), (4, .int w12_4)]) hM dX12_reachOf_20 hl (by decide) rfl (fun ls hl => ?_)
        refine q_iload_n hM dX12_reachOf_21 (lv_at hl 0 rfl) ?_
        refine q_aload_n hM dX12_reachOf_22 (lv_at hl 1 rfl) ?_
        refine q_iload_n hM dX12_reachOf_23 (lv_at hl 0 rfl) ?_
        refine q_iload_n hM dX12_reachOf_24 (lv_at hl 3 rfl) ?_
        refine q_callV (As := [.int w12_4, .int wi]) (rest := [.int w12_4]) hM hW.1 hR hC myX12_comesTo (kAW (v_5_6 (List.mem_of_getElem? (i := 3) rfl)) rfl) (rfl : vwCl[12]? = some (RX12, TX12, 86)) rfl lb_129.1 (shO hW.2.1 lb_129) (s_X12_comesTo _ _ cA ad g0 w12_4 wi hW.2.1 hG) ⟨by decide, by decide⟩ rfl rfl hl.1 (Nat.le_of_ble_eq_true rfl) dX12_reachOf_25 (fun v g13601 H locs hp hW1 => ?_)
        obtain ⟨r13600, rfl, hr13600, rfl⟩ := hp
        have hW : WS ad cA (fun i k => False) g0 K g0 H locs := ⟨hW1, hW.2.1, hW.2.2⟩
        refine q_ior hM dX12_reachOf_28 (fun z13602 hz13602 => ?_)
        first | have oz13602 := i_ork 12 (by decide) hz13602 (by omega) (by omega) (by omega) (by omega) | skip
        first | have ogz13602 := i_or_ge hz13602 (by omega) (by omega) | skip
        refine q_istore (lv9 := [(4, .int z13602), (3, .int w12_4), (0, .ref (ad 129)), (1, .int i), (2, .int wi)]) hM dX12_reachOf_29 hl (by decide) rfl (fun ls hl => ?_)
        refine q_goto (tgt := 12) hM dX12_reachOf_31 (by decide) ?_
        exact ih12 w12_4 z13602 _ _ _ (by omega) (by omega) (by omega) (by omega) (RM_next Lmb i12_3 hr13600.2.2 hz13602) (lv_sub hl [2, 3, 4, 1, 0] rfl) hW
  have := kc_0
  exact L12 _ (0 : Int32) r13595 _ _ _ (Nat.lt_succ_self _) (by omega) (by omega) (by omega) (RM_0 Lmb (by omega) (by omega) hz13594 hr13595.2.2) (lv_sub hl [2, 3, 4, 1, 0] rfl) hW


set_option maxRecDepth 100000 in
set_option maxHeartbeats 4000000 in
theorem s_X11_link (l : Launch) (D : va_G) (cA : Nat → ClassId) (ad : Nat → Nat) (g0 : Nat → va_E) (a : Int32) (b : Int32) (c : Int32) (td : Int32)  (hSh : Shp ad cA g0) (hG : Rng g0) (h_td : fld g0 3 2 = .int td) : CT l NN ad cA D yX11_link cX11_link 4 (some FieldType.boolean) (1, 22) [.ref (ad 0), .int a, .int b, .int c] g0 (fun v g' => ∃ (r : Int32), v = some (.int r) ∧ Shp ad cA g' ∧ Rng g' ∧ FR (fun i k => (6 ≤ i ∧ i < 18)) g0 g' ∧ (((0 ≤ a.toInt ∧ a.toInt < 12 ∧ 0 ≤ b.toInt ∧ b.toInt < 12 ∧ bi td a = 1 ∧ bi td b = 1 ∧ a.toInt ≠ b.toInt ∧ 0 ≤ c.toInt ∧ c.toInt ≤ 9) ∧ ∀ k : Nat, k < 12 → arI g' (6 + 1 * k) = if k = a.toInt.toNat then upd (arI g0 (6 + 1 * k)) b.toNatClampNeg c else arI g0 (6 + 1 * k)) ∨ (¬ (0 ≤ a.toInt ∧ a.toInt < 12 ∧ 0 ≤ b.toInt ∧ b.toInt < 12 ∧ bi td a = 1 ∧ bi td b = 1 ∧ a.toInt ≠ b.toInt ∧ 0 ≤ c.toInt ∧ c.toInt ≤ 9) ∧ ∀ k : Nat, k < 12 → arI g' (6 + 1 * k) = arI g0 (6 + 1 * k))) ∧ (r.toInt = 0 ∨ r.toInt = 1)) := by
  refine q_enterZ (by decide) (Nat.le_of_ble_eq_true rfl) (fun K H locs ls _ _ hM hW0 hR hC hE hl => ?_)
  have hl : lv_has ls 4 [(0, .ref (ad 0)), (1, .int a), (2, .int b), (3, .int c)] := hl
  have hW : WS ad cA (fun i k => (6 ≤ i ∧ i < 18)) g0 K g0 H locs := ⟨hW0, hSh, FR.rf⟩
  have b_td := hG.f h_td rF_3_2 (by decide)
  have := kc_0
  have := kc_1
  refine q_aload_n hM dX11_link_0 (lv_at hl 0 rfl) ?_
  refine w_get (v := .ref (ad 3)) hM hW FG_X11_19 lb_0 (rf_0_1 hW.2.1) dX11_link_1 ?_
  refine w_get (v := .int td) hM hW FG_X11_116 lb_3 ((hW.2.2.1 3 2 (by omega)).trans h_td) dX11_link_4 ?_
  refine q_iload_n hM dX11_link_7 (lv_at hl 1 rfl) ?_
  refine q_callS (As := [.int td, .int a]) (rest := []) hM hW.1 hR hC myX11_has (kAW (v_1_10 (List.mem_of_getElem? (i := 8) rfl)) rfl) (c_X11_has _ _ cA ad g0 td a hW.2.1) ⟨by decide, by decide⟩ rfl rfl hl.1 (Nat.le_of_ble_eq_true rfl) dX11_link_8 (fun v g13604 H locs hp hW1 => ?_)
  obtain ⟨r13603, rfl, hr13603, rfl⟩ := hp
  have hW : WS ad cA (fun i k => (6 ≤ i ∧ i < 18)) g0 K g0 H locs := ⟨hW1, hW.2.1, hW.2.2⟩
  have hbr13603 := has_bi hr13603
  have hcr13603 := bi_01 td a
  first | have ltr13603 := has_lt 5 hr13603 (by omega) (by omega) | have ltr13603 := has_lt 6 hr13603 (by omega) (by omega) | have ltr13603 := has_lt 8 hr13603 (by omega) (by omega) | have ltr13603 := has_lt 12 hr13603 (by omega) (by omega) | skip
  refine q_if_eq (tgt := 43) hM dX11_link_11 (by decide) (rfl : r13603.toInt = r13603.toInt) (fun h11 => ?_) (fun h11 => ?_)
  · refine q_iconst (v := (0 : Int32)) hM dX11_link_43 (by decide) ?_
    exact hE _ _ _ _ _ _ hW.1 nz_0 ⟨_, rfl, hW.2.1, hG, hW.2.2, (Or.inr ⟨by omega, fun _ _ => rfl⟩), (by have := kc_0; omega)⟩ dX11_link_44
  · refine q_aload_n hM dX11_link_14 (lv_at hl 0 rfl) ?_
    refine w_get (v := .ref (ad 3)) hM hW FG_X11_19 lb_0 (rf_0_1 hW.2.1) dX11_link_15 ?_
    refine w_get (v := .int td) hM hW FG_X11_116 lb_3 ((hW.2.2.1 3 2 (by omega)).trans h_td) dX11_link_18 ?_
    refine q_iload_n hM dX11_link_21 (lv_at hl 2 rfl) ?_
    refine q_callS (As := [.int td, .int b]) (rest := []) hM hW.1 hR hC myX11_has (kAW (v_1_10 (List.mem_of_getElem? (i := 8) rfl)) rfl) (c_X11_has _ _ cA ad g0 td b hW.2.1) ⟨by decide, by decide⟩ rfl rfl hl.1 (Nat.le_of_ble_eq_true rfl) dX11_link_22 (fun v g13608 H locs hp hW1 => ?_)
    obtain ⟨r13607, rfl, hr13607, rfl⟩ := hp
    have hW : WS ad cA (fun i k => (6 ≤ i ∧ i < 18)) g0 K g0 H locs := ⟨hW1, hW.2.1, hW.2.2⟩
    have hbr13607 := has_bi hr13607
    have hcr13607 := bi_01 td b
    first | have ltr13607 := has_lt 5 hr13607 (by omega) (by omega) | have ltr13607 := has_lt 6 hr13607 (by omega) (by omega) | have ltr13607 := has_lt 8 hr13607 (by omega) (by omega) | have ltr13607 := has_lt 12 hr13607 (by omega) (by omega) | skip
    refine q_if_eq (tgt := 43) hM dX11_link_25 (by decide) (rfl : r13607.toInt = r13607.toInt) (fun h25 => ?_) (fun h25 => ?_)
    · refine q_iconst (v := (0 : Int32)) hM dX11_link_43 (by decide) ?_
      exact hE _ _ _ _ _ _ hW.1 nz_0 ⟨_, rfl, hW.2.1, hG, hW.2.2, (Or.inr ⟨by omega, fun _ _ => rfl⟩), (by have := kc_0; omega)⟩ dX11_link_44
    · refine q_iload_n hM dX11_link_28 (lv_at hl 1 rfl) ?_
      refine q_iload_n hM dX11_link_29 (lv_at hl 2 rfl) ?_
      refine q_icmp_eq (tgt := 43) hM dX11_link_30 (by decide) (rfl : a.toInt = a.toInt) (rfl : b.toInt = b.toInt) (fun h30 => ?_) (fun h30 => ?_)
      · refine q_iconst (v := (0 : Int32)) hM dX11_link_43 (by decide) ?_
        exact hE _ _ _ _ _ _ hW.1 nz_0 ⟨_, rfl, hW.2.1, hG, hW.2.2, (Or.inr ⟨by omega, fun _ _ => rfl⟩), (by have := kc_0; omega)⟩ dX11_link_44
      · refine q_iload_n hM dX11_link_33 (lv_at hl 3 rfl) ?_
        refine q_iconst (v := (0 : Int32)) hM dX11_link_34 (by decide) ?_
        refine q_bipush (v := (9 : Int32)) hM dX11_link_35 (by decide) ?_
        refine q_callS (As := [.int c, .int (0 : Int32), .int (9 : Int32)]) (rest := []) hM hW.1 hR hC myX11_within (kAW (v_1_10 (List.mem_of_getElem? (i := 1) rfl)) rfl) (c_X11_within _ _ cA ad g0 c (0 : Int32) (9 : Int32) hW.2.1) ⟨by decide, by decide⟩ rfl rfl hl.1 (Nat.le_of_ble_eq_true rfl) dX11_link_37 (fun v g13614 H locs hp hW1 => ?_)
        obtain ⟨r13613, rfl, hr13613, rfl⟩ := hp
        have hW : WS ad cA (fun i k => (6 ≤ i ∧ i < 18)) g0 K g0 H locs := ⟨hW1, hW.2.1, hW.2.2⟩
        have := kc_0
        have := kc_9
        refine q_if_ne (tgt := 45) hM dX11_link_40 (by decide) (rfl : r13613.toInt = r13613.toInt) (fun h40 => ?_) (fun h40 => ?_)
        · refine q_aload_n hM dX11_link_45 (lv_at hl 0 rfl) ?_
          refine w_get (v := .ref (ad 3)) hM hW FG_X11_19 lb_0 (rf_0_1 hW.2.1) dX11_link_46 ?_
          refine w_get (v := .ref (ad 5)) hM hW FG_X11_127 lb_3 (rf_3_1 hW.2.1) dX11_link_49 ?_
          refine q_iload_n hM dX11_link_52 (lv_at hl 1 rfl) ?_
          refine w_aald hM hW lb_5 (Or.inl rfl) (i_in (by omega) (by omega)) (aq (aq_5 hW.2.1) (by omega) (by omega)) dX11_link_53 ?_
          refine q_iload_n hM dX11_link_54 (lv_at hl 2 rfl) ?_
          refine q_iload_n hM dX11_link_55 (lv_at hl 3 rfl) ?_
          refine w_iast hM hW (lr_6 (by omega)) (by omega) (i_in (by omega) (by omega)) dX11_link_56 (fun g13616 H locs hW e1 e2 => ?_)
          have hLK := e1
          have eLK := e2
          have hG := hG.st e1 e2 (rA_row_6 (by omega)) (by have := i_rng c; omega) (by have := i_rng c; omega)
          refine q_iconst (v := (1 : Int32)) hM dX11_link_57 (by decide) ?_
          exact hE _ _ _ _ _ _ hW.1 nz_1 ⟨_, rfl, hW.2.1, hG, hW.2.2, (Or.inl ⟨by omega, fun k hk => by
              by_cases e : k = a.toInt.toNat
              · rw [if_pos e, e]; exact hLK
              · rw [if_neg e]; exact eLK.2.1 (6 + 1 * k) (by unfold Only; omega)⟩), (by have := kc_1; omega)⟩ dX11_link_58
        · refine q_iconst (v := (0 : Int32)) hM dX11_link_43 (by decide) ?_
          exact hE _ _ _ _ _ _ hW.1 nz_0 ⟨_, rfl, hW.2.1, hG, hW.2.2, (Or.inr ⟨by omega, fun _ _ => rfl⟩), (by have := kc_0; omega)⟩ dX11_link_44


set_option maxRecDepth 100000 in
set_option maxHeartbeats 4000000 in
theorem s_X11_root (l : Launch) (D : va_G) (cA : Nat → ClassId) (ad : Nat → Nat) (g0 : Nat → va_E)  (td : Int32)  (hSh : Shp ad cA g0) (hG : Rng g0) (h_td : fld g0 3 2 = .int td) : CT l NN ad cA D yX11_root cX11_root 5 (some FieldType.int) (2, 50) [.ref (ad 0)] g0 (fun v g' => ∃ (r : Int32), v = some (.int r) ∧ Shp ad cA g' ∧ Rng g' ∧ FR (fun i k => False) g0 g' ∧ (r.toInt = (bsO (tB td) (cL (Lx g0)) 12).1)) := by
  refine q_enterI (by decide) (Nat.le_of_ble_eq_true rfl) rfl (fun K H locs ls _ _ hM hW0 hR hC hE hl => ?_)
  have hl : lv_has ls 5 [(0, .ref (ad 0))] := hl
  have hW : WS ad cA (fun i k => False) g0 K g0 H locs := ⟨hW0, hSh, FR.rf⟩
  have b_td := hG.f h_td rF_3_2 (by decide)
  have := kc_0
  have := kc_1
  have := kc_m1
  have := kc_m2
  refine q_bipush (v := ((-2) : Int32)) hM dX11_root_0 (by decide) ?_
  refine q_istore_n (lv9 := [(1, .int ((-2) : Int32)), (0, .ref (ad 0))]) hM dX11_root_2 hl (by decide) rfl (fun ls hl => ?_)
  refine q_iconst (v := ((-1) : Int32)) hM dX11_root_3 (by decide) ?_
  refine q_istore_n (lv9 := [(2, .int ((-1) : Int32)), (1, .int ((-2) : Int32)), (0, .ref (ad 0))]) hM dX11_root_4 hl (by decide) rfl (fun ls hl => ?_)
  refine q_iconst (v := (0 : Int32)) hM dX11_root_5 (by decide) ?_
  refine q_istore_n (lv9 := [(3, .int (0 : Int32)), (2, .int ((-1) : Int32)), (1, .int ((-2) : Int32)), (0, .ref (ad 0))]) hM dX11_root_6 hl (by decide) rfl (fun ls hl => ?_)
  have L7 : ∀ (fu7 : Nat) (w7_2 : Int32) (w7_1 : Int32) (w7_3 : Int32) (H : Heap) (locs : List Loc) (ls : Array Slot), (12 - w7_3.toInt).toNat < fu7 → (Rng g0) → (0 ≤ w7_3.toInt) → (w7_3.toInt ≤ 12) → (BO (tB td) (cL (Lx g0)) w7_3.toInt.toNat w7_1.toInt w7_2.toInt) → lv_has ls 5 [(0, .ref (ad 0)), (1, .int w7_1), (2, .int w7_2), (3, .int w7_3)] → WS ad cA (fun i k => False) g0 K g0 H locs → XX K 0 0 H locs 7 ls [] := by
    intro fu7
    induction fu7 with
    | zero => intro w7_2 w7_1 w7_3 H locs ls h0; omega
    | succ fu7 ih7 =>
      intro w7_2 w7_1 w7_3 H locs ls hm7 i7_0 i7_1 i7_2 i7_3 hl hW
      have hG := i7_0
      have tb9 := bi_tB td w7_3 (by omega) (by omega)
      refine q_iload_n hM dX11_root_7 (lv_at hl 3 rfl) ?_
      refine q_bipush (v := (12 : Int32)) hM dX11_root_8 (by decide) ?_
      refine q_icmp_ge (tgt := 58) hM dX11_root_10 (by decide) (rfl : w7_3.toInt = w7_3.toInt) (kc_12 : (12 : Int32).toInt = 12) (fun h10 => ?_) (fun h10 => ?_)
      · refine q_iload_n hM dX11_root_58 (lv_at hl 1 rfl) ?_
        exact hE _ _ _ _ _ _ hW.1 ⟨_, rfl, hW.2.1, hG, hW.2.2, (by have e9 := i7_3.1; rw [show w7_3.toInt.toNat = 12 by omega] at e9; exact e9)⟩ dX11_root_59
      · refine q_aload_n hM dX11_root_13 (lv_at hl 0 rfl) ?_
        refine w_get (v := .ref (ad 3)) hM hW FG_X11_19 lb_0 (rf_0_1 hW.2.1) dX11_root_14 ?_
        refine q_iload_n hM dX11_root_17 (lv_at hl 3 rfl) ?_
        refine q_iconst (v := (0 : Int32)) hM dX11_root_18 (by decide) ?_
        refine q_callV (As := [.int w7_3, .int (0 : Int32)]) (rest := []) hM hW.1 hR hC myX5_reached (kAW (v_3_8 (List.mem_of_getElem? (i := 9) rfl)) rfl) (rfl : vwCl[5]? = some (RX5, TX5, 3)) rfl lb_3.1 (shO hW.2.1 lb_3) (s_X5_reached _ _ cA ad g0 w7_3 (0 : Int32) hW.2.1 hG (by have := kc_0; omega) (by have := kc_0; omega)) ⟨by decide, by decide⟩ rfl rfl hl.1 (Nat.le_of_ble_eq_true rfl) dX11_root_19 (fun v g13622 H locs hp hW1 => ?_)
        obtain ⟨r13621, rfl, hr13621, rfl⟩ := hp
        have hW : WS ad cA (fun i k => False) g0 K g0 H locs := ⟨hW1, hW.2.1, hW.2.2⟩
        refine q_callS (As := [.int r13621]) (rest := []) hM hW.1 hR hC myJ6_bitCount_0f7a4 (kAW (v_3_1 (List.mem_of_getElem? (i := 2) rfl)) rfl) (c_J6_bitCount_0f7a4 _ _ cA ad g0 r13621 hW.2.1) ⟨by decide, by decide⟩ rfl rfl hl.1 (Nat.le_of_ble_eq_true rfl) dX11_root_22 (fun v g13624 H locs hp hW1 => ?_)
        obtain ⟨r13623, rfl, hr13623, rfl⟩ := hp
        have hW : WS ad cA (fun i k => False) g0 K g0 H locs := ⟨hW1, hW.2.1, hW.2.2⟩
        have cnr13623 := cL_x Lxb hr13621 hr13623
        refine q_istore (lv9 := [(4, .int r13623), (0, .ref (ad 0)), (1, .int w7_1), (2, .int w7_2), (3, .int w7_3)]) hM dX11_root_25 hl (by decide) rfl (fun ls hl => ?_)
        refine q_aload_n hM dX11_root_27 (lv_at hl 1 rfl) ?_
        refine w_get (v := .ref (ad 3)) hM hW FG_X11_19 lb_0 (rf_0_1 hW.2.1) dX11_root_28 ?_
        refine w_get (v := .int td) hM hW FG_X11_116 lb_3 ((hW.2.2.1 3 2 (fun h => h)).trans h_td) dX11_root_31 ?_
        refine q_iload_n hM dX11_root_34 (lv_at hl 4 rfl) ?_
        refine q_callS (As := [.int td, .int w7_3]) (rest := []) hM hW.1 hR hC myX11_has (kAW (v_1_10 (List.mem_of_getElem? (i := 8) rfl)) rfl) (c_X11_has _ _ cA ad g0 td w7_3 hW.2.1) ⟨by decide, by decide⟩ rfl rfl hl.1 (Nat.le_of_ble_eq_true rfl) dX11_root_35 (fun v g13626 H locs hp hW1 => ?_)
        obtain ⟨r13625, rfl, hr13625, rfl⟩ := hp
        have hW : WS ad cA (fun i k => False) g0 K g0 H locs := ⟨hW1, hW.2.1, hW.2.2⟩
        have hbr13625 := has_bi hr13625
        have hcr13625 := bi_01 td w7_3
        first | have ltr13625 := has_lt 5 hr13625 (by omega) (by omega) | have ltr13625 := has_lt 6 hr13625 (by omega) (by omega) | have ltr13625 := has_lt 8 hr13625 (by omega) (by omega) | have ltr13625 := has_lt 12 hr13625 (by omega) (by omega) | skip
        refine q_if_eq (tgt := 52) hM dX11_root_38 (by decide) (rfl : r13625.toInt = r13625.toInt) (fun h38 => ?_) (fun h38 => ?_)
        · refine q_iinc (lv9 := fun z13628 => [(3, .int z13628), (4, .int r13623), (0, .ref (ad 0)), (1, .int w7_1), (2, .int w7_2)]) hM dX11_root_52 hl (kq := 4) rfl (by decide) (fun _ => rfl) (fun z13628 ls hz13628 hl => ?_)
          first | have tz13628 := i_addT hz13628 (rfl : w7_3.toInt = w7_3.toInt) (kc_1 : (Int32.ofInt 1).toInt = 1) (by omega) (by omega) | skip
          refine q_goto (tgt := 7) hM dX11_root_55 (by decide) ?_
          exact ih7 w7_2 w7_1 z13628 _ _ _ (by omega) hG (by omega) (by omega) (BO_no i7_3 (by omega) (by omega) (by omega)) (lv_sub hl [2, 3, 4, 0] rfl) hW
        · refine q_iload hM dX11_root_41 (lv_at hl 0 rfl) ?_
          refine q_iload_n hM dX11_root_43 (lv_at hl 3 rfl) ?_
          refine q_icmp_le (tgt := 52) hM dX11_root_44 (by decide) (rfl : r13623.toInt = r13623.toInt) (rfl : w7_2.toInt = w7_2.toInt) (fun h44 => ?_) (fun h44 => ?_)
          · refine q_iinc (lv9 := fun z13631 => [(3, .int z13631), (4, .int r13623), (0, .ref (ad 0)), (1, .int w7_1), (2, .int w7_2)]) hM dX11_root_52 hl (kq := 4) rfl (by decide) (fun _ => rfl) (fun z13631 ls hz13631 hl => ?_)
            first | have tz13631 := i_addT hz13631 (rfl : w7_3.toInt = w7_3.toInt) (kc_1 : (Int32.ofInt 1).toInt = 1) (by omega) (by omega) | skip
            refine q_goto (tgt := 7) hM dX11_root_55 (by decide) ?_
            exact ih7 w7_2 w7_1 z13631 _ _ _ (by omega) hG (by omega) (by omega) (BO_no i7_3 (by omega) (by omega) (by omega)) (lv_sub hl [2, 3, 4, 0] rfl) hW
          · refine q_iload hM dX11_root_47 (lv_at hl 0 rfl) ?_
            refine q_istore_n (lv9 := [(2, .int r13623), (4, .int r13623), (0, .ref (ad 0)), (1, .int w7_1), (3, .int w7_3)]) hM dX11_root_49 hl (by decide) rfl (fun ls hl => ?_)
            refine q_iload_n hM dX11_root_50 (lv_at hl 4 rfl) ?_
            refine q_istore_n (lv9 := [(1, .int w7_3), (2, .int r13623), (4, .int r13623), (0, .ref (ad 0)), (3, .int w7_3)]) hM dX11_root_51 hl (by decide) rfl (fun ls hl => ?_)
            refine q_iinc (lv9 := fun z13633 => [(3, .int z13633), (1, .int w7_3), (2, .int r13623), (4, .int r13623), (0, .ref (ad 0))]) hM dX11_root_52 hl (kq := 4) rfl (by decide) (fun _ => rfl) (fun z13633 ls hz13633 hl => ?_)
            first | have tz13633 := i_addT hz13633 (rfl : w7_3.toInt = w7_3.toInt) (kc_1 : (Int32.ofInt 1).toInt = 1) (by omega) (by omega) | skip
            refine q_goto (tgt := 7) hM dX11_root_55 (by decide) ?_
            exact ih7 r13623 w7_3 z13633 _ _ _ (by omega) hG (by omega) (by omega) (BO_yes i7_3 (by omega) (by omega) (by omega) (by omega) (by omega)) (lv_sub hl [4, 1, 2, 0] rfl) hW
  have := kc_m1
  have := kc_m2
  have := kc_0
  exact L7 _ ((-1) : Int32) ((-2) : Int32) (0 : Int32) _ _ _ (Nat.lt_succ_self _) hG (by omega) (by omega) (by rw [kc_0, kc_m2, kc_m1]; exact BO_0) (lv_sub hl [3, 2, 1, 0] rfl) hW


set_option maxRecDepth 100000 in
set_option maxHeartbeats 4000000 in
theorem s_X12_isTold (l : Launch) (D : va_G) (cA : Nat → ClassId) (ad : Nat → Nat) (g0 : Nat → va_E) (i : Int32) (hSh : Shp ad cA g0) (hG : Rng g0) : CT l NN ad cA D yX12_isTold cX12_isTold 2 (some FieldType.boolean) (1, 25) [.ref (ad 129), .int i] g0 (PU g0 (fun r => r.toInt = ti (arI g0 131) 12 i ∧ (r.toInt = 0 ∨ (r.toInt = 1 ∧ 0 ≤ i.toInt ∧ i.toInt < 12)))) := by
  refine q_enterZ (by decide) (Nat.le_of_ble_eq_true rfl) (fun K H locs ls _ _ hM hW0 hR hC hE hl => ?_)
  have hl : lv_has ls 2 [(0, .ref (ad 129)), (1, .int i)] := hl
  have hW : WS ad cA (fun i k => False) g0 K g0 H locs := ⟨hW0, hSh, FR.rf⟩
  have := kc_0
  have := kc_1
  refine q_iload_n hM dX12_isTold_0 (lv_at hl 1 rfl) ?_
  refine q_i2l hM dX12_isTold_1 ?_
  have := l_i2l i
  refine q_lconst (v := 0) hM dX12_isTold_2 (by decide) ?_
  have := kl_0
  refine q_ldc2 (v := 11) hM (kAW (v_5_4 (List.mem_of_getElem? (i := 13) rfl)) rfl) dX12_isTold_3 ?_
  have := kl_11
  refine q_callS (As := [.long i.toInt64, .long (0 : Int64), .long (11 : Int64)]) (rest := []) hM hW.1 hR hC myX12_lies (kAW (v_5_4 (List.mem_of_getElem? (i := 14) rfl)) rfl) (c_X12_lies _ _ cA ad g0 i.toInt64 (0 : Int64) (11 : Int64) hW.2.1) ⟨by decide, by decide⟩ rfl rfl hl.1 (Nat.le_of_ble_eq_true rfl) dX12_isTold_6 (fun v g13635 H locs hp hW1 => ?_)
  obtain ⟨r13634, rfl, hr13634, rfl⟩ := hp
  have hW : WS ad cA (fun i k => False) g0 K g0 H locs := ⟨hW1, hW.2.1, hW.2.2⟩
  refine q_if_eq (tgt := 25) hM dX12_isTold_9 (by decide) (rfl : r13634.toInt = r13634.toInt) (fun h9 => ?_) (fun h9 => ?_)
  · refine q_iconst (v := (0 : Int32)) hM dX12_isTold_25 (by decide) ?_
    exact hE _ _ _ _ _ _ hW.1 nz_0 ⟨_, rfl, ⟨(by unfold ti; rw [if_neg (fun ⟨h3, h4, h5⟩ => by omega)]; exact kc_0), by omega⟩, rfl⟩ dX12_isTold_26
  · refine q_aload_n hM dX12_isTold_12 (lv_at hl 0 rfl) ?_
    refine w_get (v := .ref (ad 131)) hM hW FG_X12_17 lb_129 (rf_129_10 hW.2.1) dX12_isTold_13 ?_
    refine q_iload_n hM dX12_isTold_16 (lv_at hl 1 rfl) ?_
    refine w_zald hM hW lb_131 (i_in (by omega) (by omega)) dX12_isTold_17 ?_
    refine q_top (fun y13638 hy13638 => ?_)
    refine q_if_eq (tgt := 25) hM dX12_isTold_18 (by decide) (rfl : y13638.toInt = y13638.toInt) (fun h18 => ?_) (fun h18 => ?_)
    · refine q_iconst (v := (0 : Int32)) hM dX12_isTold_25 (by decide) ?_
      exact hE _ _ _ _ _ _ hW.1 nz_0 ⟨_, rfl, ⟨(by unfold ti; rw [if_neg (fun ⟨h3, h4, h5⟩ => absurd h5 (by show ¬ (arI g0 131 i.toNatClampNeg).toInt ≠ 0; rw [← hy13638]; omega))]; exact kc_0), by omega⟩, rfl⟩ dX12_isTold_26
    · refine q_iconst (v := (1 : Int32)) hM dX12_isTold_21 (by decide) ?_
      refine q_goto (tgt := 26) hM dX12_isTold_22 (by decide) ?_
      exact hE _ _ _ _ _ _ hW.1 nz_1 ⟨_, rfl, ⟨(by unfold ti; rw [if_pos ⟨by omega, by omega, by show (arI g0 131 i.toNatClampNeg).toInt ≠ 0; rw [← hy13638]; omega⟩]; exact kc_1), by omega⟩, rfl⟩ dX12_isTold_26


set_option maxRecDepth 100000 in
set_option maxHeartbeats 4000000 in
theorem s_X12_link (l : Launch) (D : va_G) (cA : Nat → ClassId) (ad : Nat → Nat) (g0 : Nat → va_E) (a : Int32) (b : Int32) (c : Int32)   (hSh : Shp ad cA g0) (hG : Rng g0) : CT l NN ad cA D yX12_link cX12_link 4 (some FieldType.boolean) (2, 46) [.ref (ad 129), .int a, .int b, .int c] g0 (fun v g' => ∃ (r : Int32), v = some (.int r) ∧ Shp ad cA g' ∧ Rng g' ∧ FR (fun i k => i = 133) g0 g' ∧ (((ti (arI g0 131) 12 a = 1 ∧ ti (arI g0 131) 12 b = 1 ∧ a.toInt ≠ b.toInt ∧ 0 ≤ c.toInt ∧ c.toInt ≤ 9) ∧ arI g' 133 = upd (arI g0 133) (12 * a.toInt.toNat + b.toInt.toNat) c) ∨ (¬ (ti (arI g0 131) 12 a = 1 ∧ ti (arI g0 131) 12 b = 1 ∧ a.toInt ≠ b.toInt ∧ 0 ≤ c.toInt ∧ c.toInt ≤ 9) ∧ arI g' 133 = arI g0 133)) ∧ (r.toInt = 0 ∨ r.toInt = 1)) := by
  refine q_enterZ (by decide) (Nat.le_of_ble_eq_true rfl) (fun K H locs ls _ _ hM hW0 hR hC hE hl => ?_)
  have hl : lv_has ls 4 [(0, .ref (ad 129)), (1, .int a), (2, .int b), (3, .int c)] := hl
  have hW : WS ad cA (fun i k => i = 133) g0 K g0 H locs := ⟨hW0, hSh, FR.rf⟩
  have := kc_0
  have := kc_1
  refine q_aload_n hM dX12_link_0 (lv_at hl 0 rfl) ?_
  refine q_iload_n hM dX12_link_1 (lv_at hl 1 rfl) ?_
  refine q_callV (As := [.int a]) (rest := []) hM hW.1 hR hC myX12_isTold (kAW (v_5_5 (List.mem_of_getElem? (i := 6) rfl)) rfl) (rfl : vwCl[12]? = some (RX12, TX12, 86)) rfl lb_129.1 (shO hW.2.1 lb_129) (s_X12_isTold _ _ cA ad g0 a hW.2.1 hG) ⟨by decide, by decide⟩ rfl rfl hl.1 (Nat.le_of_ble_eq_true rfl) dX12_link_2 (fun v g13642 H locs hp hW1 => ?_)
  obtain ⟨r13641, rfl, hr13641, rfl⟩ := hp
  have hW : WS ad cA (fun i k => i = 133) g0 K g0 H locs := ⟨hW1, hW.2.1, hW.2.2⟩
  refine q_if_eq (tgt := 33) hM dX12_link_5 (by decide) (rfl : r13641.toInt = r13641.toInt) (fun h5 => ?_) (fun h5 => ?_)
  · refine q_iconst (v := (0 : Int32)) hM dX12_link_33 (by decide) ?_
    exact hE _ _ _ _ _ _ hW.1 nz_0 ⟨_, rfl, hW.2.1, hG, hW.2.2, (Or.inr ⟨by omega, rfl⟩), (by have := kc_0; omega)⟩ dX12_link_34
  · refine q_aload_n hM dX12_link_8 (lv_at hl 0 rfl) ?_
    refine q_iload_n hM dX12_link_9 (lv_at hl 2 rfl) ?_
    refine q_callV (As := [.int b]) (rest := []) hM hW.1 hR hC myX12_isTold (kAW (v_5_5 (List.mem_of_getElem? (i := 6) rfl)) rfl) (rfl : vwCl[12]? = some (RX12, TX12, 86)) rfl lb_129.1 (shO hW.2.1 lb_129) (s_X12_isTold _ _ cA ad g0 b hW.2.1 hG) ⟨by decide, by decide⟩ rfl rfl hl.1 (Nat.le_of_ble_eq_true rfl) dX12_link_10 (fun v g13646 H locs hp hW1 => ?_)
    obtain ⟨r13645, rfl, hr13645, rfl⟩ := hp
    have hW : WS ad cA (fun i k => i = 133) g0 K g0 H locs := ⟨hW1, hW.2.1, hW.2.2⟩
    refine q_if_eq (tgt := 33) hM dX12_link_13 (by decide) (rfl : r13645.toInt = r13645.toInt) (fun h13 => ?_) (fun h13 => ?_)
    · refine q_iconst (v := (0 : Int32)) hM dX12_link_33 (by decide) ?_
      exact hE _ _ _ _ _ _ hW.1 nz_0 ⟨_, rfl, hW.2.1, hG, hW.2.2, (Or.inr ⟨by omega, rfl⟩), (by have := kc_0; omega)⟩ dX12_link_34
    · refine q_iload_n hM dX12_link_16 (lv_at hl 1 rfl) ?_
      refine q_iload_n hM dX12_link_17 (lv_at hl 2 rfl) ?_
      refine q_icmp_eq (tgt := 33) hM dX12_link_18 (by decide) (rfl : a.toInt = a.toInt) (rfl : b.toInt = b.toInt) (fun h18 => ?_) (fun h18 => ?_)
      · refine q_iconst (v := (0 : Int32)) hM dX12_link_33 (by decide) ?_
        exact hE _ _ _ _ _ _ hW.1 nz_0 ⟨_, rfl, hW.2.1, hG, hW.2.2, (Or.inr ⟨by omega, rfl⟩), (by have := kc_0; omega)⟩ dX12_link_34
      · refine q_iload_n hM dX12_link_21 (lv_at hl 3 rfl) ?_
        refine q_i2l hM dX12_link_22 ?_
        have := l_i2l c
        refine q_lconst (v := 0) hM dX12_link_23 (by decide) ?_
        have := kl_0
        refine q_ldc2 (v := 9) hM (kAW (v_5_5 (List.mem_of_getElem? (i := 10) rfl)) rfl) dX12_link_24 ?_
        have := kl_9
        refine q_callS (As := [.long c.toInt64, .long (0 : Int64), .long (9 : Int64)]) (rest := []) hM hW.1 hR hC myX12_lies (kAW (v_5_4 (List.mem_of_getElem? (i := 14) rfl)) rfl) (c_X12_lies _ _ cA ad g0 c.toInt64 (0 : Int64) (9 : Int64) hW.2.1) ⟨by decide, by decide⟩ rfl rfl hl.1 (Nat.le_of_ble_eq_true rfl) dX12_link_27 (fun v g13652 H locs hp hW1 => ?_)
        obtain ⟨r13651, rfl, hr13651, rfl⟩ := hp
        have hW : WS ad cA (fun i k => i = 133) g0 K g0 H locs := ⟨hW1, hW.2.1, hW.2.2⟩
        refine q_if_ne (tgt := 35) hM dX12_link_30 (by decide) (rfl : r13651.toInt = r13651.toInt) (fun h30 => ?_) (fun h30 => ?_)
        · refine q_aload_n hM dX12_link_35 (lv_at hl 0 rfl) ?_
          refine w_get (v := .ref (ad 133)) hM hW FG_X12_25 lb_129 (rf_129_12 hW.2.1) dX12_link_36 ?_
          refine q_bipush (v := (12 : Int32)) hM dX12_link_39 (by decide) ?_
          refine q_iload_n hM dX12_link_41 (lv_at hl 1 rfl) ?_
          refine q_imul hM dX12_link_42 (fun z13654 hz13654 => ?_)
          first | have tz13654 := i_mulT hz13654 (kc_12 : (12 : Int32).toInt = 12) (rfl : a.toInt = a.toInt) (by omega) (by omega) | skip
          refine q_iload_n hM dX12_link_43 (lv_at hl 2 rfl) ?_
          refine q_iadd hM dX12_link_44 (fun z13655 hz13655 => ?_)
          first | have tz13655 := i_addT hz13655 (rfl : z13654.toInt = z13654.toInt) (rfl : b.toInt = b.toInt) (by omega) (by omega) | skip
          refine q_iload_n hM dX12_link_45 (lv_at hl 3 rfl) ?_
          refine w_iast hM hW lb_133 (by omega) (i_in (by omega) (by omega)) dX12_link_46 (fun g13656 H locs hW e1 e2 => ?_)
          have hLK := e1
          rw [show z13655.toNatClampNeg = 12 * a.toInt.toNat + b.toInt.toNat by show z13655.toInt.toNat = _; omega] at hLK
          have hG := hG.st e1 e2 (rfl : rA 133 = (-2147483648, 2147483647)) (by have := i_rng c; omega) (by have := i_rng c; omega)
          refine q_iconst (v := (1 : Int32)) hM dX12_link_47 (by decide) ?_
          exact hE _ _ _ _ _ _ hW.1 nz_1 ⟨_, rfl, hW.2.1, hG, hW.2.2, (Or.inl ⟨by omega, hLK⟩), (by have := kc_1; omega)⟩ dX12_link_48
        · refine q_iconst (v := (0 : Int32)) hM dX12_link_33 (by decide) ?_
          exact hE _ _ _ _ _ _ hW.1 nz_0 ⟨_, rfl, hW.2.1, hG, hW.2.2, (Or.inr ⟨by omega, rfl⟩), (by have := kc_0; omega)⟩ dX12_link_34


set_option maxRecDepth 100000 in
set_option maxHeartbeats 4000000 in
theorem s_X12_sizeOf (l : Launch) (D : va_G) (cA : Nat → ClassId) (ad : Nat → Nat) (g0 : Nat → va_E) (s : Int32) (hSh : Shp ad cA g0) (hG : Rng g0) (h0 : 0 ≤ s.toInt) (h1 : s.toInt < 4096) : CT l NN ad cA D yX12_sizeOf cX12_sizeOf 3 (some FieldType.int) (0, 0) [.int s] g0 (PU g0 (fun r => r.toInt = cb s 12)) := by
  refine q_enterI (by decide) (Nat.le_of_ble_eq_true rfl) rfl (fun K H locs ls _ _ hM hW0 hR hC hE hl => ?_)
  have hl : lv_has ls 3 [(0, .int s)] := hl
  have hW : WS ad cA (fun i k => False) g0 K g0 H locs := ⟨hW0, hSh, FR.rf⟩
  have := i_rng s
  have := kc_0
  have cb9 := cb_le s 12
  refine q_iconst (v := (0 : Int32)) hM dX12_sizeOf_0 (by decide) ?_
  refine q_istore_n (lv9 := [(1, .int (0 : Int32)), (0, .int s)]) hM dX12_sizeOf_1 hl (by decide) rfl (fun ls hl => ?_)
  refine q_iload_n hM dX12_sizeOf_2 (lv_at hl 1 rfl) ?_
  refine q_istore_n (lv9 := [(2, .int s), (1, .int (0 : Int32)), (0, .int s)]) hM dX12_sizeOf_3 hl (by decide) rfl (fun ls hl => ?_)
  have L4 : ∀ (fu4 : Nat) (w4_1 : Int32) (w4_2 : Int32) (H : Heap) (locs : List Loc) (ls : Array Slot), w4_2.toInt.toNat < fu4 → (0 ≤ w4_2.toInt) → (w4_2.toInt ≤ s.toInt) → (0 ≤ w4_1.toInt) → (w4_1.toInt + cb w4_2 12 = cb s 12) → lv_has ls 3 [(0, .int s), (1, .int w4_1), (2, .int w4_2)] → WS ad cA (fun i k => False) g0 K g0 H locs → XX K 0 0 H locs 4 ls [] := by
    intro fu4
    induction fu4 with
    | zero => intro w4_1 w4_2 H locs ls h0; omega
    | succ fu4 ih4 =>
      intro w4_1 w4_2 H locs ls hm4 i4_0 i4_1 i4_2 i4_3 hl hW
      have cb8 := cb_le w4_2 12
      refine q_iload_n hM dX12_sizeOf_4 (lv_at hl 2 rfl) ?_
      refine q_if_eq (tgt := 20) hM dX12_sizeOf_5 (by decide) (rfl : w4_2.toInt = w4_2.toInt) (fun h5 => ?_) (fun h5 => ?_)
      · refine q_iload_n hM dX12_sizeOf_20 (lv_at hl 1 rfl) ?_
        exact hE _ _ _ _ _ _ hW.1 ⟨_, rfl, (by have z9 := cb_00 (x := w4_2) (by omega); omega), rfl⟩ dX12_sizeOf_21
      · refine q_iinc (lv9 := fun z13661 => [(1, .int z13661), (0, .int s), (2, .int w4_2)]) hM dX12_sizeOf_8 hl (kq := 1) rfl (by decide) (fun _ => rfl) (fun z13661 ls hz13661 hl => ?_)
        first | have tz13661 := i_addT hz13661 (rfl : w4_1.toInt = w4_1.toInt) (kc_1 : (Int32.ofInt 1).toInt = 1) (by omega) (by omega) | skip
        refine q_iload_n hM dX12_sizeOf_11 (lv_at hl 2 rfl) ?_
        refine q_iload_n hM dX12_sizeOf_12 (lv_at hl 2 rfl) ?_
        refine q_iconst (v := (1 : Int32)) hM dX12_sizeOf_13 (by decide) ?_
        refine q_isub hM dX12_sizeOf_14 (fun z13662 hz13662 => ?_)
        first | have tz13662 := i_subT hz13662 (rfl : w4_2.toInt = w4_2.toInt) (kc_1 : (1 : Int32).toInt = 1) (by omega) (by omega) | skip
        refine q_iand hM dX12_sizeOf_15 (fun z13663 hz13663 => ?_)
        have al := i_and_le hz13663 (by omega) (by omega)
        refine q_istore_n (lv9 := [(2, .int z13663), (1, .int z13661), (0, .int s)]) hM dX12_sizeOf_16 hl (by decide) rfl (fun ls hl => ?_)
        refine q_goto (tgt := 4) hM dX12_sizeOf_17 (by decide) ?_
        exact ih4 z13661 z13663 _ _ _ (by omega) (by omega) (by omega) (by omega) (by have p9 := sz_cb hz13662 hz13663 (by omega) (by omega); omega) (lv_sub hl [2, 1, 0] rfl) hW
  have := kc_0
  exact L4 _ (0 : Int32) s _ _ _ (Nat.lt_succ_self _) (by omega) (by omega) (by omega) (by omega) (lv_sub hl [2, 1, 0] rfl) hW


set_option maxRecDepth 100000 in
set_option maxHeartbeats 4000000 in
theorem s_X12_root (l : Launch) (D : va_G) (cA : Nat → ClassId) (ad : Nat → Nat) (g0 : Nat → va_E)    (hSh : Shp ad cA g0) (hG : Rng g0) : CT l NN ad cA D yX12_root cX12_root 4 (some FieldType.int) (3, 70) [.ref (ad 129)] g0 (fun v g' => ∃ (r : Int32), v = some (.int r) ∧ Shp ad cA g' ∧ Rng g' ∧ FR (fun i k => False) g0 g' ∧ (r.toInt = (bsO (tM (arI g0 131)) (cL (Lm g0)) 12).1)) := by
  refine q_enterI (by decide) (Nat.le_of_ble_eq_true rfl) rfl (fun K H locs ls _ _ hM hW0 hR hC hE hl => ?_)
  have hl : lv_has ls 4 [(0, .ref (ad 129))] := hl
  have hW : WS ad cA (fun i k => False) g0 K g0 H locs := ⟨hW0, hSh, FR.rf⟩
  have := kc_0
  have := kc_1
  have := kc_m1
  have := kc_m2
  refine q_bipush (v := ((-2) : Int32)) hM dX12_root_0 (by decide) ?_
  refine q_istore_n (lv9 := [(1, .int ((-2) : Int32)), (0, .ref (ad 129))]) hM dX12_root_2 hl (by decide) rfl (fun ls hl => ?_)
  refine q_iconst (v := ((-1) : Int32)) hM dX12_root_3 (by decide) ?_
  refine q_istore_n (lv9 := [(2, .int ((-1) : Int32)), (1, .int ((-2) : Int32)), (0, .ref (ad 129))]) hM dX12_root_4 hl (by decide) rfl (fun ls hl => ?_)
  refine q_iconst (v := (0 : Int32)) hM dX12_root_5 (by decide) ?_
  refine q_istore_n (lv9 := [(3, .int (0 : Int32)), (2, .int ((-1) : Int32)), (1, .int ((-2) : Int32)), (0, .ref (ad 129))]) hM dX12_root_6 hl (by decide) rfl (fun ls hl => ?_)
  have L7 : ∀ (fu7 : Nat) (w7_1 : Int32) (w7_2 : Int32) (w7_3 : Int32) (H : Heap) (locs : List Loc) (ls : Array Slot), (12 - w7_3.toInt).toNat < fu7 → (Rng g0) → (0 ≤ w7_3.toInt) → (w7_3.toInt ≤ 12) → (BO (tM (arI g0 131)) (cL (Lm g0)) w7_3.toInt.toNat w7_1.toInt w7_2.toInt) → lv_has ls 4 [(0, .ref (ad 129)), (1, .int w7_1), (2, .int w7_2), (3, .int w7_3)] → WS ad cA (fun i k => False) g0 K g0 H locs → XX K 0 0 H locs 7 ls [] := by
    intro fu7
    induction fu7 with
    | zero => intro w7_1 w7_2 w7_3 H locs ls h0; omega
    | succ fu7 ih7 =>
      intro w7_1 w7_2 w7_3 H locs ls hm7 i7_0 i7_1 i7_2 i7_3 hl hW
      have hG := i7_0
      refine q_iload_n hM dX12_root_7 (lv_at hl 3 rfl) ?_
      refine q_bipush (v := (12 : Int32)) hM dX12_root_8 (by decide) ?_
      refine q_icmp_ge (tgt := 56) hM dX12_root_10 (by decide) (rfl : w7_3.toInt = w7_3.toInt) (kc_12 : (12 : Int32).toInt = 12) (fun h10 => ?_) (fun h10 => ?_)
      · refine q_iload_n hM dX12_root_56 (lv_at hl 1 rfl) ?_
        exact hE _ _ _ _ _ _ hW.1 ⟨_, rfl, hW.2.1, hG, hW.2.2, (by have e9 := i7_3.1; rw [show w7_3.toInt.toNat = 12 by omega] at e9; exact e9)⟩ dX12_root_57
      · refine q_aload_n hM dX12_root_13 (lv_at hl 0 rfl) ?_
        refine w_get (v := .ref (ad 131)) hM hW FG_X12_17 lb_129 (rf_129_10 hW.2.1) dX12_root_14 ?_
        refine q_iload_n hM dX12_root_17 (lv_at hl 3 rfl) ?_
        refine w_zald hM hW lb_131 (i_in (by omega) (by omega)) dX12_root_18 ?_
        refine q_top (fun y13667 hy13667 => ?_)
        have tyy13667 : y13667.toInt = tM (arI g0 131) w7_3.toInt.toNat := congrArg Int32.toInt hy13667
        refine q_if_eq (tgt := 50) hM dX12_root_19 (by decide) (rfl : y13667.toInt = y13667.toInt) (fun h19 => ?_) (fun h19 => ?_)
        · refine q_iinc (lv9 := fun z13669 => [(3, .int z13669), (0, .ref (ad 129)), (1, .int w7_1), (2, .int w7_2)]) hM dX12_root_50 hl (kq := 3) rfl (by decide) (fun _ => rfl) (fun z13669 ls hz13669 hl => ?_)
          first | have tz13669 := i_addT hz13669 (rfl : w7_3.toInt = w7_3.toInt) (kc_1 : (Int32.ofInt 1).toInt = 1) (by omega) (by omega) | skip
          refine q_goto (tgt := 7) hM dX12_root_53 (by decide) ?_
          exact ih7 w7_1 w7_2 z13669 _ _ _ (by omega) hG (by omega) (by omega) (BO_no i7_3 (by omega) (by omega) (by omega)) (lv_sub hl [1, 2, 3, 0] rfl) hW
        · refine q_aload_n hM dX12_root_22 (lv_at hl 0 rfl) ?_
          refine q_iload_n hM dX12_root_23 (lv_at hl 3 rfl) ?_
          refine q_iconst (v := (0 : Int32)) hM dX12_root_24 (by decide) ?_
          refine q_callV (As := [.int w7_3, .int (0 : Int32)]) (rest := []) hM hW.1 hR hC myX12_reachOf (kAW (v_5_5 (List.mem_of_getElem? (i := 15) rfl)) rfl) (rfl : vwCl[12]? = some (RX12, TX12, 86)) rfl lb_129.1 (shO hW.2.1 lb_129) (s_X12_reachOf _ _ cA ad g0 w7_3 (0 : Int32) hW.2.1 hG (by have := kc_0; omega) (by have := kc_0; omega)) ⟨by decide, by decide⟩ rfl rfl hl.1 (Nat.le_of_ble_eq_true rfl) dX12_root_25 (fun v g13672 H locs hp hW1 => ?_)
          obtain ⟨r13671, rfl, hr13671, rfl⟩ := hp
          have hW : WS ad cA (fun i k => False) g0 K g0 H locs := ⟨hW1, hW.2.1, hW.2.2⟩
          refine q_callS (As := [.int r13671]) (rest := []) hM hW.1 hR hC myX12_sizeOf (kAW (v_5_6 (List.mem_of_getElem? (i := 14) rfl)) rfl) (s_X12_sizeOf _ _ cA ad g0 r13671 hW.2.1 hG (by  omega) (by  omega)) ⟨by decide, by decide⟩ rfl rfl hl.1 (Nat.le_of_ble_eq_true rfl) dX12_root_28 (fun v g13674 H locs hp hW1 => ?_)
          obtain ⟨r13673, rfl, hr13673, rfl⟩ := hp
          have hW : WS ad cA (fun i k => False) g0 K g0 H locs := ⟨hW1, hW.2.1, hW.2.2⟩
          have cnr13673 := cL_m hr13671.2.2 hr13673
          refine q_iload_n hM dX12_root_31 (lv_at hl 2 rfl) ?_
          refine q_icmp_gt (tgt := 38) hM dX12_root_32 (by decide) (rfl : r13673.toInt = r13673.toInt) (rfl : w7_2.toInt = w7_2.toInt) (fun h32 => ?_) (fun h32 => ?_)
          · refine q_iload_n hM dX12_root_38 (lv_at hl 3 rfl) ?_
            refine q_istore_n (lv9 := [(1, .int w7_3), (0, .ref (ad 129)), (2, .int w7_2), (3, .int w7_3)]) hM dX12_root_39 hl (by decide) rfl (fun ls hl => ?_)
            refine q_aload_n hM dX12_root_40 (lv_at hl 1 rfl) ?_
            refine q_iload_n hM dX12_root_41 (lv_at hl 3 rfl) ?_
            refine q_iconst (v := (0 : Int32)) hM dX12_root_42 (by decide) ?_
            refine q_callV (As := [.int w7_3, .int (0 : Int32)]) (rest := []) hM hW.1 hR hC myX12_reachOf (kAW (v_5_5 (List.mem_of_getElem? (i := 15) rfl)) rfl) (rfl : vwCl[12]? = some (RX12, TX12, 86)) rfl lb_129.1 (shO hW.2.1 lb_129) (s_X12_reachOf _ _ cA ad g0 w7_3 (0 : Int32) hW.2.1 hG (by have := kc_0; omega) (by have := kc_0; omega)) ⟨by decide, by decide⟩ rfl rfl hl.1 (Nat.le_of_ble_eq_true rfl) dX12_root_43 (fun v g13677 H locs hp hW1 => ?_)
            obtain ⟨r13676, rfl, hr13676, rfl⟩ := hp
            have hW : WS ad cA (fun i k => False) g0 K g0 H locs := ⟨hW1, hW.2.1, hW.2.2⟩
            refine q_callS (As := [.int r13676]) (rest := []) hM hW.1 hR hC myX12_sizeOf (kAW (v_5_6 (List.mem_of_getElem? (i := 14) rfl)) rfl) (s_X12_sizeOf _ _ cA ad g0 r13676 hW.2.1 hG (by  omega) (by  omega)) ⟨by decide, by decide⟩ rfl rfl hl.1 (Nat.le_of_ble_eq_true rfl) dX12_root_46 (fun v g13679 H locs hp hW1 => ?_)
            obtain ⟨r13678, rfl, hr13678, rfl⟩ := hp
            have hW : WS ad cA (fun i k => False) g0 K g0 H locs := ⟨hW1, hW.2.1, hW.2.2⟩
            have cnr13678 := cL_m hr13676.2.2 hr13678
            refine q_istore_n (lv9 := [(2, .int r13678), (1, .int w7_3), (0, .ref (ad 129)), (3, .int w7_3)]) hM dX12_root_49 hl (by decide) rfl (fun ls hl => ?_)
            refine q_iinc (lv9 := fun z13680 => [(3, .int z13680), (2, .int r13678), (1, .int w7_3), (0, .ref (ad 129))]) hM dX12_root_50 hl (kq := 3) rfl (by decide) (fun _ => rfl) (fun z13680 ls hz13680 hl => ?_)
            first | have tz13680 := i_addT hz13680 (rfl : w7_3.toInt = w7_3.toInt) (kc_1 : (Int32.ofInt 1).toInt = 1) (by omega) (by omega) | skip
            refine q_goto (tgt := 7) hM dX12_root_53 (by decide) ?_
            exact ih7 w7_3 r13678 z13680 _ _ _ (by omega) hG (by omega) (by omega) (BO_yes i7_3 (by omega) (by omega) (by omega) (by omega) (by omega)) (lv_sub hl [3, 2, 1, 0] rfl) hW
          · refine q_goto (tgt := 50) hM dX12_root_35 (by decide) ?_
            refine q_iinc (lv9 := fun z13682 => [(3, .int z13682), (0, .ref (ad 129)), (1, .int w7_1), (2, .int w7_2)]) hM dX12_root_50 hl (kq := 3) rfl (by decide) (fun _ => rfl) (fun z13682 ls hz13682 hl => ?_)
            first | have tz13682 := i_addT hz13682 (rfl : w7_3.toInt = w7_3.toInt) (kc_1 : (Int32.ofInt 1).toInt = 1) (by omega) (by omega) | skip
            refine q_goto (tgt := 7) hM dX12_root_53 (by decide) ?_
            exact ih7 w7_1 w7_2 z13682 _ _ _ (by omega) hG (by omega) (by omega) (BO_no i7_3 (by omega) (by omega) (by omega)) (lv_sub hl [1, 2, 3, 0] rfl) hW
  have := kc_m2
  have := kc_m1
  have := kc_0
  exact L7 _ ((-2) : Int32) ((-1) : Int32) (0 : Int32) _ _ _ (Nat.lt_succ_self _) hG (by omega) (by omega) (by rw [kc_0, kc_m2, kc_m1]; exact BO_0) (lv_sub hl [3, 2, 1, 0] rfl) hW
