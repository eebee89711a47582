
set_option maxRecDepth 100000 in
set_option maxHeartbeats 4000000 in
theorem s_X12_taught (l : Launch) (D : va_G) (cA : Nat → ClassId) (ad : Nat → Nat) (g0 : Nat → va_E) (a : Int32) (b : Int32) (c : Int32)   (hSh : Shp ad cA g0) (hG : Rng g0) (hWS : ∀ m k : Nat, m < 5 → k < 6 → 0 ≤ (arI g0 177 (6 * m + k)).toInt ∧ (arI g0 177 (6 * m + k)).toInt ≤ 99) : CT l NN ad cA D yX12_taught cX12_taught 10 (some FieldType.int) (2, 44) [.ref (ad 129), .int a, .int b, .int c] g0 (fun v g' => ∃ (r : Int32), v = some (.int r) ∧ Shp ad cA g' ∧ Rng g' ∧ FR (fun i k => (171 ≤ i ∧ i < 174) ∨ i = 178) g0 g' ∧ ((¬ (1 ≤ a.toInt ∧ a.toInt ≤ 31 ∧ (∃ t9 : Int32, BS t9 (fun q => (q : Int) < 5 ∧ tM (arI g0 176) q ≠ 0) ∧ a &&& (t9 ^^^ (-1)) = 0) ∧ 1 ≤ b.toInt ∧ b.toInt ≤ 63 ∧ cb a 12 = cb b 12 ∧ (c.toInt = 20 ∨ (0 ≤ c.toInt ∧ c.toInt ≤ 5 ∧ bt b c.toInt.toNat = true))) ∧ r.toInt = -1) ∨ ((1 ≤ a.toInt ∧ a.toInt ≤ 31 ∧ (∃ t9 : Int32, BS t9 (fun q => (q : Int) < 5 ∧ tM (arI g0 176) q ≠ 0) ∧ a &&& (t9 ^^^ (-1)) = 0) ∧ 1 ≤ b.toInt ∧ b.toInt ≤ 63 ∧ cb a 12 = cb b 12 ∧ (c.toInt = 20 ∨ (0 ≤ c.toInt ∧ c.toInt ≤ 5 ∧ bt b c.toInt.toNat = true))) ∧ ∃ (r9 : Nat) (m9 : Int), BT (okM (cn b 6)) (WM g0 a b (cn b 6)) r9 m9 (cn b 6 ^ cn b 6) ∧ ((c.toInt = 20 ∧ r.toInt = m9) ∨ (c.toInt ≠ 20 ∧ (m9 = -1 ∨ r.toInt = (nth a (dg (cn b 6) (cn b 6) r9 (cn b c.toInt.toNat)) : Int))))))) := by
  refine q_enterI (by decide) (Nat.le_of_ble_eq_true rfl) rfl (fun K H locs ls _ _ hM hW0 hR hC hE hl => ?_)
  have hl : lv_has ls 10 [(0, .ref (ad 129)), (1, .int a), (2, .int b), (3, .int c)] := hl
  have hW : WS ad cA (fun i k => (171 ≤ i ∧ i < 174) ∨ i = 178) g0 K g0 H locs := ⟨hW0, hSh, FR.rf⟩
  have := kc_0
  have := kc_1
  have := kc_m1
  have := kc_20
  have := kc_m1
  refine q_iload_n hM dX12_taught_0 (lv_at hl 1 rfl) ?_
  refine q_i2l hM dX12_taught_1 ?_
  have := l_i2l a
  refine q_lconst (v := 1) hM dX12_taught_2 (by decide) ?_
  have := kl_1
  refine q_ldc2 (v := 31) hM (kAW (v_7_2 (List.mem_of_getElem? (i := 9) rfl)) rfl) dX12_taught_3 ?_
  have := kl_31
  refine q_callS (As := [.long a.toInt64, .long (1 : Int64), .long (31 : Int64)]) (rest := []) hM hW.1 hR hC myX12_lies (kAW (v_5_4 (List.mem_of_getElem? (i := 14) rfl)) rfl) (c_X12_lies _ _ cA ad g0 a.toInt64 (1 : Int64) (31 : Int64) hW.2.1) ⟨by decide, by decide⟩ rfl rfl hl.1 (Nat.le_of_ble_eq_true rfl) dX12_taught_6 (fun v g13712 H locs hp hW1 => ?_)
  obtain ⟨r13711, rfl, hr13711, rfl⟩ := hp
  have hW : WS ad cA (fun i k => (171 ≤ i ∧ i < 174) ∨ i = 178) g0 K g0 H locs := ⟨hW1, hW.2.1, hW.2.2⟩
  refine q_if_eq (tgt := 72) hM dX12_taught_9 (by decide) (rfl : r13711.toInt = r13711.toInt) (fun h9 => ?_) (fun h9 => ?_)
  · refine q_iconst (v := ((-1) : Int32)) hM dX12_taught_72 (by decide) ?_
    exact hE _ _ _ _ _ _ hW.1 ⟨_, rfl, hW.2.1, hG, hW.2.2, (Or.inl ⟨fun q9 => by
        obtain ⟨d1, d2, d3, d4, d5, d6, d7⟩ := q9
        omega, kc_m1⟩)⟩ dX12_taught_73
  · refine q_iload_n hM dX12_taught_12 (lv_at hl 1 rfl) ?_
    refine q_aload_n hM dX12_taught_13 (lv_at hl 0 rfl) ?_
    refine q_callV (As := []) (rest := [.int a]) hM hW.1 hR hC myX12_toldMasters (kAW (v_7_2 (List.mem_of_getElem? (i := 10) rfl)) rfl) (rfl : vwCl[12]? = some (RX12, TX12, 86)) rfl lb_129.1 (shO hW.2.1 lb_129) (s_X12_toldMasters _ _ cA ad g0  hW.2.1 hG) ⟨by decide, by decide⟩ rfl rfl hl.1 (Nat.le_of_ble_eq_true rfl) dX12_taught_14 (fun v g13716 H locs hp hW1 => ?_)
    obtain ⟨r13715, rfl, hr13715, rfl⟩ := hp
    have hW : WS ad cA (fun i k => (171 ≤ i ∧ i < 174) ∨ i = 178) g0 K g0 H locs := ⟨hW1, hW.2.1, hW.2.2⟩
    refine q_iconst (v := ((-1) : Int32)) hM dX12_taught_17 (by decide) ?_
    refine q_ixor hM dX12_taught_18 (fun z13717 hz13717 => ?_)
    refine q_iand hM dX12_taught_19 (fun z13718 hz13718 => ?_)
    refine q_if_ne (tgt := 72) hM dX12_taught_20 (by decide) (rfl : z13718.toInt = z13718.toInt) (fun h20 => ?_) (fun h20 => ?_)
    · refine q_iconst (v := ((-1) : Int32)) hM dX12_taught_72 (by decide) ?_
      exact hE _ _ _ _ _ _ hW.1 ⟨_, rfl, hW.2.1, hG, hW.2.2, (Or.inl ⟨fun q9 => by
          obtain ⟨d1, d2, d3, d4, d5, d6, d7⟩ := q9
          obtain ⟨t9, u1, u2⟩ := d3
          exact z_f hz13717 hz13718 (by omega) (by rw [BS_eq hr13715.2.2 u1]; exact u2), kc_m1⟩)⟩ dX12_taught_73
    · refine q_iload_n hM dX12_taught_23 (lv_at hl 2 rfl) ?_
      refine q_i2l hM dX12_taught_24 ?_
      have := l_i2l b
      refine q_lconst (v := 1) hM dX12_taught_25 (by decide) ?_
      have := kl_1
      refine q_ldc2 (v := 63) hM (kAW (v_6_12 (List.mem_of_getElem? (i := 14) rfl)) rfl) dX12_taught_26 ?_
      have := kl_63
      refine q_callS (As := [.long b.toInt64, .long (1 : Int64), .long (63 : Int64)]) (rest := []) hM hW.1 hR hC myX12_lies (kAW (v_5_4 (List.mem_of_getElem? (i := 14) rfl)) rfl) (c_X12_lies _ _ cA ad g0 b.toInt64 (1 : Int64) (63 : Int64) hW.2.1) ⟨by decide, by decide⟩ rfl rfl hl.1 (Nat.le_of_ble_eq_true rfl) dX12_taught_29 (fun v g13722 H locs hp hW1 => ?_)
      obtain ⟨r13721, rfl, hr13721, rfl⟩ := hp
      have hW : WS ad cA (fun i k => (171 ≤ i ∧ i < 174) ∨ i = 178) g0 K g0 H locs := ⟨hW1, hW.2.1, hW.2.2⟩
      refine q_if_eq (tgt := 72) hM dX12_taught_32 (by decide) (rfl : r13721.toInt = r13721.toInt) (fun h32 => ?_) (fun h32 => ?_)
      · refine q_iconst (v := ((-1) : Int32)) hM dX12_taught_72 (by decide) ?_
        exact hE _ _ _ _ _ _ hW.1 ⟨_, rfl, hW.2.1, hG, hW.2.2, (Or.inl ⟨fun q9 => by
            obtain ⟨d1, d2, d3, d4, d5, d6, d7⟩ := q9
            omega, kc_m1⟩)⟩ dX12_taught_73
      · refine q_iload_n hM dX12_taught_35 (lv_at hl 1 rfl) ?_
        refine q_callS (As := [.int a]) (rest := []) hM hW.1 hR hC myX12_sizeOf (kAW (v_5_6 (List.mem_of_getElem? (i := 14) rfl)) rfl) (s_X12_sizeOf _ _ cA ad g0 a hW.2.1 hG (by  omega) (by  omega)) ⟨by decide, by decide⟩ rfl rfl hl.1 (Nat.le_of_ble_eq_true rfl) dX12_taught_36 (fun v g13726 H locs hp hW1 => ?_)
        obtain ⟨r13725, rfl, hr13725, rfl⟩ := hp
        have hW : WS ad cA (fun i k => (171 ≤ i ∧ i < 174) ∨ i = 178) g0 K g0 H locs := ⟨hW1, hW.2.1, hW.2.2⟩
        refine q_iload_n hM dX12_taught_39 (lv_at hl 2 rfl) ?_
        refine q_callS (As := [.int b]) (rest := [.int r13725]) hM hW.1 hR hC myX12_sizeOf (kAW (v_5_6 (List.mem_of_getElem? (i := 14) rfl)) rfl) (s_X12_sizeOf _ _ cA ad g0 b hW.2.1 hG (by  omega) (by  omega)) ⟨by decide, by decide⟩ rfl rfl hl.1 (Nat.le_of_ble_eq_true rfl) dX12_taught_40 (fun v g13728 H locs hp hW1 => ?_)
        obtain ⟨r13727, rfl, hr13727, rfl⟩ := hp
        have hW : WS ad cA (fun i k => (171 ≤ i ∧ i < 174) ∨ i = 178) g0 K g0 H locs := ⟨hW1, hW.2.1, hW.2.2⟩
        refine q_icmp_ne (tgt := 72) hM dX12_taught_43 (by decide) (rfl : r13725.toInt = r13725.toInt) (rfl : r13727.toInt = r13727.toInt) (fun h43 => ?_) (fun h43 => ?_)
        · refine q_iconst (v := ((-1) : Int32)) hM dX12_taught_72 (by decide) ?_
          exact hE _ _ _ _ _ _ hW.1 ⟨_, rfl, hW.2.1, hG, hW.2.2, (Or.inl ⟨fun q9 => by
              obtain ⟨d1, d2, d3, d4, d5, d6, d7⟩ := q9
              omega, kc_m1⟩)⟩ dX12_taught_73
        · have n7 := cn_6 (s := b) (by omega) (by omega)
          have n6 := cn_5 (s := a) (by omega) (by omega)
          have n5 := pos_64 (s := b) (by omega) (by omega)
          have n4 := cn_cb a 12
          have n3 := cn_cb b 12
          refine q_iload_n hM dX12_taught_46 (lv_at hl 3 rfl) ?_
          refine q_bipush (v := (20 : Int32)) hM dX12_taught_47 (by decide) ?_
          refine q_icmp_eq (tgt := 74) hM dX12_taught_49 (by decide) (rfl : c.toInt = c.toInt) (kc_20 : (20 : Int32).toInt = 20) (fun h49 => ?_) (fun h49 => ?_)
          · refine q_aload_n hM dX12_taught_74 (lv_at hl 0 rfl) ?_
            refine q_iload_n hM dX12_taught_75 (lv_at hl 2 rfl) ?_
            refine q_callV (As := [.int b]) (rest := []) hM hW.1 hR hC myX12_takesSome (kAW (v_6_13 (List.mem_of_getElem? (i := 3) rfl)) rfl) (rfl : vwCl[12]? = some (RX12, TX12, 86)) rfl lb_129.1 (shO hW.2.1 lb_129) (s_X12_takesSome _ _ cA ad g0 b hW.2.1 hG) ⟨by decide, by decide⟩ rfl rfl hl.1 (Nat.le_of_ble_eq_true rfl) dX12_taught_76 (fun v g13734 H locs hp hW1 => ?_)
            obtain ⟨r13732, rfl, hs1, hG, hf1, e13733, hr13732⟩ := hp
            have hW : WS ad cA (fun i k => (171 ≤ i ∧ i < 174) ∨ i = 178) g0 K g13734 H locs := ⟨hW1, hs1, hW.2.2.tr hf1 (fun i k h => (Or.inl (by omega)))⟩
            have k76 : r13732.toInt = (cn b 6 : Int) := by omega
            have s76 : ∀ j : Nat, j < cn b 6 → (arI g13734 171 j).toInt = (nth b j : Int) := fun j hj => e13733 j (by omega)
            refine q_istore (lv9 := [(4, .int r13732), (0, .ref (ad 129)), (1, .int a), (2, .int b), (3, .int c)]) hM dX12_taught_79 hl (by decide) rfl (fun ls hl => ?_)
            refine q_iconst (v := (0 : Int32)) hM dX12_taught_81 (by decide) ?_
            refine q_istore (lv9 := [(5, .int (0 : Int32)), (4, .int r13732), (0, .ref (ad 129)), (1, .int a), (2, .int b), (3, .int c)]) hM dX12_taught_82 hl (by decide) rfl (fun ls hl => ?_)
            have L84 : ∀ (fu84 : Nat) (w84_5 : Int32) (h9_84 : Nat → va_E) (H : Heap) (locs : List Loc) (ls : Array Slot), (r13732.toInt - w84_5.toInt + 1).toNat < fu84 → (Rng h9_84) → (0 ≤ w84_5.toInt) → (w84_5.toInt ≤ r13732.toInt) → (∀ j : Nat, (j : Int) < w84_5.toInt → arI h9_84 178 j = arI g13734 171 j) → (arI h9_84 171 = arI g13734 171) → lv_has ls 10 [(0, .ref (ad 129)), (1, .int a), (2, .int b), (3, .int c), (4, .int r13732), (5, .int w84_5)] → WS ad cA (fun i k => (171 ≤ i ∧ i < 174) ∨ i = 178) g0 K h9_84 H locs → XX K 0 0 H locs 84 ls [] := by
              intro fu84
              induction fu84 with
              | zero => intro w84_5 h9_84 H locs ls h0; omega
              | succ fu84 ih84 =>
                intro w84_5 h9_84 H locs ls hm84 i84_0 i84_1 i84_2 i84_3 d84_171 hl hW
                have hG := i84_0
                have := i_rng r13732
                refine q_iload hM dX12_taught_84 (lv_at hl 5 rfl) ?_
                refine q_iload hM dX12_taught_86 (lv_at hl 4 rfl) ?_
                refine q_icmp_ge (tgt := 111) hM dX12_taught_88 (by decide) (rfl : w84_5.toInt = w84_5.toInt) (rfl : r13732.toInt = r13732.toInt) (fun h88 => ?_) (fun h88 => ?_)
                · refine q_aload_n hM dX12_taught_111 (lv_at hl 0 rfl) ?_
                  refine q_iload_n hM dX12_taught_112 (lv_at hl 1 rfl) ?_
                  refine q_callV (As := [.int a]) (rest := []) hM hW.1 hR hC myX12_takesSome (kAW (v_6_13 (List.mem_of_getElem? (i := 3) rfl)) rfl) (rfl : vwCl[12]? = some (RX12, TX12, 86)) rfl lb_129.1 (shO hW.2.1 lb_129) (s_X12_takesSome _ _ cA ad h9_84 a hW.2.1 hG) ⟨by decide, by decide⟩ rfl rfl hl.1 (Nat.le_of_ble_eq_true rfl) dX12_taught_113 (fun v g13739 H locs hp hW1 => ?_)
                  obtain ⟨r13737, rfl, hs1, hG, hf1, e13738, hr13737⟩ := hp
                  have f13740 : arI g13739 178 = arI h9_84 178 := (hf1.2.1 178 (by omega)).trans (rfl : arI h9_84 178 = arI h9_84 178)
                  have hW : WS ad cA (fun i k => (171 ≤ i ∧ i < 174) ∨ i = 178) g0 K g13739 H locs := ⟨hW1, hs1, hW.2.2.tr hf1 (fun i k h => (Or.inl (by omega)))⟩
                  have k113 : r13737.toInt = (cn b 6 : Int) := by omega
                  have s113 : ∀ j : Nat, j < cn b 6 → (arI g13739 171 j).toInt = (nth a j : Int) := fun j hj => e13738 j (by omega)
                  have s114 : ∀ j : Nat, j < cn b 6 → (arI g13739 178 j).toInt = (nth b j : Int) := fun j hj => by rw [f13740, i84_3 j (by omega)]; exact s76 j hj
                  refine q_istore (lv9 := [(5, .int r13737), (0, .ref (ad 129)), (1, .int a), (2, .int b), (3, .int c), (4, .int r13732)]) hM dX12_taught_116 hl (by decide) rfl (fun ls hl => ?_)
                  refine q_iconst (v := ((-1) : Int32)) hM dX12_taught_118 (by decide) ?_
                  refine q_istore (lv9 := [(6, .int ((-1) : Int32)), (5, .int r13737), (0, .ref (ad 129)), (1, .int a), (2, .int b), (3, .int c), (4, .int r13732)]) hM dX12_taught_119 hl (by decide) rfl (fun ls hl => ?_)
                  refine q_iconst (v := (0 : Int32)) hM dX12_taught_121 (by decide) ?_
                  refine q_istore (lv9 := [(7, .int (0 : Int32)), (6, .int ((-1) : Int32)), (5, .int r13737), (0, .ref (ad 129)), (1, .int a), (2, .int b), (3, .int c), (4, .int r13732)]) hM dX12_taught_122 hl (by decide) rfl (fun ls hl => ?_)
                  have L124 : ∀ (fu124 : Nat) (w124_6 : Int32) (w124_7 : Int32) (bb : Nat) (h9_124 : Nat → va_E) (H : Heap) (locs : List Loc) (ls : Array Slot), (3126 - w124_7.toInt).toNat < fu124 → (Rng h9_124) → (0 ≤ w124_7.toInt) → (w124_7.toInt ≤ 3125) → ((w124_7.toInt : Int) ≤ ((cn b 6 ^ cn b 6 : Nat) : Int)) → (w124_7.toInt ≤ 3125) → (-1 ≤ w124_6.toInt ∧ w124_6.toInt ≤ 594) → (BT (okM (cn b 6)) (WM g0 a b (cn b 6)) bb w124_6.toInt w124_7.toInt.toNat) → (w124_6.toInt = -1 ∨ ∀ j : Nat, j < cn b 6 → (arI h9_124 173 j).toInt = (dg (cn b 6) (cn b 6) bb j : Int)) → (∀ j : Nat, j < cn b 6 → (arI h9_124 171 j).toInt = (nth a j : Int)) → (∀ j : Nat, j < cn b 6 → (arI h9_124 178 j).toInt = (nth b j : Int)) → lv_has ls 10 [(0, .ref (ad 129)), (1, .int a), (2, .int b), (3, .int c), (4, .int r13732), (5, .int r13737), (6, .int w124_6), (7, .int w124_7)] → WS ad cA (fun i k => (171 ≤ i ∧ i < 174) ∨ i = 178) g0 K h9_124 H locs → XX K 0 0 H locs 124 ls [] := by
                    intro fu124
                    induction fu124 with
                    | zero => intro w124_6 w124_7 bb h9_124 H locs ls h0; omega
                    | succ fu124 ih124 =>
                      intro w124_6 w124_7 bb h9_124 H locs ls hm124 i124_0 i124_1 i124_2 i124_3 i124_4 i124_5 i124_6 i124_7 i124_8 i124_9 hl hW
                      have hG := i124_0
                      refine q_iload hM dX12_taught_124 (lv_at hl 7 rfl) ?_
                      refine q_iload hM dX12_taught_126 (lv_at hl 4 rfl) ?_
                      refine q_iload hM dX12_taught_128 (lv_at hl 4 rfl) ?_
                      refine q_callS (As := [.int r13732, .int r13732]) (rest := [.int w124_7]) hM hW.1 hR hC myX12_powerOf (kAW (v_6_13 (List.mem_of_getElem? (i := 15) rfl)) rfl) (s_X12_powerOf _ _ cA ad h9_124 r13732 r13732 hW.2.1 hG (by  omega) (by  omega) (by  omega) (by  omega)) ⟨by decide, by decide⟩ rfl rfl hl.1 (Nat.le_of_ble_eq_true rfl) dX12_taught_130 (fun v g13743 H locs hp hW1 => ?_)
                      obtain ⟨r13742, rfl, hr13742, rfl⟩ := hp
                      have hW : WS ad cA (fun i k => (171 ≤ i ∧ i < 174) ∨ i = 178) g0 K h9_124 H locs := ⟨hW1, hW.2.1, hW.2.2⟩
                      have hp9 : r13742.toInt = ((cn b 6 ^ cn b 6 : Nat) : Int) := by rw [hr13742.1, show r13732.toInt.toNat = cn b 6 by omega]
                      refine q_icmp_ge (tgt := 260) hM dX12_taught_133 (by decide) (rfl : w124_7.toInt = w124_7.toInt) (rfl : r13742.toInt = r13742.toInt) (fun h133 => ?_) (fun h133 => ?_)
                      · have bt9 := BT_M i124_6 (by omega) (by omega) (fun r9 => wM_0 (n := 0) (wR_0 hWS) (cn b 6))
                        have mo9 : 0 ≤ w124_6.toInt := by rw [bt9.2.2]; exact wM_0 (n := 0) (wR_0 hWS) (cn b 6)
                        refine q_iload_n hM dX12_taught_260 (lv_at hl 3 rfl) ?_
                        refine q_bipush (v := (20 : Int32)) hM dX12_taught_261 (by decide) ?_
                        refine q_icmp_ne (tgt := 271) hM dX12_taught_263 (by decide) (rfl : c.toInt = c.toInt) (kc_20 : (20 : Int32).toInt = 20) (fun h263 => ?_) (fun h263 => ?_)
                        · omega
                        · refine q_iload hM dX12_taught_266 (lv_at hl 6 rfl) ?_
                          refine q_goto (tgt := 291) hM dX12_taught_268 (by decide) ?_
                          exact hE _ _ _ _ _ _ hW.1 ⟨_, rfl, hW.2.1, hG, hW.2.2, (Or.inr ⟨⟨by omega, by omega, ⟨r13715, hr13715.2.2, z_t hz13717 hz13718 (by omega)⟩, by omega, by omega, by omega, Or.inl (by omega)⟩, bb, w124_6.toInt, by have e9 := i124_6; rw [show w124_7.toInt.toNat = cn b 6 ^ cn b 6 by omega] at e9; exact e9, Or.inl ⟨by omega, rfl⟩⟩)⟩ dX12_taught_291
                      · refine q_aload_n hM dX12_taught_136 (lv_at hl 0 rfl) ?_
                        refine q_iload hM dX12_taught_137 (lv_at hl 7 rfl) ?_
                        refine q_iload hM dX12_taught_139 (lv_at hl 4 rfl) ?_
                        refine q_iload hM dX12_taught_141 (lv_at hl 4 rfl) ?_
                        refine q_callV (As := [.int w124_7, .int r13732, .int r13732]) (rest := []) hM hW.1 hR hC myX12_opensRow (kAW (v_6_14 (List.mem_of_getElem? (i := 2) rfl)) rfl) (rfl : vwCl[12]? = some (RX12, TX12, 86)) rfl lb_129.1 (shO hW.2.1 lb_129) (s_X12_opensRow _ _ cA ad h9_124 w124_7 r13732 r13732 hW.2.1 hG (by  omega) (by  omega) (by  omega) (by  omega) (by  omega)) ⟨by decide, by decide⟩ rfl rfl hl.1 (Nat.le_of_ble_eq_true rfl) dX12_taught_143 (fun v g13749 H locs hp hW1 => ?_)
                        obtain ⟨rfl, hs1, hG, hf1, e13748⟩ := hp
                        have f13750 : arI g13749 171 = arI h9_124 171 := (hf1.2.1 171 (by omega)).trans (rfl : arI h9_124 171 = arI h9_124 171)
                        have f13751 : arI g13749 178 = arI h9_124 178 := (hf1.2.1 178 (by omega)).trans (rfl : arI h9_124 178 = arI h9_124 178)
                        have f13752 : arI g13749 173 = arI h9_124 173 := (hf1.2.1 173 (by omega)).trans (rfl : arI h9_124 173 = arI h9_124 173)
                        have hW : WS ad cA (fun i k => (171 ≤ i ∧ i < 174) ∨ i = 178) g0 K g13749 H locs := ⟨hW1, hs1, hW.2.2.tr hf1 (fun i k h => (Or.inl (by omega)))⟩
                        have rw9 : ∀ j : Nat, j < cn b 6 → (arI g13749 172 j).toInt = (dg (cn b 6) (cn b 6) w124_7.toInt.toNat j : Int) := fun j hj => by
                          have e9 := e13748 j (by omega)
                          rw [show r13732.toInt.toNat = cn b 6 by omega] at e9
                          exact e9
                        have so9 : ∀ j : Nat, j < cn b 6 → (arI g13749 171 j).toInt = (nth a j : Int) := by rw [f13750]; exact i124_8
                        have ta9 : ∀ j : Nat, j < cn b 6 → (arI g13749 178 j).toInt = (nth b j : Int) := by rw [f13751]; exact i124_9
                        refine q_aload_n hM dX12_taught_146 (lv_at hl 0 rfl) ?_
                        refine q_iload hM dX12_taught_147 (lv_at hl 4 rfl) ?_
                        refine q_callV (As := [.int r13732]) (rest := []) hM hW.1 hR hC myX12_isOrder (kAW (v_7_2 (List.mem_of_getElem? (i := 14) rfl)) rfl) (rfl : vwCl[12]? = some (RX12, TX12, 86)) rfl lb_129.1 (shO hW.2.1 lb_129) (s_X12_isOrder _ _ cA ad g13749 r13732 hW.2.1 hG (by  omega) (by  omega) (fun j hj => by have e8 : dg (cn b 6) (cn b 6) w124_7.toInt.toNat j < cn b 6 := dg_lt (by omega); have e7 := rw9 j (by omega); omega)) ⟨by decide, by decide⟩ rfl rfl hl.1 (Nat.le_of_ble_eq_true rfl) dX12_taught_149 (fun v g13754 H locs hp hW1 => ?_)
                        obtain ⟨r13753, rfl, hr13753, rfl⟩ := hp
                        have hW : WS ad cA (fun i k => (171 ≤ i ∧ i < 174) ∨ i = 178) g0 K g13749 H locs := ⟨hW1, hW.2.1, hW.2.2⟩
                        have ok9 : dif (eR g13749) r13732.toInt.toNat ↔ okM (cn b 6) w124_7.toInt.toNat := by
                          rw [show r13732.toInt.toNat = cn b 6 by omega]
                          exact dif_cg (fun j hj => by unfold eR; rw [rw9 j hj]; omega)
                        refine q_if_ne (tgt := 158) hM dX12_taught_152 (by decide) (rfl : r13753.toInt = r13753.toInt) (fun h152 => ?_) (fun h152 => ?_)
                        · have ok8 := ok9.mp (hr13753.elim (fun h => h.2) (fun h => absurd h.1 (by omega)))
                          refine q_iconst (v := (0 : Int32)) hM dX12_taught_158 (by decide) ?_
                          refine q_istore (lv9 := [(8, .int (0 : Int32)), (0, .ref (ad 129)), (1, .int a), (2, .int b), (3, .int c), (4, .int r13732), (5, .int r13737), (6, .int w124_6), (7, .int w124_7)]) hM dX12_taught_159 hl (by decide) rfl (fun ls hl => ?_)
                          refine q_iconst (v := (0 : Int32)) hM dX12_taught_161 (by decide) ?_
                          refine q_istore (lv9 := [(9, .int (0 : Int32)), (8, .int (0 : Int32)), (0, .ref (ad 129)), (1, .int a), (2, .int b), (3, .int c), (4, .int r13732), (5, .int r13737), (6, .int w124_6), (7, .int w124_7)]) hM dX12_taught_162 hl (by decide) rfl (fun ls hl => ?_)
                          have L164 : ∀ (fu164 : Nat) (w164_8 : Int32) (w164_9 : Int32) (H : Heap) (locs : List Loc) (ls : Array Slot), (r13737.toInt - w164_9.toInt + 1).toNat < fu164 → (Rng g13749) → (0 ≤ w164_9.toInt) → (w164_8.toInt = wM (wR g0) a b (dg (cn b 6) (cn b 6) w124_7.toInt.toNat) w164_9.toInt.toNat) → (w164_9.toInt ≤ r13737.toInt) → (0 ≤ w164_8.toInt) → (w164_8.toInt ≤ 99 * w164_9.toInt) → lv_has ls 10 [(0, .ref (ad 129)), (1, .int a), (2, .int b), (3, .int c), (4, .int r13732), (5, .int r13737), (6, .int w124_6), (7, .int w124_7), (8, .int w164_8), (9, .int w164_9)] → WS ad cA (fun i k => (171 ≤ i ∧ i < 174) ∨ i = 178) g0 K g13749 H locs → XX K 0 0 H locs 164 ls [] := by
                            intro fu164
                            induction fu164 with
                            | zero => intro w164_8 w164_9 H locs ls h0; omega
                            | succ fu164 ih164 =>
                              intro w164_8 w164_9 H locs ls hm164 i164_0 i164_1 i164_2 i164_3 i164_4 i164_5 hl hW
                              have hG := i164_0
                              have := i_rng r13737
                              refine q_iload hM dX12_taught_164 (lv_at hl 9 rfl) ?_
                              refine q_iload hM dX12_taught_166 (lv_at hl 5 rfl) ?_
                              refine q_icmp_ge (tgt := 210) hM dX12_taught_168 (by decide) (rfl : w164_9.toInt = w164_9.toInt) (rfl : r13737.toInt = r13737.toInt) (fun h168 => ?_) (fun h168 => ?_)
                              · refine q_iload hM dX12_taught_210 (lv_at hl 8 rfl) ?_
                                refine q_iload hM dX12_taught_212 (lv_at hl 6 rfl) ?_
                                refine q_icmp_gt (tgt := 220) hM dX12_taught_214 (by decide) (rfl : w164_8.toInt = w164_8.toInt) (rfl : w124_6.toInt = w124_6.toInt) (fun h214 => ?_) (fun h214 => ?_)
                                · have sm9 : w164_8.toInt = WM g0 a b (cn b 6) w124_7.toInt.toNat := by have e9 := i164_2; rw [show w164_9.toInt.toNat = cn b 6 by omega] at e9; exact e9
                                  refine q_iload hM dX12_taught_220 (lv_at hl 8 rfl) ?_
                                  refine q_istore (lv9 := [(6, .int w164_8), (0, .ref (ad 129)), (1, .int a), (2, .int b), (3, .int c), (4, .int r13732), (5, .int r13737), (7, .int w124_7), (8, .int w164_8), (9, .int w164_9)]) hM dX12_taught_222 hl (by decide) rfl (fun ls hl => ?_)
                                  refine q_iconst (v := (0 : Int32)) hM dX12_taught_224 (by decide) ?_
                                  refine q_istore (lv9 := [(9, .int (0 : Int32)), (6, .int w164_8), (0, .ref (ad 129)), (1, .int a), (2, .int b), (3, .int c), (4, .int r13732), (5, .int r13737), (7, .int w124_7), (8, .int w164_8)]) hM dX12_taught_225 hl (by decide) rfl (fun ls hl => ?_)
                                  have L227 : ∀ (fu227 : Nat) (w227_9 : Int32) (h9_227 : Nat → va_E) (H : Heap) (locs : List Loc) (ls : Array Slot), (r13732.toInt - w227_9.toInt + 1).toNat < fu227 → (Rng h9_227) → (0 ≤ w227_9.toInt) → (w227_9.toInt ≤ r13732.toInt) → (∀ j : Nat, (j : Int) < w227_9.toInt → arI h9_227 173 j = arI g13749 172 j) → (arI h9_227 172 = arI g13749 172) → (arI h9_227 171 = arI g13749 171) → (arI h9_227 178 = arI g13749 178) → lv_has ls 10 [(0, .ref (ad 129)), (1, .int a), (2, .int b), (3, .int c), (4, .int r13732), (5, .int r13737), (6, .int w164_8), (7, .int w124_7), (8, .int w164_8), (9, .int w227_9)] → WS ad cA (fun i k => (171 ≤ i ∧ i < 174) ∨ i = 178) g0 K h9_227 H locs → XX K 0 0 H locs 227 ls [] := by
                                    intro fu227
                                    induction fu227 with
                                    | zero => intro w227_9 h9_227 H locs ls h0; omega
                                    | succ fu227 ih227 =>
                                      intro w227_9 h9_227 H locs ls hm227 i227_0 i227_1 i227_2 i227_3 d227_172 d227_171 d227_178 hl hW
                                      have hG := i227_0
                                      have := i_rng r13732
                                      refine q_iload hM dX12_taught_227 (lv_at hl 9 rfl) ?_
                                      refine q_iload hM dX12_taught_229 (lv_at hl 4 rfl) ?_
                                      refine q_icmp_ge (tgt := 254) hM dX12_taught_231 (by decide) (rfl : w227_9.toInt = w227_9.toInt) (rfl : r13732.toInt = r13732.toInt) (fun h231 => ?_) (fun h231 => ?_)
                                      · refine q_iinc (lv9 := fun z13761 => [(7, .int z13761), (0, .ref (ad 129)), (1, .int a), (2, .int b), (3, .int c), (4, .int r13732), (5, .int r13737), (6, .int w164_8), (8, .int w164_8), (9, .int w227_9)]) hM dX12_taught_254 hl (kq := 7) rfl (by decide) (fun _ => rfl) (fun z13761 ls hz13761 hl => ?_)
                                        first | have tz13761 := i_addT hz13761 (rfl : w124_7.toInt = w124_7.toInt) (kc_1 : (Int32.ofInt 1).toInt = 1) (by omega) (by omega) | skip
                                        refine q_goto (tgt := 124) hM dX12_taught_257 (by decide) ?_
                                        exact ih124 w164_8 z13761 w124_7.toInt.toNat _ _ _ _ (by omega) hG (by omega) (by omega) (by omega) (by omega) (by omega) (by rw [show z13761.toInt.toNat = w124_7.toInt.toNat + 1 by omega]; exact BT_yes i124_6 ok8 sm9 (by omega)) (Or.inr (fun j hj => by rw [i227_3 j (by omega)]; exact rw9 j hj)) (by rw [d227_171]; exact so9) (by rw [d227_178]; exact ta9) (lv_sub hl [1, 2, 3, 4, 5, 6, 7, 0] rfl) hW
                                      · refine q_aload_n hM dX12_taught_234 (lv_at hl 0 rfl) ?_
                                        refine w_get (v := .ref (ad 173)) hM hW FG_X12_145 lb_129 (rf_129_79 hW.2.1) dX12_taught_235 ?_
                                        refine q_iload hM dX12_taught_238 (lv_at hl 9 rfl) ?_
                                        refine q_aload_n hM dX12_taught_240 (lv_at hl 0 rfl) ?_
                                        refine w_get (v := .ref (ad 172)) hM hW FG_X12_142 lb_129 (rf_129_78 hW.2.1) dX12_taught_241 ?_
                                        refine q_iload hM dX12_taught_244 (lv_at hl 9 rfl) ?_
                                        refine w_iald hM hW lb_172 (i_in (by omega) (by omega)) dX12_taught_246 ?_
                                        refine q_top (fun y13763 hy13763 => ?_)
                                        have by13763 := hG.a hy13763 rA_172
                                        rw [d227_172] at hy13763
                                        refine w_iast hM hW lb_173 (by omega) (i_in (by omega) (by omega)) dX12_taught_247 (fun g13764 H locs hW e1 e2 => ?_)
                                        have f13765 : arI g13764 172 = arI g13749 172 := (e2.2.1 172 (by unfold Only; omega)).trans d227_172
                                        have f13766 : arI g13764 171 = arI g13749 171 := (e2.2.1 171 (by unfold Only; omega)).trans d227_171
                                        have f13767 : arI g13764 178 = arI g13749 178 := (e2.2.1 178 (by unfold Only; omega)).trans d227_178
                                        have f13768 := e1
                                        rw [(rfl : arI h9_227 173 = arI h9_227 173)] at f13768
                                        have hG := hG.st e1 e2 rA_173 (by have := i_rng y13763; omega) (by have := i_rng y13763; omega)
                                        refine q_iinc (lv9 := fun z13769 => [(9, .int z13769), (0, .ref (ad 129)), (1, .int a), (2, .int b), (3, .int c), (4, .int r13732), (5, .int r13737), (6, .int w164_8), (7, .int w124_7), (8, .int w164_8)]) hM dX12_taught_248 hl (kq := 9) rfl (by decide) (fun _ => rfl) (fun z13769 ls hz13769 hl => ?_)
                                        first | have tz13769 := i_addT hz13769 (rfl : w227_9.toInt = w227_9.toInt) (kc_1 : (Int32.ofInt 1).toInt = 1) (by omega) (by omega) | skip
                                        refine q_goto (tgt := 227) hM dX12_taught_251 (by decide) ?_
                                        exact ih227 z13769 _ _ _ _ (by omega) hG (by omega) (by omega) (by rw [f13768]; exact row_cp rfl i227_3 hy13763 (by omega)) f13765 f13766 f13767 (lv_sub hl [1, 2, 3, 4, 5, 6, 7, 8, 9, 0] rfl) hW
                                  have := kc_0
                                  exact L227 _ (0 : Int32) _ _ _ _ (Nat.lt_succ_self _) hG (by omega) (by omega) (fun j hj => absurd hj (by have := kc_0; omega)) (rfl : arI g13749 172 = arI g13749 172) (rfl : arI g13749 171 = arI g13749 171) (rfl : arI g13749 178 = arI g13749 178) (lv_sub hl [2, 3, 4, 5, 6, 7, 1, 8, 9, 0] rfl) hW
                                · have sm9 : w164_8.toInt = WM g0 a b (cn b 6) w124_7.toInt.toNat := by have e9 := i164_2; rw [show w164_9.toInt.toNat = cn b 6 by omega] at e9; exact e9
                                  refine q_goto (tgt := 254) hM dX12_taught_217 (by decide) ?_
                                  refine q_iinc (lv9 := fun z13771 => [(7, .int z13771), (0, .ref (ad 129)), (1, .int a), (2, .int b), (3, .int c), (4, .int r13732), (5, .int r13737), (6, .int w124_6), (8, .int w164_8), (9, .int w164_9)]) hM dX12_taught_254 hl (kq := 7) rfl (by decide) (fun _ => rfl) (fun z13771 ls hz13771 hl => ?_)
                                  first | have tz13771 := i_addT hz13771 (rfl : w124_7.toInt = w124_7.toInt) (kc_1 : (Int32.ofInt 1).toInt = 1) (by omega) (by omega) | skip
                                  refine q_goto (tgt := 124) hM dX12_taught_257 (by decide) ?_
                                  exact ih124 w124_6 z13771 bb _ _ _ _ (by omega) hG (by omega) (by omega) (by omega) (by omega) (by omega) (by rw [show z13771.toInt.toNat = w124_7.toInt.toNat + 1 by omega]; exact BT_no i124_6 (Or.inr (by omega))) (by rw [f13752]; exact i124_7) (by rw [f13750]; exact i124_8) (by rw [f13751]; exact i124_9) (lv_sub hl [1, 2, 3, 4, 5, 6, 7, 0] rfl) hW
                              · refine q_iload hM dX12_taught_171 (lv_at hl 8 rfl) ?_
                                refine q_aload_n hM dX12_taught_173 (lv_at hl 0 rfl) ?_
                                refine w_get (v := .ref (ad 177)) hM hW FG_X12_157 lb_129 (rf_129_83 hW.2.1) dX12_taught_174 ?_
                                refine q_bipush (v := (6 : Int32)) hM dX12_taught_177 (by decide) ?_
                                refine q_aload_n hM dX12_taught_179 (lv_at hl 0 rfl) ?_
                                refine w_get (v := .ref (ad 171)) hM hW FG_X12_139 lb_129 (rf_129_77 hW.2.1) dX12_taught_180 ?_
                                refine q_aload_n hM dX12_taught_183 (lv_at hl 0 rfl) ?_
                                refine w_get (v := .ref (ad 172)) hM hW FG_X12_142 lb_129 (rf_129_78 hW.2.1) dX12_taught_184 ?_
                                refine q_iload hM dX12_taught_187 (lv_at hl 9 rfl) ?_
                                refine w_iald hM hW lb_172 (i_in (by omega) (by omega)) dX12_taught_189 ?_
                                refine q_top (fun y13773 hy13773 => ?_)
                                have by13773 := hG.a hy13773 rA_172
                                have tyy13773 : y13773.toInt = (dg (cn b 6) (cn b 6) w124_7.toInt.toNat w164_9.toInt.toNat : Int) := by rw [hy13773]; exact rw9 w164_9.toInt.toNat (by omega)
                                have dly13773 : dg (cn b 6) (cn b 6) w124_7.toInt.toNat w164_9.toInt.toNat < cn b 6 := dg_lt (by omega)
                                refine w_iald hM hW lb_171 (i_in (by omega) (by omega)) dX12_taught_190 ?_
                                refine q_top (fun y13774 hy13774 => ?_)
                                have by13774 := hG.a hy13774 rA_171
                                have tyy13774 : y13774.toInt = (nth a (dg (cn b 6) (cn b 6) w124_7.toInt.toNat w164_9.toInt.toNat) : Int) := by rw [hy13774, show y13773.toNatClampNeg = dg (cn b 6) (cn b 6) w124_7.toInt.toNat w164_9.toInt.toNat by show y13773.toInt.toNat = _; omega]; exact so9 _ (by omega)
                                have nm9 := nth_ok (s := a) (j := dg (cn b 6) (cn b 6) w124_7.toInt.toNat w164_9.toInt.toNat) (by omega)
                                have nm8 := bt_lt (n := 5) (by omega) (by omega) nm9.2.1
                                refine q_imul hM dX12_taught_191 (fun z13775 hz13775 => ?_)
                                first | have tz13775 := i_mulT hz13775 (kc_6 : (6 : Int32).toInt = 6) (rfl : y13774.toInt = y13774.toInt) (by omega) (by omega) | skip
                                refine q_aload_n hM dX12_taught_192 (lv_at hl 0 rfl) ?_
                                refine w_get (v := .ref (ad 178)) hM hW FG_X12_160 lb_129 (rf_129_84 hW.2.1) dX12_taught_193 ?_
                                refine q_iload hM dX12_taught_196 (lv_at hl 9 rfl) ?_
                                refine w_iald hM hW lb_178 (i_in (by omega) (by omega)) dX12_taught_198 ?_
                                refine q_top (fun y13776 hy13776 => ?_)
                                have by13776 := hG.a hy13776 rA_178
                                have tyy13776 : y13776.toInt = (nth b w164_9.toInt.toNat : Int) := by rw [hy13776]; exact ta9 w164_9.toInt.toNat (by omega)
                                have nk9 := nth_ok (s := b) (j := w164_9.toInt.toNat) (by omega)
                                have nk8 := bt_lt (n := 6) (by omega) (by omega) nk9.2.1
                                refine q_iadd hM dX12_taught_199 (fun z13777 hz13777 => ?_)
                                first | have tz13777 := i_addT hz13777 (rfl : z13775.toInt = z13775.toInt) (rfl : y13776.toInt = y13776.toInt) (by omega) (by omega) | skip
                                refine w_iald hM hW lb_177 (i_in (by omega) (by omega)) dX12_taught_200 ?_
                                refine q_top (fun y13778 hy13778 => ?_)
                                have tyy13778 : y13778.toInt = wR g0 (nth a (dg (cn b 6) (cn b 6) w124_7.toInt.toNat w164_9.toInt.toNat)) (nth b w164_9.toInt.toNat) := by
                                  unfold wR
                                  rw [if_pos ⟨nm8, nk8⟩, hy13778, show z13777.toNatClampNeg = 6 * (nth a (dg (cn b 6) (cn b 6) w124_7.toInt.toNat w164_9.toInt.toNat)) + (nth b w164_9.toInt.toNat) by show z13777.toInt.toNat = _; omega, hW.2.2.2.1 177 (by omega)]
                                have rby13778 : 0 ≤ y13778.toInt ∧ y13778.toInt ≤ 99 := by
                                  have e9 := hWS (nth a (dg (cn b 6) (cn b 6) w124_7.toInt.toNat w164_9.toInt.toNat)) (nth b w164_9.toInt.toNat) nm8 nk8
                                  rw [tyy13778]; unfold wR; rw [if_pos ⟨nm8, nk8⟩]; exact e9
                                refine q_iadd hM dX12_taught_201 (fun z13779 hz13779 => ?_)
                                first | have tz13779 := i_addT hz13779 (rfl : w164_8.toInt = w164_8.toInt) (rfl : y13778.toInt = y13778.toInt) (by omega) (by omega) | skip
                                refine q_istore (lv9 := [(8, .int z13779), (0, .ref (ad 129)), (1, .int a), (2, .int b), (3, .int c), (4, .int r13732), (5, .int r13737), (6, .int w124_6), (7, .int w124_7), (9, .int w164_9)]) hM dX12_taught_202 hl (by decide) rfl (fun ls hl => ?_)
                                refine q_iinc (lv9 := fun z13780 => [(9, .int z13780), (8, .int z13779), (0, .ref (ad 129)), (1, .int a), (2, .int b), (3, .int c), (4, .int r13732), (5, .int r13737), (6, .int w124_6), (7, .int w124_7)]) hM dX12_taught_204 hl (kq := 9) rfl (by decide) (fun _ => rfl) (fun z13780 ls hz13780 hl => ?_)
                                first | have tz13780 := i_addT hz13780 (rfl : w164_9.toInt = w164_9.toInt) (kc_1 : (Int32.ofInt 1).toInt = 1) (by omega) (by omega) | skip
                                refine q_goto (tgt := 164) hM dX12_taught_207 (by decide) ?_
                                exact ih164 z13779 z13780 _ _ _ (by omega) hG (by omega) (by rw [show z13780.toInt.toNat = w164_9.toInt.toNat + 1 by omega, wM_s, ← tyy13778]; omega) (by omega) (by omega) (by omega) (lv_sub hl [2, 3, 4, 5, 6, 7, 8, 9, 1, 0] rfl) hW
                          have := kc_0
                          have := kc_0
                          exact L164 _ (0 : Int32) (0 : Int32) _ _ _ (Nat.lt_succ_self _) hG (by omega) (by rw [kc_0]; rfl) (by omega) (by omega) (by omega) (lv_sub hl [2, 3, 4, 5, 6, 7, 8, 9, 1, 0] rfl) hW
                        · have ok8 := fun z9 => (hr13753.elim (fun h => absurd h.1 (by omega)) (fun h => h.2)) (ok9.mpr z9)
                          refine q_goto (tgt := 254) hM dX12_taught_155 (by decide) ?_
                          refine q_iinc (lv9 := fun z13782 => [(7, .int z13782), (0, .ref (ad 129)), (1, .int a), (2, .int b), (3, .int c), (4, .int r13732), (5, .int r13737), (6, .int w124_6)]) hM dX12_taught_254 hl (kq := 7) rfl (by decide) (fun _ => rfl) (fun z13782 ls hz13782 hl => ?_)
                          first | have tz13782 := i_addT hz13782 (rfl : w124_7.toInt = w124_7.toInt) (kc_1 : (Int32.ofInt 1).toInt = 1) (by omega) (by omega) | skip
                          refine q_goto (tgt := 124) hM dX12_taught_257 (by decide) ?_
                          exact ih124 w124_6 z13782 bb _ _ _ _ (by omega) hG (by omega) (by omega) (by omega) (by omega) (by omega) (by rw [show z13782.toInt.toNat = w124_7.toInt.toNat + 1 by omega]; exact BT_no i124_6 (Or.inl ok8)) (by rw [f13752]; exact i124_7) (by rw [f13750]; exact i124_8) (by rw [f13751]; exact i124_9) (lv_sub hl [1, 2, 3, 4, 5, 6, 7, 0] rfl) hW
                  have := kc_m1
                  have := kc_0
                  exact L124 _ ((-1) : Int32) (0 : Int32) 0 _ _ _ _ (Nat.lt_succ_self _) hG (by omega) (by omega) (by omega) (by omega) (by omega) (by rw [kc_0, kc_m1]; exact BT_0) (Or.inl kc_m1) s113 s114 (lv_sub hl [3, 4, 5, 6, 7, 2, 1, 0] rfl) hW
                · refine q_aload_n hM dX12_taught_91 (lv_at hl 0 rfl) ?_
                  refine w_get (v := .ref (ad 178)) hM hW FG_X12_160 lb_129 (rf_129_84 hW.2.1) dX12_taught_92 ?_
                  refine q_iload hM dX12_taught_95 (lv_at hl 5 rfl) ?_
                  refine q_aload_n hM dX12_taught_97 (lv_at hl 0 rfl) ?_
                  refine w_get (v := .ref (ad 171)) hM hW FG_X12_139 lb_129 (rf_129_77 hW.2.1) dX12_taught_98 ?_
                  refine q_iload hM dX12_taught_101 (lv_at hl 5 rfl) ?_
                  refine w_iald hM hW lb_171 (i_in (by omega) (by omega)) dX12_taught_103 ?_
                  refine q_top (fun y13784 hy13784 => ?_)
                  have by13784 := hG.a hy13784 rA_171
                  rw [d84_171] at hy13784
                  refine w_iast hM hW lb_178 (by omega) (i_in (by omega) (by omega)) dX12_taught_104 (fun g13785 H locs hW e1 e2 => ?_)
                  have f13786 : arI g13785 171 = arI g13734 171 := (e2.2.1 171 (by unfold Only; omega)).trans d84_171
                  have f13787 := e1
                  rw [(rfl : arI h9_84 178 = arI h9_84 178)] at f13787
                  have hG := hG.st e1 e2 rA_178 (by have := i_rng y13784; omega) (by have := i_rng y13784; omega)
                  refine q_iinc (lv9 := fun z13788 => [(5, .int z13788), (0, .ref (ad 129)), (1, .int a), (2, .int b), (3, .int c), (4, .int r13732)]) hM dX12_taught_105 hl (kq := 5) rfl (by decide) (fun _ => rfl) (fun z13788 ls hz13788 hl => ?_)
                  first | have tz13788 := i_addT hz13788 (rfl : w84_5.toInt = w84_5.toInt) (kc_1 : (Int32.ofInt 1).toInt = 1) (by omega) (by omega) | skip
                  refine q_goto (tgt := 84) hM dX12_taught_108 (by decide) ?_
                  exact ih84 z13788 _ _ _ _ (by omega) hG (by omega) (by omega) (by rw [f13787]; exact row_cp rfl i84_3 hy13784 (by omega)) f13786 (lv_sub hl [1, 2, 3, 4, 5, 0] rfl) hW
            have := kc_0
            exact L84 _ (0 : Int32) _ _ _ _ (Nat.lt_succ_self _) hG (by omega) (by omega) (fun j hj => absurd hj (by have := kc_0; omega)) (rfl : arI g13734 171 = arI g13734 171) (lv_sub hl [2, 3, 4, 5, 1, 0] rfl) hW
          · refine q_iload_n hM dX12_taught_52 (lv_at hl 3 rfl) ?_
            refine q_i2l hM dX12_taught_53 ?_
            have := l_i2l c
            refine q_lconst (v := 0) hM dX12_taught_54 (by decide) ?_
            have := kl_0
            refine q_ldc2 (v := 5) hM (kAW (v_5_8 (List.mem_of_getElem? (i := 5) rfl)) rfl) dX12_taught_55 ?_
            have := kl_5
            refine q_callS (As := [.long c.toInt64, .long (0 : Int64), .long (5 : Int64)]) (rest := []) hM hW.1 hR hC myX12_lies (kAW (v_5_4 (List.mem_of_getElem? (i := 14) rfl)) rfl) (c_X12_lies _ _ cA ad g0 c.toInt64 (0 : Int64) (5 : Int64) hW.2.1) ⟨by decide, by decide⟩ rfl rfl hl.1 (Nat.le_of_ble_eq_true rfl) dX12_taught_58 (fun v g13791 H locs hp hW1 => ?_)
            obtain ⟨r13790, rfl, hr13790, rfl⟩ := hp
            have hW : WS ad cA (fun i k => (171 ≤ i ∧ i < 174) ∨ i = 178) g0 K g0 H locs := ⟨hW1, hW.2.1, hW.2.2⟩
            refine q_if_eq (tgt := 72) hM dX12_taught_61 (by decide) (rfl : r13790.toInt = r13790.toInt) (fun h61 => ?_) (fun h61 => ?_)
            · refine q_iconst (v := ((-1) : Int32)) hM dX12_taught_72 (by decide) ?_
              exact hE _ _ _ _ _ _ hW.1 ⟨_, rfl, hW.2.1, hG, hW.2.2, (Or.inl ⟨fun q9 => by
                  obtain ⟨d1, d2, d3, d4, d5, d6, d7⟩ := q9
                  rcases d7 with d7 | ⟨d7, d8, d9⟩
                  · omega
                  · omega, kc_m1⟩)⟩ dX12_taught_73
            · refine q_iload_n hM dX12_taught_64 (lv_at hl 2 rfl) ?_
              refine q_iload_n hM dX12_taught_65 (lv_at hl 3 rfl) ?_
              refine q_callS (As := [.int b, .int c]) (rest := []) hM hW.1 hR hC myX12_has (kAW (v_5_6 (List.mem_of_getElem? (i := 7) rfl)) rfl) (c_X12_has _ _ cA ad g0 b c hW.2.1 (by omega) (by omega)) ⟨by decide, by decide⟩ rfl rfl hl.1 (Nat.le_of_ble_eq_true rfl) dX12_taught_66 (fun v g13795 H locs hp hW1 => ?_)
              obtain ⟨r13794, rfl, hr13794, rfl⟩ := hp
              have hW : WS ad cA (fun i k => (171 ≤ i ∧ i < 174) ∨ i = 178) g0 K g0 H locs := ⟨hW1, hW.2.1, hW.2.2⟩
              refine q_if_ne (tgt := 74) hM dX12_taught_69 (by decide) (rfl : r13794.toInt = r13794.toInt) (fun h69 => ?_) (fun h69 => ?_)
              · have hb9 := mh_t hr13794 (by omega)
                have hl9 : cn b c.toInt.toNat < cn b 6 := cn_lt hb9 (by omega)
                refine q_aload_n hM dX12_taught_74 (lv_at hl 0 rfl) ?_
                refine q_iload_n hM dX12_taught_75 (lv_at hl 2 rfl) ?_
                refine q_callV (As := [.int b]) (rest := []) hM hW.1 hR hC myX12_takesSome (kAW (v_6_13 (List.mem_of_getElem? (i := 3) rfl)) rfl) (rfl : vwCl[12]? = some (RX12, TX12, 86)) rfl lb_129.1 (shO hW.2.1 lb_129) (s_X12_takesSome _ _ cA ad g0 b hW.2.1 hG) ⟨by decide, by decide⟩ rfl rfl hl.1 (Nat.le_of_ble_eq_true rfl) dX12_taught_76 (fun v g13799 H locs hp hW1 => ?_)
                obtain ⟨r13797, rfl, hs1, hG, hf1, e13798, hr13797⟩ := hp
                have hW : WS ad cA (fun i k => (171 ≤ i ∧ i < 174) ∨ i = 178) g0 K g13799 H locs := ⟨hW1, hs1, hW.2.2.tr hf1 (fun i k h => (Or.inl (by omega)))⟩
                have k76 : r13797.toInt = (cn b 6 : Int) := by omega
                have s76 : ∀ j : Nat, j < cn b 6 → (arI g13799 171 j).toInt = (nth b j : Int) := fun j hj => e13798 j (by omega)
                refine q_istore (lv9 := [(4, .int r13797), (0, .ref (ad 129)), (1, .int a), (2, .int b), (3, .int c)]) hM dX12_taught_79 hl (by decide) rfl (fun ls hl => ?_)
                refine q_iconst (v := (0 : Int32)) hM dX12_taught_81 (by decide) ?_
                refine q_istore (lv9 := [(5, .int (0 : Int32)), (4, .int r13797), (0, .ref (ad 129)), (1, .int a), (2, .int b), (3, .int c)]) hM dX12_taught_82 hl (by decide) rfl (fun ls hl => ?_)
                have L84 : ∀ (fu84 : Nat) (w84_5 : Int32) (h9_84 : Nat → va_E) (H : Heap) (locs : List Loc) (ls : Array Slot), (r13797.toInt - w84_5.toInt + 1).toNat < fu84 → (Rng h9_84) → (0 ≤ w84_5.toInt) → (w84_5.toInt ≤ r13797.toInt) → (∀ j : Nat, (j : Int) < w84_5.toInt → arI h9_84 178 j = arI g13799 171 j) → (arI h9_84 171 = arI g13799 171) → lv_has ls 10 [(0, .ref (ad 129)), (1, .int a), (2, .int b), (3, .int c), (4, .int r13797), (5, .int w84_5)] → WS ad cA (fun i k => (171 ≤ i ∧ i < 174) ∨ i = 178) g0 K h9_84 H locs → XX K 0 0 H locs 84 ls [] := by
                  intro fu84
                  induction fu84 with
                  | zero => intro w84_5 h9_84 H locs ls h0; omega
                  | succ fu84 ih84 =>
                    intro w84_5 h9_84 H locs ls hm84 i84_0 i84_1 i84_2 i84_3 d84_171 hl hW
                    have hG := i84_0
                    have := i_rng r13797
                    refine q_iload hM dX12_taught_84 (lv_at hl 5 rfl) ?_
                    refine q_iload hM dX12_taught_86 (lv_at hl 4 rfl) ?_
                    refine q_icmp_ge (tgt := 111) hM dX12_taught_88 (by decide) (rfl : w84_5.toInt = w84_5.toInt) (rfl : r13797.toInt = r13797.toInt) (fun h88 => ?_) (fun h88 => ?_)
                    · refine q_aload_n hM dX12_taught_111 (lv_at hl 0 rfl) ?_
                      refine q_iload_n hM dX12_taught_112 (lv_at hl 1 rfl) ?_
                      refine q_callV (As := [.int a]) (rest := []) hM hW.1 hR hC myX12_takesSome (kAW (v_6_13 (List.mem_of_getElem? (i := 3) rfl)) rfl) (rfl : vwCl[12]? = some (RX12, TX12, 86)) rfl lb_129.1 (shO hW.2.1 lb_129) (s_X12_takesSome _ _ cA ad h9_84 a hW.2.1 hG) ⟨by decide, by decide⟩ rfl rfl hl.1 (Nat.le_of_ble_eq_true rfl) dX12_taught_113 (fun v g13804 H locs hp hW1 => ?_)
                      obtain ⟨r13802, rfl, hs1, hG, hf1, e13803, hr13802⟩ := hp
                      have f13805 : arI g13804 178 = arI h9_84 178 := (hf1.2.1 178 (by omega)).trans (rfl : arI h9_84 178 = arI h9_84 178)
                      have hW : WS ad cA (fun i k => (171 ≤ i ∧ i < 174) ∨ i = 178) g0 K g13804 H locs := ⟨hW1, hs1, hW.2.2.tr hf1 (fun i k h => (Or.inl (by omega)))⟩
                      have k113 : r13802.toInt = (cn b 6 : Int) := by omega
                      have s113 : ∀ j : Nat, j < cn b 6 → (arI g13804 171 j).toInt = (nth a j : Int) := fun j hj => e13803 j (by omega)
                      have s114 : ∀ j : Nat, j < cn b 6 → (arI g13804 178 j).toInt = (nth b j : Int) := fun j hj => by rw [f13805, i84_3 j (by omega)]; exact s76 j hj
                      refine q_istore (lv9 := [(5, .int r13802), (0, .ref (ad 129)), (1, .int a), (2, .int b), (3, .int c), (4, .int r13797)]) hM dX12_taught_116 hl (by decide) rfl (fun ls hl => ?_)
                      refine q_iconst (v := ((-1) : Int32)) hM dX12_taught_118 (by decide) ?_
                      refine q_istore (lv9 := [(6, .int ((-1) : Int32)), (5, .int r13802), (0, .ref (ad 129)), (1, .int a), (2, .int b), (3, .int c), (4, .int r13797)]) hM dX12_taught_119 hl (by decide) rfl (fun ls hl => ?_)
                      refine q_iconst (v := (0 : Int32)) hM dX12_taught_121 (by decide) ?_
                      refine q_istore (lv9 := [(7, .int (0 : Int32)), (6, .int ((-1) : Int32)), (5, .int r13802), (0, .ref (ad 129)), (1, .int a), (2, .int b), (3, .int c), (4, .int r13797)]) hM dX12_taught_122 hl (by decide) rfl (fun ls hl => ?_)
                      have L124 : ∀ (fu124 : Nat) (w124_6 : Int32) (w124_7 : Int32) (bb : Nat) (h9_124 : Nat → va_E) (H : Heap) (locs : List Loc) (ls : Array Slot), (3126 - w124_7.toInt).toNat < fu124 → (Rng h9_124) → (0 ≤ w124_7.toInt) → (w124_7.toInt ≤ 3125) → ((w124_7.toInt : Int) ≤ ((cn b 6 ^ cn b 6 : Nat) : Int)) → (w124_7.toInt ≤ 3125) → (-1 ≤ w124_6.toInt ∧ w124_6.toInt ≤ 594) → (BT (okM (cn b 6)) (WM g0 a b (cn b 6)) bb w124_6.toInt w124_7.toInt.toNat) → (w124_6.toInt = -1 ∨ ∀ j : Nat, j < cn b 6 → (arI h9_124 173 j).toInt = (dg (cn b 6) (cn b 6) bb j : Int)) → (∀ j : Nat, j < cn b 6 → (arI h9_124 171 j).toInt = (nth a j : Int)) → (∀ j : Nat, j < cn b 6 → (arI h9_124 178 j).toInt = (nth b j : Int)) → lv_has ls 10 [(0, .ref (ad 129)), (1, .int a), (2, .int b), (3, .int c), (4, .int r13797), (5, .int r13802), (6, .int w124_6), (7, .int w124_7)] → WS ad cA (fun i k => (171 ≤ i ∧ i < 174) ∨ i = 178) g0 K h9_124 H locs → XX K 0 0 H locs 124 ls [] := by
                        intro fu124
                        induction fu124 with
                        | zero => intro w124_6 w124_7 bb h9_124 H locs ls h0; omega
                        | succ fu124 ih124 =>
                          intro w124_6 w124_7 bb h9_124 H locs ls hm124 i124_0 i124_1 i124_2 i124_3 i124_4 i124_5 i124_6 i124_7 i124_8 i124_9 hl hW
                          have hG := i124_0
                          refine q_iload hM dX12_taught_124 (lv_at hl 7 rfl) ?_
                          refine q_iload hM dX12_taught_126 (lv_at hl 4 rfl) ?_
                          refine q_iload hM dX12_taught_128 (lv_at hl 4 rfl) ?_
                          refine q_callS (As := [.int r13797, .int r13797]) (rest := [.int w124_7]) hM hW.1 hR hC myX12_powerOf (kAW (v_6_13 (List.mem_of_getElem? (i := 15) rfl)) rfl) (s_X12_powerOf _ _ cA ad h9_124 r13797 r13797 hW.2.1 hG (by  omega) (by  omega) (by  omega) (by  omega)) ⟨by decide, by decide⟩ rfl rfl hl.1 (Nat.le_of_ble_eq_true rfl) dX12_taught_130 (fun v g13808 H locs hp hW1 => ?_)
                          obtain ⟨r13807, rfl, hr13807, rfl⟩ := hp
                          have hW : WS ad cA (fun i k => (171 ≤ i ∧ i < 174) ∨ i = 178) g0 K h9_124 H locs := ⟨hW1, hW.2.1, hW.2.2⟩
                          have hp9 : r13807.toInt = ((cn b 6 ^ cn b 6 : Nat) : Int) := by rw [hr13807.1, show r13797.toInt.toNat = cn b 6 by omega]
                          refine q_icmp_ge (tgt := 260) hM dX12_taught_133 (by decide) (rfl : w124_7.toInt = w124_7.toInt) (rfl : r13807.toInt = r13807.toInt) (fun h133 => ?_) (fun h133 => ?_)
                          · have bt9 := BT_M i124_6 (by omega) (by omega) (fun r9 => wM_0 (n := 0) (wR_0 hWS) (cn b 6))
                            have mo9 : 0 ≤ w124_6.toInt := by rw [bt9.2.2]; exact wM_0 (n := 0) (wR_0 hWS) (cn b 6)
                            refine q_iload_n hM dX12_taught_260 (lv_at hl 3 rfl) ?_
                            refine q_bipush (v := (20 : Int32)) hM dX12_taught_261 (by decide) ?_
                            refine q_icmp_ne (tgt := 271) hM dX12_taught_263 (by decide) (rfl : c.toInt = c.toInt) (kc_20 : (20 : Int32).toInt = 20) (fun h263 => ?_) (fun h263 => ?_)
                            · refine q_aload_n hM dX12_taught_271 (lv_at hl 0 rfl) ?_
                              refine w_get (v := .ref (ad 171)) hM hW FG_X12_139 lb_129 (rf_129_77 hW.2.1) dX12_taught_272 ?_
                              refine q_aload_n hM dX12_taught_275 (lv_at hl 0 rfl) ?_
                              refine w_get (v := .ref (ad 173)) hM hW FG_X12_145 lb_129 (rf_129_79 hW.2.1) dX12_taught_276 ?_
                              refine q_iload_n hM dX12_taught_279 (lv_at hl 2 rfl) ?_
                              refine q_iconst (v := (1 : Int32)) hM dX12_taught_280 (by decide) ?_
                              refine q_iload_n hM dX12_taught_281 (lv_at hl 3 rfl) ?_
                              refine q_ishl hM dX12_taught_282 (fun z13811 hz13811 => ?_)
                              refine q_iconst (v := (1 : Int32)) hM dX12_taught_283 (by decide) ?_
                              refine q_isub hM dX12_taught_284 (fun z13812 hz13812 => ?_)
                              first | have tz13812 := i_subT hz13812 (rfl : z13811.toInt = z13811.toInt) (kc_1 : (1 : Int32).toInt = 1) (by omega) (by omega) | skip
                              refine q_iand hM dX12_taught_285 (fun z13813 hz13813 => ?_)
                              have al9 := i_andk (i_comm hz13813) (by omega)
                              refine q_callS (As := [.int z13813]) (rest := [.ref (ad 173), .ref (ad 171)]) hM hW.1 hR hC myX12_sizeOf (kAW (v_5_6 (List.mem_of_getElem? (i := 14) rfl)) rfl) (s_X12_sizeOf _ _ cA ad h9_124 z13813 hW.2.1 hG (by  omega) (by  omega)) ⟨by decide, by decide⟩ rfl rfl hl.1 (Nat.le_of_ble_eq_true rfl) dX12_taught_286 (fun v g13815 H locs hp hW1 => ?_)
                              obtain ⟨r13814, rfl, hr13814, rfl⟩ := hp
                              have hW : WS ad cA (fun i k => (171 ≤ i ∧ i < 174) ∨ i = 178) g0 K h9_124 H locs := ⟨hW1, hW.2.1, hW.2.2⟩
                              have i89 : r13814.toInt = (cn b c.toInt.toNat : Int) := by rw [hr13814]; exact msk_of (by omega) (by omega) (by omega) (by omega) hz13811 hz13812 hz13813
                              refine w_iald hM hW lb_173 (i_in (by omega) (by omega)) dX12_taught_289 ?_
                              refine q_top (fun y13816 hy13816 => ?_)
                              have by13816 := hG.a hy13816 rA_173
                              have tyy13816 : y13816.toInt = (dg (cn b 6) (cn b 6) bb (cn b c.toInt.toNat) : Int) := by rw [hy13816, show r13814.toNatClampNeg = cn b c.toInt.toNat by show r13814.toInt.toNat = _; omega]; exact (i124_7.resolve_left (by omega)) _ hl9
                              have dl9 : dg (cn b 6) (cn b 6) bb (cn b c.toInt.toNat) < cn b 6 := dg_lt (by omega)
                              refine w_iald hM hW lb_171 (i_in (by omega) (by omega)) dX12_taught_290 ?_
                              refine q_top (fun y13817 hy13817 => ?_)
                              have by13817 := hG.a hy13817 rA_171
                              have tyy13817 : y13817.toInt = (nth a (dg (cn b 6) (cn b 6) bb (cn b c.toInt.toNat)) : Int) := by rw [hy13817, show y13816.toNatClampNeg = dg (cn b 6) (cn b 6) bb (cn b c.toInt.toNat) by show y13816.toInt.toNat = _; omega]; exact i124_8 _ dl9
                              exact hE _ _ _ _ _ _ hW.1 ⟨_, rfl, hW.2.1, hG, hW.2.2, (Or.inr ⟨⟨by omega, by omega, ⟨r13715, hr13715.2.2, z_t hz13717 hz13718 (by omega)⟩, by omega, by omega, by omega, Or.inr ⟨by omega, by omega, hb9⟩⟩, bb, w124_6.toInt, by have e9 := i124_6; rw [show w124_7.toInt.toNat = cn b 6 ^ cn b 6 by omega] at e9; exact e9, Or.inr ⟨by omega, Or.inr tyy13817⟩⟩)⟩ dX12_taught_291
                            · omega
                          · refine q_aload_n hM dX12_taught_136 (lv_at hl 0 rfl) ?_
                            refine q_iload hM dX12_taught_137 (lv_at hl 7 rfl) ?_
                            refine q_iload hM dX12_taught_139 (lv_at hl 4 rfl) ?_
                            refine q_iload hM dX12_taught_141 (lv_at hl 4 rfl) ?_
                            refine q_callV (As := [.int w124_7, .int r13797, .int r13797]) (rest := []) hM hW.1 hR hC myX12_opensRow (kAW (v_6_14 (List.mem_of_getElem? (i := 2) rfl)) rfl) (rfl : vwCl[12]? = some (RX12, TX12, 86)) rfl lb_129.1 (shO hW.2.1 lb_129) (s_X12_opensRow _ _ cA ad h9_124 w124_7 r13797 r13797 hW.2.1 hG (by  omega) (by  omega) (by  omega) (by  omega) (by  omega)) ⟨by decide, by decide⟩ rfl rfl hl.1 (Nat.le_of_ble_eq_true rfl) dX12_taught_143 (fun v g13821 H locs hp hW1 => ?_)
                            obtain ⟨rfl, hs1, hG, hf1, e13820⟩ := hp
                            have f13822 : arI g13821 171 = arI h9_124 171 := (hf1.2.1 171 (by omega)).trans (rfl : arI h9_124 171 = arI h9_124 171)
                            have f13823 : arI g13821 178 = arI h9_124 178 := (hf1.2.1 178 (by omega)).trans (rfl : arI h9_124 178 = arI h9_124 178)
                            have f13824 : arI g13821 173 = arI h9_124 173 := (hf1.2.1 173 (by omega)).trans (rfl : arI h9_124 173 = arI h9_124 173)
                            have hW : WS ad cA (fun i k => (171 ≤ i ∧ i < 174) ∨ i = 178) g0 K g13821 H locs := ⟨hW1, hs1, hW.2.2.tr hf1 (fun i k h => (Or.inl (by omega)))⟩
                            have rw9 : ∀ j : Nat, j < cn b 6 → (arI g13821 172 j).toInt = (dg (cn b 6) (cn b 6) w124_7.toInt.toNat j : Int) := fun j hj => by
                              have e9 := e13820 j (by omega)
                              rw [show r13797.toInt.toNat = cn b 6 by omega] at e9
                              exact e9
                            have so9 : ∀ j : Nat, j < cn b 6 → (arI g13821 171 j).toInt = (nth a j : Int) := by rw [f13822]; exact i124_8
                            have ta9 : ∀ j : Nat, j < cn b 6 → (arI g13821 178 j).toInt = (nth b j : Int) := by rw [f13823]; exact i124_9
                            refine q_aload_n hM dX12_taught_146 (lv_at hl 0 rfl) ?_
                            refine q_iload hM dX12_taught_147 (lv_at hl 4 rfl) ?_
                            refine q_callV (As := [.int r13797]) (rest := []) hM hW.1 hR hC myX12_isOrder (kAW (v_7_2 (List.mem_of_getElem? (i := 14) rfl)) rfl) (rfl : vwCl[12]? = some (RX12, TX12, 86)) rfl lb_129.1 (shO hW.2.1 lb_129) (s_X12_isOrder _ _ cA ad g13821 r13797 hW.2.1 hG (by  omega) (by  omega) (fun j hj => by have e8 : dg (cn b 6) (cn b 6) w124_7.toInt.toNat j < cn b 6 := dg_lt (by omega); have e7 := rw9 j (by omega); omega)) ⟨by decide, by decide⟩ rfl rfl hl.1 (Nat.le_of_ble_eq_true rfl) dX12_taught_149 (fun v g13826 H locs hp hW1 => ?_)
                            obtain ⟨r13825, rfl, hr13825, rfl⟩ := hp
                            have hW : WS ad cA (fun i k => (171 ≤ i ∧ i < 174) ∨ i = 178) g0 K g13821 H locs := ⟨hW1, hW.2.1, hW.2.2⟩
                            have ok9 : dif (eR g13821) r13797.toInt.toNat ↔ okM (cn b 6) w124_7.toInt.toNat := by
                              rw [show r13797.toInt.toNat = cn b 6 by omega]
                              exact dif_cg (fun j hj => by unfold eR; rw [rw9 j hj]; omega)
                            refine q_if_ne (tgt := 158) hM dX12_taught_152 (by decide) (rfl : r13825.toInt = r13825.toInt) (fun h152 => ?_) (fun h152 => ?_)
                            · have ok8 := ok9.mp (hr13825.elim (fun h => h.2) (fun h => absurd h.1 (by omega)))
                              refine q_iconst (v := (0 : Int32)) hM dX12_taught_158 (by decide) ?_
                              refine q_istore (lv9 := [(8, .int (0 : Int32)), (0, .ref (ad 129)), (1, .int a), (2, .int b), (3, .int c), (4, .int r13797), (5, .int r13802), (6, .int w124_6), (7, .int w124_7)]) hM dX12_taught_159 hl (by decide) rfl (fun ls hl => ?_)
                              refine q_iconst (v := (0 : Int32)) hM dX12_taught_161 (by decide) ?_
                              refine q_istore (lv9 := [(9, .int (0 : Int32)), (8, .int (0 : Int32)), (0, .ref (ad 129)), (1, .int a), (2, .int b), (3, .int c), (4, .int r13797), (5, .int r13802), (6, .int w124_6), (7, .int w124_7)]) hM dX12_taught_162 hl (by decide) rfl (fun ls hl => ?_)
                              have L164 : ∀ (fu164 : Nat) (w164_8 : Int32) (w164_9 : Int32) (H : Heap) (locs : List Loc) (ls : Array Slot), (r13802.toInt - w164_9.toInt + 1).toNat < fu164 → (Rng g13821) → (0 ≤ w164_9.toInt) → (w164_8.toInt = wM (wR g0) a b (dg (cn b 6) (cn b 6) w124_7.toInt.toNat) w164_9.toInt.toNat) → (w164_9.toInt ≤ r13802.toInt) → (0 ≤ w164_8.toInt) → (w164_8.toInt ≤ 99 * w164_9.toInt) → lv_has ls 10 [(0, .ref (ad 129)), (1, .int a), (2, .int b), (3, .int c), (4, .int r13797), (5, .int r13802), (6, .int w124_6), (7, .int w124_7), (8, .int w164_8), (9, .int w164_9)] → WS ad cA (fun i k => (171 ≤ i ∧ i < 174) ∨ i = 178) g0 K g13821 H locs → XX K 0 0 H locs 164 ls [] := by
                                intro fu164
                                induction fu164 with
                                | zero => intro w164_8 w164_9 H locs ls h0; omega
                                | succ fu164 ih164 =>
                                  intro w164_8 w164_9 H locs ls hm164 i164_0 i164_1 i164_2 i164_3 i164_4 i164_5 hl hW
                                  have hG := i164_0
                                  have := i_rng r13802
                                  refine q_iload hM dX12_taught_164 (lv_at hl 9 rfl) ?_
                                  refine q_iload hM dX12_taught_166 (lv_at hl 5 rfl) ?_
                                  refine q_icmp_ge (tgt := 210) hM dX12_taught_168 (by decide) (rfl : w164_9.toInt = w164_9.toInt) (rfl : r13802.toInt = r13802.toInt) (fun h168 => ?_) (fun h168 => ?_)
                                  · refine q_iload hM dX12_taught_210 (lv_at hl 8 rfl) ?_
                                    refine q_iload hM dX12_taught_212 (lv_at hl 6 rfl) ?_
                                    refine q_icmp_gt (tgt := 220) hM dX12_taught_214 (by decide) (rfl : w164_8.toInt = w164_8.toInt) (rfl : w124_6.toInt = w124_6.toInt) (fun h214 => ?_) (fun h214 => ?_)
                                    · have sm9 : w164_8.toInt = WM g0 a b (cn b 6) w124_7.toInt.toNat := by have e9 := i164_2; rw [show w164_9.toInt.toNat = cn b 6 by omega] at e9; exact e9
                                      refine q_iload hM dX12_taught_220 (lv_at hl 8 rfl) ?_
                                      refine q_istore (lv9 := [(6, .int w164_8), (0, .ref (ad 129)), (1, .int a), (2, .int b), (3, .int c), (4, .int r13797), (5, .int r13802), (7, .int w124_7), (8, .int w164_8), (9, .int w164_9)]) hM dX12_taught_222 hl (by decide) rfl (fun ls hl => ?_)
                                      refine q_iconst (v := (0 : Int32)) hM dX12_taught_224 (by decide) ?_
                                      refine q_istore (lv9 := [(9, .int (0 : Int32)), (6, .int w164_8), (0, .ref (ad 129)), (1, .int a), (2, .int b), (3, .int c), (4, .int r13797), (5, .int r13802), (7, .int w124_7), (8, .int w164_8)]) hM dX12_taught_225 hl (by decide) rfl (fun ls hl => ?_)
                                      have L227 : ∀ (fu227 : Nat) (w227_9 : Int32) (h9_227 : Nat → va_E) (H : Heap) (locs : List Loc) (ls : Array Slot), (r13797.toInt - w227_9.toInt + 1).toNat < fu227 → (Rng h9_227) → (0 ≤ w227_9.toInt) → (w227_9.toInt ≤ r13797.toInt) → (∀ j : Nat, (j : Int) < w227_9.toInt → arI h9_227 173 j = arI g13821 172 j) → (arI h9_227 172 = arI g13821 172) → (arI h9_227 171 = arI g13821 171) → (arI h9_227 178 = arI g13821 178) → lv_has ls 10 [(0, .ref (ad 129)), (1, .int a), (2, .int b), (3, .int c), (4, .int r13797), (5, .int r13802), (6, .int w164_8), (7, .int w124_7), (8, .int w164_8), (9, .int w227_9)] → WS ad cA (fun i k => (171 ≤ i ∧ i < 174) ∨ i = 178) g0 K h9_227 H locs → XX K 0 0 H locs 227 ls [] := by
                                        intro fu227
                                        induction fu227 with
                                        | zero => intro w227_9 h9_227 H locs ls h0; omega
                                        | succ fu227 ih227 =>
                                          intro w227_9 h9_227 H locs ls hm227 i227_0 i227_1 i227_2 i227_3 d227_172 d227_171 d227_178 hl hW
                                          have hG := i227_0
                                          have := i_rng r13797
                                          refine q_iload hM dX12_taught_227 (lv_at hl 9 rfl) ?_
                                          refine q_iload hM dX12_taught_229 (lv_at hl 4 rfl) ?_
                                          refine q_icmp_ge (tgt := 254) hM dX12_taught_231 (by decide) (rfl : w227_9.toInt = w227_9.toInt) (rfl : r13797.toInt = r13797.toInt) (fun h231 => ?_) (fun h231 => ?_)
                                          · refine q_iinc (lv9 := fun z13833 => [(7, .int z13833), (0, .ref (ad 129)), (1, .int a), (2, .int b), (3, .int c), (4, .int r13797), (5, .int r13802), (6, .int w164_8), (8, .int w164_8), (9, .int w227_9)]) hM dX12_taught_254 hl (kq := 7) rfl (by decide) (fun _ => rfl) (fun z13833 ls hz13833 hl => ?_)
                                            first | have tz13833 := i_addT hz13833 (rfl : w124_7.toInt = w124_7.toInt) (kc_1 : (Int32.ofInt 1).toInt = 1) (by omega) (by omega) | skip
                                            refine q_goto (tgt := 124) hM dX12_taught_257 (by decide) ?_
                                            exact ih124 w164_8 z13833 w124_7.toInt.toNat _ _ _ _ (by omega) hG (by omega) (by omega) (by omega) (by omega) (by omega) (by rw [show z13833.toInt.toNat = w124_7.toInt.toNat + 1 by omega]; exact BT_yes i124_6 ok8 sm9 (by omega)) (Or.inr (fun j hj => by rw [i227_3 j (by omega)]; exact rw9 j hj)) (by rw [d227_171]; exact so9) (by rw [d227_178]; exact ta9) (lv_sub hl [1, 2, 3, 4, 5, 6, 7, 0] rfl) hW
                                          · refine q_aload_n hM dX12_taught_234 (lv_at hl 0 rfl) ?_
                                            refine w_get (v := .ref (ad 173)) hM hW FG_X12_145 lb_129 (rf_129_79 hW.2.1) dX12_taught_235 ?_
                                            refine q_iload hM dX12_taught_238 (lv_at hl 9 rfl) ?_
                                            refine q_aload_n hM dX12_taught_240 (lv_at hl 0 rfl) ?_
                                            refine w_get (v := .ref (ad 172)) hM hW FG_X12_142 lb_129 (rf_129_78 hW.2.1) dX12_taught_241 ?_
                                            refine q_iload hM dX12_taught_244 (lv_at hl 9 rfl) ?_
                                            refine w_iald hM hW lb_172 (i_in (by omega) (by omega)) dX12_taught_246 ?_
                                            refine q_top (fun y13835 hy13835 => ?_)
                                            have by13835 := hG.a hy13835 rA_172
                                            rw [d227_172] at hy13835
                                            refine w_iast hM hW lb_173 (by omega) (i_in (by omega) (by omega)) dX12_taught_247 (fun g13836 H locs hW e1 e2 => ?_)
                                            have f13837 : arI g13836 172 = arI g13821 172 := (e2.2.1 172 (by unfold Only; omega)).trans d227_172
                                            have f13838 : arI g13836 171 = arI g13821 171 := (e2.2.1 171 (by unfold Only; omega)).trans d227_171
                                            have f13839 : arI g13836 178 = arI g13821 178 := (e2.2.1 178 (by unfold Only; omega)).trans d227_178
                                            have f13840 := e1
                                            rw [(rfl : arI h9_227 173 = arI h9_227 173)] at f13840
                                            have hG := hG.st e1 e2 rA_173 (by have := i_rng y13835; omega) (by have := i_rng y13835; omega)
                                            refine q_iinc (lv9 := fun z13841 => [(9, .int z13841), (0, .ref (ad 129)), (1, .int a), (2, .int b), (3, .int c), (4, .int r13797), (5, .int r13802), (6, .int w164_8), (7, .int w124_7), (8, .int w164_8)]) hM dX12_taught_248 hl (kq := 9) rfl (by decide) (fun _ => rfl) (fun z13841 ls hz13841 hl => ?_)
                                            first | have tz13841 := i_addT hz13841 (rfl : w227_9.toInt = w227_9.toInt) (kc_1 : (Int32.ofInt 1).toInt = 1) (by omega) (by omega) | skip
                                            refine q_goto (tgt := 227) hM dX12_taught_251 (by decide) ?_
                                            exact ih227 z13841 _ _ _ _ (by omega) hG (by omega) (by omega) (by rw [f13840]; exact row_cp rfl i227_3 hy13835 (by omega)) f13837 f13838 f13839 (lv_sub hl [1, 2, 3, 4, 5, 6, 7, 8, 9, 0] rfl) hW
                                      have := kc_0
                                      exact L227 _ (0 : Int32) _ _ _ _ (Nat.lt_succ_self _) hG (by omega) (by omega) (fun j hj => absurd hj (by have := kc_0; omega)) (rfl : arI g13821 172 = arI g13821 172) (rfl : arI g13821 171 = arI g13821 171) (rfl : arI g13821 178 = arI g13821 178) (lv_sub hl [2, 3, 4, 5, 6, 7, 1, 8, 9, 0] rfl) hW
                                    · have sm9 : w164_8.toInt = WM g0 a b (cn b 6) w124_7.toInt.toNat := by have e9 := i164_2; rw [show w164_9.toInt.toNat = cn b 6 by omega] at e9; exact e9
                                      refine q_goto (tgt := 254) hM dX12_taught_217 (by decide) ?_
                                      refine q_iinc (lv9 := fun z13843 => [(7, .int z13843), (0, .ref (ad 129)), (1, .int a), (2, .int b), (3, .int c), (4, .int r13797), (5, .int r13802), (6, .int w124_6), (8, .int w164_8), (9, .int w164_9)]) hM dX12_taught_254 hl (kq := 7) rfl (by decide) (fun _ => rfl) (fun z13843 ls hz13843 hl => ?_)
                                      first | have tz13843 := i_addT hz13843 (rfl : w124_7.toInt = w124_7.toInt) (kc_1 : (Int32.ofInt 1).toInt = 1) (by omega) (by omega) | skip
                                      refine q_goto (tgt := 124) hM dX12_taught_257 (by decide) ?_
                                      exact ih124 w124_6 z13843 bb _ _ _ _ (by omega) hG (by omega) (by omega) (by omega) (by omega) (by omega) (by rw [show z13843.toInt.toNat = w124_7.toInt.toNat + 1 by omega]; exact BT_no i124_6 (Or.inr (by omega))) (by rw [f13824]; exact i124_7) (by rw [f13822]; exact i124_8) (by rw [f13823]; exact i124_9) (lv_sub hl [1, 2, 3, 4, 5, 6, 7, 0] rfl) hW
                                  · refine q_iload hM dX12_taught_171 (lv_at hl 8 rfl) ?_
                                    refine q_aload_n hM dX12_taught_173 (lv_at hl 0 rfl) ?_
                                    refine w_get (v := .ref (ad 177)) hM hW FG_X12_157 lb_129 (rf_129_83 hW.2.1) dX12_taught_174 ?_
                                    refine q_bipush (v := (6 : Int32)) hM dX12_taught_177 (by decide) ?_
                                    refine q_aload_n hM dX12_taught_179 (lv_at hl 0 rfl) ?_
                                    refine w_get (v := .ref (ad 171)) hM hW FG_X12_139 lb_129 (rf_129_77 hW.2.1) dX12_taught_180 ?_
                                    refine q_aload_n hM dX12_taught_183 (lv_at hl 0 rfl) ?_
                                    refine w_get (v := .ref (ad 172)) hM hW FG_X12_142 lb_129 (rf_129_78 hW.2.1) dX12_taught_184 ?_
                                    refine q_iload hM dX12_taught_187 (lv_at hl 9 rfl) ?_
                                    refine w_iald hM hW lb_172 (i_in (by omega) (by omega)) dX12_taught_189 ?_
                                    refine q_top (fun y13845 hy13845 => ?_)
                                    have by13845 := hG.a hy13845 rA_172
                                    have tyy13845 : y13845.toInt = (dg (cn b 6) (cn b 6) w124_7.toInt.toNat w164_9.toInt.toNat : Int) := by rw [hy13845]; exact rw9 w164_9.toInt.toNat (by omega)
                                    have dly13845 : dg (cn b 6) (cn b 6) w124_7.toInt.toNat w164_9.toInt.toNat < cn b 6 := dg_lt (by omega)
                                    refine w_iald hM hW lb_171 (i_in (by omega) (by omega)) dX12_taught_190 ?_
                                    refine q_top (fun y13846 hy13846 => ?_)
                                    have by13846 := hG.a hy13846 rA_171
                                    have tyy13846 : y13846.toInt = (nth a (dg (cn b 6) (cn b 6) w124_7.toInt.toNat w164_9.toInt.toNat) : Int) := by rw [hy13846, show y13845.toNatClampNeg = dg (cn b 6) (cn b 6) w124_7.toInt.toNat w164_9.toInt.toNat by show y13845.toInt.toNat = _; omega]; exact so9 _ (by omega)
                                    have nm9 := nth_ok (s := a) (j := dg (cn b 6) (cn b 6) w124_7.toInt.toNat w164_9.toInt.toNat) (by omega)
                                    have nm8 := bt_lt (n := 5) (by omega) (by omega) nm9.2.1
                                    refine q_imul hM dX12_taught_191 (fun z13847 hz13847 => ?_)
                                    first | have tz13847 := i_mulT hz13847 (kc_6 : (6 : Int32).toInt = 6) (rfl : y13846.toInt = y13846.toInt) (by omega) (by omega) | skip
                                    refine q_aload_n hM dX12_taught_192 (lv_at hl 0 rfl) ?_
                                    refine w_get (v := .ref (ad 178)) hM hW FG_X12_160 lb_129 (rf_129_84 hW.2.1) dX12_taught_193 ?_
                                    refine q_iload hM dX12_taught_196 (lv_at hl 9 rfl) ?_
                                    refine w_iald hM hW lb_178 (i_in (by omega) (by omega)) dX12_taught_198 ?_
                                    refine q_top (fun y13848 hy13848 => ?_)
                                    have by13848 := hG.a hy13848 rA_178
                                    have tyy13848 : y13848.toInt = (nth b w164_9.toInt.toNat : Int) := by rw [hy13848]; exact ta9 w164_9.toInt.toNat (by omega)
                                    have nk9 := nth_ok (s := b) (j := w164_9.toInt.toNat) (by omega)
                                    have nk8 := bt_lt (n := 6) (by omega) (by omega) nk9.2.1
                                    refine q_iadd hM dX12_taught_199 (fun z13849 hz13849 => ?_)
                                    first | have tz13849 := i_addT hz13849 (rfl : z13847.toInt = z13847.toInt) (rfl : y13848.toInt = y13848.toInt) (by omega) (by omega) | skip
                                    refine w_iald hM hW lb_177 (i_in (by omega) (by omega)) dX12_taught_200 ?_
                                    refine q_top (fun y13850 hy13850 => ?_)
                                    have tyy13850 : y13850.toInt = wR g0 (nth a (dg (cn b 6) (cn b 6) w124_7.toInt.toNat w164_9.toInt.toNat)) (nth b w164_9.toInt.toNat) := by
                                      unfold wR
                                      rw [if_pos ⟨nm8, nk8⟩, hy13850, show z13849.toNatClampNeg = 6 * (nth a (dg (cn b 6) (cn b 6) w124_7.toInt.toNat w164_9.toInt.toNat)) + (nth b w164_9.toInt.toNat) by show z13849.toInt.toNat = _; omega, hW.2.2.2.1 177 (by omega)]
                                    have rby13850 : 0 ≤ y13850.toInt ∧ y13850.toInt ≤ 99 := by
                                      have e9 := hWS (nth a (dg (cn b 6) (cn b 6) w124_7.toInt.toNat w164_9.toInt.toNat)) (nth b w164_9.toInt.toNat) nm8 nk8
                                      rw [tyy13850]; unfold wR; rw [if_pos ⟨nm8, nk8⟩]; exact e9
                                    refine q_iadd hM dX12_taught_201 (fun z13851 hz13851 => ?_)
                                    first | have tz13851 := i_addT hz13851 (rfl : w164_8.toInt = w164_8.toInt) (rfl : y13850.toInt = y13850.toInt) (by omega) (by omega) | skip
                                    refine q_istore (lv9 := [(8, .int z13851), (0, .ref (ad 129)), (1, .int a), (2, .int b), (3, .int c), (4, .int r13797), (5, .int r13802), (6, .int w124_6), (7, .int w124_7), (9, .int w164_9)]) hM dX12_taught_202 hl (by decide) rfl (fun ls hl => ?_)
                                    refine q_iinc (lv9 := fun z13852 => [(9, .int z13852), (8, .int z13851), (0, .ref (ad 129)), (1, .int a), (2, .int b), (3, .int c), (4, .int r13797), (5, .int r13802), (6, .int w124_6), (7, .int w124_7)]) hM dX12_taught_204 hl (kq := 9) rfl (by decide) (fun _ => rfl) (fun z13852 ls hz13852 hl => ?_)
                                    first | have tz13852 := i_addT hz13852 (rfl : w164_9.toInt = w164_9.toInt) (kc_1 : (Int32.ofInt 1).toInt = 1) (by omega) (by omega) | skip
                                    refine q_goto (tgt := 164) hM dX12_taught_207 (by decide) ?_
                                    exact ih164 z13851 z13852 _ _ _ (by omega) hG (by omega) (by rw [show z13852.toInt.toNat = w164_9.toInt.toNat + 1 by omega, wM_s, ← tyy13850]; omega) (by omega) (by omega) (by omega) (lv_sub hl [2, 3, 4, 5, 6, 7, 8, 9, 1, 0] rfl) hW
                              have := kc_0
                              have := kc_0
                              exact L164 _ (0 : Int32) (0 : Int32) _ _ _ (Nat.lt_succ_self _) hG (by omega) (by rw [kc_0]; rfl) (by omega) (by omega) (by omega) (lv_sub hl [2, 3, 4, 5, 6, 7, 8, 9, 1, 0] rfl) hW
                            · have ok8 := fun z9 => (hr13825.elim (fun h => absurd h.1 (by omega)) (fun h => h.2)) (ok9.mpr z9)
                              refine q_goto (tgt := 254) hM dX12_taught_155 (by decide) ?_
                              refine q_iinc (lv9 := fun z13854 => [(7, .int z13854), (0, .ref (ad 129)), (1, .int a), (2, .int b), (3, .int c), (4, .int r13797), (5, .int r13802), (6, .int w124_6)]) hM dX12_taught_254 hl (kq := 7) rfl (by decide) (fun _ => rfl) (fun z13854 ls hz13854 hl => ?_)
                              first | have tz13854 := i_addT hz13854 (rfl : w124_7.toInt = w124_7.toInt) (kc_1 : (Int32.ofInt 1).toInt = 1) (by omega) (by omega) | skip
                              refine q_goto (tgt := 124) hM dX12_taught_257 (by decide) ?_
                              exact ih124 w124_6 z13854 bb _ _ _ _ (by omega) hG (by omega) (by omega) (by omega) (by omega) (by omega) (by rw [show z13854.toInt.toNat = w124_7.toInt.toNat + 1 by omega]; exact BT_no i124_6 (Or.inl ok8)) (by rw [f13824]; exact i124_7) (by rw [f13822]; exact i124_8) (by rw [f13823]; exact i124_9) (lv_sub hl [1, 2, 3, 4, 5, 6, 7, 0] rfl) hW
                      have := kc_m1
                      have := kc_0
                      exact L124 _ ((-1) : Int32) (0 : Int32) 0 _ _ _ _ (Nat.lt_succ_self _) hG (by omega) (by omega) (by omega) (by omega) (by omega) (by rw [kc_0, kc_m1]; exact BT_0) (Or.inl kc_m1) s113 s114 (lv_sub hl [3, 4, 5, 6, 7, 2, 1, 0] rfl) hW
                    · refine q_aload_n hM dX12_taught_91 (lv_at hl 0 rfl) ?_
                      refine w_get (v := .ref (ad 178)) hM hW FG_X12_160 lb_129 (rf_129_84 hW.2.1) dX12_taught_92 ?_
                      refine q_iload hM dX12_taught_95 (lv_at hl 5 rfl) ?_
                      refine q_aload_n hM dX12_taught_97 (lv_at hl 0 rfl) ?_
                      refine w_get (v := .ref (ad 171)) hM hW FG_X12_139 lb_129 (rf_129_77 hW.2.1) dX12_taught_98 ?_
                      refine q_iload hM dX12_taught_101 (lv_at hl 5 rfl) ?_
                      refine w_iald hM hW lb_171 (i_in (by omega) (by omega)) dX12_taught_103 ?_
                      refine q_top (fun y13856 hy13856 => ?_)
                      have by13856 := hG.a hy13856 rA_171
                      rw [d84_171] at hy13856
                      refine w_iast hM hW lb_178 (by omega) (i_in (by omega) (by omega)) dX12_taught_104 (fun g13857 H locs hW e1 e2 => ?_)
                      have f13858 : arI g13857 171 = arI g13799 171 := (e2.2.1 171 (by unfold Only; omega)).trans d84_171
                      have f13859 := e1
                      rw [(rfl : arI h9_84 178 = arI h9_84 178)] at f13859
                      have hG := hG.st e1 e2 rA_178 (by have := i_rng y13856; omega) (by have := i_rng y13856; omega)
                      refine q_iinc (lv9 := fun z13860 => [(5, .int z13860), (0, .ref (ad 129)), (1, .int a), (2, .int b), (3, .int c), (4, .int r13797)]) hM dX12_taught_105 hl (kq := 5) rfl (by decide) (fun _ => rfl) (fun z13860 ls hz13860 hl => ?_)
                      first | have tz13860 := i_addT hz13860 (rfl : w84_5.toInt = w84_5.toInt) (kc_1 : (Int32.ofInt 1).toInt = 1) (by omega) (by omega) | skip
                      refine q_goto (tgt := 84) hM dX12_taught_108 (by decide) ?_
                      exact ih84 z13860 _ _ _ _ (by omega) hG (by omega) (by omega) (by rw [f13859]; exact row_cp rfl i84_3 hy13856 (by omega)) f13858 (lv_sub hl [1, 2, 3, 4, 5, 0] rfl) hW
                have := kc_0
                exact L84 _ (0 : Int32) _ _ _ _ (Nat.lt_succ_self _) hG (by omega) (by omega) (fun j hj => absurd hj (by have := kc_0; omega)) (rfl : arI g13799 171 = arI g13799 171) (lv_sub hl [2, 3, 4, 5, 1, 0] rfl) hW
              · refine q_iconst (v := ((-1) : Int32)) hM dX12_taught_72 (by decide) ?_
                exact hE _ _ _ _ _ _ hW.1 ⟨_, rfl, hW.2.1, hG, hW.2.2, (Or.inl ⟨fun q9 => by
                    obtain ⟨d1, d2, d3, d4, d5, d6, d7⟩ := q9
                    rcases d7 with d7 | ⟨d7, d8, d9⟩
                    · omega
                    · rw [mh_f hr13794 (by omega)] at d9; exact absurd d9 (by decide), kc_m1⟩)⟩ dX12_taught_73
