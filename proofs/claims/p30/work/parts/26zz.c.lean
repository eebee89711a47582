
set_option maxRecDepth 100000 in
set_option maxHeartbeats 4000000 in
theorem s_X9_assign (l : Launch) (D : va_G) (cA : Nat → ClassId) (ad : Nat → Nat) (g0 : Nat → va_E) (so : Int32) (aa : Int32)   (hSh : Shp ad cA g0) (hG : Rng g0) (hn1 : 1 ≤ cn aa 6) (hn5 : cn aa 6 ≤ 5) (so0 : 0 ≤ so.toInt) (so1 : so.toInt < 32) (aa0 : 0 ≤ aa.toInt) (aa1 : aa.toInt < 64) (hWS : ∀ m k : Nat, m < 5 → k < 6 → 0 ≤ (arI g0 (113 + 1 * m) k).toInt ∧ (arI g0 (113 + 1 * m) k).toInt ≤ 99) : CT l NN ad cA D yX9_assign cX9_assign 8 (some FieldType.int) (2, 50) [.ref (ad 102), .int so, .int aa] g0 (fun v g' => ∃ (r : Int32), v = some (.int r) ∧ Shp ad cA g' ∧ Rng g' ∧ FR (fun i k => i = 118 ∨ i = 119) g0 g' ∧ (∃ c9 : Nat, BT (okX so (cn aa 6)) (WX g0 aa (cn aa 6)) c9 r.toInt (5 ^ (cn aa 6)) ∧ (r.toInt = -1 ∨ ∀ k9 : Nat, k9 < 6 → bt aa k9 = true → (arI g' 118 k9).toInt = (dg 5 (cn aa 6) c9 (cn aa k9) : Int)))) := by
  refine q_enterI (by decide) (Nat.le_of_ble_eq_true rfl) rfl (fun K H locs ls _ _ hM hW0 hR hC hE hl => ?_)
  have hl : lv_has ls 8 [(0, .ref (ad 102)), (1, .int so), (2, .int aa)] := hl
  have hW : WS ad cA (fun i k => i = 118 ∨ i = 119) g0 K g0 H locs := ⟨hW0, hSh, FR.rf⟩
  have := kc_0
  have := kc_1
  have := kc_5
  have := kc_m1
  refine q_iconst (v := ((-1) : Int32)) hM dX9_assign_0 (by decide) ?_
  refine q_istore_n (lv9 := [(3, .int ((-1) : Int32)), (0, .ref (ad 102)), (1, .int so), (2, .int aa)]) hM dX9_assign_1 hl (by decide) rfl (fun ls hl => ?_)
  refine q_iconst (v := (5 : Int32)) hM dX9_assign_2 (by decide) ?_
  refine q_iconst (v := (5 : Int32)) hM dX9_assign_3 (by decide) ?_
  refine q_iload_n hM dX9_assign_4 (lv_at hl 3 rfl) ?_
  refine q_callS (As := [.int aa]) (rest := [.int (5 : Int32), .int (5 : Int32)]) hM hW.1 hR hC myJ6_bitCount_0f7a4 (kAW (v_3_12 (List.mem_of_getElem? (i := 15) rfl)) rfl) (c_J6_bitCount_0f7a4 _ _ cA ad g0 aa hW.2.1) ⟨by decide, by decide⟩ rfl rfl hl.1 (Nat.le_of_ble_eq_true rfl) dX9_assign_5 (fun v g13564 H locs hp hW1 => ?_)
  obtain ⟨r13563, rfl, hr13563, rfl⟩ := hp
  have hW : WS ad cA (fun i k => i = 118 ∨ i = 119) g0 K g0 H locs := ⟨hW1, hW.2.1, hW.2.2⟩
  have n9 := (congrArg Int32.toInt hr13563).trans (bc_cb (by omega) (by omega))
  have n8 := cn_6 aa0 (by omega)
  refine q_mmin hM hR hC (kAW (v_3_13 (List.mem_of_getElem? (i := 0) rfl)) rfl) hl.1 (by decide) (Nat.le_of_ble_eq_true rfl) dX9_assign_8 (fun r13565 hr13565 => ?_)
  have := kc_5
  refine q_callS (As := [.int (5 : Int32), .int r13565]) (rest := []) hM hW.1 hR hC myX9_power (kAW (v_3_13 (List.mem_of_getElem? (i := 1) rfl)) rfl) (s_X9_power _ _ cA ad g0 (5 : Int32) r13565 hW.2.1 hG (by have := kc_5; omega) (by have := kc_5; omega) (by have := kc_5; omega) (by have := kc_5; omega)) ⟨by decide, by decide⟩ rfl rfl hl.1 (Nat.le_of_ble_eq_true rfl) dX9_assign_11 (fun v g13567 H locs hp hW1 => ?_)
  obtain ⟨r13566, rfl, hr13566, rfl⟩ := hp
  have hW : WS ad cA (fun i k => i = 118 ∨ i = 119) g0 K g0 H locs := ⟨hW1, hW.2.1, hW.2.2⟩
  have hro9 : r13566.toInt = ((5 ^ cn aa 6 : Nat) : Int) := by rw [hr13566.1, kc_5, show r13565.toInt.toNat = cn aa 6 by omega]; rfl
  refine q_istore (lv9 := [(4, .int r13566), (3, .int ((-1) : Int32)), (0, .ref (ad 102)), (1, .int so), (2, .int aa)]) hM dX9_assign_14 hl (by decide) rfl (fun ls hl => ?_)
  refine q_iconst (v := (0 : Int32)) hM dX9_assign_16 (by decide) ?_
  refine q_istore (lv9 := [(5, .int (0 : Int32)), (4, .int r13566), (3, .int ((-1) : Int32)), (0, .ref (ad 102)), (1, .int so), (2, .int aa)]) hM dX9_assign_17 hl (by decide) rfl (fun ls hl => ?_)
  have L19 : ∀ (fu19 : Nat) (w19_3 : Int32) (w19_5 : Int32) (bb : Nat) (h9_19 : Nat → va_E) (H : Heap) (locs : List Loc) (ls : Array Slot), (r13566.toInt - w19_5.toInt + 1).toNat < fu19 → (Rng h9_19) → (0 ≤ w19_5.toInt) → (w19_5.toInt ≤ r13566.toInt) → (-1 ≤ w19_3.toInt ∧ w19_3.toInt ≤ 594) → (BT (okX so (cn aa 6)) (WX g0 aa (cn aa 6)) bb w19_3.toInt w19_5.toInt.toNat) → (w19_3.toInt = -1 ∨ ∀ k9 : Nat, k9 < 6 → bt aa k9 = true → (arI h9_19 118 k9).toInt = (dg 5 (cn aa 6) bb (cn aa k9) : Int)) → lv_has ls 8 [(0, .ref (ad 102)), (1, .int so), (2, .int aa), (3, .int w19_3), (4, .int r13566), (5, .int w19_5)] → WS ad cA (fun i k => i = 118 ∨ i = 119) g0 K h9_19 H locs → XX K 0 0 H locs 19 ls [] := by
    intro fu19
    induction fu19 with
    | zero => intro w19_3 w19_5 bb h9_19 H locs ls h0; omega
    | succ fu19 ih19 =>
      intro w19_3 w19_5 bb h9_19 H locs ls hm19 i19_0 i19_1 i19_2 i19_3 i19_4 i19_5 hl hW
      have hG := i19_0
      have := i_rng r13566
      refine q_iload hM dX9_assign_19 (lv_at hl 5 rfl) ?_
      refine q_iload hM dX9_assign_21 (lv_at hl 4 rfl) ?_
      refine q_icmp_ge (tgt := 83) hM dX9_assign_23 (by decide) (rfl : w19_5.toInt = w19_5.toInt) (rfl : r13566.toInt = r13566.toInt) (fun h23 => ?_) (fun h23 => ?_)
      · refine q_iload_n hM dX9_assign_83 (lv_at hl 3 rfl) ?_
        exact hE _ _ _ _ _ _ hW.1 ⟨_, rfl, hW.2.1, hG, hW.2.2, ⟨bb, by have e9 := i19_4; rw [show w19_5.toInt.toNat = 5 ^ cn aa 6 by omega] at e9; exact e9, i19_5⟩⟩ dX9_assign_84
      · refine q_aload_n hM dX9_assign_26 (lv_at hl 0 rfl) ?_
        refine q_iload hM dX9_assign_27 (lv_at hl 5 rfl) ?_
        refine q_iload hM dX9_assign_29 (lv_at hl 4 rfl) ?_
        refine q_iload_n hM dX9_assign_31 (lv_at hl 1 rfl) ?_
        refine q_iload_n hM dX9_assign_32 (lv_at hl 2 rfl) ?_
        have ew9 : wS h9_19 = wS g0 := wS_cg (fun m hm => hW.2.2.2.1 (113 + 1 * m) (by omega))
        refine q_callV (As := [.int w19_5, .int r13566, .int so, .int aa]) (rest := []) hM hW.1 hR hC myX9_skillOf (kAW (v_3_13 (List.mem_of_getElem? (i := 4) rfl)) rfl) (rfl : vwCl[9]? = some (RX9, TX9, 5)) rfl lb_102.1 (shO hW.2.1 lb_102) (s_X9_skillOf _ _ cA ad h9_19 w19_5 r13566 so aa hW.2.1 hG (by  omega) hn1 hn5 hro9 (by  omega) (by  omega) (by  omega) (by  omega) (by  omega) (fun m k hm hk => by rw [hW.2.2.2.1 (113 + 1 * m) (by omega)]; exact hWS m k hm hk)) ⟨by decide, by decide⟩ rfl rfl hl.1 (Nat.le_of_ble_eq_true rfl) dX9_assign_33 (fun v g13572 H locs hp hW1 => ?_)
        obtain ⟨r13571, rfl, hs1, hG, hf1, hr13571⟩ := hp
        have f13573 : arI g13572 118 = arI h9_19 118 := (hf1.2.1 118 (by omega)).trans (rfl : arI h9_19 118 = arI h9_19 118)
        have hW : WS ad cA (fun i k => i = 118 ∨ i = 119) g0 K g13572 H locs := ⟨hW1, hs1, hW.2.2.tr hf1 (fun i k h => (Or.inr h))⟩
        rw [ew9] at hr13571
        refine q_istore (lv9 := [(6, .int r13571), (0, .ref (ad 102)), (1, .int so), (2, .int aa), (3, .int w19_3), (4, .int r13566), (5, .int w19_5)]) hM dX9_assign_36 hl (by decide) rfl (fun ls hl => ?_)
        refine q_iload hM dX9_assign_38 (lv_at hl 0 rfl) ?_
        refine q_iload_n hM dX9_assign_40 (lv_at hl 4 rfl) ?_
        refine q_icmp_le (tgt := 77) hM dX9_assign_41 (by decide) (rfl : r13571.toInt = r13571.toInt) (rfl : w19_3.toInt = w19_3.toInt) (fun h41 => ?_) (fun h41 => ?_)
        · refine q_iinc (lv9 := fun z13575 => [(5, .int z13575), (6, .int r13571), (0, .ref (ad 102)), (1, .int so), (2, .int aa), (3, .int w19_3), (4, .int r13566)]) hM dX9_assign_77 hl (kq := 6) rfl (by decide) (fun _ => rfl) (fun z13575 ls hz13575 hl => ?_)
          first | have tz13575 := i_addT hz13575 (rfl : w19_5.toInt = w19_5.toInt) (kc_1 : (Int32.ofInt 1).toInt = 1) (by omega) (by omega) | skip
          refine q_goto (tgt := 19) hM dX9_assign_80 (by decide) ?_
          exact ih19 w19_3 z13575 bb _ _ _ _ (by omega) hG (by omega) (by omega) (by omega) (by
              rw [show z13575.toInt.toNat = w19_5.toInt.toNat + 1 by omega]
              rcases hr13571 with q9 | q9
              · exact BT_no i19_4 (Or.inl q9.2)
              · exact BT_no i19_4 (Or.inr (by have q8 : r13571.toInt = WX g0 aa (cn aa 6) w19_5.toInt.toNat := q9.1; omega))) (by rw [f13573]; exact i19_5) (lv_sub hl [2, 3, 4, 5, 6, 0] rfl) hW
        · have ok9 := hr13571.resolve_left (fun q9 => by have := q9.1; omega)
          refine q_iload hM dX9_assign_44 (lv_at hl 0 rfl) ?_
          refine q_istore_n (lv9 := [(3, .int r13571), (6, .int r13571), (0, .ref (ad 102)), (1, .int so), (2, .int aa), (4, .int r13566), (5, .int w19_5)]) hM dX9_assign_46 hl (by decide) rfl (fun ls hl => ?_)
          refine q_iconst (v := (0 : Int32)) hM dX9_assign_47 (by decide) ?_
          refine q_istore (lv9 := [(7, .int (0 : Int32)), (3, .int r13571), (6, .int r13571), (0, .ref (ad 102)), (1, .int so), (2, .int aa), (4, .int r13566), (5, .int w19_5)]) hM dX9_assign_48 hl (by decide) rfl (fun ls hl => ?_)
          have L50 : ∀ (fu50 : Nat) (w50_7 : Int32) (h9_50 : Nat → va_E) (H : Heap) (locs : List Loc) (ls : Array Slot), (6 - w50_7.toInt).toNat < fu50 → (Rng h9_50) → (0 ≤ w50_7.toInt) → (w50_7.toInt ≤ 6) → (∀ j : Nat, (j : Int) < w50_7.toInt → arI h9_50 118 j = arI g13572 119 j) → (arI h9_50 119 = arI g13572 119) → lv_has ls 8 [(0, .ref (ad 102)), (1, .int so), (2, .int aa), (3, .int r13571), (4, .int r13566), (5, .int w19_5), (6, .int r13571), (7, .int w50_7)] → WS ad cA (fun i k => i = 118 ∨ i = 119) g0 K h9_50 H locs → XX K 0 0 H locs 50 ls [] := by
            intro fu50
            induction fu50 with
            | zero => intro w50_7 h9_50 H locs ls h0; omega
            | succ fu50 ih50 =>
              intro w50_7 h9_50 H locs ls hm50 i50_0 i50_1 i50_2 i50_3 d50_119 hl hW
              have hG := i50_0
              refine q_iload hM dX9_assign_50 (lv_at hl 7 rfl) ?_
              refine q_bipush (v := (6 : Int32)) hM dX9_assign_52 (by decide) ?_
              refine q_icmp_ge (tgt := 77) hM dX9_assign_54 (by decide) (rfl : w50_7.toInt = w50_7.toInt) (kc_6 : (6 : Int32).toInt = 6) (fun h54 => ?_) (fun h54 => ?_)
              · refine q_iinc (lv9 := fun z13579 => [(5, .int z13579), (0, .ref (ad 102)), (1, .int so), (2, .int aa), (3, .int r13571), (4, .int r13566), (6, .int r13571), (7, .int w50_7)]) hM dX9_assign_77 hl (kq := 5) rfl (by decide) (fun _ => rfl) (fun z13579 ls hz13579 hl => ?_)
                first | have tz13579 := i_addT hz13579 (rfl : w19_5.toInt = w19_5.toInt) (kc_1 : (Int32.ofInt 1).toInt = 1) (by omega) (by omega) | skip
                refine q_goto (tgt := 19) hM dX9_assign_80 (by decide) ?_
                exact ih19 r13571 z13579 w19_5.toInt.toNat _ _ _ _ (by omega) hG (by omega) (by omega) (by omega) (by rw [show z13579.toInt.toNat = w19_5.toInt.toNat + 1 by omega]; exact BT_yes i19_4 ok9.2.2.2.1 ok9.1 (by omega)) (Or.inr (fun k9 h9 hb9 => by rw [i50_3 k9 (by omega)]; exact ok9.2.2.2.2 k9 h9 hb9)) (lv_sub hl [1, 2, 3, 4, 5, 0] rfl) hW
              · refine q_aload_n hM dX9_assign_57 (lv_at hl 0 rfl) ?_
                refine w_get (v := .ref (ad 118)) hM hW FG_X9_19 lb_102 (rf_102_2 hW.2.1) dX9_assign_58 ?_
                refine q_iload hM dX9_assign_61 (lv_at hl 7 rfl) ?_
                refine q_aload_n hM dX9_assign_63 (lv_at hl 0 rfl) ?_
                refine w_get (v := .ref (ad 119)) hM hW FG_X9_23 lb_102 (rf_102_3 hW.2.1) dX9_assign_64 ?_
                refine q_iload hM dX9_assign_67 (lv_at hl 7 rfl) ?_
                refine w_iald hM hW lb_119 (i_in (by omega) (by omega)) dX9_assign_69 ?_
                refine q_top (fun y13581 hy13581 => ?_)
                rw [d50_119] at hy13581
                refine w_iast hM hW lb_118 (by omega) (i_in (by omega) (by omega)) dX9_assign_70 (fun g13582 H locs hW e1 e2 => ?_)
                have f13583 : arI g13582 119 = arI g13572 119 := (e2.2.1 119 (by unfold Only; omega)).trans d50_119
                have f13584 := e1
                rw [(rfl : arI h9_50 118 = arI h9_50 118)] at f13584
                have hG := hG.st e1 e2 (rfl : rA 118 = (-2147483648, 2147483647)) (by have := i_rng y13581; omega) (by have := i_rng y13581; omega)
                refine q_iinc (lv9 := fun z13585 => [(7, .int z13585), (0, .ref (ad 102)), (1, .int so), (2, .int aa), (3, .int r13571), (4, .int r13566), (5, .int w19_5), (6, .int r13571)]) hM dX9_assign_71 hl (kq := 7) rfl (by decide) (fun _ => rfl) (fun z13585 ls hz13585 hl => ?_)
                first | have tz13585 := i_addT hz13585 (rfl : w50_7.toInt = w50_7.toInt) (kc_1 : (Int32.ofInt 1).toInt = 1) (by omega) (by omega) | skip
                refine q_goto (tgt := 50) hM dX9_assign_74 (by decide) ?_
                exact ih50 z13585 _ _ _ _ (by omega) hG (by omega) (by omega) (by rw [f13584]; exact row_cp rfl i50_3 hy13581 (by omega)) f13583 (lv_sub hl [1, 2, 3, 4, 5, 6, 7, 0] rfl) hW
          have := kc_0
          exact L50 _ (0 : Int32) _ _ _ _ (Nat.lt_succ_self _) hG (by omega) (by omega) (fun j hj => absurd hj (by have := kc_0; omega)) (rfl : arI g13572 119 = arI g13572 119) (lv_sub hl [3, 4, 5, 1, 6, 7, 2, 0] rfl) hW
  have := kc_m1
  have := kc_0
  exact L19 _ ((-1) : Int32) (0 : Int32) 0 _ _ _ _ (Nat.lt_succ_self _) hG (by omega) (by omega) (by omega) (by rw [kc_0, kc_m1]; exact BT_0) (Or.inl kc_m1) (lv_sub hl [3, 4, 5, 2, 1, 0] rfl) hW


set_option maxRecDepth 100000 in
set_option maxHeartbeats 4000000 in
theorem s_X11_taught (l : Launch) (D : va_G) (cA : Nat → ClassId) (ad : Nat → Nat) (g0 : Nat → va_E) (a : Int32) (b : Int32) (c : Int32) (td : Int32)  (hSh : Shp ad cA g0) (hG : Rng g0) (h_td : fld g0 102 4 = .int td) (hWS : ∀ m k : Nat, m < 5 → k < 6 → 0 ≤ (arI g0 (113 + 1 * m) k).toInt ∧ (arI g0 (113 + 1 * m) k).toInt ≤ 99) : CT l NN ad cA D yX11_taught cX11_taught 5 (some FieldType.int) (3, 77) [.ref (ad 0), .int a, .int b, .int c] g0 (fun v g' => ∃ (r : Int32), v = some (.int r) ∧ Shp ad cA g' ∧ Rng g' ∧ FR (fun i k => i = 118 ∨ i = 119) g0 g' ∧ ((¬ (a &&& (td ^^^ (-1)) = 0 ∧ 1 ≤ b.toInt ∧ b.toInt ≤ 63 ∧ cb a 12 = cb b 12 ∧ (c.toInt = 20 ∨ (0 ≤ c.toInt ∧ c.toInt ≤ 5 ∧ bt b c.toInt.toNat = true))) ∧ r.toInt = -1) ∨ ((a &&& (td ^^^ (-1)) = 0 ∧ 1 ≤ b.toInt ∧ b.toInt ≤ 63 ∧ cb a 12 = cb b 12 ∧ (c.toInt = 20 ∨ (0 ≤ c.toInt ∧ c.toInt ≤ 5 ∧ bt b c.toInt.toNat = true))) ∧ ∃ (c9 : Nat) (m9 : Int), BT (okX a (cn b 6)) (WX g0 b (cn b 6)) c9 m9 (5 ^ cn b 6) ∧ ((c.toInt = 20 ∧ r.toInt = m9) ∨ (c.toInt ≠ 20 ∧ (m9 = -1 ∨ r.toInt = (dg 5 (cn b 6) c9 (cn b c.toInt.toNat) : Int))))))) := by
  refine q_enterI (by decide) (Nat.le_of_ble_eq_true rfl) rfl (fun K H locs ls _ _ hM hW0 hR hC hE hl => ?_)
  have hl : lv_has ls 5 [(0, .ref (ad 0)), (1, .int a), (2, .int b), (3, .int c)] := hl
  have hW : WS ad cA (fun i k => i = 118 ∨ i = 119) g0 K g0 H locs := ⟨hW0, hSh, FR.rf⟩
  have b_td := hG.f h_td rF_102_4 (by decide)
  have := kc_0
  have := kc_1
  have := kc_m1
  have := kc_20
  have bt9 := hG.f h_td rF_102_4 (by decide)
  refine q_iload_n hM dX11_taught_0 (lv_at hl 1 rfl) ?_
  refine q_aload_n hM dX11_taught_1 (lv_at hl 0 rfl) ?_
  refine w_get (v := .ref (ad 102)) hM hW FG_X11_90 lb_0 (rf_0_3 hW.2.1) dX11_taught_2 ?_
  refine w_get (v := .int td) hM hW FG_X11_273 lb_102 ((hW.2.2.1 102 4 (by omega)).trans h_td) dX11_taught_5 ?_
  refine q_callS (As := [.int a, .int td]) (rest := []) hM hW.1 hR hC myX11_areOf (kAW (v_3_4 (List.mem_of_getElem? (i := 6) rfl)) rfl) (c_X11_areOf _ _ cA ad g0 a td hW.2.1) ⟨by decide, by decide⟩ rfl rfl hl.1 (Nat.le_of_ble_eq_true rfl) dX11_taught_8 (fun v g13587 H locs hp hW1 => ?_)
  obtain ⟨r13586, rfl, hr13586, rfl⟩ := hp
  have hW : WS ad cA (fun i k => i = 118 ∨ i = 119) g0 K g0 H locs := ⟨hW1, hW.2.1, hW.2.2⟩
  refine q_if_eq (tgt := 35) hM dX11_taught_11 (by decide) (rfl : r13586.toInt = r13586.toInt) (fun h11 => ?_) (fun h11 => ?_)
  · refine q_iconst (v := ((-1) : Int32)) hM dX11_taught_35 (by decide) ?_
    exact hE _ _ _ _ _ _ hW.1 ⟨_, rfl, hW.2.1, hG, hW.2.2, (Or.inl ⟨fun q9 => by
        obtain ⟨d1, d2, d3, d4, d5⟩ := q9
        first | exact a_f hr13586 (by omega) d1 | omega, kc_m1⟩)⟩ dX11_taught_36
  · refine q_iload_n hM dX11_taught_14 (lv_at hl 2 rfl) ?_
    refine q_iconst (v := (1 : Int32)) hM dX11_taught_15 (by decide) ?_
    refine q_bipush (v := (63 : Int32)) hM dX11_taught_16 (by decide) ?_
    refine q_callS (As := [.int b, .int (1 : Int32), .int (63 : Int32)]) (rest := []) hM hW.1 hR hC myX11_within (kAW (v_1_10 (List.mem_of_getElem? (i := 1) rfl)) rfl) (c_X11_within _ _ cA ad g0 b (1 : Int32) (63 : Int32) hW.2.1) ⟨by decide, by decide⟩ rfl rfl hl.1 (Nat.le_of_ble_eq_true rfl) dX11_taught_18 (fun v g13591 H locs hp hW1 => ?_)
    obtain ⟨r13590, rfl, hr13590, rfl⟩ := hp
    have hW : WS ad cA (fun i k => i = 118 ∨ i = 119) g0 K g0 H locs := ⟨hW1, hW.2.1, hW.2.2⟩
    have := kc_1
    have := kc_63
    refine q_if_eq (tgt := 35) hM dX11_taught_21 (by decide) (rfl : r13590.toInt = r13590.toInt) (fun h21 => ?_) (fun h21 => ?_)
    · refine q_iconst (v := ((-1) : Int32)) hM dX11_taught_35 (by decide) ?_
      exact hE _ _ _ _ _ _ hW.1 ⟨_, rfl, hW.2.1, hG, hW.2.2, (Or.inl ⟨fun q9 => by
          obtain ⟨d1, d2, d3, d4, d5⟩ := q9
          first | exact a_f hr13586 (by omega) d1 | omega, kc_m1⟩)⟩ dX11_taught_36
    · refine q_iload_n hM dX11_taught_24 (lv_at hl 1 rfl) ?_
      refine q_callS (As := [.int a]) (rest := []) hM hW.1 hR hC myJ6_bitCount_0f7a4 (kAW (v_3_1 (List.mem_of_getElem? (i := 2) rfl)) rfl) (c_J6_bitCount_0f7a4 _ _ cA ad g0 a hW.2.1) ⟨by decide, by decide⟩ rfl rfl hl.1 (Nat.le_of_ble_eq_true rfl) dX11_taught_25 (fun v g13595 H locs hp hW1 => ?_)
      obtain ⟨r13594, rfl, hr13594, rfl⟩ := hp
      have hW : WS ad cA (fun i k => i = 118 ∨ i = 119) g0 K g0 H locs := ⟨hW1, hW.2.1, hW.2.2⟩
      have in9 := sub_in (by omega) (a_t hr13586 (by omega))
      have n9 := (congrArg Int32.toInt hr13594).trans (bc_cb (by omega) (by omega))
      refine q_iload_n hM dX11_taught_28 (lv_at hl 2 rfl) ?_
      refine q_callS (As := [.int b]) (rest := [.int r13594]) hM hW.1 hR hC myJ6_bitCount_0f7a4 (kAW (v_3_1 (List.mem_of_getElem? (i := 2) rfl)) rfl) (c_J6_bitCount_0f7a4 _ _ cA ad g0 b hW.2.1) ⟨by decide, by decide⟩ rfl rfl hl.1 (Nat.le_of_ble_eq_true rfl) dX11_taught_29 (fun v g13597 H locs hp hW1 => ?_)
      obtain ⟨r13596, rfl, hr13596, rfl⟩ := hp
      have hW : WS ad cA (fun i k => i = 118 ∨ i = 119) g0 K g0 H locs := ⟨hW1, hW.2.1, hW.2.2⟩
      have n8 := (congrArg Int32.toInt hr13596).trans (bc_cb (by omega) (by omega))
      refine q_icmp_eq (tgt := 37) hM dX11_taught_32 (by decide) (rfl : r13594.toInt = r13594.toInt) (rfl : r13596.toInt = r13596.toInt) (fun h32 => ?_) (fun h32 => ?_)
      · have n7 := cn_6 (s := b) (by omega) (by omega)
        have n6 := cn_5 (s := a) (by omega) (by omega)
        have n5 := pos_64 (s := b) (by omega) (by omega)
        refine q_iload_n hM dX11_taught_37 (lv_at hl 3 rfl) ?_
        refine q_bipush (v := (20 : Int32)) hM dX11_taught_38 (by decide) ?_
        refine q_icmp_eq (tgt := 53) hM dX11_taught_40 (by decide) (rfl : c.toInt = c.toInt) (kc_20 : (20 : Int32).toInt = 20) (fun h40 => ?_) (fun h40 => ?_)
        · refine q_aload_n hM dX11_taught_53 (lv_at hl 0 rfl) ?_
          refine w_get (v := .ref (ad 102)) hM hW FG_X11_90 lb_0 (rf_0_3 hW.2.1) dX11_taught_54 ?_
          refine q_iload_n hM dX11_taught_57 (lv_at hl 1 rfl) ?_
          refine q_iload_n hM dX11_taught_58 (lv_at hl 2 rfl) ?_
          refine q_callV (As := [.int a, .int b]) (rest := []) hM hW.1 hR hC myX9_assign (kAW (v_3_12 (List.mem_of_getElem? (i := 11) rfl)) rfl) (rfl : vwCl[9]? = some (RX9, TX9, 5)) rfl lb_102.1 (shO hW.2.1 lb_102) (s_X9_assign _ _ cA ad g0 a b hW.2.1 hG (by omega) (by omega) (by  omega) (by  omega) (by  omega) (by  omega) hWS) ⟨by decide, by decide⟩ rfl rfl hl.1 (Nat.le_of_ble_eq_true rfl) dX11_taught_59 (fun v g13601 H locs hp hW1 => ?_)
          obtain ⟨r13600, rfl, hs1, hG, hf1, hr13600⟩ := hp
          have hW : WS ad cA (fun i k => i = 118 ∨ i = 119) g0 K g13601 H locs := ⟨hW1, hs1, hW.2.2.tr hf1 (fun i k h => h.elim (fun h => (Or.inl h)) (fun h => (Or.inr h)))⟩
          refine q_istore (lv9 := [(4, .int r13600), (0, .ref (ad 0)), (1, .int a), (2, .int b), (3, .int c)]) hM dX11_taught_62 hl (by decide) rfl (fun ls hl => ?_)
          refine q_iload_n hM dX11_taught_64 (lv_at hl 4 rfl) ?_
          refine q_bipush (v := (20 : Int32)) hM dX11_taught_65 (by decide) ?_
          refine q_icmp_ne (tgt := 75) hM dX11_taught_67 (by decide) (rfl : c.toInt = c.toInt) (kc_20 : (20 : Int32).toInt = 20) (fun h67 => ?_) (fun h67 => ?_)
          · omega
          · refine q_iload hM dX11_taught_70 (lv_at hl 0 rfl) ?_
            refine q_goto (tgt := 84) hM dX11_taught_72 (by decide) ?_
            exact hE _ _ _ _ _ _ hW.1 ⟨_, rfl, hW.2.1, hG, hW.2.2, (by
                obtain ⟨c9, s9, s8⟩ := hr13600
                exact Or.inr ⟨⟨a_t hr13586 (by omega), by omega, by omega, by omega, Or.inl (by omega)⟩, c9, r13600.toInt, s9, Or.inl ⟨by omega, rfl⟩⟩)⟩ dX11_taught_84
        · refine q_iload_n hM dX11_taught_43 (lv_at hl 2 rfl) ?_
          refine q_iload_n hM dX11_taught_44 (lv_at hl 3 rfl) ?_
          refine q_callS (As := [.int b, .int c]) (rest := []) hM hW.1 hR hC myX11_has (kAW (v_1_10 (List.mem_of_getElem? (i := 8) rfl)) rfl) (c_X11_has _ _ cA ad g0 b c hW.2.1) ⟨by decide, by decide⟩ rfl rfl hl.1 (Nat.le_of_ble_eq_true rfl) dX11_taught_45 (fun v g13606 H locs hp hW1 => ?_)
          obtain ⟨r13605, rfl, hr13605, rfl⟩ := hp
          have hW : WS ad cA (fun i k => i = 118 ∨ i = 119) g0 K g0 H locs := ⟨hW1, hW.2.1, hW.2.2⟩
          have hbr13605 := has_bi hr13605
          have hcr13605 := bi_01 b c
          first | have ltr13605 := has_lt 5 hr13605 (by omega) (by omega) | have ltr13605 := has_lt 6 hr13605 (by omega) (by omega) | have ltr13605 := has_lt 8 hr13605 (by omega) (by omega) | have ltr13605 := has_lt 12 hr13605 (by omega) (by omega) | skip
          refine q_if_ne (tgt := 53) hM dX11_taught_48 (by decide) (rfl : r13605.toInt = r13605.toInt) (fun h48 => ?_) (fun h48 => ?_)
          · have hb9 := has_t hr13605 (by omega)
            have hc9 := bt_lt (n := 6) (by omega) (by omega) hb9
            have hc8 : 0 ≤ c.toInt := hr13605.elim (fun h => h.2.1) (fun h => absurd h.1 (by omega))
            refine q_aload_n hM dX11_taught_53 (lv_at hl 0 rfl) ?_
            refine w_get (v := .ref (ad 102)) hM hW FG_X11_90 lb_0 (rf_0_3 hW.2.1) dX11_taught_54 ?_
            refine q_iload_n hM dX11_taught_57 (lv_at hl 1 rfl) ?_
            refine q_iload_n hM dX11_taught_58 (lv_at hl 2 rfl) ?_
            refine q_callV (As := [.int a, .int b]) (rest := []) hM hW.1 hR hC myX9_assign (kAW (v_3_12 (List.mem_of_getElem? (i := 11) rfl)) rfl) (rfl : vwCl[9]? = some (RX9, TX9, 5)) rfl lb_102.1 (shO hW.2.1 lb_102) (s_X9_assign _ _ cA ad g0 a b hW.2.1 hG (by omega) (by omega) (by  omega) (by  omega) (by  omega) (by  omega) hWS) ⟨by decide, by decide⟩ rfl rfl hl.1 (Nat.le_of_ble_eq_true rfl) dX11_taught_59 (fun v g13609 H locs hp hW1 => ?_)
            obtain ⟨r13608, rfl, hs1, hG, hf1, hr13608⟩ := hp
            have hW : WS ad cA (fun i k => i = 118 ∨ i = 119) g0 K g13609 H locs := ⟨hW1, hs1, hW.2.2.tr hf1 (fun i k h => h.elim (fun h => (Or.inl h)) (fun h => (Or.inr h)))⟩
            refine q_istore (lv9 := [(4, .int r13608), (0, .ref (ad 0)), (1, .int a), (2, .int b), (3, .int c)]) hM dX11_taught_62 hl (by decide) rfl (fun ls hl => ?_)
            refine q_iload_n hM dX11_taught_64 (lv_at hl 4 rfl) ?_
            refine q_bipush (v := (20 : Int32)) hM dX11_taught_65 (by decide) ?_
            refine q_icmp_ne (tgt := 75) hM dX11_taught_67 (by decide) (rfl : c.toInt = c.toInt) (kc_20 : (20 : Int32).toInt = 20) (fun h67 => ?_) (fun h67 => ?_)
            · refine q_aload_n hM dX11_taught_75 (lv_at hl 1 rfl) ?_
              refine w_get (v := .ref (ad 102)) hM hW FG_X11_90 lb_0 (rf_0_3 hW.2.1) dX11_taught_76 ?_
              refine w_get (v := .ref (ad 118)) hM hW FG_X11_282 lb_102 (rf_102_2 hW.2.1) dX11_taught_79 ?_
              refine q_iload_n hM dX11_taught_82 (lv_at hl 4 rfl) ?_
              refine w_iald hM hW lb_118 (i_in (by omega) (by omega)) dX11_taught_83 ?_
              refine q_top (fun y13611 hy13611 => ?_)
              exact hE _ _ _ _ _ _ hW.1 ⟨_, rfl, hW.2.1, hG, hW.2.2, (by
                  obtain ⟨c9, s9, s8⟩ := hr13608
                  refine Or.inr ⟨⟨a_t hr13586 (by omega), by omega, by omega, by omega, Or.inr ⟨by omega, by omega, hb9⟩⟩, c9, r13608.toInt, s9, Or.inr ⟨by omega, s8.elim Or.inl (fun s8 => Or.inr ?_)⟩⟩
                  have s7 := s8 c.toInt.toNat (by omega) hb9
                  rw [hy13611]
                  exact s7)⟩ dX11_taught_84
            · omega
          · refine q_iconst (v := ((-1) : Int32)) hM dX11_taught_51 (by decide) ?_
            exact hE _ _ _ _ _ _ hW.1 ⟨_, rfl, hW.2.1, hG, hW.2.2, (Or.inl ⟨fun q9 => by
                obtain ⟨d1, d2, d3, d4, d5⟩ := q9
                rcases d5 with d5 | ⟨d5, d6, d7⟩
                · omega
                · rw [has_f hr13605 (by omega) (by omega) (by omega)] at d7; exact absurd d7 (by decide), kc_m1⟩)⟩ dX11_taught_52
      · refine q_iconst (v := ((-1) : Int32)) hM dX11_taught_35 (by decide) ?_
        exact hE _ _ _ _ _ _ hW.1 ⟨_, rfl, hW.2.1, hG, hW.2.2, (Or.inl ⟨fun q9 => by
            obtain ⟨d1, d2, d3, d4, d5⟩ := q9
            omega, kc_m1⟩)⟩ dX11_taught_36


set_option maxRecDepth 100000 in
set_option maxHeartbeats 4000000 in
theorem s_X11_skill (l : Launch) (D : va_G) (cA : Nat → ClassId) (ad : Nat → Nat) (g0 : Nat → va_E) (a : Int32) (b : Int32) (c : Int32) (td : Int32)  (hSh : Shp ad cA g0) (hG : Rng g0) (h_td : fld g0 102 4 = .int td) : CT l NN ad cA D yX11_skill cX11_skill 4 (some FieldType.boolean) (1, 22) [.ref (ad 0), .int a, .int b, .int c] g0 (fun v g' => ∃ (t9 : Int32) (r : Int32), v = some (.int r) ∧ Shp ad cA g' ∧ Rng g' ∧ FR (fun i k => (i = 102 ∧ (k = 4)) ∨ (113 ≤ i ∧ i < 118)) g0 g' ∧ fld g' 102 4 = .int t9 ∧ (((0 ≤ a.toInt ∧ a.toInt ≤ 4 ∧ 0 ≤ b.toInt ∧ b.toInt ≤ 5 ∧ 0 ≤ c.toInt ∧ c.toInt ≤ 99) ∧ t9 = td ||| ((1 : Int32) <<< (a &&& 31)) ∧ ∀ k : Nat, k < 5 → arI g' (113 + 1 * k) = if k = a.toInt.toNat then upd (arI g0 (113 + 1 * k)) b.toNatClampNeg c else arI g0 (113 + 1 * k)) ∨ (¬ (0 ≤ a.toInt ∧ a.toInt ≤ 4 ∧ 0 ≤ b.toInt ∧ b.toInt ≤ 5 ∧ 0 ≤ c.toInt ∧ c.toInt ≤ 99) ∧ t9 = td ∧ ∀ k : Nat, k < 5 → arI g' (113 + 1 * k) = arI g0 (113 + 1 * k))) ∧ (r.toInt = 0 ∨ r.toInt = 1)) := by
  refine q_enterZ (by decide) (Nat.le_of_ble_eq_true rfl) (fun K H locs ls _ _ hM hW0 hR hC hE hl => ?_)
  have hl : lv_has ls 4 [(0, .ref (ad 0)), (1, .int a), (2, .int b), (3, .int c)] := hl
  have hW : WS ad cA (fun i k => (i = 102 ∧ (k = 4)) ∨ (113 ≤ i ∧ i < 118)) g0 K g0 H locs := ⟨hW0, hSh, FR.rf⟩
  have b_td := hG.f h_td rF_102_4 (by decide)
  have := kc_0
  have := kc_1
  have f13615 : fld g0 102 4 = .int td := h_td
  refine q_iload_n hM dX11_skill_0 (lv_at hl 1 rfl) ?_
  refine q_iconst (v := (0 : Int32)) hM dX11_skill_1 (by decide) ?_
  refine q_iconst (v := (4 : Int32)) hM dX11_skill_2 (by decide) ?_
  refine q_callS (As := [.int a, .int (0 : Int32), .int (4 : Int32)]) (rest := []) hM hW.1 hR hC myX11_within (kAW (v_1_10 (List.mem_of_getElem? (i := 1) rfl)) rfl) (c_X11_within _ _ cA ad g0 a (0 : Int32) (4 : Int32) hW.2.1) ⟨by decide, by decide⟩ rfl rfl hl.1 (Nat.le_of_ble_eq_true rfl) dX11_skill_3 (fun v g13617 H locs hp hW1 => ?_)
  obtain ⟨r13616, rfl, hr13616, rfl⟩ := hp
  have hW : WS ad cA (fun i k => (i = 102 ∧ (k = 4)) ∨ (113 ≤ i ∧ i < 118)) g0 K g0 H locs := ⟨hW1, hW.2.1, hW.2.2⟩
  have := kc_0
  have := kc_4
  refine q_if_eq (tgt := 28) hM dX11_skill_6 (by decide) (rfl : r13616.toInt = r13616.toInt) (fun h6 => ?_) (fun h6 => ?_)
  · refine q_iconst (v := (0 : Int32)) hM dX11_skill_28 (by decide) ?_
    exact hE _ _ _ _ _ _ hW.1 nz_0 ⟨td, _, rfl, hW.2.1, hG, hW.2.2, f13615, (Or.inr ⟨by omega, rfl, fun _ _ => rfl⟩), (by have := kc_0; omega)⟩ dX11_skill_29
  · refine q_iload_n hM dX11_skill_9 (lv_at hl 2 rfl) ?_
    refine q_iconst (v := (0 : Int32)) hM dX11_skill_10 (by decide) ?_
    refine q_iconst (v := (5 : Int32)) hM dX11_skill_11 (by decide) ?_
    refine q_callS (As := [.int b, .int (0 : Int32), .int (5 : Int32)]) (rest := []) hM hW.1 hR hC myX11_within (kAW (v_1_10 (List.mem_of_getElem? (i := 1) rfl)) rfl) (c_X11_within _ _ cA ad g0 b (0 : Int32) (5 : Int32) hW.2.1) ⟨by decide, by decide⟩ rfl rfl hl.1 (Nat.le_of_ble_eq_true rfl) dX11_skill_12 (fun v g13621 H locs hp hW1 => ?_)
    obtain ⟨r13620, rfl, hr13620, rfl⟩ := hp
    have hW : WS ad cA (fun i k => (i = 102 ∧ (k = 4)) ∨ (113 ≤ i ∧ i < 118)) g0 K g0 H locs := ⟨hW1, hW.2.1, hW.2.2⟩
    have := kc_0
    have := kc_5
    refine q_if_eq (tgt := 28) hM dX11_skill_15 (by decide) (rfl : r13620.toInt = r13620.toInt) (fun h15 => ?_) (fun h15 => ?_)
    · refine q_iconst (v := (0 : Int32)) hM dX11_skill_28 (by decide) ?_
      exact hE _ _ _ _ _ _ hW.1 nz_0 ⟨td, _, rfl, hW.2.1, hG, hW.2.2, f13615, (Or.inr ⟨by omega, rfl, fun _ _ => rfl⟩), (by have := kc_0; omega)⟩ dX11_skill_29
    · refine q_iload_n hM dX11_skill_18 (lv_at hl 3 rfl) ?_
      refine q_iconst (v := (0 : Int32)) hM dX11_skill_19 (by decide) ?_
      refine q_bipush (v := (99 : Int32)) hM dX11_skill_20 (by decide) ?_
      refine q_callS (As := [.int c, .int (0 : Int32), .int (99 : Int32)]) (rest := []) hM hW.1 hR hC myX11_within (kAW (v_1_10 (List.mem_of_getElem? (i := 1) rfl)) rfl) (c_X11_within _ _ cA ad g0 c (0 : Int32) (99 : Int32) hW.2.1) ⟨by decide, by decide⟩ rfl rfl hl.1 (Nat.le_of_ble_eq_true rfl) dX11_skill_22 (fun v g13625 H locs hp hW1 => ?_)
      obtain ⟨r13624, rfl, hr13624, rfl⟩ := hp
      have hW : WS ad cA (fun i k => (i = 102 ∧ (k = 4)) ∨ (113 ≤ i ∧ i < 118)) g0 K g0 H locs := ⟨hW1, hW.2.1, hW.2.2⟩
      have := kc_0
      have := kc_99
      refine q_if_ne (tgt := 30) hM dX11_skill_25 (by decide) (rfl : r13624.toInt = r13624.toInt) (fun h25 => ?_) (fun h25 => ?_)
      · refine q_aload_n hM dX11_skill_30 (lv_at hl 0 rfl) ?_
        refine w_get (v := .ref (ad 102)) hM hW FG_X11_90 lb_0 (rf_0_3 hW.2.1) dX11_skill_31 ?_
        refine q_dup hM dX11_skill_34 rfl ?_
        refine w_get (v := .int td) hM hW FG_X11_273 lb_102 f13615 dX11_skill_35 ?_
        have btd := hG.f f13615 rF_102_4 (by decide)
        refine q_iconst (v := (1 : Int32)) hM dX11_skill_38 (by decide) ?_
        refine q_iload_n hM dX11_skill_39 (lv_at hl 1 rfl) ?_
        refine q_ishl hM dX11_skill_40 (fun z13627 hz13627 => ?_)
        have sz13627 := i_shl1 5 (by decide) hz13627 (by omega) (by omega)
        refine q_ior hM dX11_skill_41 (fun z13628 hz13628 => ?_)
        have oz13628 := i_ork 5 (by decide) hz13628 (by omega) (by omega) (by omega) (by omega)
        refine w_put hM hW FP_X11_273 lb_102 (by omega) (Or.inl ⟨_, rfl⟩) rfl rfl dX11_skill_42 (fun g13629 H locs hW e1 e2 => ?_)
        have f13630 : fld g13629 102 4 = .int z13628 := e1
        have hG := hG.put e1 e2 rF_102_4 (by decide) (by have := i_rng z13628; omega) (by have := i_rng z13628; omega)
        have hpf9 : ∀ q9 : Nat, 113 ≤ q9 ∧ q9 < 118 → arI g13629 q9 = arI g0 q9 := fun q9 h9 => (e2.2.1 q9 (by unfold Only; omega))
        refine q_aload_n hM dX11_skill_45 (lv_at hl 0 rfl) ?_
        refine w_get (v := .ref (ad 102)) hM hW FG_X11_90 lb_0 (rf_0_3 hW.2.1) dX11_skill_46 ?_
        refine w_get (v := .ref (ad 112)) hM hW FG_X11_276 lb_102 (rf_102_1 hW.2.1) dX11_skill_49 ?_
        refine q_iload_n hM dX11_skill_52 (lv_at hl 1 rfl) ?_
        refine w_aald hM hW lb_112 (Or.inl rfl) (i_in (by omega) (by omega)) (aq (aq_112 hW.2.1) (by omega) (by omega)) dX11_skill_53 ?_
        refine q_iload_n hM dX11_skill_54 (lv_at hl 2 rfl) ?_
        refine q_iload_n hM dX11_skill_55 (lv_at hl 3 rfl) ?_
        refine w_iast hM hW (lr_113 (by omega)) (by omega) (i_in (by omega) (by omega)) dX11_skill_56 (fun g13631 H locs hW e1 e2 => ?_)
        have f13632 : fld g13631 102 4 = .int z13628 := (e2.1 102 4 (by unfold Only; omega)).trans f13630
        have hSK := e1
        have eSK := e2
        have hG := hG.st e1 e2 (rA_row_113 (by omega)) (by have := i_rng c; omega) (by have := i_rng c; omega)
        refine q_iconst (v := (1 : Int32)) hM dX11_skill_57 (by decide) ?_
        exact hE _ _ _ _ _ _ hW.1 nz_1 ⟨z13628, _, rfl, hW.2.1, hG, hW.2.2, f13632, (Or.inl ⟨by omega, by rw [hz13627, hz13628], fun k hk => by
            by_cases e : k = a.toInt.toNat
            · rw [if_pos e, e, hSK]; exact congrArg (fun z => upd z b.toNatClampNeg c) (hpf9 (113 + 1 * a.toInt.toNat) (by omega))
            · rw [if_neg e]; exact (eSK.2.1 (113 + 1 * k) (by unfold Only; omega)).trans (hpf9 (113 + 1 * k) (by omega))⟩), (by have := kc_1; omega)⟩ dX11_skill_58
      · refine q_iconst (v := (0 : Int32)) hM dX11_skill_28 (by decide) ?_
        exact hE _ _ _ _ _ _ hW.1 nz_0 ⟨td, _, rfl, hW.2.1, hG, hW.2.2, f13615, (Or.inr ⟨by omega, rfl, fun _ _ => rfl⟩), (by have := kc_0; omega)⟩ dX11_skill_29


set_option maxRecDepth 100000 in
set_option maxHeartbeats 4000000 in
theorem s_X12_isTold (l : Launch) (D : va_G) (cA : Nat → ClassId) (ad : Nat → Nat) (g0 : Nat → va_E) (i : Int32) (hSh : Shp ad cA g0) (hG : Rng g0) : CT l NN ad cA D yX12_isTold cX12_isTold 2 (some FieldType.boolean) (1, 25) [.ref (ad 129), .int i] g0 (PU g0 (fun r => r.toInt = ti (arI g0 131) 12 i ∧ (r.toInt = 0 ∨ (r.toInt = 1 ∧ 0 ≤ i.toInt ∧ i.toInt < 12)))) := by
  refine q_enterZ (by decide) (Nat.le_of_ble_eq_true rfl) (fun K H locs ls _ _ hM hW0 hR hC hE hl => ?_)
  have hl : lv_has ls 2 [(0, .ref (ad 129)), (1, .int i)] := hl
  have hW : WS ad cA (fun i k => False) g0 K g0 H locs := ⟨hW0, hSh, FR.rf⟩
  have := kc_0
  have := kc_1
  refine q_iload_n hM dX12_isTold_0 (lv_at hl 1 rfl) ?_
  refine q_i2l hM dX12_isTold_1 ?_
  have := l_i2l i
  refine q_lconst (v := 0) hM dX12_isTold_2 (by decide) ?_
  have := kl_0
  refine q_ldc2 (v := 11) hM (kAW (v_5_4 (List.mem_of_getElem? (i := 13) rfl)) rfl) dX12_isTold_3 ?_
  have := kl_11
  refine q_callS (As := [.long i.toInt64, .long (0 : Int64), .long (11 : Int64)]) (rest := []) hM hW.1 hR hC myX12_lies (kAW (v_5_4 (List.mem_of_getElem? (i := 14) rfl)) rfl) (c_X12_lies _ _ cA ad g0 i.toInt64 (0 : Int64) (11 : Int64) hW.2.1) ⟨by decide, by decide⟩ rfl rfl hl.1 (Nat.le_of_ble_eq_true rfl) dX12_isTold_6 (fun v g13635 H locs hp hW1 => ?_)
  obtain ⟨r13634, rfl, hr13634, rfl⟩ := hp
  have hW : WS ad cA (fun i k => False) g0 K g0 H locs := ⟨hW1, hW.2.1, hW.2.2⟩
  refine q_if_eq (tgt := 25) hM dX12_isTold_9 (by decide) (rfl : r13634.toInt = r13634.toInt) (fun h9 => ?_) (fun h9 => ?_)
  · refine q_iconst (v := (0 : Int32)) hM dX12_isTold_25 (by decide) ?_
    exact hE _ _ _ _ _ _ hW.1 nz_0 ⟨_, rfl, ⟨(by unfold ti; rw [if_neg (fun ⟨h3, h4, h5⟩ => by omega)]; exact kc_0), by omega⟩, rfl⟩ dX12_isTold_26
  · refine q_aload_n hM dX12_isTold_12 (lv_at hl 0 rfl) ?_
    refine w_get (v := .ref (ad 131)) hM hW FG_X12_17 lb_129 (rf_129_10 hW.2.1) dX12_isTold_13 ?_
    refine q_iload_n hM dX12_isTold_16 (lv_at hl 1 rfl) ?_
    refine w_zald hM hW lb_131 (i_in (by omega) (by omega)) dX12_isTold_17 ?_
    refine q_top (fun y13638 hy13638 => ?_)
    refine q_if_eq (tgt := 25) hM dX12_isTold_18 (by decide) (rfl : y13638.toInt = y13638.toInt) (fun h18 => ?_) (fun h18 => ?_)
    · refine q_iconst (v := (0 : Int32)) hM dX12_isTold_25 (by decide) ?_
      exact hE _ _ _ _ _ _ hW.1 nz_0 ⟨_, rfl, ⟨(by unfold ti; rw [if_neg (fun ⟨h3, h4, h5⟩ => absurd h5 (by show ¬ (arI g0 131 i.toNatClampNeg).toInt ≠ 0; rw [← hy13638]; omega))]; exact kc_0), by omega⟩, rfl⟩ dX12_isTold_26
    · refine q_iconst (v := (1 : Int32)) hM dX12_isTold_21 (by decide) ?_
      refine q_goto (tgt := 26) hM dX12_isTold_22 (by decide) ?_
      exact hE _ _ _ _ _ _ hW.1 nz_1 ⟨_, rfl, ⟨(by unfold ti; rw [if_pos ⟨by omega, by omega, by show (arI g0 131 i.toNatClampNeg).toInt ≠ 0; rw [← hy13638]; omega⟩]; exact kc_1), by omega⟩, rfl⟩ dX12_isTold_26


set_option maxRecDepth 100000 in
set_option maxHeartbeats 4000000 in
theorem s_X12_sizeOf (l : Launch) (D : va_G) (cA : Nat → ClassId) (ad : Nat → Nat) (g0 : Nat → va_E) (s : Int32) (hSh : Shp ad cA g0) (hG : Rng g0) (h0 : 0 ≤ s.toInt) (h1 : s.toInt < 4096) : CT l NN ad cA D yX12_sizeOf cX12_sizeOf 3 (some FieldType.int) (0, 0) [.int s] g0 (PU g0 (fun r => r.toInt = cb s 12)) := by
  refine q_enterI (by decide) (Nat.le_of_ble_eq_true rfl) rfl (fun K H locs ls _ _ hM hW0 hR hC hE hl => ?_)
  have hl : lv_has ls 3 [(0, .int s)] := hl
  have hW : WS ad cA (fun i k => False) g0 K g0 H locs := ⟨hW0, hSh, FR.rf⟩
  have := i_rng s
  have := kc_0
  have cb9 := cb_le s 12
  refine q_iconst (v := (0 : Int32)) hM dX12_sizeOf_0 (by decide) ?_
  refine q_istore_n (lv9 := [(1, .int (0 : Int32)), (0, .int s)]) hM dX12_sizeOf_1 hl (by decide) rfl (fun ls hl => ?_)
  refine q_iload_n hM dX12_sizeOf_2 (lv_at hl 1 rfl) ?_
  refine q_istore_n (lv9 := [(2, .int s), (1, .int (0 : Int32)), (0, .int s)]) hM dX12_sizeOf_3 hl (by decide) rfl (fun ls hl => ?_)
  have L4 : ∀ (fu4 : Nat) (w4_1 : Int32) (w4_2 : Int32) (H : Heap) (locs : List Loc) (ls : Array Slot), w4_2.toInt.toNat < fu4 → (0 ≤ w4_2.toInt) → (w4_2.toInt ≤ s.toInt) → (0 ≤ w4_1.toInt) → (w4_1.toInt + cb w4_2 12 = cb s 12) → lv_has ls 3 [(0, .int s), (1, .int w4_1), (2, .int w4_2)] → WS ad cA (fun i k => False) g0 K g0 H locs → XX K 0 0 H locs 4 ls [] := by
    intro fu4
    induction fu4 with
    | zero => intro w4_1 w4_2 H locs ls h0; omega
    | succ fu4 ih4 =>
      intro w4_1 w4_2 H locs ls hm4 i4_0 i4_1 i4_2 i4_3 hl hW
      have cb8 := cb_le w4_2 12
      refine q_iload_n hM dX12_sizeOf_4 (lv_at hl 2 rfl) ?_
      refine q_if_eq (tgt := 20) hM dX12_sizeOf_5 (by decide) (rfl : w4_2.toInt = w4_2.toInt) (fun h5 => ?_) (fun h5 => ?_)
      · refine q_iload_n hM dX12_sizeOf_20 (lv_at hl 1 rfl) ?_
        exact hE _ _ _ _ _ _ hW.1 ⟨_, rfl, (by have z9 := cb_00 (x := w4_2) (by omega); omega), rfl⟩ dX12_sizeOf_21
      · refine q_iinc (lv9 := fun z13644 => [(1, .int z13644), (0, .int s), (2, .int w4_2)]) hM dX12_sizeOf_8 hl (kq := 1) rfl (by decide) (fun _ => rfl) (fun z13644 ls hz13644 hl => ?_)
        first | have tz13644 := i_addT hz13644 (rfl : w4_1.toInt = w4_1.toInt) (kc_1 : (Int32.ofInt 1).toInt = 1) (by omega) (by omega) | skip
        refine q_iload_n hM dX12_sizeOf_11 (lv_at hl 2 rfl) ?_
        refine q_iload_n hM dX12_sizeOf_12 (lv_at hl 2 rfl) ?_
        refine q_iconst (v := (1 : Int32)) hM dX12_sizeOf_13 (by decide) ?_
        refine q_isub hM dX12_sizeOf_14 (fun z13645 hz13645 => ?_)
        first | have tz13645 := i_subT hz13645 (rfl : w4_2.toInt = w4_2.toInt) (kc_1 : (1 : Int32).toInt = 1) (by omega) (by omega) | skip
        refine q_iand hM dX12_sizeOf_15 (fun z13646 hz13646 => ?_)
        have al := i_and_le hz13646 (by omega) (by omega)
        refine q_istore_n (lv9 := [(2, .int z13646), (1, .int z13644), (0, .int s)]) hM dX12_sizeOf_16 hl (by decide) rfl (fun ls hl => ?_)
        refine q_goto (tgt := 4) hM dX12_sizeOf_17 (by decide) ?_
        exact ih4 z13644 z13646 _ _ _ (by omega) (by omega) (by omega) (by omega) (by have p9 := sz_cb hz13645 hz13646 (by omega) (by omega); omega) (lv_sub hl [2, 1, 0] rfl) hW
  have := kc_0
  exact L4 _ (0 : Int32) s _ _ _ (Nat.lt_succ_self _) (by omega) (by omega) (by omega) (by omega) (lv_sub hl [2, 1, 0] rfl) hW


set_option maxRecDepth 100000 in
set_option maxHeartbeats 4000000 in
theorem s_X12_powerOf (l : Launch) (D : va_G) (cA : Nat → ClassId) (ad : Nat → Nat) (g0 : Nat → va_E) (b : Int32) (n : Int32) (hSh : Shp ad cA g0) (hG : Rng g0) (b1 : 1 ≤ b.toInt) (b5 : b.toInt ≤ 5) (n0 : 0 ≤ n.toInt) (n5 : n.toInt ≤ 5) : CT l NN ad cA D yX12_powerOf cX12_powerOf 4 (some FieldType.int) (0, 0) [.int b, .int n] g0 (PU g0 (fun r => r.toInt = ((b.toInt.toNat ^ n.toInt.toNat : Nat) : Int) ∧ 0 ≤ r.toInt ∧ r.toInt ≤ 3125)) := by
  refine q_enterI (by decide) (Nat.le_of_ble_eq_true rfl) rfl (fun K H locs ls _ _ hM hW0 hR hC hE hl => ?_)
  have hl : lv_has ls 4 [(0, .int b), (1, .int n)] := hl
  have hW : WS ad cA (fun i k => False) g0 K g0 H locs := ⟨hW0, hSh, FR.rf⟩
  have := kc_0
  have := kc_1
  have := kc_5
  refine q_iconst (v := (1 : Int32)) hM dX12_powerOf_0 (by decide) ?_
  refine q_istore_n (lv9 := [(2, .int (1 : Int32)), (0, .int b), (1, .int n)]) hM dX12_powerOf_1 hl (by decide) rfl (fun ls hl => ?_)
  refine q_iconst (v := (0 : Int32)) hM dX12_powerOf_2 (by decide) ?_
  refine q_istore_n (lv9 := [(3, .int (0 : Int32)), (2, .int (1 : Int32)), (0, .int b), (1, .int n)]) hM dX12_powerOf_3 hl (by decide) rfl (fun ls hl => ?_)
  have L4 : ∀ (fu4 : Nat) (w4_2 : Int32) (w4_3 : Int32) (H : Heap) (locs : List Loc) (ls : Array Slot), (n.toInt - w4_3.toInt + 1).toNat < fu4 → (0 ≤ w4_3.toInt) → (w4_2.toInt = ((b.toInt.toNat ^ w4_3.toInt.toNat : Nat) : Int)) → (0 ≤ w4_2.toInt ∧ w4_2.toInt ≤ 3125) → (w4_3.toInt ≤ n.toInt) → lv_has ls 4 [(0, .int b), (1, .int n), (2, .int w4_2), (3, .int w4_3)] → WS ad cA (fun i k => False) g0 K g0 H locs → XX K 0 0 H locs 4 ls [] := by
    intro fu4
    induction fu4 with
    | zero => intro w4_2 w4_3 H locs ls h0; omega
    | succ fu4 ih4 =>
      intro w4_2 w4_3 H locs ls hm4 i4_0 i4_1 i4_2 i4_3 hl hW
      have := i_rng n
      refine q_iload_n hM dX12_powerOf_4 (lv_at hl 3 rfl) ?_
      refine q_iload_n hM dX12_powerOf_5 (lv_at hl 1 rfl) ?_
      refine q_icmp_ge (tgt := 19) hM dX12_powerOf_6 (by decide) (rfl : w4_3.toInt = w4_3.toInt) (rfl : n.toInt = n.toInt) (fun h6 => ?_) (fun h6 => ?_)
      · refine q_iload_n hM dX12_powerOf_19 (lv_at hl 2 rfl) ?_
        exact hE _ _ _ _ _ _ hW.1 ⟨_, rfl, ⟨by have e9 := i4_1; rw [show w4_3.toInt.toNat = n.toInt.toNat by omega] at e9; exact e9, by omega, by omega⟩, rfl⟩ dX12_powerOf_20
      · refine q_iload_n hM dX12_powerOf_9 (lv_at hl 2 rfl) ?_
        refine q_iload_n hM dX12_powerOf_10 (lv_at hl 0 rfl) ?_
        refine q_imul hM dX12_powerOf_11 (fun z13650 hz13650 => ?_)
        refine q_istore_n (lv9 := [(2, .int z13650), (0, .int b), (1, .int n), (3, .int w4_3)]) hM dX12_powerOf_12 hl (by decide) rfl (fun ls hl => ?_)
        refine q_iinc (lv9 := fun z13651 => [(3, .int z13651), (2, .int z13650), (0, .int b), (1, .int n)]) hM dX12_powerOf_13 hl (kq := 3) rfl (by decide) (fun _ => rfl) (fun z13651 ls hz13651 hl => ?_)
        first | have tz13651 := i_addT hz13651 (rfl : w4_3.toInt = w4_3.toInt) (kc_1 : (Int32.ofInt 1).toInt = 1) (by omega) (by omega) | skip
        refine q_goto (tgt := 4) hM dX12_powerOf_16 (by decide) ?_
        exact ih4 z13650 z13651 _ _ _ (by omega) (by omega) (pw_st hz13650 i4_1 b1 b5 (by omega) (by omega) (by omega)).1 (pw_st (t1 := z13651) hz13650 i4_1 b1 b5 (by omega) (by omega) (by omega)).2 (by omega) (lv_sub hl [2, 3, 1, 0] rfl) hW
  have := kc_1
  have := kc_0
  exact L4 _ (1 : Int32) (0 : Int32) _ _ _ (Nat.lt_succ_self _) (by omega) (by rw [kc_0, kc_1]; rfl) (by omega) (by omega) (lv_sub hl [2, 3, 1, 0] rfl) hW


set_option maxRecDepth 100000 in
set_option maxHeartbeats 4000000 in
theorem s_X12_takesSome (l : Launch) (D : va_G) (cA : Nat → ClassId) (ad : Nat → Nat) (g0 : Nat → va_E) (s : Int32)   (hSh : Shp ad cA g0) (hG : Rng g0) : CT l NN ad cA D yX12_takesSome cX12_takesSome 4 (some FieldType.int) (1, 21) [.ref (ad 129), .int s] g0 (fun v g' => ∃ (r : Int32), v = some (.int r) ∧ Shp ad cA g' ∧ Rng g' ∧ FR (fun i k => i = 171) g0 g' ∧ (∀ j : Nat, j < cn s 12 → (arI g' 171 j).toInt = (nth s j : Int)) ∧ (r.toInt = (cn s 12 : Int))) := by
  refine q_enterI (by decide) (Nat.le_of_ble_eq_true rfl) rfl (fun K H locs ls _ _ hM hW0 hR hC hE hl => ?_)
  have hl : lv_has ls 4 [(0, .ref (ad 129)), (1, .int s)] := hl
  have hW : WS ad cA (fun i k => i = 171) g0 K g0 H locs := ⟨hW0, hSh, FR.rf⟩
  have := kc_0
  have := kc_1
  have := kc_m1
  refine q_iconst (v := (0 : Int32)) hM dX12_takesSome_0 (by decide) ?_
  refine q_istore_n (lv9 := [(2, .int (0 : Int32)), (0, .ref (ad 129)), (1, .int s)]) hM dX12_takesSome_1 hl (by decide) rfl (fun ls hl => ?_)
  refine q_iconst (v := (0 : Int32)) hM dX12_takesSome_2 (by decide) ?_
  refine q_istore_n (lv9 := [(3, .int (0 : Int32)), (2, .int (0 : Int32)), (0, .ref (ad 129)), (1, .int s)]) hM dX12_takesSome_3 hl (by decide) rfl (fun ls hl => ?_)
  have L4 : ∀ (fu4 : Nat) (w4_2 : Int32) (w4_3 : Int32) (g9 : Nat → va_E) (H : Heap) (locs : List Loc) (ls : Array Slot), (12 - w4_3.toInt).toNat < fu4 → (Rng g9) → (0 ≤ w4_3.toInt) → (w4_3.toInt ≤ 12) → (w4_2.toInt = (cn s w4_3.toInt.toNat : Int)) → (∀ j : Nat, j < cn s w4_3.toInt.toNat → (arI g9 171 j).toInt = (nth s j : Int)) → lv_has ls 4 [(0, .ref (ad 129)), (1, .int s), (2, .int w4_2), (3, .int w4_3)] → WS ad cA (fun i k => i = 171) g0 K g9 H locs → XX K 0 0 H locs 4 ls [] := by
    intro fu4
    induction fu4 with
    | zero => intro w4_2 w4_3 g9 H locs ls h0; omega
    | succ fu4 ih4 =>
      intro w4_2 w4_3 g9 H locs ls hm4 i4_0 i4_1 i4_2 i4_3 i4_4 hl hW
      have hG := i4_0
      have cl9 := cn_le s w4_3.toInt.toNat
      refine q_iload_n hM dX12_takesSome_4 (lv_at hl 3 rfl) ?_
      refine q_bipush (v := (12 : Int32)) hM dX12_takesSome_5 (by decide) ?_
      refine q_icmp_ge (tgt := 37) hM dX12_takesSome_7 (by decide) (rfl : w4_3.toInt = w4_3.toInt) (kc_12 : (12 : Int32).toInt = 12) (fun h7 => ?_) (fun h7 => ?_)
      · refine q_iload_n hM dX12_takesSome_37 (lv_at hl 2 rfl) ?_
        exact hE _ _ _ _ _ _ hW.1 ⟨_, rfl, hW.2.1, hG, hW.2.2, (by have e9 := i4_4; rw [show w4_3.toInt.toNat = 12 by omega] at e9; exact e9), (by have e9 := i4_3; rw [show w4_3.toInt.toNat = 12 by omega] at e9; exact e9)⟩ dX12_takesSome_38
      · refine q_iload_n hM dX12_takesSome_10 (lv_at hl 1 rfl) ?_
        refine q_iload_n hM dX12_takesSome_11 (lv_at hl 3 rfl) ?_
        refine q_callS (As := [.int s, .int w4_3]) (rest := []) hM hW.1 hR hC myX12_has (kAW (v_5_6 (List.mem_of_getElem? (i := 7) rfl)) rfl) (c_X12_has _ _ cA ad g9 s w4_3 hW.2.1 (by omega) (by omega)) ⟨by decide, by decide⟩ rfl rfl hl.1 (Nat.le_of_ble_eq_true rfl) dX12_takesSome_12 (fun v g13656 H locs hp hW1 => ?_)
        obtain ⟨r13655, rfl, hr13655, rfl⟩ := hp
        have hW : WS ad cA (fun i k => i = 171) g0 K g9 H locs := ⟨hW1, hW.2.1, hW.2.2⟩
        refine q_if_ne (tgt := 21) hM dX12_takesSome_15 (by decide) (rfl : r13655.toInt = r13655.toInt) (fun h15 => ?_) (fun h15 => ?_)
        · have hb9 := mh_t hr13655 (by omega)
          refine q_aload_n hM dX12_takesSome_21 (lv_at hl 0 rfl) ?_
          refine w_get (v := .ref (ad 171)) hM hW FG_X12_139 lb_129 (rf_129_77 hW.2.1) dX12_takesSome_22 ?_
          refine q_iload_n hM dX12_takesSome_25 (lv_at hl 2 rfl) ?_
          refine q_iload_n hM dX12_takesSome_26 (lv_at hl 3 rfl) ?_
          refine w_iast hM hW lb_171 (by omega) (i_in (by omega) (by omega)) dX12_takesSome_27 (fun g13658 H locs hW e1 e2 => ?_)
          have f13659 := e1
          rw [(rfl : arI g9 171 = arI g9 171)] at f13659
          have hG := hG.st e1 e2 rA_171 (by have := i_rng w4_3; omega) (by have := i_rng w4_3; omega)
          refine q_iinc (lv9 := fun z13660 => [(2, .int z13660), (0, .ref (ad 129)), (1, .int s), (3, .int w4_3)]) hM dX12_takesSome_28 hl (kq := 2) rfl (by decide) (fun _ => rfl) (fun z13660 ls hz13660 hl => ?_)
          first | have tz13660 := i_addT hz13660 (rfl : w4_2.toInt = w4_2.toInt) (kc_1 : (Int32.ofInt 1).toInt = 1) (by omega) (by omega) | skip
          refine q_iinc (lv9 := fun z13661 => [(3, .int z13661), (2, .int z13660), (0, .ref (ad 129)), (1, .int s)]) hM dX12_takesSome_31 hl (kq := 3) rfl (by decide) (fun _ => rfl) (fun z13661 ls hz13661 hl => ?_)
          first | have tz13661 := i_addT hz13661 (rfl : w4_3.toInt = w4_3.toInt) (kc_1 : (Int32.ofInt 1).toInt = 1) (by omega) (by omega) | skip
          refine q_goto (tgt := 4) hM dX12_takesSome_34 (by decide) ?_
          exact ih4 z13660 z13661 _ _ _ _ (by omega) hG (by omega) (by omega) (by rw [cn_yes (k1 := z13661) (by omega) (by omega) hb9]; omega) (fun j hj => by
              rw [cn_yes (k1 := z13661) (by omega) (by omega) hb9] at hj
              rw [f13659]
              unfold upd
              by_cases e : j = w4_2.toInt.toNat
              · rw [if_pos (show j = w4_2.toNatClampNeg from e), show j = cn s w4_3.toInt.toNat by omega, nth_cn (by omega) hb9]; omega
              · rw [if_neg (show ¬ j = w4_2.toNatClampNeg from e)]; exact i4_4 j (by omega)) (lv_sub hl [2, 3, 1, 0] rfl) hW
        · have hb9 := mh_f hr13655 (by omega)
          refine q_goto (tgt := 31) hM dX12_takesSome_18 (by decide) ?_
          refine q_iinc (lv9 := fun z13663 => [(3, .int z13663), (0, .ref (ad 129)), (1, .int s), (2, .int w4_2)]) hM dX12_takesSome_31 hl (kq := 3) rfl (by decide) (fun _ => rfl) (fun z13663 ls hz13663 hl => ?_)
          first | have tz13663 := i_addT hz13663 (rfl : w4_3.toInt = w4_3.toInt) (kc_1 : (Int32.ofInt 1).toInt = 1) (by omega) (by omega) | skip
          refine q_goto (tgt := 4) hM dX12_takesSome_34 (by decide) ?_
          exact ih4 w4_2 z13663 _ _ _ _ (by omega) hG (by omega) (by omega) (by rw [cn_no (k1 := z13663) (by omega) (by omega) hb9]; exact i4_3) (fun j hj => by rw [cn_no (k1 := z13663) (by omega) (by omega) hb9] at hj; exact i4_4 j hj) (lv_sub hl [1, 2, 3, 0] rfl) hW
  have := kc_0
  have := kc_0
  exact L4 _ (0 : Int32) (0 : Int32) _ _ _ _ (Nat.lt_succ_self _) hG (by omega) (by omega) (by rw [kc_0]; rfl) (fun j hj => by rw [kc_0] at hj; exact absurd hj (Nat.not_lt_zero j)) (lv_sub hl [2, 3, 1, 0] rfl) hW


set_option maxRecDepth 100000 in
set_option maxHeartbeats 4000000 in
theorem s_X12_opensRow (l : Launch) (D : va_G) (cA : Nat → ClassId) (ad : Nat → Nat) (g0 : Nat → va_E) (ro : Int32) (n : Int32) (ba : Int32)   (hSh : Shp ad cA g0) (hG : Rng g0) (r0 : 0 ≤ ro.toInt) (n0 : 1 ≤ n.toInt) (n5 : n.toInt ≤ 5) (b0 : 1 ≤ ba.toInt) (b5 : ba.toInt ≤ 5) : CT l NN ad cA D yX12_opensRow cX12_opensRow 6 none (0, 0) [.ref (ad 129), .int ro, .int n, .int ba] g0 (fun v g' => v = none ∧ Shp ad cA g' ∧ Rng g' ∧ FR (fun i k => i = 172) g0 g' ∧ (∀ j : Nat, (j : Int) < n.toInt → (arI g' 172 j).toInt = (dg ba.toInt.toNat n.toInt.toNat ro.toInt.toNat j : Int))) := by
  refine q_enterV (by decide) (Nat.le_of_ble_eq_true rfl) (fun K H locs ls _ _ hM hW0 hR hC hE hl => ?_)
  have hl : lv_has ls 6 [(0, .ref (ad 129)), (1, .int ro), (2, .int n), (3, .int ba)] := hl
  have hW : WS ad cA (fun i k => i = 172) g0 K g0 H locs := ⟨hW0, hSh, FR.rf⟩
  have := kc_0
  have := kc_1
  have := kc_m1
  refine q_iload_n hM dX12_opensRow_0 (lv_at hl 1 rfl) ?_
  refine q_istore (lv9 := [(4, .int ro), (0, .ref (ad 129)), (1, .int ro), (2, .int n), (3, .int ba)]) hM dX12_opensRow_1 hl (by decide) rfl (fun ls hl => ?_)
  refine q_iload_n hM dX12_opensRow_3 (lv_at hl 3 rfl) ?_
  refine q_iconst (v := (1 : Int32)) hM dX12_opensRow_4 (by decide) ?_
  refine q_isub hM dX12_opensRow_5 (fun z13664 hz13664 => ?_)
  first | have tz13664 := i_subT hz13664 (rfl : n.toInt = n.toInt) (kc_1 : (1 : Int32).toInt = 1) (by omega) (by omega) | skip
  refine q_istore (lv9 := [(5, .int z13664), (4, .int ro), (0, .ref (ad 129)), (1, .int ro), (2, .int n), (3, .int ba)]) hM dX12_opensRow_6 hl (by decide) rfl (fun ls hl => ?_)
  have L8 : ∀ (fu8 : Nat) (w8_4 : Int32) (w8_5 : Int32) (g9 : Nat → va_E) (H : Heap) (locs : List Loc) (ls : Array Slot), (w8_5.toInt + 1).toNat < fu8 → (Rng g9) → (-1 ≤ w8_5.toInt) → (w8_5.toInt ≤ n.toInt - 1) → (w8_4.toInt = ((ro.toInt.toNat / ba.toInt.toNat ^ (n.toInt - 1 - w8_5.toInt).toNat : Nat) : Int)) → (∀ j : Nat, w8_5.toInt < (j : Int) → (j : Int) < n.toInt → (arI g9 172 j).toInt = (dg ba.toInt.toNat n.toInt.toNat ro.toInt.toNat j : Int)) → lv_has ls 6 [(0, .ref (ad 129)), (1, .int ro), (2, .int n), (3, .int ba), (4, .int w8_4), (5, .int w8_5)] → WS ad cA (fun i k => i = 172) g0 K g9 H locs → XX K 0 0 H locs 8 ls [] := by
    intro fu8
    induction fu8 with
    | zero => intro w8_4 w8_5 g9 H locs ls h0; omega
    | succ fu8 ih8 =>
      intro w8_4 w8_5 g9 H locs ls hm8 i8_0 i8_1 i8_2 i8_3 i8_4 hl hW
      have hG := i8_0
      have ln9 : 0 ≤ w8_4.toInt := by rw [i8_3]; exact Int.natCast_nonneg _
      refine q_iload hM dX12_opensRow_8 (lv_at hl 5 rfl) ?_
      refine q_if_lt (tgt := 36) hM dX12_opensRow_10 (by decide) (rfl : w8_5.toInt = w8_5.toInt) (fun h10 => ?_) (fun h10 => ?_)
      · exact hE _ _ _ _ _ hW.1 ⟨rfl, hW.2.1, hG, hW.2.2, (fun j hj => i8_4 j (by omega) hj)⟩ dX12_opensRow_36
      · refine q_aload_n hM dX12_opensRow_13 (lv_at hl 0 rfl) ?_
        refine w_get (v := .ref (ad 172)) hM hW FG_X12_142 lb_129 (rf_129_78 hW.2.1) dX12_opensRow_14 ?_
        refine q_iload hM dX12_opensRow_17 (lv_at hl 5 rfl) ?_
        refine q_iload hM dX12_opensRow_19 (lv_at hl 4 rfl) ?_
        refine q_iload_n hM dX12_opensRow_21 (lv_at hl 3 rfl) ?_
        refine q_irem hM (by intro e9; have e8 := congrArg Int32.toInt e9; have := kc_0; have e7 := kc_0; omega) dX12_opensRow_22 (fun z13668 hz13668 => ?_)
        first | have tz13668 := i_remT hz13668 (rfl : w8_4.toInt = w8_4.toInt) (rfl : ba.toInt = ba.toInt) (by omega) (by omega) | skip
        have rn9 := i_remN hz13668 ln9 b0
        refine w_iast hM hW lb_172 (by omega) (i_in (by omega) (by omega)) dX12_opensRow_23 (fun g13669 H locs hW e1 e2 => ?_)
        have f13670 := e1
        rw [(rfl : arI g9 172 = arI g9 172)] at f13670
        have hG := hG.st e1 e2 rA_172 (by have := i_rng z13668; omega) (by have := i_rng z13668; omega)
        refine q_iload hM dX12_opensRow_24 (lv_at hl 4 rfl) ?_
        refine q_iload_n hM dX12_opensRow_26 (lv_at hl 3 rfl) ?_
        refine q_idiv hM (by intro e9; have e8 := congrArg Int32.toInt e9; have := kc_0; have e7 := kc_0; omega) dX12_opensRow_27 (fun z13671 hz13671 => ?_)
        first | have tz13671 := i_divT hz13671 (rfl : w8_4.toInt = w8_4.toInt) (rfl : ba.toInt = ba.toInt) (by omega) (by omega) | skip
        refine q_istore (lv9 := [(4, .int z13671), (0, .ref (ad 129)), (1, .int ro), (2, .int n), (3, .int ba), (5, .int w8_5)]) hM dX12_opensRow_28 hl (by decide) rfl (fun ls hl => ?_)
        refine q_iinc (lv9 := fun z13672 => [(5, .int z13672), (4, .int z13671), (0, .ref (ad 129)), (1, .int ro), (2, .int n), (3, .int ba)]) hM dX12_opensRow_30 hl (kq := 5) rfl (by decide) (fun _ => rfl) (fun z13672 ls hz13672 hl => ?_)
        first | have tz13672 := i_addT hz13672 (rfl : w8_5.toInt = w8_5.toInt) (kc_m1 : (Int32.ofInt (-1)).toInt = (-1)) (by omega) (by omega) | skip
        refine q_goto (tgt := 8) hM dX12_opensRow_33 (by decide) ?_
        exact ih8 z13671 z13672 _ _ _ _ (by omega) hG (by omega) (by omega) (by rw [show (n.toInt - 1 - z13672.toInt).toNat = (n.toInt - 1 - w8_5.toInt).toNat + 1 by omega]; exact dv_st i8_3 (by rw [show ((ba.toInt.toNat : Nat) : Int) = ba.toInt by omega]; exact tz13671)) (fun j h1 h2 => by
            rw [f13670]
            unfold upd
            by_cases e : j = w8_5.toInt.toNat
            · rw [if_pos (show j = w8_5.toNatClampNeg from e)]; exact dg_rem (L := w8_4.toInt) (n := n.toInt.toNat) (j := j) (by rw [show n.toInt.toNat - 1 - j = (n.toInt - 1 - w8_5.toInt).toNat by omega]; exact i8_3) (by rw [show ((ba.toInt.toNat : Nat) : Int) = ba.toInt by omega]; exact tz13668)
            · rw [if_neg (show ¬ j = w8_5.toNatClampNeg from e)]; exact i8_4 j (by omega) h2) (lv_sub hl [2, 3, 4, 5, 1, 0] rfl) hW
  exact L8 _ ro z13664 _ _ _ _ (Nat.lt_succ_self _) hG (by omega) (by omega) (by rw [show (n.toInt - 1 - z13664.toInt).toNat = 0 by omega, Nat.pow_zero, Nat.div_one]; omega) (fun j h1 h2 => by omega) (lv_sub hl [2, 3, 4, 5, 1, 0] rfl) hW
