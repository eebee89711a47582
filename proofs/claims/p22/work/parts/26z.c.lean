
set_option maxRecDepth 100000 in
set_option maxHeartbeats 4000000 in
theorem s_X2_go_18 (l : Launch) (D : va_G) (cA : Nat → ClassId) (ad : Nat → Nat) (g0 : Nat → va_E) (n : Int32) (wk : Int32) (lw : Nat) (hSh : Shp ad cA g0) (hG : Rng g0) (hlw : isLw lw) (h_wk : fld g0 18 4 = .int wk) (h_r9 : fld g0 80 9 = .ref (ad lw)) (h_r10 : fld g0 80 10 = .ref (ad 18)) (n0 : 0 ≤ n.toInt) (n60 : n.toInt ≤ 60) : CT l NN ad cA D yX2_go cX2_go 4 none (6, 144) [.ref (ad 80), .int n] g0 (fun v g' => ∃ (w9 : Int32), v = none ∧ Shp ad cA g' ∧ Rng g' ∧ FR (fun i k => (22 ≤ i ∧ i < 30) ∨ i = 83 ∨ i = (lw + 6) ∨ (i = 18 ∧ (k = 4 ∨ k = 5 ∨ k = 6 ∨ k = 7)) ∨ (i = 80 ∧ (k = 7 ∨ k = 8)) ∨ i = 19 ∨ (i = 18 ∧ (k = 4))) g0 g' ∧ fld g' 18 4 = .int w9 ∧ (WKr wk.toInt n.toInt w9.toInt)) := by
  refine q_enterV (by decide) (Nat.le_of_ble_eq_true rfl) (fun K H locs ls _ _ hM hW0 hR hC hE hl => ?_)
  have hl : lv_has ls 4 [(0, .ref (ad 80)), (1, .int n)] := hl
  have hW : WS ad cA (fun i k => (22 ≤ i ∧ i < 30) ∨ i = 83 ∨ i = (lw + 6) ∨ (i = 18 ∧ (k = 4 ∨ k = 5 ∨ k = 6 ∨ k = 7)) ∨ (i = 80 ∧ (k = 7 ∨ k = 8)) ∨ i = 19 ∨ (i = 18 ∧ (k = 4))) g0 K g0 H locs := ⟨hW0, hSh, FR.rf⟩
  have ulw := hlw
  unfold isLw at ulw
  have := kc_9999
  have := i_rng wk
  have f12499 : fld g0 18 4 = .int wk := h_wk
  have f12500 : fld g0 18 4 = .int wk := h_wk
  refine q_iconst (v := (0 : Int32)) hM dX2_go_0 (by decide) ?_
  refine q_istore_n (lv9 := [(2, .int (0 : Int32)), (0, .ref (ad 80)), (1, .int n)]) hM dX2_go_1 hl (by decide) rfl (fun ls hl => ?_)
  have L2 : ∀ (fu2 : Nat) (w2_2 : Int32) (ww : Int32) (g9 : Nat → va_E) (H : Heap) (locs : List Loc) (ls : Array Slot), (n.toInt - w2_2.toInt + 1).toNat < fu2 → (Rng g9) → (0 ≤ w2_2.toInt) → (w2_2.toInt ≤ n.toInt) → ((w2_2.toInt = 0 ∧ ww.toInt = wk.toInt) ∨ (wk.toInt < 9999 ∧ ww.toInt = wk.toInt + w2_2.toInt ∧ ww.toInt ≤ 9999)) → (fld g9 18 4 = .int ww) → lv_has ls 4 [(0, .ref (ad 80)), (1, .int n), (2, .int w2_2)] → WS ad cA (fun i k => (22 ≤ i ∧ i < 30) ∨ i = 83 ∨ i = (lw + 6) ∨ (i = 18 ∧ (k = 4 ∨ k = 5 ∨ k = 6 ∨ k = 7)) ∨ (i = 80 ∧ (k = 7 ∨ k = 8)) ∨ i = 19 ∨ (i = 18 ∧ (k = 4))) g0 K g9 H locs → XX K 0 0 H locs 2 ls [] := by
    intro fu2
    induction fu2 with
    | zero => intro w2_2 ww g9 H locs ls h0; omega
    | succ fu2 ih2 =>
      intro w2_2 ww g9 H locs ls hm2 i2_0 i2_1 i2_2 i2_3 c2_18_4 hl hW
      have hG := i2_0
      have := i_rng n
      refine q_iload_n hM dX2_go_2 (lv_at hl 2 rfl) ?_
      refine q_iload_n hM dX2_go_3 (lv_at hl 1 rfl) ?_
      refine q_icmp_ge (tgt := 86) hM dX2_go_4 (by decide) (rfl : w2_2.toInt = w2_2.toInt) (rfl : n.toInt = n.toInt) (fun h4 => ?_) (fun h4 => ?_)
      · exact hE _ _ _ _ _ hW.1 ⟨ww, rfl, hW.2.1, hG, hW.2.2, c2_18_4, (by unfold WKr; omega)⟩ dX2_go_86
      · refine q_aload_n hM dX2_go_7 (lv_at hl 0 rfl) ?_
        refine w_get (v := .ref (ad 18)) hM hW FG_X2_19 lb_80 ((hW.2.2.1 80 10 (by omega)).trans h_r10) dX2_go_8 ?_
        refine w_get (v := .int ww) hM hW FG_X2_53 lb_18 c2_18_4 dX2_go_11 ?_
        refine q_sipush (v := (9999 : Int32)) hM dX2_go_14 (by decide) ?_
        refine q_icmp_ge (tgt := 86) hM dX2_go_17 (by decide) (rfl : ww.toInt = ww.toInt) (kc_9999 : (9999 : Int32).toInt = 9999) (fun h17 => ?_) (fun h17 => ?_)
        · exact hE _ _ _ _ _ hW.1 ⟨ww, rfl, hW.2.1, hG, hW.2.2, c2_18_4, (by unfold WKr; omega)⟩ dX2_go_86
        · refine q_iconst (v := (0 : Int32)) hM dX2_go_20 (by decide) ?_
          refine q_istore_n (lv9 := [(3, .int (0 : Int32)), (0, .ref (ad 80)), (1, .int n), (2, .int w2_2)]) hM dX2_go_21 hl (by decide) rfl (fun ls hl => ?_)
          have L22 : ∀ (fu22 : Nat) (w22_3 : Int32) (g9 : Nat → va_E) (H : Heap) (locs : List Loc) (ls : Array Slot), (8 - w22_3.toInt).toNat < fu22 → (Rng g9) → (0 ≤ w22_3.toInt) → (w22_3.toInt ≤ 8) → (fld g9 18 4 = .int ww) → lv_has ls 4 [(0, .ref (ad 80)), (1, .int n), (2, .int w2_2), (3, .int w22_3)] → WS ad cA (fun i k => (22 ≤ i ∧ i < 30) ∨ i = 83 ∨ i = (lw + 6) ∨ (i = 18 ∧ (k = 4 ∨ k = 5 ∨ k = 6 ∨ k = 7)) ∨ (i = 80 ∧ (k = 7 ∨ k = 8)) ∨ i = 19 ∨ (i = 18 ∧ (k = 4))) g0 K g9 H locs → XX K 0 0 H locs 22 ls [] := by
            intro fu22
            induction fu22 with
            | zero => intro w22_3 g9 H locs ls h0; omega
            | succ fu22 ih22 =>
              intro w22_3 g9 H locs ls hm22 i22_0 i22_1 i22_2 c22_18_4 hl hW
              have hG := i22_0
              refine q_iload_n hM dX2_go_22 (lv_at hl 3 rfl) ?_
              refine q_bipush (v := (8 : Int32)) hM dX2_go_23 (by decide) ?_
              refine q_icmp_ge (tgt := 67) hM dX2_go_25 (by decide) (rfl : w22_3.toInt = w22_3.toInt) (kc_8 : (8 : Int32).toInt = 8) (fun h25 => ?_) (fun h25 => ?_)
              · refine q_aload_n hM dX2_go_67 (lv_at hl 0 rfl) ?_
                refine w_get (v := .ref (ad 18)) hM hW FG_X2_19 lb_80 ((hW.2.2.1 80 10 (by omega)).trans h_r10) dX2_go_68 ?_
                refine q_dup hM dX2_go_71 rfl ?_
                refine w_get (v := .int ww) hM hW FG_X2_53 lb_18 c22_18_4 dX2_go_72 ?_
                refine q_iconst (v := (1 : Int32)) hM dX2_go_75 (by decide) ?_
                refine q_iadd hM dX2_go_76 (fun z12508 hz12508 => ?_)
                first | have tz12508 := i_addT hz12508 (rfl : ww.toInt = ww.toInt) (kc_1 : (1 : Int32).toInt = 1) (by omega) (by omega) | skip
                refine w_put hM hW FP_X2_53 lb_18 (by omega) (Or.inl ⟨_, rfl⟩) rfl rfl dX2_go_77 (fun g12509 H locs hW e1 e2 => ?_)
                have f12510 : fld g12509 18 4 = .int z12508 := e1
                have hG := hG.put e1 e2 (rfl : rF 18 4 = (-2147483648, 2147483647)) (by decide) (by have := i_rng z12508; omega) (by have := i_rng z12508; omega)
                refine q_iinc (lv9 := fun z12511 => [(2, .int z12511), (0, .ref (ad 80)), (1, .int n), (3, .int w22_3)]) hM dX2_go_80 hl (kq := 2) rfl (by decide) (fun _ => rfl) (fun z12511 ls hz12511 hl => ?_)
                first | have tz12511 := i_addT hz12511 (rfl : w2_2.toInt = w2_2.toInt) (kc_1 : (Int32.ofInt 1).toInt = 1) (by omega) (by omega) | skip
                refine q_goto (tgt := 2) hM dX2_go_83 (by decide) ?_
                exact ih2 z12511 z12508 _ _ _ _ (by omega) hG (by omega) (by omega) (by omega) f12510 (lv_sub hl [1, 2, 0] rfl) hW
              · refine q_aload_n hM dX2_go_28 (lv_at hl 0 rfl) ?_
                refine w_get (v := .ref (ad 18)) hM hW FG_X2_19 lb_80 ((hW.2.2.1 80 10 (by omega)).trans h_r10) dX2_go_29 ?_
                refine w_getI hM hW FG_X2_58 lb_18 (by decide) (by decide) dX2_go_32 (fun x12513 fx12513 => ?_)
                have bx12513 := hG.f fx12513 rF_18_3 (by decide)
                refine q_iload_n hM dX2_go_35 (lv_at hl 3 rfl) ?_
                refine q_callN (host := "ForgetSchool") (As := [.int x12513, .int w22_3]) (rest := []) hM hW.1 hR hC myX11_has (List.mem_of_getElem? (i := 3) rfl) (c_X11_has _ _ cA ad g9 x12513 w22_3 hW.2.1) ⟨by decide, by decide⟩ rfl rfl hl.1 (Nat.le_of_ble_eq_true rfl) dX2_go_36 (fun v g12515 H locs hp hW1 => ?_)
                obtain ⟨r12514, rfl, hr12514, rfl⟩ := hp
                have hW : WS ad cA (fun i k => (22 ≤ i ∧ i < 30) ∨ i = 83 ∨ i = (lw + 6) ∨ (i = 18 ∧ (k = 4 ∨ k = 5 ∨ k = 6 ∨ k = 7)) ∨ (i = 80 ∧ (k = 7 ∨ k = 8)) ∨ i = 19 ∨ (i = 18 ∧ (k = 4))) g0 K g9 H locs := ⟨hW1, hW.2.1, hW.2.2⟩
                first | have ltr12514 := has_lt 5 hr12514 (by omega) (by omega) | have ltr12514 := has_lt 6 hr12514 (by omega) (by omega) | have ltr12514 := has_lt 8 hr12514 (by omega) (by omega) | have ltr12514 := has_lt 12 hr12514 (by omega) (by omega) | skip
                refine q_if_eq (tgt := 61) hM dX2_go_39 (by decide) (rfl : r12514.toInt = r12514.toInt) (fun h39 => ?_) (fun h39 => ?_)
                · refine q_iinc (lv9 := fun z12517 => [(3, .int z12517), (0, .ref (ad 80)), (1, .int n), (2, .int w2_2)]) hM dX2_go_61 hl (kq := 3) rfl (by decide) (fun _ => rfl) (fun z12517 ls hz12517 hl => ?_)
                  first | have tz12517 := i_addT hz12517 (rfl : w22_3.toInt = w22_3.toInt) (kc_1 : (Int32.ofInt 1).toInt = 1) (by omega) (by omega) | skip
                  refine q_goto (tgt := 22) hM dX2_go_64 (by decide) ?_
                  exact ih22 z12517 _ _ _ _ (by omega) hG (by omega) (by omega) c22_18_4 (lv_sub hl [1, 2, 3, 0] rfl) hW
                · refine q_aload_n hM dX2_go_42 (lv_at hl 0 rfl) ?_
                  refine w_get (v := .ref (ad 18)) hM hW FG_X2_19 lb_80 ((hW.2.2.1 80 10 (by omega)).trans h_r10) dX2_go_43 ?_
                  refine w_get (v := .ref (ad 19)) hM hW FG_X2_65 lb_18 (rf_18_0 hW.2.1) dX2_go_46 ?_
                  refine q_iload_n hM dX2_go_49 (lv_at hl 3 rfl) ?_
                  refine w_iald hM hW lb_19 (i_in (by omega) (by omega)) dX2_go_50 ?_
                  refine q_top (fun y12519 hy12519 => ?_)
                  have by12519 := hG.a hy12519 rA_19
                  refine q_bipush (v := (9 : Int32)) hM dX2_go_51 (by decide) ?_
                  refine q_icmp_gt (tgt := 61) hM dX2_go_53 (by decide) (rfl : y12519.toInt = y12519.toInt) (kc_9 : (9 : Int32).toInt = 9) (fun h53 => ?_) (fun h53 => ?_)
                  · refine q_iinc (lv9 := fun z12521 => [(3, .int z12521), (0, .ref (ad 80)), (1, .int n), (2, .int w2_2)]) hM dX2_go_61 hl (kq := 3) rfl (by decide) (fun _ => rfl) (fun z12521 ls hz12521 hl => ?_)
                    first | have tz12521 := i_addT hz12521 (rfl : w22_3.toInt = w22_3.toInt) (kc_1 : (Int32.ofInt 1).toInt = 1) (by omega) (by omega) | skip
                    refine q_goto (tgt := 22) hM dX2_go_64 (by decide) ?_
                    exact ih22 z12521 _ _ _ _ (by omega) hG (by omega) (by omega) c22_18_4 (lv_sub hl [1, 2, 3, 0] rfl) hW
                  · refine q_aload_n hM dX2_go_56 (lv_at hl 0 rfl) ?_
                    refine q_iload_n hM dX2_go_57 (lv_at hl 3 rfl) ?_
                    refine q_callV (As := [.int w22_3]) (rest := []) hM hW.1 hR hC myX2_goThrough (kAW (v_2_10 (List.mem_of_getElem? (i := 4) rfl)) rfl) (rfl : vwCl[2]? = some (RX2, TX2, 11)) rfl lb_80.1 (shO hW.2.1 lb_80) (a_X2_goThrough_18 _ _ cA ad g9 w22_3 lw hW.2.1 hG hlw ((hW.2.2.1 80 9 (by omega)).trans h_r9) ((hW.2.2.1 80 10 (by omega)).trans h_r10) (by  omega) (by  omega) (by rw [← hy12519]; omega)) ⟨by decide, by decide⟩ rfl rfl hl.1 (Nat.le_of_ble_eq_true rfl) dX2_go_58 (fun v g12523 H locs hp hW1 => ?_)
                    obtain ⟨rfl, hs1, hG, hf1⟩ := hp
                    have f12524 : fld g12523 18 4 = .int ww := (hf1.1 18 4 (by omega)).trans c22_18_4
                    have f12525 : fld g12523 18 3 = .int x12513 := (hf1.1 18 3 (by omega)).trans fx12513
                    have hW : WS ad cA (fun i k => (22 ≤ i ∧ i < 30) ∨ i = 83 ∨ i = (lw + 6) ∨ (i = 18 ∧ (k = 4 ∨ k = 5 ∨ k = 6 ∨ k = 7)) ∨ (i = 80 ∧ (k = 7 ∨ k = 8)) ∨ i = 19 ∨ (i = 18 ∧ (k = 4))) g0 K g12523 H locs := ⟨hW1, hs1, hW.2.2.tr hf1 (fun i k h => h.elim (fun h => (Or.inl h)) (fun h => h.elim (fun h => (Or.inr (Or.inl h))) (fun h => h.elim (fun h => (Or.inr (Or.inr (Or.inl h)))) (fun h => h.elim (fun h => (Or.inr (Or.inr (Or.inr (Or.inl (by omega)))))) (fun h => h.elim (fun h => (Or.inr (Or.inr (Or.inr (Or.inr (Or.inl h)))))) (fun h => (Or.inr (Or.inr (Or.inr (Or.inr (Or.inr (Or.inl h))))))))))))⟩
                    refine q_iinc (lv9 := fun z12526 => [(3, .int z12526), (0, .ref (ad 80)), (1, .int n), (2, .int w2_2)]) hM dX2_go_61 hl (kq := 3) rfl (by decide) (fun _ => rfl) (fun z12526 ls hz12526 hl => ?_)
                    first | have tz12526 := i_addT hz12526 (rfl : w22_3.toInt = w22_3.toInt) (kc_1 : (Int32.ofInt 1).toInt = 1) (by omega) (by omega) | skip
                    refine q_goto (tgt := 22) hM dX2_go_64 (by decide) ?_
                    exact ih22 z12526 _ _ _ _ (by omega) hG (by omega) (by omega) f12524 (lv_sub hl [1, 2, 3, 0] rfl) hW
          have := kc_0
          exact L22 _ (0 : Int32) _ _ _ _ (Nat.lt_succ_self _) hG (by omega) (by omega) c2_18_4 (lv_sub hl [1, 2, 3, 0] rfl) hW
  have := kc_0
  exact L2 _ (0 : Int32) wk _ _ _ _ (Nat.lt_succ_self _) hG (by omega) (by omega) (by omega) f12500 (lv_sub hl [1, 2, 0] rfl) hW


set_option maxRecDepth 100000 in
set_option maxHeartbeats 4000000 in
theorem s_X11_weeks (l : Launch) (D : va_G) (cA : Nat → ClassId) (ad : Nat → Nat) (g0 : Nat → va_E) (a : Int32) (wk : Int32) (lw : Nat) (hSh : Shp ad cA g0) (hG : Rng g0) (hlw : isLw lw) (h_wk : fld g0 18 4 = .int wk) (h_r13 : fld g0 0 13 = .ref (ad lw)) : CT l NN ad cA D yX11_weeks cX11_weeks 3 (some FieldType.int) (7, 167) [.ref (ad 0), .int a] g0 (fun v g' => ∃ (w9 : Int32) (r : Int32), v = some (.int r) ∧ Shp ad cA g' ∧ Rng g' ∧ FR (fun i k => (i = 80 ∧ (k = 7 ∨ k = 8 ∨ k = 9 ∨ k = 10)) ∨ (22 ≤ i ∧ i < 30) ∨ i = 83 ∨ i = (lw + 6) ∨ (i = 18 ∧ (k = 4 ∨ k = 5 ∨ k = 6 ∨ k = 7)) ∨ (i = 80 ∧ (k = 7 ∨ k = 8)) ∨ i = 19) g0 g' ∧ fld g' 18 4 = .int w9 ∧ ((1 ≤ a.toInt ∧ a.toInt ≤ 60 ∧ WKr wk.toInt a.toInt w9.toInt) ∨ (¬ (1 ≤ a.toInt ∧ a.toInt ≤ 60) ∧ w9 = wk))) := by
  refine q_enterI (by decide) (Nat.le_of_ble_eq_true rfl) rfl (fun K H locs ls _ _ hM hW0 hR hC hE hl => ?_)
  have hl : lv_has ls 3 [(0, .ref (ad 0)), (1, .int a)] := hl
  have hW : WS ad cA (fun i k => (i = 80 ∧ (k = 7 ∨ k = 8 ∨ k = 9 ∨ k = 10)) ∨ (22 ≤ i ∧ i < 30) ∨ i = 83 ∨ i = (lw + 6) ∨ (i = 18 ∧ (k = 4 ∨ k = 5 ∨ k = 6 ∨ k = 7)) ∨ (i = 80 ∧ (k = 7 ∨ k = 8)) ∨ i = 19) g0 K g0 H locs := ⟨hW0, hSh, FR.rf⟩
  have ulw := hlw
  unfold isLw at ulw
  have := kc_0
  have := kc_1
  have f12527 : fld g0 18 4 = .int wk := h_wk
  refine q_iload_n hM dX11_weeks_0 (lv_at hl 1 rfl) ?_
  refine q_iconst (v := (1 : Int32)) hM dX11_weeks_1 (by decide) ?_
  refine q_bipush (v := (60 : Int32)) hM dX11_weeks_2 (by decide) ?_
  refine q_callS (As := [.int a, .int (1 : Int32), .int (60 : Int32)]) (rest := []) hM hW.1 hR hC myX11_within (kAW (v_1_10 (List.mem_of_getElem? (i := 1) rfl)) rfl) (c_X11_within _ _ cA ad g0 a (1 : Int32) (60 : Int32) hW.2.1) ⟨by decide, by decide⟩ rfl rfl hl.1 (Nat.le_of_ble_eq_true rfl) dX11_weeks_4 (fun v g12529 H locs hp hW1 => ?_)
  obtain ⟨r12528, rfl, hr12528, rfl⟩ := hp
  have hW : WS ad cA (fun i k => (i = 80 ∧ (k = 7 ∨ k = 8 ∨ k = 9 ∨ k = 10)) ∨ (22 ≤ i ∧ i < 30) ∨ i = 83 ∨ i = (lw + 6) ∨ (i = 18 ∧ (k = 4 ∨ k = 5 ∨ k = 6 ∨ k = 7)) ∨ (i = 80 ∧ (k = 7 ∨ k = 8)) ∨ i = 19) g0 K g0 H locs := ⟨hW1, hW.2.1, hW.2.2⟩
  have := kc_1
  have := kc_60
  refine q_if_ne (tgt := 12) hM dX11_weeks_7 (by decide) (rfl : r12528.toInt = r12528.toInt) (fun h7 => ?_) (fun h7 => ?_)
  · refine q_aload_n hM dX11_weeks_12 (lv_at hl 0 rfl) ?_
    refine w_get (v := .ref (ad 18)) hM hW FG_X11_26 lb_0 (rf_0_10 hW.2.1) dX11_weeks_13 ?_
    refine w_getI hM hW FG_X11_173 lb_18 (by decide) (by decide) dX11_weeks_16 (fun x12531 fx12531 => ?_)
    refine q_istore_n (lv9 := [(2, .int x12531), (0, .ref (ad 0)), (1, .int a)]) hM dX11_weeks_19 hl (by decide) rfl (fun ls hl => ?_)
    refine q_aload_n hM dX11_weeks_20 (lv_at hl 1 rfl) ?_
    refine w_get (v := .ref (ad 80)) hM hW FG_X11_83 lb_0 (rf_0_2 hW.2.1) dX11_weeks_21 ?_
    refine q_aload_n hM dX11_weeks_24 (lv_at hl 1 rfl) ?_
    refine w_get (v := .ref (ad lw)) hM hW FG_X11_39 lb_0 ((hW.2.2.1 0 13 (by omega)).trans h_r13) dX11_weeks_25 ?_
    refine q_aload_n hM dX11_weeks_28 (lv_at hl 1 rfl) ?_
    refine w_get (v := .ref (ad 18)) hM hW FG_X11_26 lb_0 (rf_0_10 hW.2.1) dX11_weeks_29 ?_
    refine q_callV (As := [.ref (ad lw), .ref (ad 18)]) (rest := []) hM hW.1 hR hC myX2_begin (kAW (v_2_9 (List.mem_of_getElem? (i := 11) rfl)) rfl) (rfl : vwCl[2]? = some (RX2, TX2, 11)) rfl lb_80.1 (shO hW.2.1 lb_80) (a_X2_begin _ _ cA ad g0 lw 18 hW.2.1 hG hlw (Or.inl rfl : isPb 18)) ⟨by decide, by decide⟩ rfl rfl hl.1 (Nat.le_of_ble_eq_true rfl) dX11_weeks_32 (fun v g12534 H locs hp hW1 => ?_)
    obtain ⟨rfl, hs1, hG, hf1, q12532, q12533⟩ := hp
    have f12535 : fld g12534 18 4 = .int wk := (hf1.1 18 4 (by omega)).trans f12527
    have f12536 : fld g12534 18 5 = .int x12531 := (hf1.1 18 5 (by omega)).trans fx12531
    have hW : WS ad cA (fun i k => (i = 80 ∧ (k = 7 ∨ k = 8 ∨ k = 9 ∨ k = 10)) ∨ (22 ≤ i ∧ i < 30) ∨ i = 83 ∨ i = (lw + 6) ∨ (i = 18 ∧ (k = 4 ∨ k = 5 ∨ k = 6 ∨ k = 7)) ∨ (i = 80 ∧ (k = 7 ∨ k = 8)) ∨ i = 19) g0 K g12534 H locs := ⟨hW1, hs1, hW.2.2.tr hf1 (fun i k h => (Or.inl h))⟩
    refine q_aload_n hM dX11_weeks_35 (lv_at hl 1 rfl) ?_
    refine w_get (v := .ref (ad 80)) hM hW FG_X11_83 lb_0 (rf_0_2 hW.2.1) dX11_weeks_36 ?_
    refine q_iload_n hM dX11_weeks_39 (lv_at hl 2 rfl) ?_
    refine q_callV (As := [.int a]) (rest := []) hM hW.1 hR hC myX2_go (kAW (v_2_9 (List.mem_of_getElem? (i := 15) rfl)) rfl) (rfl : vwCl[2]? = some (RX2, TX2, 11)) rfl lb_80.1 (shO hW.2.1 lb_80) (s_X2_go_18 _ _ cA ad g12534 a wk lw hW.2.1 hG hlw f12535 q12532 q12533 (by  omega) (by  omega)) ⟨by decide, by decide⟩ rfl rfl hl.1 (Nat.le_of_ble_eq_true rfl) dX11_weeks_40 (fun v g12540 H locs hp hW1 => ?_)
    obtain ⟨v12537, rfl, hs1, hG, hf1, q12538, e12539⟩ := hp
    have f12541 : fld g12540 80 9 = .ref (ad lw) := (hf1.1 80 9 (by omega)).trans q12532
    have f12542 : fld g12540 80 10 = .ref (ad 18) := (hf1.1 80 10 (by omega)).trans q12533
    have hW : WS ad cA (fun i k => (i = 80 ∧ (k = 7 ∨ k = 8 ∨ k = 9 ∨ k = 10)) ∨ (22 ≤ i ∧ i < 30) ∨ i = 83 ∨ i = (lw + 6) ∨ (i = 18 ∧ (k = 4 ∨ k = 5 ∨ k = 6 ∨ k = 7)) ∨ (i = 80 ∧ (k = 7 ∨ k = 8)) ∨ i = 19) g0 K g12540 H locs := ⟨hW1, hs1, hW.2.2.tr hf1 (fun i k h => h.elim (fun h => (Or.inr (Or.inl h))) (fun h => h.elim (fun h => (Or.inr (Or.inr (Or.inl h)))) (fun h => h.elim (fun h => (Or.inr (Or.inr (Or.inr (Or.inl h))))) (fun h => h.elim (fun h => (Or.inr (Or.inr (Or.inr (Or.inr (Or.inl h)))))) (fun h => h.elim (fun h => (Or.inl (by omega))) (fun h => h.elim (fun h => (Or.inr (Or.inr (Or.inr (Or.inr (Or.inr (Or.inr h))))))) (fun h => (Or.inr (Or.inr (Or.inr (Or.inr (Or.inl (by omega)))))))))))))⟩
    refine q_aload_n hM dX11_weeks_43 (lv_at hl 1 rfl) ?_
    refine w_get (v := .ref (ad 18)) hM hW FG_X11_26 lb_0 (rf_0_10 hW.2.1) dX11_weeks_44 ?_
    refine w_getI hM hW FG_X11_173 lb_18 (by decide) (by decide) dX11_weeks_47 (fun x12543 fx12543 => ?_)
    refine q_iload_n hM dX11_weeks_50 (lv_at hl 0 rfl) ?_
    refine q_isub hM dX11_weeks_51 (fun z12544 hz12544 => ?_)
    first | have tz12544 := i_subT hz12544 (rfl : x12543.toInt = x12543.toInt) (rfl : x12531.toInt = x12531.toInt) (by omega) (by omega) | skip
    exact hE _ _ _ _ _ _ hW.1 ⟨v12537, _, rfl, hW.2.1, hG, hW.2.2, q12538, (Or.inl ⟨by omega, by omega, e12539⟩)⟩ dX11_weeks_52
  · refine q_iconst (v := ((-1) : Int32)) hM dX11_weeks_10 (by decide) ?_
    exact hE _ _ _ _ _ _ hW.1 ⟨wk, _, rfl, hW.2.1, hG, hW.2.2, f12527, (Or.inr ⟨by omega, rfl⟩)⟩ dX11_weeks_11


set_option maxRecDepth 100000 in
set_option maxHeartbeats 4000000 in
theorem s_X12_fact (l : Launch) (D : va_G) (cA : Nat → ClassId) (ad : Nat → Nat) (g0 : Nat → va_E) (a : Int32) (b : Int32)   (hSh : Shp ad cA g0) (hG : Rng g0) : CT l NN ad cA D yX12_fact cX12_fact 3 (some FieldType.boolean) (1, 25) [.ref (ad 129), .int a, .int b] g0 (fun v g' => ∃ (r : Int32), v = some (.int r) ∧ Shp ad cA g' ∧ Rng g' ∧ FR (fun i k => i = 131 ∨ i = 132) g0 g' ∧ (((0 ≤ a.toInt ∧ a.toInt ≤ 11 ∧ 0 ≤ b.toInt ∧ b.toInt ≤ 8) ∧ arI g' 131 = upd (arI g0 131) a.toNatClampNeg (vp_nar .boolean (1 : Int32))) ∨ (¬ (0 ≤ a.toInt ∧ a.toInt ≤ 11 ∧ 0 ≤ b.toInt ∧ b.toInt ≤ 8) ∧ arI g' 131 = arI g0 131)) ∧ (r.toInt = 0 ∨ r.toInt = 1)) := by
  refine q_enterZ (by decide) (Nat.le_of_ble_eq_true rfl) (fun K H locs ls _ _ hM hW0 hR hC hE hl => ?_)
  have hl : lv_has ls 3 [(0, .ref (ad 129)), (1, .int a), (2, .int b)] := hl
  have hW : WS ad cA (fun i k => i = 131 ∨ i = 132) g0 K g0 H locs := ⟨hW0, hSh, FR.rf⟩
  have := kc_0
  have := kc_1
  refine q_iload_n hM dX12_fact_0 (lv_at hl 1 rfl) ?_
  refine q_i2l hM dX12_fact_1 ?_
  have := l_i2l a
  refine q_lconst (v := 0) hM dX12_fact_2 (by decide) ?_
  have := kl_0
  refine q_ldc2 (v := 11) hM (kAW (v_5_4 (List.mem_of_getElem? (i := 13) rfl)) rfl) dX12_fact_3 ?_
  have := kl_11
  refine q_callS (As := [.long a.toInt64, .long (0 : Int64), .long (11 : Int64)]) (rest := []) hM hW.1 hR hC myX12_lies (kAW (v_5_4 (List.mem_of_getElem? (i := 14) rfl)) rfl) (c_X12_lies _ _ cA ad g0 a.toInt64 (0 : Int64) (11 : Int64) hW.2.1) ⟨by decide, by decide⟩ rfl rfl hl.1 (Nat.le_of_ble_eq_true rfl) dX12_fact_6 (fun v g12547 H locs hp hW1 => ?_)
  obtain ⟨r12546, rfl, hr12546, rfl⟩ := hp
  have hW : WS ad cA (fun i k => i = 131 ∨ i = 132) g0 K g0 H locs := ⟨hW1, hW.2.1, hW.2.2⟩
  refine q_if_eq (tgt := 24) hM dX12_fact_9 (by decide) (rfl : r12546.toInt = r12546.toInt) (fun h9 => ?_) (fun h9 => ?_)
  · refine q_iconst (v := (0 : Int32)) hM dX12_fact_24 (by decide) ?_
    exact hE _ _ _ _ _ _ hW.1 nz_0 ⟨_, rfl, hW.2.1, hG, hW.2.2, (Or.inr ⟨by omega, rfl⟩), (by have := kc_0; omega)⟩ dX12_fact_25
  · refine q_iload_n hM dX12_fact_12 (lv_at hl 2 rfl) ?_
    refine q_i2l hM dX12_fact_13 ?_
    have := l_i2l b
    refine q_lconst (v := 0) hM dX12_fact_14 (by decide) ?_
    have := kl_0
    refine q_ldc2 (v := 8) hM (kAW (v_5_5 (List.mem_of_getElem? (i := 1) rfl)) rfl) dX12_fact_15 ?_
    have := kl_8
    refine q_callS (As := [.long b.toInt64, .long (0 : Int64), .long (8 : Int64)]) (rest := []) hM hW.1 hR hC myX12_lies (kAW (v_5_4 (List.mem_of_getElem? (i := 14) rfl)) rfl) (c_X12_lies _ _ cA ad g0 b.toInt64 (0 : Int64) (8 : Int64) hW.2.1) ⟨by decide, by decide⟩ rfl rfl hl.1 (Nat.le_of_ble_eq_true rfl) dX12_fact_18 (fun v g12551 H locs hp hW1 => ?_)
    obtain ⟨r12550, rfl, hr12550, rfl⟩ := hp
    have hW : WS ad cA (fun i k => i = 131 ∨ i = 132) g0 K g0 H locs := ⟨hW1, hW.2.1, hW.2.2⟩
    refine q_if_ne (tgt := 26) hM dX12_fact_21 (by decide) (rfl : r12550.toInt = r12550.toInt) (fun h21 => ?_) (fun h21 => ?_)
    · refine q_aload_n hM dX12_fact_26 (lv_at hl 0 rfl) ?_
      refine w_get (v := .ref (ad 131)) hM hW FG_X12_17 lb_129 (rf_129_10 hW.2.1) dX12_fact_27 ?_
      refine q_iload_n hM dX12_fact_30 (lv_at hl 1 rfl) ?_
      refine q_iconst (v := (1 : Int32)) hM dX12_fact_31 (by decide) ?_
      refine w_zast hM hW lb_131 (by omega) (i_in (by omega) (by omega)) dX12_fact_32 (fun g12553 H locs hW e1 e2 => ?_)
      have f12554 := e1
      have hG := hG.st e1 e2 (rfl : rA 131 = (-2147483648, 2147483647)) (by have := i_rng (vp_nar .boolean (1 : Int32)); omega) (by have := i_rng (vp_nar .boolean (1 : Int32)); omega)
      refine q_aload_n hM dX12_fact_33 (lv_at hl 0 rfl) ?_
      refine w_get (v := .ref (ad 132)) hM hW FG_X12_21 lb_129 (rf_129_11 hW.2.1) dX12_fact_34 ?_
      refine q_iload_n hM dX12_fact_37 (lv_at hl 1 rfl) ?_
      refine q_iload_n hM dX12_fact_38 (lv_at hl 2 rfl) ?_
      refine w_iast hM hW lb_132 (by omega) (i_in (by omega) (by omega)) dX12_fact_39 (fun g12555 H locs hW e1 e2 => ?_)
      have f12556 : arI g12555 131 = upd (arI g0 131) a.toNatClampNeg (vp_nar .boolean (1 : Int32)) := (e2.2.1 131 (by unfold Only; omega)).trans f12554
      have hG := hG.st e1 e2 (rfl : rA 132 = (-2147483648, 2147483647)) (by have := i_rng b; omega) (by have := i_rng b; omega)
      refine q_iconst (v := (1 : Int32)) hM dX12_fact_40 (by decide) ?_
      exact hE _ _ _ _ _ _ hW.1 nz_1 ⟨_, rfl, hW.2.1, hG, hW.2.2, (Or.inl ⟨by omega, f12556⟩), (by have := kc_1; omega)⟩ dX12_fact_41
    · refine q_iconst (v := (0 : Int32)) hM dX12_fact_24 (by decide) ?_
      exact hE _ _ _ _ _ _ hW.1 nz_0 ⟨_, rfl, hW.2.1, hG, hW.2.2, (Or.inr ⟨by omega, rfl⟩), (by have := kc_0; omega)⟩ dX12_fact_25


set_option maxRecDepth 100000 in
set_option maxHeartbeats 4000000 in
theorem s_X12_pupil (l : Launch) (D : va_G) (cA : Nat → ClassId) (ad : Nat → Nat) (g0 : Nat → va_E) (a : Int32) (b : Int32) (c : Int32)   (hSh : Shp ad cA g0) (hG : Rng g0) : CT l NN ad cA D yX12_pupil cX12_pupil 5 (some FieldType.boolean) (1, 25) [.ref (ad 129), .int a, .int b, .int c] g0 (fun v g' => ∃ (r : Int32), v = some (.int r) ∧ Shp ad cA g' ∧ Rng g' ∧ FR (fun i k => (158 ≤ i ∧ i < 162)) g0 g' ∧ (((0 ≤ a.toInt ∧ a.toInt ≤ 7 ∧ 1 ≤ b.toInt ∧ b.toInt ≤ 9 ∧ 0 ≤ c.toInt ∧ c.toInt ≤ 99) ∧ arI g' 158 = upd (arI g0 158) a.toNatClampNeg (vp_nar .boolean (1 : Int32))) ∨ (¬ (0 ≤ a.toInt ∧ a.toInt ≤ 7 ∧ 1 ≤ b.toInt ∧ b.toInt ≤ 9 ∧ 0 ≤ c.toInt ∧ c.toInt ≤ 99) ∧ arI g' 158 = arI g0 158)) ∧ (r.toInt = 0 ∨ r.toInt = 1)) := by
  refine q_enterZ (by decide) (Nat.le_of_ble_eq_true rfl) (fun K H locs ls _ _ hM hW0 hR hC hE hl => ?_)
  have hl : lv_has ls 5 [(0, .ref (ad 129)), (1, .int a), (2, .int b), (3, .int c)] := hl
  have hW : WS ad cA (fun i k => (158 ≤ i ∧ i < 162)) g0 K g0 H locs := ⟨hW0, hSh, FR.rf⟩
  have := kc_0
  have := kc_1
  refine q_iload_n hM dX12_pupil_0 (lv_at hl 1 rfl) ?_
  refine q_i2l hM dX12_pupil_1 ?_
  have := l_i2l a
  refine q_lconst (v := 0) hM dX12_pupil_2 (by decide) ?_
  have := kl_0
  refine q_ldc2 (v := 7) hM (kAW (v_6_2 (List.mem_of_getElem? (i := 3) rfl)) rfl) dX12_pupil_3 ?_
  have := kl_7
  refine q_callS (As := [.long a.toInt64, .long (0 : Int64), .long (7 : Int64)]) (rest := []) hM hW.1 hR hC myX12_lies (kAW (v_5_4 (List.mem_of_getElem? (i := 14) rfl)) rfl) (c_X12_lies _ _ cA ad g0 a.toInt64 (0 : Int64) (7 : Int64) hW.2.1) ⟨by decide, by decide⟩ rfl rfl hl.1 (Nat.le_of_ble_eq_true rfl) dX12_pupil_6 (fun v g12559 H locs hp hW1 => ?_)
  obtain ⟨r12558, rfl, hr12558, rfl⟩ := hp
  have hW : WS ad cA (fun i k => (158 ≤ i ∧ i < 162)) g0 K g0 H locs := ⟨hW1, hW.2.1, hW.2.2⟩
  refine q_if_eq (tgt := 36) hM dX12_pupil_9 (by decide) (rfl : r12558.toInt = r12558.toInt) (fun h9 => ?_) (fun h9 => ?_)
  · refine q_iconst (v := (0 : Int32)) hM dX12_pupil_36 (by decide) ?_
    exact hE _ _ _ _ _ _ hW.1 nz_0 ⟨_, rfl, hW.2.1, hG, hW.2.2, (Or.inr ⟨by omega, rfl⟩), (by have := kc_0; omega)⟩ dX12_pupil_37
  · refine q_iload_n hM dX12_pupil_12 (lv_at hl 2 rfl) ?_
    refine q_i2l hM dX12_pupil_13 ?_
    have := l_i2l b
    refine q_lconst (v := 1) hM dX12_pupil_14 (by decide) ?_
    have := kl_1
    refine q_ldc2 (v := 9) hM (kAW (v_5_5 (List.mem_of_getElem? (i := 10) rfl)) rfl) dX12_pupil_15 ?_
    have := kl_9
    refine q_callS (As := [.long b.toInt64, .long (1 : Int64), .long (9 : Int64)]) (rest := []) hM hW.1 hR hC myX12_lies (kAW (v_5_4 (List.mem_of_getElem? (i := 14) rfl)) rfl) (c_X12_lies _ _ cA ad g0 b.toInt64 (1 : Int64) (9 : Int64) hW.2.1) ⟨by decide, by decide⟩ rfl rfl hl.1 (Nat.le_of_ble_eq_true rfl) dX12_pupil_18 (fun v g12563 H locs hp hW1 => ?_)
    obtain ⟨r12562, rfl, hr12562, rfl⟩ := hp
    have hW : WS ad cA (fun i k => (158 ≤ i ∧ i < 162)) g0 K g0 H locs := ⟨hW1, hW.2.1, hW.2.2⟩
    refine q_if_eq (tgt := 36) hM dX12_pupil_21 (by decide) (rfl : r12562.toInt = r12562.toInt) (fun h21 => ?_) (fun h21 => ?_)
    · refine q_iconst (v := (0 : Int32)) hM dX12_pupil_36 (by decide) ?_
      exact hE _ _ _ _ _ _ hW.1 nz_0 ⟨_, rfl, hW.2.1, hG, hW.2.2, (Or.inr ⟨by omega, rfl⟩), (by have := kc_0; omega)⟩ dX12_pupil_37
    · refine q_iload_n hM dX12_pupil_24 (lv_at hl 3 rfl) ?_
      refine q_i2l hM dX12_pupil_25 ?_
      have := l_i2l c
      refine q_lconst (v := 0) hM dX12_pupil_26 (by decide) ?_
      have := kl_0
      refine q_ldc2 (v := 99) hM (kAW (v_6_2 (List.mem_of_getElem? (i := 4) rfl)) rfl) dX12_pupil_27 ?_
      have := kl_99
      refine q_callS (As := [.long c.toInt64, .long (0 : Int64), .long (99 : Int64)]) (rest := []) hM hW.1 hR hC myX12_lies (kAW (v_5_4 (List.mem_of_getElem? (i := 14) rfl)) rfl) (c_X12_lies _ _ cA ad g0 c.toInt64 (0 : Int64) (99 : Int64) hW.2.1) ⟨by decide, by decide⟩ rfl rfl hl.1 (Nat.le_of_ble_eq_true rfl) dX12_pupil_30 (fun v g12567 H locs hp hW1 => ?_)
      obtain ⟨r12566, rfl, hr12566, rfl⟩ := hp
      have hW : WS ad cA (fun i k => (158 ≤ i ∧ i < 162)) g0 K g0 H locs := ⟨hW1, hW.2.1, hW.2.2⟩
      refine q_if_ne (tgt := 38) hM dX12_pupil_33 (by decide) (rfl : r12566.toInt = r12566.toInt) (fun h33 => ?_) (fun h33 => ?_)
      · refine q_aload_n hM dX12_pupil_38 (lv_at hl 0 rfl) ?_
        refine w_get (v := .ref (ad 158)) hM hW FG_X12_100 lb_129 (rf_129_52 hW.2.1) dX12_pupil_39 ?_
        refine q_iload_n hM dX12_pupil_42 (lv_at hl 1 rfl) ?_
        refine q_iconst (v := (1 : Int32)) hM dX12_pupil_43 (by decide) ?_
        refine w_zast hM hW lb_158 (by omega) (i_in (by omega) (by omega)) dX12_pupil_44 (fun g12569 H locs hW e1 e2 => ?_)
        have f12570 := e1
        have hG := hG.st e1 e2 (rfl : rA 158 = (-2147483648, 2147483647)) (by have := i_rng (vp_nar .boolean (1 : Int32)); omega) (by have := i_rng (vp_nar .boolean (1 : Int32)); omega)
        refine q_aload_n hM dX12_pupil_45 (lv_at hl 0 rfl) ?_
        refine w_get (v := .ref (ad 159)) hM hW FG_X12_103 lb_129 (rf_129_53 hW.2.1) dX12_pupil_46 ?_
        refine q_iload_n hM dX12_pupil_49 (lv_at hl 1 rfl) ?_
        refine q_iload_n hM dX12_pupil_50 (lv_at hl 2 rfl) ?_
        refine w_iast hM hW lb_159 (by omega) (i_in (by omega) (by omega)) dX12_pupil_51 (fun g12571 H locs hW e1 e2 => ?_)
        have f12572 : arI g12571 158 = upd (arI g0 158) a.toNatClampNeg (vp_nar .boolean (1 : Int32)) := (e2.2.1 158 (by unfold Only; omega)).trans f12570
        have hG := hG.st e1 e2 rA_159 (by have := i_rng b; omega) (by have := i_rng b; omega)
        refine q_aload_n hM dX12_pupil_52 (lv_at hl 0 rfl) ?_
        refine w_get (v := .ref (ad 160)) hM hW FG_X12_106 lb_129 (rf_129_54 hW.2.1) dX12_pupil_53 ?_
        refine q_iload_n hM dX12_pupil_56 (lv_at hl 1 rfl) ?_
        refine q_iload_n hM dX12_pupil_57 (lv_at hl 3 rfl) ?_
        refine w_iast hM hW lb_160 (by omega) (i_in (by omega) (by omega)) dX12_pupil_58 (fun g12573 H locs hW e1 e2 => ?_)
        have f12574 : arI g12573 158 = upd (arI g0 158) a.toNatClampNeg (vp_nar .boolean (1 : Int32)) := (e2.2.1 158 (by unfold Only; omega)).trans f12572
        have hG := hG.st e1 e2 (rfl : rA 160 = (-2147483648, 2147483647)) (by have := i_rng c; omega) (by have := i_rng c; omega)
        refine q_iconst (v := (0 : Int32)) hM dX12_pupil_59 (by decide) ?_
        refine q_istore (lv9 := [(4, .int (0 : Int32)), (0, .ref (ad 129)), (1, .int a), (2, .int b), (3, .int c)]) hM dX12_pupil_60 hl (by decide) rfl (fun ls hl => ?_)
        have L62 : ∀ (fu62 : Nat) (w62_4 : Int32) (g9 : Nat → va_E) (H : Heap) (locs : List Loc) (ls : Array Slot), (12 - w62_4.toInt).toNat < fu62 → (Rng g9) → (0 ≤ w62_4.toInt) → (w62_4.toInt ≤ 12) → (arI g9 158 = upd (arI g0 158) a.toNatClampNeg (vp_nar .boolean (1 : Int32))) → lv_has ls 5 [(0, .ref (ad 129)), (1, .int a), (2, .int b), (3, .int c), (4, .int w62_4)] → WS ad cA (fun i k => (158 ≤ i ∧ i < 162)) g0 K g9 H locs → XX K 0 0 H locs 62 ls [] := by
          intro fu62
          induction fu62 with
          | zero => intro w62_4 g9 H locs ls h0; omega
          | succ fu62 ih62 =>
            intro w62_4 g9 H locs ls hm62 i62_0 i62_1 i62_2 d62_158 hl hW
            have hG := i62_0
            refine q_iload hM dX12_pupil_62 (lv_at hl 4 rfl) ?_
            refine q_bipush (v := (12 : Int32)) hM dX12_pupil_64 (by decide) ?_
            refine q_icmp_ge (tgt := 88) hM dX12_pupil_66 (by decide) (rfl : w62_4.toInt = w62_4.toInt) (kc_12 : (12 : Int32).toInt = 12) (fun h66 => ?_) (fun h66 => ?_)
            · refine q_iconst (v := (1 : Int32)) hM dX12_pupil_88 (by decide) ?_
              exact hE _ _ _ _ _ _ hW.1 nz_1 ⟨_, rfl, hW.2.1, hG, hW.2.2, (Or.inl ⟨by omega, d62_158⟩), (by have := kc_1; omega)⟩ dX12_pupil_89
            · refine q_aload_n hM dX12_pupil_69 (lv_at hl 0 rfl) ?_
              refine w_get (v := .ref (ad 161)) hM hW FG_X12_109 lb_129 (rf_129_55 hW.2.1) dX12_pupil_70 ?_
              refine q_bipush (v := (12 : Int32)) hM dX12_pupil_73 (by decide) ?_
              refine q_iload_n hM dX12_pupil_75 (lv_at hl 1 rfl) ?_
              refine q_imul hM dX12_pupil_76 (fun z12578 hz12578 => ?_)
              first | have tz12578 := i_mulT hz12578 (kc_12 : (12 : Int32).toInt = 12) (rfl : a.toInt = a.toInt) (by omega) (by omega) | skip
              refine q_iload hM dX12_pupil_77 (lv_at hl 4 rfl) ?_
              refine q_iadd hM dX12_pupil_79 (fun z12579 hz12579 => ?_)
              first | have tz12579 := i_addT hz12579 (rfl : z12578.toInt = z12578.toInt) (rfl : w62_4.toInt = w62_4.toInt) (by omega) (by omega) | skip
              refine q_iconst (v := (0 : Int32)) hM dX12_pupil_80 (by decide) ?_
              refine w_iast hM hW lb_161 (by omega) (i_in (by omega) (by omega)) dX12_pupil_81 (fun g12580 H locs hW e1 e2 => ?_)
              have f12581 : arI g12580 158 = upd (arI g0 158) a.toNatClampNeg (vp_nar .boolean (1 : Int32)) := (e2.2.1 158 (by unfold Only; omega)).trans d62_158
              have hG := hG.st e1 e2 (rfl : rA 161 = (-2147483648, 2147483647)) (by have := kc_0; have := i_rng (0 : Int32); omega) (by have := kc_0; have := i_rng (0 : Int32); omega)
              refine q_iinc (lv9 := fun z12582 => [(4, .int z12582), (0, .ref (ad 129)), (1, .int a), (2, .int b), (3, .int c)]) hM dX12_pupil_82 hl (kq := 4) rfl (by decide) (fun _ => rfl) (fun z12582 ls hz12582 hl => ?_)
              first | have tz12582 := i_addT hz12582 (rfl : w62_4.toInt = w62_4.toInt) (kc_1 : (Int32.ofInt 1).toInt = 1) (by omega) (by omega) | skip
              refine q_goto (tgt := 62) hM dX12_pupil_85 (by decide) ?_
              exact ih62 z12582 _ _ _ _ (by omega) hG (by omega) (by omega) f12581 (lv_sub hl [1, 2, 3, 4, 0] rfl) hW
        have := kc_0
        exact L62 _ (0 : Int32) _ _ _ _ (Nat.lt_succ_self _) hG (by omega) (by omega) f12574 (lv_sub hl [1, 2, 3, 4, 0] rfl) hW
      · refine q_iconst (v := (0 : Int32)) hM dX12_pupil_36 (by decide) ?_
        exact hE _ _ _ _ _ _ hW.1 nz_0 ⟨_, rfl, hW.2.1, hG, hW.2.2, (Or.inr ⟨by omega, rfl⟩), (by have := kc_0; omega)⟩ dX12_pupil_37


set_option maxRecDepth 100000 in
set_option maxHeartbeats 4000000 in
theorem s_X12_laysAside_0 (l : Launch) (D : va_G) (cA : Nat → ClassId) (ad : Nat → Nat) (g0 : Nat → va_E)  (wk : Int32)  (hSh : Shp ad cA g0) (hG : Rng g0) (h_wk : fld g0 129 56 = .int wk) (hF : ∀ q : Nat, q < 8 → (arI g0 158 q).toInt = 0 ∨ (arI g0 158 q).toInt = 1) : CT l NN ad cA D yX12_laysAside cX12_laysAside 3 none (0, 0) [.ref (ad 129), .int (0 : Int32)] g0 (fun v g' => v = none ∧ Shp ad cA g' ∧ Rng g' ∧ FR (fun i k => (162 ≤ i ∧ i < 170)) g0 g' ∧ (∀ j : Nat, j < 8 → arI g' 162 (0 + j) = arI g0 158 j) ∧ (∀ q : Nat, (8 ≤ q) → arI g' 162 q = arI g0 162 q) ∧ (arI g' 166 = upd (arI g0 166) (0 : Int32).toNatClampNeg wk)) := by
  refine q_enterV (by decide) (Nat.le_of_ble_eq_true rfl) (fun K H locs ls _ _ hM hW0 hR hC hE hl => ?_)
  have hl : lv_has ls 3 [(0, .ref (ad 129)), (1, .int (0 : Int32))] := hl
  have hW : WS ad cA (fun i k => (162 ≤ i ∧ i < 170)) g0 K g0 H locs := ⟨hW0, hSh, FR.rf⟩
  have := kc_0
  refine q_iconst (v := (0 : Int32)) hM dX12_laysAside_0 (by decide) ?_
  refine q_istore_n (lv9 := [(2, .int (0 : Int32)), (0, .ref (ad 129)), (1, .int (0 : Int32))]) hM dX12_laysAside_1 hl (by decide) rfl (fun ls hl => ?_)
  have L2 : ∀ (fu2 : Nat) (w2_2 : Int32) (h9_2 : Nat → va_E) (H : Heap) (locs : List Loc) (ls : Array Slot), (8 - w2_2.toInt).toNat < fu2 → (Rng h9_2) → (0 ≤ w2_2.toInt) → (w2_2.toInt ≤ 8) → (∀ j : Nat, (j : Int) < w2_2.toInt → arI h9_2 162 (0 + j) = arI g0 158 j) → (∀ q : Nat, (8 ≤ q) → arI h9_2 162 q = arI g0 162 q) → (arI h9_2 166 = arI g0 166) → lv_has ls 3 [(0, .ref (ad 129)), (1, .int (0 : Int32)), (2, .int w2_2)] → WS ad cA (fun i k => (162 ≤ i ∧ i < 170)) g0 K h9_2 H locs → XX K 0 0 H locs 2 ls [] := by
    intro fu2
    induction fu2 with
    | zero => intro w2_2 h9_2 H locs ls h0; omega
    | succ fu2 ih2 =>
      intro w2_2 h9_2 H locs ls hm2 i2_0 i2_1 i2_2 i2_3 i2_4 d2_166 hl hW
      have hG := i2_0
      refine q_iload_n hM dX12_laysAside_2 (lv_at hl 2 rfl) ?_
      refine q_bipush (v := (8 : Int32)) hM dX12_laysAside_3 (by decide) ?_
      refine q_icmp_ge (tgt := 65) hM dX12_laysAside_5 (by decide) (rfl : w2_2.toInt = w2_2.toInt) (kc_8 : (8 : Int32).toInt = 8) (fun h5 => ?_) (fun h5 => ?_)
      · refine q_iconst (v := (0 : Int32)) hM dX12_laysAside_65 (by decide) ?_
        refine q_istore_n (lv9 := [(2, .int (0 : Int32)), (0, .ref (ad 129)), (1, .int (0 : Int32))]) hM dX12_laysAside_66 hl (by decide) rfl (fun ls hl => ?_)
        have L67 : ∀ (fu67 : Nat) (w67_2 : Int32) (h9_67 : Nat → va_E) (H : Heap) (locs : List Loc) (ls : Array Slot), (96 - w67_2.toInt).toNat < fu67 → (Rng h9_67) → (0 ≤ w67_2.toInt) → (w67_2.toInt ≤ 96) → (arI h9_67 162 = arI h9_2 162) → (arI h9_67 166 = arI g0 166) → lv_has ls 3 [(0, .ref (ad 129)), (1, .int (0 : Int32)), (2, .int w67_2)] → WS ad cA (fun i k => (162 ≤ i ∧ i < 170)) g0 K h9_67 H locs → XX K 0 0 H locs 67 ls [] := by
          intro fu67
          induction fu67 with
          | zero => intro w67_2 h9_67 H locs ls h0; omega
          | succ fu67 ih67 =>
            intro w67_2 h9_67 H locs ls hm67 i67_0 i67_1 i67_2 d67_162 d67_166 hl hW
            have hG := i67_0
            refine q_iload_n hM dX12_laysAside_67 (lv_at hl 2 rfl) ?_
            refine q_bipush (v := (96 : Int32)) hM dX12_laysAside_68 (by decide) ?_
            refine q_icmp_ge (tgt := 96) hM dX12_laysAside_70 (by decide) (rfl : w67_2.toInt = w67_2.toInt) (kc_96 : (96 : Int32).toInt = 96) (fun h70 => ?_) (fun h70 => ?_)
            · refine q_aload_n hM dX12_laysAside_96 (lv_at hl 0 rfl) ?_
              refine w_get (v := .ref (ad 166)) hM hW FG_X12_124 lb_129 (rf_129_71 hW.2.1) dX12_laysAside_97 ?_
              refine q_iload_n hM dX12_laysAside_100 (lv_at hl 1 rfl) ?_
              refine q_aload_n hM dX12_laysAside_101 (lv_at hl 0 rfl) ?_
              refine w_get (v := .int wk) hM hW FG_X12_416 lb_129 ((hW.2.2.1 129 56 (by omega)).trans h_wk) dX12_laysAside_102 ?_
              refine w_iast hM hW lb_166 (by omega) (i_in (by rw [kc_0]; decide) (by rw [kc_0]; decide)) dX12_laysAside_105 (fun g12588 H locs hW e1 e2 => ?_)
              have f12589 : arI g12588 162 = arI h9_2 162 := (e2.2.1 162 (by unfold Only; omega)).trans d67_162
              have f12590 := e1
              rw [d67_166] at f12590
              have hG := hG.st e1 e2 (rfl : rA 166 = (-2147483648, 2147483647)) (by have := i_rng wk; omega) (by have := i_rng wk; omega)
              refine q_aload_n hM dX12_laysAside_106 (lv_at hl 0 rfl) ?_
              refine w_get (v := .ref (ad 167)) hM hW FG_X12_127 lb_129 (rf_129_72 hW.2.1) dX12_laysAside_107 ?_
              refine q_iload_n hM dX12_laysAside_110 (lv_at hl 1 rfl) ?_
              refine q_aload_n hM dX12_laysAside_111 (lv_at hl 0 rfl) ?_
              refine w_getI hM hW FG_X12_471 lb_129 (by decide) (by decide) dX12_laysAside_112 (fun x12591 fx12591 => ?_)
              refine w_iast hM hW lb_167 (by omega) (i_in (by rw [kc_0]; decide) (by rw [kc_0]; decide)) dX12_laysAside_115 (fun g12592 H locs hW e1 e2 => ?_)
              have f12593 : arI g12592 162 = arI h9_2 162 := (e2.2.1 162 (by unfold Only; omega)).trans f12589
              have f12594 : arI g12592 166 = upd (arI g0 166) (0 : Int32).toNatClampNeg wk := (e2.2.1 166 (by unfold Only; omega)).trans f12590
              have f12595 : fld g12592 129 57 = .int x12591 := (e2.1 129 57 (by unfold Only; omega)).trans fx12591
              have hG := hG.st e1 e2 (rfl : rA 167 = (-2147483648, 2147483647)) (by have := i_rng x12591; omega) (by have := i_rng x12591; omega)
              refine q_aload_n hM dX12_laysAside_116 (lv_at hl 0 rfl) ?_
              refine w_get (v := .ref (ad 168)) hM hW FG_X12_130 lb_129 (rf_129_73 hW.2.1) dX12_laysAside_117 ?_
              refine q_iload_n hM dX12_laysAside_120 (lv_at hl 1 rfl) ?_
              refine q_aload_n hM dX12_laysAside_121 (lv_at hl 0 rfl) ?_
              refine w_getI hM hW FG_X12_486 lb_129 (by decide) (by decide) dX12_laysAside_122 (fun x12596 fx12596 => ?_)
              refine w_iast hM hW lb_168 (by omega) (i_in (by rw [kc_0]; decide) (by rw [kc_0]; decide)) dX12_laysAside_125 (fun g12597 H locs hW e1 e2 => ?_)
              have f12598 : arI g12597 162 = arI h9_2 162 := (e2.2.1 162 (by unfold Only; omega)).trans f12593
              have f12599 : arI g12597 166 = upd (arI g0 166) (0 : Int32).toNatClampNeg wk := (e2.2.1 166 (by unfold Only; omega)).trans f12594
              have f12600 : fld g12597 129 57 = .int x12591 := (e2.1 129 57 (by unfold Only; omega)).trans f12595
              have f12601 : fld g12597 129 58 = .int x12596 := (e2.1 129 58 (by unfold Only; omega)).trans fx12596
              have hG := hG.st e1 e2 (rfl : rA 168 = (-2147483648, 2147483647)) (by have := i_rng x12596; omega) (by have := i_rng x12596; omega)
              refine q_aload_n hM dX12_laysAside_126 (lv_at hl 0 rfl) ?_
              refine w_get (v := .ref (ad 169)) hM hW FG_X12_133 lb_129 (rf_129_74 hW.2.1) dX12_laysAside_127 ?_
              refine q_iload_n hM dX12_laysAside_130 (lv_at hl 1 rfl) ?_
              refine q_aload_n hM dX12_laysAside_131 (lv_at hl 0 rfl) ?_
              refine w_getI hM hW FG_X12_13 lb_129 (by decide) (by decide) dX12_laysAside_132 (fun x12602 fx12602 => ?_)
              refine w_iast hM hW lb_169 (by omega) (i_in (by rw [kc_0]; decide) (by rw [kc_0]; decide)) dX12_laysAside_135 (fun g12603 H locs hW e1 e2 => ?_)
              have f12604 : arI g12603 162 = arI h9_2 162 := (e2.2.1 162 (by unfold Only; omega)).trans f12598
              have f12605 : arI g12603 166 = upd (arI g0 166) (0 : Int32).toNatClampNeg wk := (e2.2.1 166 (by unfold Only; omega)).trans f12599
              have f12606 : fld g12603 129 57 = .int x12591 := (e2.1 129 57 (by unfold Only; omega)).trans f12600
              have f12607 : fld g12603 129 58 = .int x12596 := (e2.1 129 58 (by unfold Only; omega)).trans f12601
              have f12608 : fld g12603 129 2 = .int x12602 := (e2.1 129 2 (by unfold Only; omega)).trans fx12602
              have hG := hG.st e1 e2 (rfl : rA 169 = (-2147483648, 2147483647)) (by have := i_rng x12602; omega) (by have := i_rng x12602; omega)
              exact hE _ _ _ _ _ hW.1 ⟨rfl, hW.2.1, hG, hW.2.2, (fun j hj => by rw [f12604]; exact i2_3 j (by omega)), (fun q hq => by rw [f12604]; exact i2_4 q hq), f12605⟩ dX12_laysAside_136
            · refine q_aload_n hM dX12_laysAside_73 (lv_at hl 0 rfl) ?_
              refine w_get (v := .ref (ad 165)) hM hW FG_X12_121 lb_129 (rf_129_70 hW.2.1) dX12_laysAside_74 ?_
              refine q_bipush (v := (96 : Int32)) hM dX12_laysAside_77 (by decide) ?_
              refine q_iload_n hM dX12_laysAside_79 (lv_at hl 1 rfl) ?_
              refine q_imul hM dX12_laysAside_80 (fun z12610 hz12610 => ?_)
              first | have tz12610 := i_mulT hz12610 (kc_96 : (96 : Int32).toInt = 96) (kc_0 : (0 : Int32).toInt = 0) (by omega) (by omega) | skip
              refine q_iload_n hM dX12_laysAside_81 (lv_at hl 2 rfl) ?_
              refine q_iadd hM dX12_laysAside_82 (fun z12611 hz12611 => ?_)
              first | have tz12611 := i_addT hz12611 (rfl : z12610.toInt = z12610.toInt) (rfl : w67_2.toInt = w67_2.toInt) (by omega) (by omega) | skip
              refine q_aload_n hM dX12_laysAside_83 (lv_at hl 0 rfl) ?_
              refine w_get (v := .ref (ad 161)) hM hW FG_X12_109 lb_129 (rf_129_55 hW.2.1) dX12_laysAside_84 ?_
              refine q_iload_n hM dX12_laysAside_87 (lv_at hl 2 rfl) ?_
              refine w_iald hM hW lb_161 (i_in (by omega) (by omega)) dX12_laysAside_88 ?_
              refine q_top (fun y12612 hy12612 => ?_)
              refine w_iast hM hW lb_165 (by omega) (i_in (by omega) (by omega)) dX12_laysAside_89 (fun g12613 H locs hW e1 e2 => ?_)
              have f12614 : arI g12613 162 = arI h9_2 162 := (e2.2.1 162 (by unfold Only; omega)).trans d67_162
              have f12615 : arI g12613 166 = arI g0 166 := (e2.2.1 166 (by unfold Only; omega)).trans d67_166
              have hG := hG.st e1 e2 (rfl : rA 165 = (-2147483648, 2147483647)) (by have := i_rng y12612; omega) (by have := i_rng y12612; omega)
              refine q_iinc (lv9 := fun z12616 => [(2, .int z12616), (0, .ref (ad 129)), (1, .int (0 : Int32))]) hM dX12_laysAside_90 hl (kq := 2) rfl (by decide) (fun _ => rfl) (fun z12616 ls hz12616 hl => ?_)
              first | have tz12616 := i_addT hz12616 (rfl : w67_2.toInt = w67_2.toInt) (kc_1 : (Int32.ofInt 1).toInt = 1) (by omega) (by omega) | skip
              refine q_goto (tgt := 67) hM dX12_laysAside_93 (by decide) ?_
              exact ih67 z12616 _ _ _ _ (by omega) hG (by omega) (by omega) f12614 f12615 (lv_sub hl [1, 2, 0] rfl) hW
        have := kc_0
        exact L67 _ (0 : Int32) _ _ _ _ (Nat.lt_succ_self _) hG (by omega) (by omega) (rfl : arI h9_2 162 = arI h9_2 162) d2_166 (lv_sub hl [1, 2, 0] rfl) hW
      · refine q_aload_n hM dX12_laysAside_8 (lv_at hl 0 rfl) ?_
        refine w_get (v := .ref (ad 162)) hM hW FG_X12_112 lb_129 (rf_129_67 hW.2.1) dX12_laysAside_9 ?_
        refine q_bipush (v := (8 : Int32)) hM dX12_laysAside_12 (by decide) ?_
        refine q_iload_n hM dX12_laysAside_14 (lv_at hl 1 rfl) ?_
        refine q_imul hM dX12_laysAside_15 (fun z12618 hz12618 => ?_)
        first | have tz12618 := i_mulT hz12618 (kc_8 : (8 : Int32).toInt = 8) (kc_0 : (0 : Int32).toInt = 0) (by omega) (by omega) | skip
        refine q_iload_n hM dX12_laysAside_16 (lv_at hl 2 rfl) ?_
        refine q_iadd hM dX12_laysAside_17 (fun z12619 hz12619 => ?_)
        first | have tz12619 := i_addT hz12619 (rfl : z12618.toInt = z12618.toInt) (rfl : w2_2.toInt = w2_2.toInt) (by omega) (by omega) | skip
        refine q_aload_n hM dX12_laysAside_18 (lv_at hl 0 rfl) ?_
        refine w_get (v := .ref (ad 158)) hM hW FG_X12_100 lb_129 (rf_129_52 hW.2.1) dX12_laysAside_19 ?_
        refine q_iload_n hM dX12_laysAside_22 (lv_at hl 2 rfl) ?_
        refine w_zald hM hW lb_158 (i_in (by omega) (by omega)) dX12_laysAside_23 ?_
        refine q_top (fun y12620 hy12620 => ?_)
        rw [hW.2.2.2.1 158 (by omega)] at hy12620
        have v9 := hF w2_2.toNatClampNeg (by show w2_2.toInt.toNat < 8; omega)
        rw [← hy12620] at v9
        refine w_zast hM hW lb_162 (by omega) (i_in (by omega) (by omega)) dX12_laysAside_24 (fun g12621 H locs hW e1 e2 => ?_)
        have f12622 : arI g12621 166 = arI g0 166 := (e2.2.1 166 (by unfold Only; omega)).trans d2_166
        have f12623 := e1
        rw [(rfl : arI h9_2 162 = arI h9_2 162)] at f12623
        rw [vb01 v9] at f12623
        have hG := hG.st e1 e2 (rfl : rA 162 = (-2147483648, 2147483647)) (by have := i_rng (vp_nar .boolean y12620); omega) (by have := i_rng (vp_nar .boolean y12620); omega)
        refine q_aload_n hM dX12_laysAside_25 (lv_at hl 0 rfl) ?_
        refine w_get (v := .ref (ad 163)) hM hW FG_X12_115 lb_129 (rf_129_68 hW.2.1) dX12_laysAside_26 ?_
        refine q_bipush (v := (8 : Int32)) hM dX12_laysAside_29 (by decide) ?_
        refine q_iload_n hM dX12_laysAside_31 (lv_at hl 1 rfl) ?_
        refine q_imul hM dX12_laysAside_32 (fun z12624 hz12624 => ?_)
        first | have tz12624 := i_mulT hz12624 (kc_8 : (8 : Int32).toInt = 8) (kc_0 : (0 : Int32).toInt = 0) (by omega) (by omega) | skip
        refine q_iload_n hM dX12_laysAside_33 (lv_at hl 2 rfl) ?_
        refine q_iadd hM dX12_laysAside_34 (fun z12625 hz12625 => ?_)
        first | have tz12625 := i_addT hz12625 (rfl : z12624.toInt = z12624.toInt) (rfl : w2_2.toInt = w2_2.toInt) (by omega) (by omega) | skip
        refine q_aload_n hM dX12_laysAside_35 (lv_at hl 0 rfl) ?_
        refine w_get (v := .ref (ad 159)) hM hW FG_X12_103 lb_129 (rf_129_53 hW.2.1) dX12_laysAside_36 ?_
        refine q_iload_n hM dX12_laysAside_39 (lv_at hl 2 rfl) ?_
        refine w_iald hM hW lb_159 (i_in (by omega) (by omega)) dX12_laysAside_40 ?_
        refine q_top (fun y12626 hy12626 => ?_)
        have by12626 := hG.a hy12626 rA_159
        refine w_iast hM hW lb_163 (by omega) (i_in (by omega) (by omega)) dX12_laysAside_41 (fun g12627 H locs hW e1 e2 => ?_)
        have f12628 : arI g12627 166 = arI g0 166 := (e2.2.1 166 (by unfold Only; omega)).trans f12622
        have f12629 : arI g12627 162 = upd (arI h9_2 162) z12619.toNatClampNeg y12620 := (e2.2.1 162 (by unfold Only; omega)).trans f12623
        have hG := hG.st e1 e2 rA_163 (by have := i_rng y12626; omega) (by have := i_rng y12626; omega)
        refine q_aload_n hM dX12_laysAside_42 (lv_at hl 0 rfl) ?_
        refine w_get (v := .ref (ad 164)) hM hW FG_X12_118 lb_129 (rf_129_69 hW.2.1) dX12_laysAside_43 ?_
        refine q_bipush (v := (8 : Int32)) hM dX12_laysAside_46 (by decide) ?_
        refine q_iload_n hM dX12_laysAside_48 (lv_at hl 1 rfl) ?_
        refine q_imul hM dX12_laysAside_49 (fun z12630 hz12630 => ?_)
        first | have tz12630 := i_mulT hz12630 (kc_8 : (8 : Int32).toInt = 8) (kc_0 : (0 : Int32).toInt = 0) (by omega) (by omega) | skip
        refine q_iload_n hM dX12_laysAside_50 (lv_at hl 2 rfl) ?_
        refine q_iadd hM dX12_laysAside_51 (fun z12631 hz12631 => ?_)
        first | have tz12631 := i_addT hz12631 (rfl : z12630.toInt = z12630.toInt) (rfl : w2_2.toInt = w2_2.toInt) (by omega) (by omega) | skip
        refine q_aload_n hM dX12_laysAside_52 (lv_at hl 0 rfl) ?_
        refine w_get (v := .ref (ad 160)) hM hW FG_X12_106 lb_129 (rf_129_54 hW.2.1) dX12_laysAside_53 ?_
        refine q_iload_n hM dX12_laysAside_56 (lv_at hl 2 rfl) ?_
        refine w_iald hM hW lb_160 (i_in (by omega) (by omega)) dX12_laysAside_57 ?_
        refine q_top (fun y12632 hy12632 => ?_)
        refine w_iast hM hW lb_164 (by omega) (i_in (by omega) (by omega)) dX12_laysAside_58 (fun g12633 H locs hW e1 e2 => ?_)
        have f12634 : arI g12633 166 = arI g0 166 := (e2.2.1 166 (by unfold Only; omega)).trans f12628
        have f12635 : arI g12633 162 = upd (arI h9_2 162) z12619.toNatClampNeg y12620 := (e2.2.1 162 (by unfold Only; omega)).trans f12629
        have hG := hG.st e1 e2 (rfl : rA 164 = (-2147483648, 2147483647)) (by have := i_rng y12632; omega) (by have := i_rng y12632; omega)
        refine q_iinc (lv9 := fun z12636 => [(2, .int z12636), (0, .ref (ad 129)), (1, .int (0 : Int32))]) hM dX12_laysAside_59 hl (kq := 2) rfl (by decide) (fun _ => rfl) (fun z12636 ls hz12636 hl => ?_)
        first | have tz12636 := i_addT hz12636 (rfl : w2_2.toInt = w2_2.toInt) (kc_1 : (Int32.ofInt 1).toInt = 1) (by omega) (by omega) | skip
        refine q_goto (tgt := 2) hM dX12_laysAside_62 (by decide) ?_
        exact ih2 z12636 _ _ _ _ (by omega) hG (by omega) (by omega) (by rw [f12635]; exact row_sc rfl i2_3 (by omega) (by omega) hy12620 (by omega)) (fun q hq => by rw [f12635]; unfold upd; rw [if_neg (by show ¬ q = (Int32.toInt _).toNat; omega)]; exact i2_4 q hq) f12634 (lv_sub hl [1, 2, 0] rfl) hW
  have := kc_0
  exact L2 _ (0 : Int32) _ _ _ _ (Nat.lt_succ_self _) hG (by omega) (by omega) (fun j hj => absurd hj (by have := kc_0; omega)) (fun q hq => by rw [(rfl : arI g0 162 = arI g0 162)]) (rfl : arI g0 166 = arI g0 166) (lv_sub hl [1, 2, 0] rfl) hW
