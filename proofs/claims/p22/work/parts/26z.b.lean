
set_option maxRecDepth 100000 in
set_option maxHeartbeats 4000000 in
theorem s_X11_fact (l : Launch) (D : va_G) (cA : Nat → ClassId) (ad : Nat → Nat) (g0 : Nat → va_E) (a : Int32) (b : Int32) (td : Int32)  (hSh : Shp ad cA g0) (hG : Rng g0) (h_td : fld g0 3 2 = .int td) : CT l NN ad cA D yX11_fact cX11_fact 3 (some FieldType.boolean) (1, 22) [.ref (ad 0), .int a, .int b] g0 (fun v g' => ∃ (t9 : Int32) (r : Int32), v = some (.int r) ∧ Shp ad cA g' ∧ Rng g' ∧ FR (fun i k => (i = 3 ∧ (k = 2)) ∨ i = 4) g0 g' ∧ fld g' 3 2 = .int t9 ∧ (((0 ≤ a.toInt ∧ a.toInt ≤ 11 ∧ 0 ≤ b.toInt ∧ b.toInt ≤ 8) ∧ t9 = td ||| ((1 : Int32) <<< (a &&& 31))) ∨ (¬ (0 ≤ a.toInt ∧ a.toInt ≤ 11 ∧ 0 ≤ b.toInt ∧ b.toInt ≤ 8) ∧ t9 = td)) ∧ (r.toInt = 0 ∨ r.toInt = 1)) := by
  refine q_enterZ (by decide) (Nat.le_of_ble_eq_true rfl) (fun K H locs ls _ _ hM hW0 hR hC hE hl => ?_)
  have hl : lv_has ls 3 [(0, .ref (ad 0)), (1, .int a), (2, .int b)] := hl
  have hW : WS ad cA (fun i k => (i = 3 ∧ (k = 2)) ∨ i = 4) g0 K g0 H locs := ⟨hW0, hSh, FR.rf⟩
  have b_td := hG.f h_td rF_3_2 (by decide)
  have := kc_0
  have := kc_1
  have f12352 : fld g0 3 2 = .int td := h_td
  refine q_iload_n hM dX11_fact_0 (lv_at hl 1 rfl) ?_
  refine q_iconst (v := (0 : Int32)) hM dX11_fact_1 (by decide) ?_
  refine q_bipush (v := (11 : Int32)) hM dX11_fact_2 (by decide) ?_
  refine q_callS (As := [.int a, .int (0 : Int32), .int (11 : Int32)]) (rest := []) hM hW.1 hR hC myX11_within (kAW (v_1_10 (List.mem_of_getElem? (i := 1) rfl)) rfl) (c_X11_within _ _ cA ad g0 a (0 : Int32) (11 : Int32) hW.2.1) ⟨by decide, by decide⟩ rfl rfl hl.1 (Nat.le_of_ble_eq_true rfl) dX11_fact_4 (fun v g12354 H locs hp hW1 => ?_)
  obtain ⟨r12353, rfl, hr12353, rfl⟩ := hp
  have hW : WS ad cA (fun i k => (i = 3 ∧ (k = 2)) ∨ i = 4) g0 K g0 H locs := ⟨hW1, hW.2.1, hW.2.2⟩
  have := kc_0
  have := kc_11
  refine q_if_eq (tgt := 20) hM dX11_fact_7 (by decide) (rfl : r12353.toInt = r12353.toInt) (fun h7 => ?_) (fun h7 => ?_)
  · refine q_iconst (v := (0 : Int32)) hM dX11_fact_20 (by decide) ?_
    exact hE _ _ _ _ _ _ hW.1 nz_0 ⟨td, _, rfl, hW.2.1, hG, hW.2.2, f12352, (Or.inr ⟨by omega, rfl⟩), (by have := kc_0; omega)⟩ dX11_fact_21
  · refine q_iload_n hM dX11_fact_10 (lv_at hl 2 rfl) ?_
    refine q_iconst (v := (0 : Int32)) hM dX11_fact_11 (by decide) ?_
    refine q_bipush (v := (8 : Int32)) hM dX11_fact_12 (by decide) ?_
    refine q_callS (As := [.int b, .int (0 : Int32), .int (8 : Int32)]) (rest := []) hM hW.1 hR hC myX11_within (kAW (v_1_10 (List.mem_of_getElem? (i := 1) rfl)) rfl) (c_X11_within _ _ cA ad g0 b (0 : Int32) (8 : Int32) hW.2.1) ⟨by decide, by decide⟩ rfl rfl hl.1 (Nat.le_of_ble_eq_true rfl) dX11_fact_14 (fun v g12358 H locs hp hW1 => ?_)
    obtain ⟨r12357, rfl, hr12357, rfl⟩ := hp
    have hW : WS ad cA (fun i k => (i = 3 ∧ (k = 2)) ∨ i = 4) g0 K g0 H locs := ⟨hW1, hW.2.1, hW.2.2⟩
    have := kc_0
    have := kc_8
    refine q_if_ne (tgt := 22) hM dX11_fact_17 (by decide) (rfl : r12357.toInt = r12357.toInt) (fun h17 => ?_) (fun h17 => ?_)
    · refine q_aload_n hM dX11_fact_22 (lv_at hl 0 rfl) ?_
      refine w_get (v := .ref (ad 3)) hM hW FG_X11_19 lb_0 (rf_0_1 hW.2.1) dX11_fact_23 ?_
      refine q_dup hM dX11_fact_26 rfl ?_
      refine w_get (v := .int td) hM hW FG_X11_116 lb_3 f12352 dX11_fact_27 ?_
      have btd := hG.f f12352 rF_3_2 (by decide)
      refine q_iconst (v := (1 : Int32)) hM dX11_fact_30 (by decide) ?_
      refine q_iload_n hM dX11_fact_31 (lv_at hl 1 rfl) ?_
      refine q_ishl hM dX11_fact_32 (fun z12360 hz12360 => ?_)
      have sz12360 := i_shl1 12 (by decide) hz12360 (by omega) (by omega)
      refine q_ior hM dX11_fact_33 (fun z12361 hz12361 => ?_)
      have oz12361 := i_ork 12 (by decide) hz12361 (by omega) (by omega) (by omega) (by omega)
      refine w_put hM hW FP_X11_116 lb_3 (by omega) (Or.inl ⟨_, rfl⟩) rfl rfl dX11_fact_34 (fun g12362 H locs hW e1 e2 => ?_)
      have f12363 : fld g12362 3 2 = .int z12361 := e1
      have hG := hG.put e1 e2 rF_3_2 (by decide) (by have := i_rng z12361; omega) (by have := i_rng z12361; omega)
      refine q_aload_n hM dX11_fact_37 (lv_at hl 0 rfl) ?_
      refine w_get (v := .ref (ad 3)) hM hW FG_X11_19 lb_0 (rf_0_1 hW.2.1) dX11_fact_38 ?_
      refine w_get (v := .ref (ad 4)) hM hW FG_X11_120 lb_3 (rf_3_0 hW.2.1) dX11_fact_41 ?_
      refine q_iload_n hM dX11_fact_44 (lv_at hl 1 rfl) ?_
      refine q_iload_n hM dX11_fact_45 (lv_at hl 2 rfl) ?_
      refine w_iast hM hW lb_4 (by omega) (i_in (by omega) (by omega)) dX11_fact_46 (fun g12364 H locs hW e1 e2 => ?_)
      have f12365 : fld g12364 3 2 = .int z12361 := (e2.1 3 2 (by unfold Only; omega)).trans f12363
      have hG := hG.st e1 e2 (rfl : rA 4 = (-2147483648, 2147483647)) (by have := i_rng b; omega) (by have := i_rng b; omega)
      refine q_iconst (v := (1 : Int32)) hM dX11_fact_47 (by decide) ?_
      exact hE _ _ _ _ _ _ hW.1 nz_1 ⟨z12361, _, rfl, hW.2.1, hG, hW.2.2, f12365, (Or.inl ⟨by omega, by rw [hz12360, hz12361]⟩), (by have := kc_1; omega)⟩ dX11_fact_48
    · refine q_iconst (v := (0 : Int32)) hM dX11_fact_20 (by decide) ?_
      exact hE _ _ _ _ _ _ hW.1 nz_0 ⟨td, _, rfl, hW.2.1, hG, hW.2.2, f12352, (Or.inr ⟨by omega, rfl⟩), (by have := kc_0; omega)⟩ dX11_fact_21


set_option maxRecDepth 100000 in
set_option maxHeartbeats 4000000 in
theorem s_X7_tell (l : Launch) (D : va_G) (cA : Nat → ClassId) (ad : Nat → Nat) (g0 : Nat → va_E) (p : Int32) (gr : Int32) (ag : Int32) (td : Int32)  (hSh : Shp ad cA g0) (hG : Rng g0) (h_td : fld g0 18 3 = .int td) (p0 : 0 ≤ p.toInt) (p7 : p.toInt < 8) (gr0 : 0 ≤ gr.toInt) : CT l NN ad cA D yX7_tell cX7_tell 5 none (0, 0) [.ref (ad 18), .int p, .int gr, .int ag] g0 (fun v g' => ∃ (t9 : Int32), v = none ∧ Shp ad cA g' ∧ Rng g' ∧ FR (fun i k => (i = 18 ∧ (k = 3)) ∨ i = 19 ∨ i = 20 ∨ (22 ≤ i ∧ i < 30)) g0 g' ∧ fld g' 18 3 = .int t9 ∧ (t9 = td ||| ((1 : Int32) <<< (p &&& 31)))) := by
  refine q_enterV (by decide) (Nat.le_of_ble_eq_true rfl) (fun K H locs ls _ _ hM hW0 hR hC hE hl => ?_)
  have hl : lv_has ls 5 [(0, .ref (ad 18)), (1, .int p), (2, .int gr), (3, .int ag)] := hl
  have hW : WS ad cA (fun i k => (i = 18 ∧ (k = 3)) ∨ i = 19 ∨ i = 20 ∨ (22 ≤ i ∧ i < 30)) g0 K g0 H locs := ⟨hW0, hSh, FR.rf⟩
  have b_td := hG.f h_td rF_18_3 (by decide)
  have f12367 : fld g0 18 3 = .int td := h_td
  refine q_aload_n hM dX7_tell_0 (lv_at hl 0 rfl) ?_
  refine q_dup hM dX7_tell_1 rfl ?_
  refine w_get (v := .int td) hM hW FG_X7_23 lb_18 f12367 dX7_tell_2 ?_
  have btd := hG.f f12367 rF_18_3 (by decide)
  refine q_iconst (v := (1 : Int32)) hM dX7_tell_5 (by decide) ?_
  refine q_iload_n hM dX7_tell_6 (lv_at hl 1 rfl) ?_
  refine q_ishl hM dX7_tell_7 (fun z12368 hz12368 => ?_)
  have sz12368 := i_shl1 8 (by decide) hz12368 (by omega) (by omega)
  refine q_ior hM dX7_tell_8 (fun z12369 hz12369 => ?_)
  have oz12369 := i_ork 8 (by decide) hz12369 (by omega) (by omega) (by omega) (by omega)
  refine w_put hM hW FP_X7_23 lb_18 (by omega) (Or.inl ⟨_, rfl⟩) rfl rfl dX7_tell_9 (fun g12370 H locs hW e1 e2 => ?_)
  have f12371 : fld g12370 18 3 = .int z12369 := e1
  have hG := hG.put e1 e2 rF_18_3 (by decide) (by have := i_rng z12369; omega) (by have := i_rng z12369; omega)
  refine q_aload_n hM dX7_tell_12 (lv_at hl 0 rfl) ?_
  refine w_get (v := .ref (ad 19)) hM hW FG_X7_9 lb_18 (rf_18_0 hW.2.1) dX7_tell_13 ?_
  refine q_iload_n hM dX7_tell_16 (lv_at hl 1 rfl) ?_
  refine q_iload_n hM dX7_tell_17 (lv_at hl 2 rfl) ?_
  refine w_iast hM hW lb_19 (by omega) (i_in (by omega) (by omega)) dX7_tell_18 (fun g12372 H locs hW e1 e2 => ?_)
  have f12373 : fld g12372 18 3 = .int z12369 := (e2.1 18 3 (by unfold Only; omega)).trans f12371
  have hG := hG.st e1 e2 rA_19 (by have := i_rng gr; omega) (by have := i_rng gr; omega)
  refine q_aload_n hM dX7_tell_19 (lv_at hl 0 rfl) ?_
  refine w_get (v := .ref (ad 20)) hM hW FG_X7_15 lb_18 (rf_18_1 hW.2.1) dX7_tell_20 ?_
  refine q_iload_n hM dX7_tell_23 (lv_at hl 1 rfl) ?_
  refine q_iload_n hM dX7_tell_24 (lv_at hl 3 rfl) ?_
  refine w_iast hM hW lb_20 (by omega) (i_in (by omega) (by omega)) dX7_tell_25 (fun g12374 H locs hW e1 e2 => ?_)
  have f12375 : fld g12374 18 3 = .int z12369 := (e2.1 18 3 (by unfold Only; omega)).trans f12373
  have hG := hG.st e1 e2 (rfl : rA 20 = (-2147483648, 2147483647)) (by have := i_rng ag; omega) (by have := i_rng ag; omega)
  refine q_iconst (v := (0 : Int32)) hM dX7_tell_26 (by decide) ?_
  refine q_istore (lv9 := [(4, .int (0 : Int32)), (0, .ref (ad 18)), (1, .int p), (2, .int gr), (3, .int ag)]) hM dX7_tell_27 hl (by decide) rfl (fun ls hl => ?_)
  have L29 : ∀ (fu29 : Nat) (w29_4 : Int32) (g9 : Nat → va_E) (H : Heap) (locs : List Loc) (ls : Array Slot), (12 - w29_4.toInt).toNat < fu29 → (Rng g9) → (0 ≤ w29_4.toInt) → (w29_4.toInt ≤ 12) → (fld g9 18 3 = .int z12369) → lv_has ls 5 [(0, .ref (ad 18)), (1, .int p), (2, .int gr), (3, .int ag), (4, .int w29_4)] → WS ad cA (fun i k => (i = 18 ∧ (k = 3)) ∨ i = 19 ∨ i = 20 ∨ (22 ≤ i ∧ i < 30)) g0 K g9 H locs → XX K 0 0 H locs 29 ls [] := by
    intro fu29
    induction fu29 with
    | zero => intro w29_4 g9 H locs ls h0; omega
    | succ fu29 ih29 =>
      intro w29_4 g9 H locs ls hm29 i29_0 i29_1 i29_2 c29_18_3 hl hW
      have hG := i29_0
      refine q_iload hM dX7_tell_29 (lv_at hl 4 rfl) ?_
      refine q_bipush (v := (12 : Int32)) hM dX7_tell_31 (by decide) ?_
      refine q_icmp_ge (tgt := 52) hM dX7_tell_33 (by decide) (rfl : w29_4.toInt = w29_4.toInt) (kc_12 : (12 : Int32).toInt = 12) (fun h33 => ?_) (fun h33 => ?_)
      · exact hE _ _ _ _ _ hW.1 ⟨z12369, rfl, hW.2.1, hG, hW.2.2, c29_18_3, (by rw [hz12368, hz12369])⟩ dX7_tell_52
      · refine q_aload_n hM dX7_tell_36 (lv_at hl 0 rfl) ?_
        refine w_get (v := .ref (ad 21)) hM hW FG_X7_20 lb_18 (rf_18_2 hW.2.1) dX7_tell_37 ?_
        refine q_iload_n hM dX7_tell_40 (lv_at hl 1 rfl) ?_
        refine w_aald hM hW lb_21 (Or.inl rfl) (i_in (by omega) (by omega)) (aq (aq_21 hW.2.1) (by omega) (by omega)) dX7_tell_41 ?_
        refine q_iload hM dX7_tell_42 (lv_at hl 4 rfl) ?_
        refine q_iconst (v := (0 : Int32)) hM dX7_tell_44 (by decide) ?_
        refine w_iast hM hW (lr_22 (by omega)) (by omega) (i_in (by omega) (by omega)) dX7_tell_45 (fun g12379 H locs hW e1 e2 => ?_)
        have f12380 : fld g12379 18 3 = .int z12369 := (e2.1 18 3 (by unfold Only; omega)).trans c29_18_3
        have hG := hG.st e1 e2 (rA_row_22 (by omega)) (by have := kc_0; have := i_rng (0 : Int32); omega) (by have := kc_0; have := i_rng (0 : Int32); omega)
        refine q_iinc (lv9 := fun z12381 => [(4, .int z12381), (0, .ref (ad 18)), (1, .int p), (2, .int gr), (3, .int ag)]) hM dX7_tell_46 hl (kq := 4) rfl (by decide) (fun _ => rfl) (fun z12381 ls hz12381 hl => ?_)
        first | have tz12381 := i_addT hz12381 (rfl : w29_4.toInt = w29_4.toInt) (kc_1 : (Int32.ofInt 1).toInt = 1) (by omega) (by omega) | skip
        refine q_goto (tgt := 29) hM dX7_tell_49 (by decide) ?_
        exact ih29 z12381 _ _ _ _ (by omega) hG (by omega) (by omega) f12380 (lv_sub hl [1, 2, 3, 4, 0] rfl) hW
  have := kc_0
  exact L29 _ (0 : Int32) _ _ _ _ (Nat.lt_succ_self _) hG (by omega) (by omega) f12375 (lv_sub hl [1, 2, 3, 4, 0] rfl) hW


set_option maxRecDepth 100000 in
set_option maxHeartbeats 4000000 in
theorem s_X11_pupil (l : Launch) (D : va_G) (cA : Nat → ClassId) (ad : Nat → Nat) (g0 : Nat → va_E) (a : Int32) (b : Int32) (c : Int32) (td : Int32)  (hSh : Shp ad cA g0) (hG : Rng g0) (h_td : fld g0 18 3 = .int td) : CT l NN ad cA D yX11_pupil cX11_pupil 4 (some FieldType.boolean) (1, 24) [.ref (ad 0), .int a, .int b, .int c] g0 (fun v g' => ∃ (t9 : Int32) (r : Int32), v = some (.int r) ∧ Shp ad cA g' ∧ Rng g' ∧ FR (fun i k => (i = 18 ∧ (k = 3)) ∨ i = 19 ∨ i = 20 ∨ (22 ≤ i ∧ i < 30)) g0 g' ∧ fld g' 18 3 = .int t9 ∧ (((0 ≤ a.toInt ∧ a.toInt ≤ 7 ∧ 1 ≤ b.toInt ∧ b.toInt ≤ 9 ∧ 0 ≤ c.toInt ∧ c.toInt ≤ 99) ∧ t9 = td ||| ((1 : Int32) <<< (a &&& 31))) ∨ (¬ (0 ≤ a.toInt ∧ a.toInt ≤ 7 ∧ 1 ≤ b.toInt ∧ b.toInt ≤ 9 ∧ 0 ≤ c.toInt ∧ c.toInt ≤ 99) ∧ t9 = td)) ∧ (r.toInt = 0 ∨ r.toInt = 1)) := by
  refine q_enterZ (by decide) (Nat.le_of_ble_eq_true rfl) (fun K H locs ls _ _ hM hW0 hR hC hE hl => ?_)
  have hl : lv_has ls 4 [(0, .ref (ad 0)), (1, .int a), (2, .int b), (3, .int c)] := hl
  have hW : WS ad cA (fun i k => (i = 18 ∧ (k = 3)) ∨ i = 19 ∨ i = 20 ∨ (22 ≤ i ∧ i < 30)) g0 K g0 H locs := ⟨hW0, hSh, FR.rf⟩
  have b_td := hG.f h_td rF_18_3 (by decide)
  have := kc_0
  have := kc_1
  have f12382 : fld g0 18 3 = .int td := h_td
  refine q_iload_n hM dX11_pupil_0 (lv_at hl 1 rfl) ?_
  refine q_iconst (v := (0 : Int32)) hM dX11_pupil_1 (by decide) ?_
  refine q_bipush (v := (7 : Int32)) hM dX11_pupil_2 (by decide) ?_
  refine q_callS (As := [.int a, .int (0 : Int32), .int (7 : Int32)]) (rest := []) hM hW.1 hR hC myX11_within (kAW (v_1_10 (List.mem_of_getElem? (i := 1) rfl)) rfl) (c_X11_within _ _ cA ad g0 a (0 : Int32) (7 : Int32) hW.2.1) ⟨by decide, by decide⟩ rfl rfl hl.1 (Nat.le_of_ble_eq_true rfl) dX11_pupil_4 (fun v g12384 H locs hp hW1 => ?_)
  obtain ⟨r12383, rfl, hr12383, rfl⟩ := hp
  have hW : WS ad cA (fun i k => (i = 18 ∧ (k = 3)) ∨ i = 19 ∨ i = 20 ∨ (22 ≤ i ∧ i < 30)) g0 K g0 H locs := ⟨hW1, hW.2.1, hW.2.2⟩
  have := kc_0
  have := kc_7
  refine q_if_eq (tgt := 30) hM dX11_pupil_7 (by decide) (rfl : r12383.toInt = r12383.toInt) (fun h7 => ?_) (fun h7 => ?_)
  · refine q_iconst (v := (0 : Int32)) hM dX11_pupil_30 (by decide) ?_
    exact hE _ _ _ _ _ _ hW.1 nz_0 ⟨td, _, rfl, hW.2.1, hG, hW.2.2, f12382, (Or.inr ⟨by omega, rfl⟩), (by have := kc_0; omega)⟩ dX11_pupil_31
  · refine q_iload_n hM dX11_pupil_10 (lv_at hl 2 rfl) ?_
    refine q_iconst (v := (1 : Int32)) hM dX11_pupil_11 (by decide) ?_
    refine q_bipush (v := (9 : Int32)) hM dX11_pupil_12 (by decide) ?_
    refine q_callS (As := [.int b, .int (1 : Int32), .int (9 : Int32)]) (rest := []) hM hW.1 hR hC myX11_within (kAW (v_1_10 (List.mem_of_getElem? (i := 1) rfl)) rfl) (c_X11_within _ _ cA ad g0 b (1 : Int32) (9 : Int32) hW.2.1) ⟨by decide, by decide⟩ rfl rfl hl.1 (Nat.le_of_ble_eq_true rfl) dX11_pupil_14 (fun v g12388 H locs hp hW1 => ?_)
    obtain ⟨r12387, rfl, hr12387, rfl⟩ := hp
    have hW : WS ad cA (fun i k => (i = 18 ∧ (k = 3)) ∨ i = 19 ∨ i = 20 ∨ (22 ≤ i ∧ i < 30)) g0 K g0 H locs := ⟨hW1, hW.2.1, hW.2.2⟩
    have := kc_1
    have := kc_9
    refine q_if_eq (tgt := 30) hM dX11_pupil_17 (by decide) (rfl : r12387.toInt = r12387.toInt) (fun h17 => ?_) (fun h17 => ?_)
    · refine q_iconst (v := (0 : Int32)) hM dX11_pupil_30 (by decide) ?_
      exact hE _ _ _ _ _ _ hW.1 nz_0 ⟨td, _, rfl, hW.2.1, hG, hW.2.2, f12382, (Or.inr ⟨by omega, rfl⟩), (by have := kc_0; omega)⟩ dX11_pupil_31
    · refine q_iload_n hM dX11_pupil_20 (lv_at hl 3 rfl) ?_
      refine q_iconst (v := (0 : Int32)) hM dX11_pupil_21 (by decide) ?_
      refine q_bipush (v := (99 : Int32)) hM dX11_pupil_22 (by decide) ?_
      refine q_callS (As := [.int c, .int (0 : Int32), .int (99 : Int32)]) (rest := []) hM hW.1 hR hC myX11_within (kAW (v_1_10 (List.mem_of_getElem? (i := 1) rfl)) rfl) (c_X11_within _ _ cA ad g0 c (0 : Int32) (99 : Int32) hW.2.1) ⟨by decide, by decide⟩ rfl rfl hl.1 (Nat.le_of_ble_eq_true rfl) dX11_pupil_24 (fun v g12392 H locs hp hW1 => ?_)
      obtain ⟨r12391, rfl, hr12391, rfl⟩ := hp
      have hW : WS ad cA (fun i k => (i = 18 ∧ (k = 3)) ∨ i = 19 ∨ i = 20 ∨ (22 ≤ i ∧ i < 30)) g0 K g0 H locs := ⟨hW1, hW.2.1, hW.2.2⟩
      have := kc_0
      have := kc_99
      refine q_if_ne (tgt := 32) hM dX11_pupil_27 (by decide) (rfl : r12391.toInt = r12391.toInt) (fun h27 => ?_) (fun h27 => ?_)
      · refine q_aload_n hM dX11_pupil_32 (lv_at hl 0 rfl) ?_
        refine w_get (v := .ref (ad 18)) hM hW FG_X11_26 lb_0 (rf_0_10 hW.2.1) dX11_pupil_33 ?_
        refine q_iload_n hM dX11_pupil_36 (lv_at hl 1 rfl) ?_
        refine q_iload_n hM dX11_pupil_37 (lv_at hl 2 rfl) ?_
        refine q_iload_n hM dX11_pupil_38 (lv_at hl 3 rfl) ?_
        refine q_callV (As := [.int a, .int b, .int c]) (rest := []) hM hW.1 hR hC myX7_tell (kAW (v_1_10 (List.mem_of_getElem? (i := 15) rfl)) rfl) (rfl : vwCl[7]? = some (RX7, TX7, 8)) rfl lb_18.1 (shO hW.2.1 lb_18) (s_X7_tell _ _ cA ad g0 a b c td hW.2.1 hG f12382 (by  omega) (by  omega) (by  omega)) ⟨by decide, by decide⟩ rfl rfl hl.1 (Nat.le_of_ble_eq_true rfl) dX11_pupil_39 (fun v g12397 H locs hp hW1 => ?_)
        obtain ⟨v12394, rfl, hs1, hG, hf1, q12395, e12396⟩ := hp
        have hW : WS ad cA (fun i k => (i = 18 ∧ (k = 3)) ∨ i = 19 ∨ i = 20 ∨ (22 ≤ i ∧ i < 30)) g0 K g12397 H locs := ⟨hW1, hs1, hW.2.2.tr hf1 (fun i k h => h.elim (fun h => (Or.inl h)) (fun h => h.elim (fun h => (Or.inr (Or.inl h))) (fun h => h.elim (fun h => (Or.inr (Or.inr (Or.inl h)))) (fun h => (Or.inr (Or.inr (Or.inr h)))))))⟩
        refine q_iconst (v := (1 : Int32)) hM dX11_pupil_42 (by decide) ?_
        exact hE _ _ _ _ _ _ hW.1 nz_1 ⟨v12394, _, rfl, hW.2.1, hG, hW.2.2, q12395, (Or.inl ⟨by omega, e12396⟩), (by have := kc_1; omega)⟩ dX11_pupil_43
      · refine q_iconst (v := (0 : Int32)) hM dX11_pupil_30 (by decide) ?_
        exact hE _ _ _ _ _ _ hW.1 nz_0 ⟨td, _, rfl, hW.2.1, hG, hW.2.2, f12382, (Or.inr ⟨by omega, rfl⟩), (by have := kc_0; omega)⟩ dX11_pupil_31


set_option maxRecDepth 100000 in
set_option maxHeartbeats 4000000 in
theorem s_X7_become_30_18 (l : Launch) (D : va_G) (cA : Nat → ClassId) (ad : Nat → Nat) (g0 : Nat → va_E)  (c3 : Int32) (c4 : Int32)  (hSh : Shp ad cA g0) (hG : Rng g0) (h_c3 : fld g0 18 3 = .int c3) (h_c4 : fld g0 18 4 = .int c4) : CT l NN ad cA D yX7_become cX7_become 4 none (0, 0) [.ref (ad 30), .ref (ad 18)] g0 (fun v g' => v = none ∧ Shp ad cA g' ∧ Rng g' ∧ FR (fun i k => i = 31 ∨ i = 32 ∨ (34 ≤ i ∧ i < 42) ∨ (i = 30 ∧ (k = 3 ∨ k = 4 ∨ k = 5 ∨ k = 6 ∨ k = 7))) g0 g' ∧ fld g' 30 3 = .int c3 ∧ fld g' 30 4 = .int c4) := by
  refine q_enterV (by decide) (Nat.le_of_ble_eq_true rfl) (fun K H locs ls _ _ hM hW0 hR hC hE hl => ?_)
  have hl : lv_has ls 4 [(0, .ref (ad 30)), (1, .ref (ad 18))] := hl
  have hW : WS ad cA (fun i k => i = 31 ∨ i = 32 ∨ (34 ≤ i ∧ i < 42) ∨ (i = 30 ∧ (k = 3 ∨ k = 4 ∨ k = 5 ∨ k = 6 ∨ k = 7))) g0 K g0 H locs := ⟨hW0, hSh, FR.rf⟩
  have b_c3 := hG.f h_c3 rF_18_3 (by decide)
  refine q_iconst (v := (0 : Int32)) hM dX7_become_0 (by decide) ?_
  refine q_istore_n (lv9 := [(2, .int (0 : Int32)), (0, .ref (ad 30)), (1, .ref (ad 18))]) hM dX7_become_1 hl (by decide) rfl (fun ls hl => ?_)
  have L2 : ∀ (fu2 : Nat) (w2_2 : Int32) (g9 : Nat → va_E) (H : Heap) (locs : List Loc) (ls : Array Slot), (8 - w2_2.toInt).toNat < fu2 → (Rng g9) → (0 ≤ w2_2.toInt) → (w2_2.toInt ≤ 8) → lv_has ls 4 [(0, .ref (ad 30)), (1, .ref (ad 18)), (2, .int w2_2)] → WS ad cA (fun i k => i = 31 ∨ i = 32 ∨ (34 ≤ i ∧ i < 42) ∨ (i = 30 ∧ (k = 3 ∨ k = 4 ∨ k = 5 ∨ k = 6 ∨ k = 7))) g0 K g9 H locs → XX K 0 0 H locs 2 ls [] := by
    intro fu2
    induction fu2 with
    | zero => intro w2_2 g9 H locs ls h0; omega
    | succ fu2 ih2 =>
      intro w2_2 g9 H locs ls hm2 i2_0 i2_1 i2_2 hl hW
      have hG := i2_0
      refine q_iload_n hM dX7_become_2 (lv_at hl 2 rfl) ?_
      refine q_bipush (v := (8 : Int32)) hM dX7_become_3 (by decide) ?_
      refine q_icmp_ge (tgt := 68) hM dX7_become_5 (by decide) (rfl : w2_2.toInt = w2_2.toInt) (kc_8 : (8 : Int32).toInt = 8) (fun h5 => ?_) (fun h5 => ?_)
      · refine q_aload_n hM dX7_become_68 (lv_at hl 0 rfl) ?_
        refine q_aload_n hM dX7_become_69 (lv_at hl 1 rfl) ?_
        refine w_get (v := .int c3) hM hW FG_X7_23 lb_18 ((hW.2.2.1 18 3 (by omega)).trans h_c3) dX7_become_70 ?_
        refine w_put hM hW FP_X7_23 lb_30 (by omega) (Or.inl ⟨_, rfl⟩) rfl rfl dX7_become_73 (fun g12401 H locs hW e1 e2 => ?_)
        have f12402 : fld g12401 30 3 = .int c3 := e1
        have hG := hG.put e1 e2 rF_30_3 (by decide) (by have := i_rng c3; omega) (by have := i_rng c3; omega)
        refine q_aload_n hM dX7_become_76 (lv_at hl 0 rfl) ?_
        refine q_aload_n hM dX7_become_77 (lv_at hl 1 rfl) ?_
        refine w_get (v := .int c4) hM hW FG_X7_27 lb_18 ((hW.2.2.1 18 4 (by omega)).trans h_c4) dX7_become_78 ?_
        refine w_put hM hW FP_X7_27 lb_30 (by omega) (Or.inl ⟨_, rfl⟩) rfl rfl dX7_become_81 (fun g12403 H locs hW e1 e2 => ?_)
        have f12404 : fld g12403 30 3 = .int c3 := (e2.1 30 3 (by unfold Only; omega)).trans f12402
        have f12405 : fld g12403 30 4 = .int c4 := e1
        have hG := hG.put e1 e2 (rfl : rF 30 4 = (-2147483648, 2147483647)) (by decide) (by have := i_rng c4; omega) (by have := i_rng c4; omega)
        refine q_aload_n hM dX7_become_84 (lv_at hl 0 rfl) ?_
        refine q_aload_n hM dX7_become_85 (lv_at hl 1 rfl) ?_
        refine w_getI hM hW FG_X7_30 lb_18 (by decide) (by decide) dX7_become_86 (fun x12406 fx12406 => ?_)
        refine w_put hM hW FP_X7_30 lb_30 (by omega) (Or.inl ⟨_, rfl⟩) rfl rfl dX7_become_89 (fun g12407 H locs hW e1 e2 => ?_)
        have f12408 : fld g12407 30 3 = .int c3 := (e2.1 30 3 (by unfold Only; omega)).trans f12404
        have f12409 : fld g12407 30 4 = .int c4 := (e2.1 30 4 (by unfold Only; omega)).trans f12405
        have f12410 : fld g12407 18 5 = .int x12406 := (e2.1 18 5 (by unfold Only; omega)).trans fx12406
        have f12411 : fld g12407 30 5 = .int x12406 := e1
        have hG := hG.put e1 e2 (rfl : rF 30 5 = (-2147483648, 2147483647)) (by decide) (by have := i_rng x12406; omega) (by have := i_rng x12406; omega)
        refine q_aload_n hM dX7_become_92 (lv_at hl 0 rfl) ?_
        refine q_aload_n hM dX7_become_93 (lv_at hl 1 rfl) ?_
        refine w_getI hM hW FG_X7_33 lb_18 (by decide) (by decide) dX7_become_94 (fun x12412 fx12412 => ?_)
        refine w_put hM hW FP_X7_33 lb_30 (by omega) (Or.inl ⟨_, rfl⟩) rfl rfl dX7_become_97 (fun g12413 H locs hW e1 e2 => ?_)
        have f12414 : fld g12413 30 3 = .int c3 := (e2.1 30 3 (by unfold Only; omega)).trans f12408
        have f12415 : fld g12413 30 4 = .int c4 := (e2.1 30 4 (by unfold Only; omega)).trans f12409
        have f12416 : fld g12413 18 5 = .int x12406 := (e2.1 18 5 (by unfold Only; omega)).trans f12410
        have f12417 : fld g12413 30 5 = .int x12406 := (e2.1 30 5 (by unfold Only; omega)).trans f12411
        have f12418 : fld g12413 18 6 = .int x12412 := (e2.1 18 6 (by unfold Only; omega)).trans fx12412
        have f12419 : fld g12413 30 6 = .int x12412 := e1
        have hG := hG.put e1 e2 (rfl : rF 30 6 = (-2147483648, 2147483647)) (by decide) (by have := i_rng x12412; omega) (by have := i_rng x12412; omega)
        refine q_aload_n hM dX7_become_100 (lv_at hl 0 rfl) ?_
        refine q_aload_n hM dX7_become_101 (lv_at hl 1 rfl) ?_
        refine w_getI hM hW FG_X7_36 lb_18 (by decide) (by decide) dX7_become_102 (fun x12420 fx12420 => ?_)
        refine w_put hM hW FP_X7_36 lb_30 (by omega) (Or.inl ⟨_, rfl⟩) rfl rfl dX7_become_105 (fun g12421 H locs hW e1 e2 => ?_)
        have f12422 : fld g12421 30 3 = .int c3 := (e2.1 30 3 (by unfold Only; omega)).trans f12414
        have f12423 : fld g12421 30 4 = .int c4 := (e2.1 30 4 (by unfold Only; omega)).trans f12415
        have f12424 : fld g12421 18 5 = .int x12406 := (e2.1 18 5 (by unfold Only; omega)).trans f12416
        have f12425 : fld g12421 30 5 = .int x12406 := (e2.1 30 5 (by unfold Only; omega)).trans f12417
        have f12426 : fld g12421 18 6 = .int x12412 := (e2.1 18 6 (by unfold Only; omega)).trans f12418
        have f12427 : fld g12421 30 6 = .int x12412 := (e2.1 30 6 (by unfold Only; omega)).trans f12419
        have f12428 : fld g12421 18 7 = .int x12420 := (e2.1 18 7 (by unfold Only; omega)).trans fx12420
        have f12429 : fld g12421 30 7 = .int x12420 := e1
        have hG := hG.put e1 e2 (rfl : rF 30 7 = (-2147483648, 2147483647)) (by decide) (by have := i_rng x12420; omega) (by have := i_rng x12420; omega)
        exact hE _ _ _ _ _ hW.1 ⟨rfl, hW.2.1, hG, hW.2.2, f12422, f12423⟩ dX7_become_108
      · refine q_aload_n hM dX7_become_8 (lv_at hl 0 rfl) ?_
        refine w_get (v := .ref (ad 31)) hM hW FG_X7_9 lb_30 (rf_30_0 hW.2.1) dX7_become_9 ?_
        refine q_iload_n hM dX7_become_12 (lv_at hl 2 rfl) ?_
        refine q_aload_n hM dX7_become_13 (lv_at hl 1 rfl) ?_
        refine w_get (v := .ref (ad 19)) hM hW FG_X7_9 lb_18 (rf_18_0 hW.2.1) dX7_become_14 ?_
        refine q_iload_n hM dX7_become_17 (lv_at hl 2 rfl) ?_
        refine w_iald hM hW lb_19 (i_in (by omega) (by omega)) dX7_become_18 ?_
        refine q_top (fun y12431 hy12431 => ?_)
        have by12431 := hG.a hy12431 rA_19
        refine w_iast hM hW lb_31 (by omega) (i_in (by omega) (by omega)) dX7_become_19 (fun g12432 H locs hW e1 e2 => ?_)
        have hG := hG.st e1 e2 rA_31 (by have := i_rng y12431; omega) (by have := i_rng y12431; omega)
        refine q_aload_n hM dX7_become_20 (lv_at hl 0 rfl) ?_
        refine w_get (v := .ref (ad 32)) hM hW FG_X7_15 lb_30 (rf_30_1 hW.2.1) dX7_become_21 ?_
        refine q_iload_n hM dX7_become_24 (lv_at hl 2 rfl) ?_
        refine q_aload_n hM dX7_become_25 (lv_at hl 1 rfl) ?_
        refine w_get (v := .ref (ad 20)) hM hW FG_X7_15 lb_18 (rf_18_1 hW.2.1) dX7_become_26 ?_
        refine q_iload_n hM dX7_become_29 (lv_at hl 2 rfl) ?_
        refine w_iald hM hW lb_20 (i_in (by omega) (by omega)) dX7_become_30 ?_
        refine q_top (fun y12433 hy12433 => ?_)
        refine w_iast hM hW lb_32 (by omega) (i_in (by omega) (by omega)) dX7_become_31 (fun g12434 H locs hW e1 e2 => ?_)
        have hG := hG.st e1 e2 (rfl : rA 32 = (-2147483648, 2147483647)) (by have := i_rng y12433; omega) (by have := i_rng y12433; omega)
        refine q_iconst (v := (0 : Int32)) hM dX7_become_32 (by decide) ?_
        refine q_istore_n (lv9 := [(3, .int (0 : Int32)), (0, .ref (ad 30)), (1, .ref (ad 18)), (2, .int w2_2)]) hM dX7_become_33 hl (by decide) rfl (fun ls hl => ?_)
        have L34 : ∀ (fu34 : Nat) (w34_3 : Int32) (g9 : Nat → va_E) (H : Heap) (locs : List Loc) (ls : Array Slot), (12 - w34_3.toInt).toNat < fu34 → (Rng g9) → (0 ≤ w34_3.toInt) → (w34_3.toInt ≤ 12) → lv_has ls 4 [(0, .ref (ad 30)), (1, .ref (ad 18)), (2, .int w2_2), (3, .int w34_3)] → WS ad cA (fun i k => i = 31 ∨ i = 32 ∨ (34 ≤ i ∧ i < 42) ∨ (i = 30 ∧ (k = 3 ∨ k = 4 ∨ k = 5 ∨ k = 6 ∨ k = 7))) g0 K g9 H locs → XX K 0 0 H locs 34 ls [] := by
          intro fu34
          induction fu34 with
          | zero => intro w34_3 g9 H locs ls h0; omega
          | succ fu34 ih34 =>
            intro w34_3 g9 H locs ls hm34 i34_0 i34_1 i34_2 hl hW
            have hG := i34_0
            refine q_iload_n hM dX7_become_34 (lv_at hl 3 rfl) ?_
            refine q_bipush (v := (12 : Int32)) hM dX7_become_35 (by decide) ?_
            refine q_icmp_ge (tgt := 62) hM dX7_become_37 (by decide) (rfl : w34_3.toInt = w34_3.toInt) (kc_12 : (12 : Int32).toInt = 12) (fun h37 => ?_) (fun h37 => ?_)
            · refine q_iinc (lv9 := fun z12437 => [(2, .int z12437), (0, .ref (ad 30)), (1, .ref (ad 18)), (3, .int w34_3)]) hM dX7_become_62 hl (kq := 2) rfl (by decide) (fun _ => rfl) (fun z12437 ls hz12437 hl => ?_)
              first | have tz12437 := i_addT hz12437 (rfl : w2_2.toInt = w2_2.toInt) (kc_1 : (Int32.ofInt 1).toInt = 1) (by omega) (by omega) | skip
              refine q_goto (tgt := 2) hM dX7_become_65 (by decide) ?_
              exact ih2 z12437 _ _ _ _ (by omega) hG (by omega) (by omega) (lv_sub hl [1, 2, 0] rfl) hW
            · refine q_aload_n hM dX7_become_40 (lv_at hl 0 rfl) ?_
              refine w_get (v := .ref (ad 33)) hM hW FG_X7_20 lb_30 (rf_30_2 hW.2.1) dX7_become_41 ?_
              refine q_iload_n hM dX7_become_44 (lv_at hl 2 rfl) ?_
              refine w_aald hM hW lb_33 (Or.inl rfl) (i_in (by omega) (by omega)) (aq (aq_33 hW.2.1) (by omega) (by omega)) dX7_become_45 ?_
              refine q_iload_n hM dX7_become_46 (lv_at hl 3 rfl) ?_
              refine q_aload_n hM dX7_become_47 (lv_at hl 1 rfl) ?_
              refine w_get (v := .ref (ad 21)) hM hW FG_X7_20 lb_18 (rf_18_2 hW.2.1) dX7_become_48 ?_
              refine q_iload_n hM dX7_become_51 (lv_at hl 2 rfl) ?_
              refine w_aald hM hW lb_21 (Or.inl rfl) (i_in (by omega) (by omega)) (aq (aq_21 hW.2.1) (by omega) (by omega)) dX7_become_52 ?_
              refine q_iload_n hM dX7_become_53 (lv_at hl 3 rfl) ?_
              refine w_iald hM hW (lr_22 (by omega)) (i_in (by omega) (by omega)) dX7_become_54 ?_
              refine q_top (fun y12439 hy12439 => ?_)
              refine w_iast hM hW (lr_34 (by omega)) (by omega) (i_in (by omega) (by omega)) dX7_become_55 (fun g12440 H locs hW e1 e2 => ?_)
              have hG := hG.st e1 e2 (rA_row_34 (by omega)) (by have := i_rng y12439; omega) (by have := i_rng y12439; omega)
              refine q_iinc (lv9 := fun z12441 => [(3, .int z12441), (0, .ref (ad 30)), (1, .ref (ad 18)), (2, .int w2_2)]) hM dX7_become_56 hl (kq := 3) rfl (by decide) (fun _ => rfl) (fun z12441 ls hz12441 hl => ?_)
              first | have tz12441 := i_addT hz12441 (rfl : w34_3.toInt = w34_3.toInt) (kc_1 : (Int32.ofInt 1).toInt = 1) (by omega) (by omega) | skip
              refine q_goto (tgt := 34) hM dX7_become_59 (by decide) ?_
              exact ih34 z12441 _ _ _ _ (by omega) hG (by omega) (by omega) (lv_sub hl [1, 2, 3, 0] rfl) hW
        have := kc_0
        exact L34 _ (0 : Int32) _ _ _ _ (Nat.lt_succ_self _) hG (by omega) (by omega) (lv_sub hl [1, 2, 3, 0] rfl) hW
  have := kc_0
  exact L2 _ (0 : Int32) _ _ _ _ (Nat.lt_succ_self _) hG (by omega) (by omega) (lv_sub hl [1, 2, 0] rfl) hW


set_option maxRecDepth 100000 in
set_option maxHeartbeats 4000000 in
theorem s_X7_become_18_30 (l : Launch) (D : va_G) (cA : Nat → ClassId) (ad : Nat → Nat) (g0 : Nat → va_E)  (c3 : Int32) (c4 : Int32)  (hSh : Shp ad cA g0) (hG : Rng g0) (h_c3 : fld g0 30 3 = .int c3) (h_c4 : fld g0 30 4 = .int c4) : CT l NN ad cA D yX7_become cX7_become 4 none (0, 0) [.ref (ad 18), .ref (ad 30)] g0 (fun v g' => v = none ∧ Shp ad cA g' ∧ Rng g' ∧ FR (fun i k => i = 19 ∨ i = 20 ∨ (22 ≤ i ∧ i < 30) ∨ (i = 18 ∧ (k = 3 ∨ k = 4 ∨ k = 5 ∨ k = 6 ∨ k = 7))) g0 g' ∧ fld g' 18 3 = .int c3 ∧ fld g' 18 4 = .int c4) := by
  refine q_enterV (by decide) (Nat.le_of_ble_eq_true rfl) (fun K H locs ls _ _ hM hW0 hR hC hE hl => ?_)
  have hl : lv_has ls 4 [(0, .ref (ad 18)), (1, .ref (ad 30))] := hl
  have hW : WS ad cA (fun i k => i = 19 ∨ i = 20 ∨ (22 ≤ i ∧ i < 30) ∨ (i = 18 ∧ (k = 3 ∨ k = 4 ∨ k = 5 ∨ k = 6 ∨ k = 7))) g0 K g0 H locs := ⟨hW0, hSh, FR.rf⟩
  have b_c3 := hG.f h_c3 rF_30_3 (by decide)
  refine q_iconst (v := (0 : Int32)) hM dX7_become_0 (by decide) ?_
  refine q_istore_n (lv9 := [(2, .int (0 : Int32)), (0, .ref (ad 18)), (1, .ref (ad 30))]) hM dX7_become_1 hl (by decide) rfl (fun ls hl => ?_)
  have L2 : ∀ (fu2 : Nat) (w2_2 : Int32) (g9 : Nat → va_E) (H : Heap) (locs : List Loc) (ls : Array Slot), (8 - w2_2.toInt).toNat < fu2 → (Rng g9) → (0 ≤ w2_2.toInt) → (w2_2.toInt ≤ 8) → lv_has ls 4 [(0, .ref (ad 18)), (1, .ref (ad 30)), (2, .int w2_2)] → WS ad cA (fun i k => i = 19 ∨ i = 20 ∨ (22 ≤ i ∧ i < 30) ∨ (i = 18 ∧ (k = 3 ∨ k = 4 ∨ k = 5 ∨ k = 6 ∨ k = 7))) g0 K g9 H locs → XX K 0 0 H locs 2 ls [] := by
    intro fu2
    induction fu2 with
    | zero => intro w2_2 g9 H locs ls h0; omega
    | succ fu2 ih2 =>
      intro w2_2 g9 H locs ls hm2 i2_0 i2_1 i2_2 hl hW
      have hG := i2_0
      refine q_iload_n hM dX7_become_2 (lv_at hl 2 rfl) ?_
      refine q_bipush (v := (8 : Int32)) hM dX7_become_3 (by decide) ?_
      refine q_icmp_ge (tgt := 68) hM dX7_become_5 (by decide) (rfl : w2_2.toInt = w2_2.toInt) (kc_8 : (8 : Int32).toInt = 8) (fun h5 => ?_) (fun h5 => ?_)
      · refine q_aload_n hM dX7_become_68 (lv_at hl 0 rfl) ?_
        refine q_aload_n hM dX7_become_69 (lv_at hl 1 rfl) ?_
        refine w_get (v := .int c3) hM hW FG_X7_23 lb_30 ((hW.2.2.1 30 3 (by omega)).trans h_c3) dX7_become_70 ?_
        refine w_put hM hW FP_X7_23 lb_18 (by omega) (Or.inl ⟨_, rfl⟩) rfl rfl dX7_become_73 (fun g12444 H locs hW e1 e2 => ?_)
        have f12445 : fld g12444 18 3 = .int c3 := e1
        have hG := hG.put e1 e2 rF_18_3 (by decide) (by have := i_rng c3; omega) (by have := i_rng c3; omega)
        refine q_aload_n hM dX7_become_76 (lv_at hl 0 rfl) ?_
        refine q_aload_n hM dX7_become_77 (lv_at hl 1 rfl) ?_
        refine w_get (v := .int c4) hM hW FG_X7_27 lb_30 ((hW.2.2.1 30 4 (by omega)).trans h_c4) dX7_become_78 ?_
        refine w_put hM hW FP_X7_27 lb_18 (by omega) (Or.inl ⟨_, rfl⟩) rfl rfl dX7_become_81 (fun g12446 H locs hW e1 e2 => ?_)
        have f12447 : fld g12446 18 3 = .int c3 := (e2.1 18 3 (by unfold Only; omega)).trans f12445
        have f12448 : fld g12446 18 4 = .int c4 := e1
        have hG := hG.put e1 e2 (rfl : rF 18 4 = (-2147483648, 2147483647)) (by decide) (by have := i_rng c4; omega) (by have := i_rng c4; omega)
        refine q_aload_n hM dX7_become_84 (lv_at hl 0 rfl) ?_
        refine q_aload_n hM dX7_become_85 (lv_at hl 1 rfl) ?_
        refine w_getI hM hW FG_X7_30 lb_30 (by decide) (by decide) dX7_become_86 (fun x12449 fx12449 => ?_)
        refine w_put hM hW FP_X7_30 lb_18 (by omega) (Or.inl ⟨_, rfl⟩) rfl rfl dX7_become_89 (fun g12450 H locs hW e1 e2 => ?_)
        have f12451 : fld g12450 18 3 = .int c3 := (e2.1 18 3 (by unfold Only; omega)).trans f12447
        have f12452 : fld g12450 18 4 = .int c4 := (e2.1 18 4 (by unfold Only; omega)).trans f12448
        have f12453 : fld g12450 30 5 = .int x12449 := (e2.1 30 5 (by unfold Only; omega)).trans fx12449
        have f12454 : fld g12450 18 5 = .int x12449 := e1
        have hG := hG.put e1 e2 (rfl : rF 18 5 = (-2147483648, 2147483647)) (by decide) (by have := i_rng x12449; omega) (by have := i_rng x12449; omega)
        refine q_aload_n hM dX7_become_92 (lv_at hl 0 rfl) ?_
        refine q_aload_n hM dX7_become_93 (lv_at hl 1 rfl) ?_
        refine w_getI hM hW FG_X7_33 lb_30 (by decide) (by decide) dX7_become_94 (fun x12455 fx12455 => ?_)
        refine w_put hM hW FP_X7_33 lb_18 (by omega) (Or.inl ⟨_, rfl⟩) rfl rfl dX7_become_97 (fun g12456 H locs hW e1 e2 => ?_)
        have f12457 : fld g12456 18 3 = .int c3 := (e2.1 18 3 (by unfold Only; omega)).trans f12451
        have f12458 : fld g12456 18 4 = .int c4 := (e2.1 18 4 (by unfold Only; omega)).trans f12452
        have f12459 : fld g12456 30 5 = .int x12449 := (e2.1 30 5 (by unfold Only; omega)).trans f12453
        have f12460 : fld g12456 18 5 = .int x12449 := (e2.1 18 5 (by unfold Only; omega)).trans f12454
        have f12461 : fld g12456 30 6 = .int x12455 := (e2.1 30 6 (by unfold Only; omega)).trans fx12455
        have f12462 : fld g12456 18 6 = .int x12455 := e1
        have hG := hG.put e1 e2 (rfl : rF 18 6 = (-2147483648, 2147483647)) (by decide) (by have := i_rng x12455; omega) (by have := i_rng x12455; omega)
        refine q_aload_n hM dX7_become_100 (lv_at hl 0 rfl) ?_
        refine q_aload_n hM dX7_become_101 (lv_at hl 1 rfl) ?_
        refine w_getI hM hW FG_X7_36 lb_30 (by decide) (by decide) dX7_become_102 (fun x12463 fx12463 => ?_)
        refine w_put hM hW FP_X7_36 lb_18 (by omega) (Or.inl ⟨_, rfl⟩) rfl rfl dX7_become_105 (fun g12464 H locs hW e1 e2 => ?_)
        have f12465 : fld g12464 18 3 = .int c3 := (e2.1 18 3 (by unfold Only; omega)).trans f12457
        have f12466 : fld g12464 18 4 = .int c4 := (e2.1 18 4 (by unfold Only; omega)).trans f12458
        have f12467 : fld g12464 30 5 = .int x12449 := (e2.1 30 5 (by unfold Only; omega)).trans f12459
        have f12468 : fld g12464 18 5 = .int x12449 := (e2.1 18 5 (by unfold Only; omega)).trans f12460
        have f12469 : fld g12464 30 6 = .int x12455 := (e2.1 30 6 (by unfold Only; omega)).trans f12461
        have f12470 : fld g12464 18 6 = .int x12455 := (e2.1 18 6 (by unfold Only; omega)).trans f12462
        have f12471 : fld g12464 30 7 = .int x12463 := (e2.1 30 7 (by unfold Only; omega)).trans fx12463
        have f12472 : fld g12464 18 7 = .int x12463 := e1
        have hG := hG.put e1 e2 (rfl : rF 18 7 = (-2147483648, 2147483647)) (by decide) (by have := i_rng x12463; omega) (by have := i_rng x12463; omega)
        exact hE _ _ _ _ _ hW.1 ⟨rfl, hW.2.1, hG, hW.2.2, f12465, f12466⟩ dX7_become_108
      · refine q_aload_n hM dX7_become_8 (lv_at hl 0 rfl) ?_
        refine w_get (v := .ref (ad 19)) hM hW FG_X7_9 lb_18 (rf_18_0 hW.2.1) dX7_become_9 ?_
        refine q_iload_n hM dX7_become_12 (lv_at hl 2 rfl) ?_
        refine q_aload_n hM dX7_become_13 (lv_at hl 1 rfl) ?_
        refine w_get (v := .ref (ad 31)) hM hW FG_X7_9 lb_30 (rf_30_0 hW.2.1) dX7_become_14 ?_
        refine q_iload_n hM dX7_become_17 (lv_at hl 2 rfl) ?_
        refine w_iald hM hW lb_31 (i_in (by omega) (by omega)) dX7_become_18 ?_
        refine q_top (fun y12474 hy12474 => ?_)
        have by12474 := hG.a hy12474 rA_31
        refine w_iast hM hW lb_19 (by omega) (i_in (by omega) (by omega)) dX7_become_19 (fun g12475 H locs hW e1 e2 => ?_)
        have hG := hG.st e1 e2 rA_19 (by have := i_rng y12474; omega) (by have := i_rng y12474; omega)
        refine q_aload_n hM dX7_become_20 (lv_at hl 0 rfl) ?_
        refine w_get (v := .ref (ad 20)) hM hW FG_X7_15 lb_18 (rf_18_1 hW.2.1) dX7_become_21 ?_
        refine q_iload_n hM dX7_become_24 (lv_at hl 2 rfl) ?_
        refine q_aload_n hM dX7_become_25 (lv_at hl 1 rfl) ?_
        refine w_get (v := .ref (ad 32)) hM hW FG_X7_15 lb_30 (rf_30_1 hW.2.1) dX7_become_26 ?_
        refine q_iload_n hM dX7_become_29 (lv_at hl 2 rfl) ?_
        refine w_iald hM hW lb_32 (i_in (by omega) (by omega)) dX7_become_30 ?_
        refine q_top (fun y12476 hy12476 => ?_)
        refine w_iast hM hW lb_20 (by omega) (i_in (by omega) (by omega)) dX7_become_31 (fun g12477 H locs hW e1 e2 => ?_)
        have hG := hG.st e1 e2 (rfl : rA 20 = (-2147483648, 2147483647)) (by have := i_rng y12476; omega) (by have := i_rng y12476; omega)
        refine q_iconst (v := (0 : Int32)) hM dX7_become_32 (by decide) ?_
        refine q_istore_n (lv9 := [(3, .int (0 : Int32)), (0, .ref (ad 18)), (1, .ref (ad 30)), (2, .int w2_2)]) hM dX7_become_33 hl (by decide) rfl (fun ls hl => ?_)
        have L34 : ∀ (fu34 : Nat) (w34_3 : Int32) (g9 : Nat → va_E) (H : Heap) (locs : List Loc) (ls : Array Slot), (12 - w34_3.toInt).toNat < fu34 → (Rng g9) → (0 ≤ w34_3.toInt) → (w34_3.toInt ≤ 12) → lv_has ls 4 [(0, .ref (ad 18)), (1, .ref (ad 30)), (2, .int w2_2), (3, .int w34_3)] → WS ad cA (fun i k => i = 19 ∨ i = 20 ∨ (22 ≤ i ∧ i < 30) ∨ (i = 18 ∧ (k = 3 ∨ k = 4 ∨ k = 5 ∨ k = 6 ∨ k = 7))) g0 K g9 H locs → XX K 0 0 H locs 34 ls [] := by
          intro fu34
          induction fu34 with
          | zero => intro w34_3 g9 H locs ls h0; omega
          | succ fu34 ih34 =>
            intro w34_3 g9 H locs ls hm34 i34_0 i34_1 i34_2 hl hW
            have hG := i34_0
            refine q_iload_n hM dX7_become_34 (lv_at hl 3 rfl) ?_
            refine q_bipush (v := (12 : Int32)) hM dX7_become_35 (by decide) ?_
            refine q_icmp_ge (tgt := 62) hM dX7_become_37 (by decide) (rfl : w34_3.toInt = w34_3.toInt) (kc_12 : (12 : Int32).toInt = 12) (fun h37 => ?_) (fun h37 => ?_)
            · refine q_iinc (lv9 := fun z12480 => [(2, .int z12480), (0, .ref (ad 18)), (1, .ref (ad 30)), (3, .int w34_3)]) hM dX7_become_62 hl (kq := 2) rfl (by decide) (fun _ => rfl) (fun z12480 ls hz12480 hl => ?_)
              first | have tz12480 := i_addT hz12480 (rfl : w2_2.toInt = w2_2.toInt) (kc_1 : (Int32.ofInt 1).toInt = 1) (by omega) (by omega) | skip
              refine q_goto (tgt := 2) hM dX7_become_65 (by decide) ?_
              exact ih2 z12480 _ _ _ _ (by omega) hG (by omega) (by omega) (lv_sub hl [1, 2, 0] rfl) hW
            · refine q_aload_n hM dX7_become_40 (lv_at hl 0 rfl) ?_
              refine w_get (v := .ref (ad 21)) hM hW FG_X7_20 lb_18 (rf_18_2 hW.2.1) dX7_become_41 ?_
              refine q_iload_n hM dX7_become_44 (lv_at hl 2 rfl) ?_
              refine w_aald hM hW lb_21 (Or.inl rfl) (i_in (by omega) (by omega)) (aq (aq_21 hW.2.1) (by omega) (by omega)) dX7_become_45 ?_
              refine q_iload_n hM dX7_become_46 (lv_at hl 3 rfl) ?_
              refine q_aload_n hM dX7_become_47 (lv_at hl 1 rfl) ?_
              refine w_get (v := .ref (ad 33)) hM hW FG_X7_20 lb_30 (rf_30_2 hW.2.1) dX7_become_48 ?_
              refine q_iload_n hM dX7_become_51 (lv_at hl 2 rfl) ?_
              refine w_aald hM hW lb_33 (Or.inl rfl) (i_in (by omega) (by omega)) (aq (aq_33 hW.2.1) (by omega) (by omega)) dX7_become_52 ?_
              refine q_iload_n hM dX7_become_53 (lv_at hl 3 rfl) ?_
              refine w_iald hM hW (lr_34 (by omega)) (i_in (by omega) (by omega)) dX7_become_54 ?_
              refine q_top (fun y12482 hy12482 => ?_)
              refine w_iast hM hW (lr_22 (by omega)) (by omega) (i_in (by omega) (by omega)) dX7_become_55 (fun g12483 H locs hW e1 e2 => ?_)
              have hG := hG.st e1 e2 (rA_row_22 (by omega)) (by have := i_rng y12482; omega) (by have := i_rng y12482; omega)
              refine q_iinc (lv9 := fun z12484 => [(3, .int z12484), (0, .ref (ad 18)), (1, .ref (ad 30)), (2, .int w2_2)]) hM dX7_become_56 hl (kq := 3) rfl (by decide) (fun _ => rfl) (fun z12484 ls hz12484 hl => ?_)
              first | have tz12484 := i_addT hz12484 (rfl : w34_3.toInt = w34_3.toInt) (kc_1 : (Int32.ofInt 1).toInt = 1) (by omega) (by omega) | skip
              refine q_goto (tgt := 34) hM dX7_become_59 (by decide) ?_
              exact ih34 z12484 _ _ _ _ (by omega) hG (by omega) (by omega) (lv_sub hl [1, 2, 3, 0] rfl) hW
        have := kc_0
        exact L34 _ (0 : Int32) _ _ _ _ (Nat.lt_succ_self _) hG (by omega) (by omega) (lv_sub hl [1, 2, 3, 0] rfl) hW
  have := kc_0
  exact L2 _ (0 : Int32) _ _ _ _ (Nat.lt_succ_self _) hG (by omega) (by omega) (lv_sub hl [1, 2, 0] rfl) hW


set_option maxRecDepth 100000 in
set_option maxHeartbeats 4000000 in
theorem s_X11_keep (l : Launch) (D : va_G) (cA : Nat → ClassId) (ad : Nat → Nat) (g0 : Nat → va_E)  (c3 : Int32) (c4 : Int32)  (hSh : Shp ad cA g0) (hG : Rng g0) (h_c3 : fld g0 18 3 = .int c3) (h_c4 : fld g0 18 4 = .int c4) : CT l NN ad cA D yX11_keep cX11_keep 1 (some FieldType.int) (1, 23) [.ref (ad 0)] g0 (fun v g' => ∃ (r : Int32), v = some (.int r) ∧ Shp ad cA g' ∧ Rng g' ∧ FR (fun i k => i = 31 ∨ i = 32 ∨ (34 ≤ i ∧ i < 42) ∨ (i = 30 ∧ (k = 3 ∨ k = 4 ∨ k = 5 ∨ k = 6 ∨ k = 7)) ∨ (i = 0 ∧ (k = 15))) g0 g' ∧ fld g' 30 3 = .int c3 ∧ fld g' 30 4 = .int c4 ∧ fld g' 0 15 = .int (1 : Int32) ∧ (r = c4)) := by
  refine q_enterI (by decide) (Nat.le_of_ble_eq_true rfl) rfl (fun K H locs ls _ _ hM hW0 hR hC hE hl => ?_)
  have hl : lv_has ls 1 [(0, .ref (ad 0))] := hl
  have hW : WS ad cA (fun i k => i = 31 ∨ i = 32 ∨ (34 ≤ i ∧ i < 42) ∨ (i = 30 ∧ (k = 3 ∨ k = 4 ∨ k = 5 ∨ k = 6 ∨ k = 7)) ∨ (i = 0 ∧ (k = 15))) g0 K g0 H locs := ⟨hW0, hSh, FR.rf⟩
  have b_c3 := hG.f h_c3 rF_18_3 (by decide)
  refine q_aload_n hM dX11_keep_0 (lv_at hl 0 rfl) ?_
  refine w_get (v := .ref (ad 30)) hM hW FG_X11_30 lb_0 (rf_0_11 hW.2.1) dX11_keep_1 ?_
  refine q_aload_n hM dX11_keep_4 (lv_at hl 0 rfl) ?_
  refine w_get (v := .ref (ad 18)) hM hW FG_X11_26 lb_0 (rf_0_10 hW.2.1) dX11_keep_5 ?_
  refine q_callV (As := [.ref (ad 18)]) (rest := []) hM hW.1 hR hC myX7_become (kAW (v_3_0 (List.mem_of_getElem? (i := 9) rfl)) rfl) (rfl : vwCl[7]? = some (RX7, TX7, 8)) rfl lb_30.1 (shO hW.2.1 lb_30) (s_X7_become_30_18 _ _ cA ad g0 c3 c4 hW.2.1 hG ((hW.2.2.1 18 3 (by omega)).trans h_c3) ((hW.2.2.1 18 4 (by omega)).trans h_c4)) ⟨by decide, by decide⟩ rfl rfl hl.1 (Nat.le_of_ble_eq_true rfl) dX11_keep_8 (fun v g12487 H locs hp hW1 => ?_)
  obtain ⟨rfl, hs1, hG, hf1, q12485, q12486⟩ := hp
  have hW : WS ad cA (fun i k => i = 31 ∨ i = 32 ∨ (34 ≤ i ∧ i < 42) ∨ (i = 30 ∧ (k = 3 ∨ k = 4 ∨ k = 5 ∨ k = 6 ∨ k = 7)) ∨ (i = 0 ∧ (k = 15))) g0 K g12487 H locs := ⟨hW1, hs1, hW.2.2.tr hf1 (fun i k h => h.elim (fun h => (Or.inl h)) (fun h => h.elim (fun h => (Or.inr (Or.inl h))) (fun h => h.elim (fun h => (Or.inr (Or.inr (Or.inl h)))) (fun h => (Or.inr (Or.inr (Or.inr (Or.inl h))))))))⟩
  refine q_aload_n hM dX11_keep_11 (lv_at hl 0 rfl) ?_
  refine q_iconst (v := (1 : Int32)) hM dX11_keep_12 (by decide) ?_
  refine w_put hM hW FP_X11_108 lb_0 (by omega) (Or.inl ⟨_, rfl⟩) rfl rfl dX11_keep_13 (fun g12488 H locs hW e1 e2 => ?_)
  have f12489 : fld g12488 30 3 = .int c3 := (e2.1 30 3 (by unfold Only; omega)).trans q12485
  have f12490 : fld g12488 30 4 = .int c4 := (e2.1 30 4 (by unfold Only; omega)).trans q12486
  have f12491 : fld g12488 0 15 = .int (1 : Int32) := e1
  have hG := hG.put e1 e2 rF_0_15 (by decide) (by have := kc_1; have := i_rng (1 : Int32); omega) (by have := kc_1; have := i_rng (1 : Int32); omega)
  refine q_aload_n hM dX11_keep_16 (lv_at hl 0 rfl) ?_
  refine w_get (v := .ref (ad 18)) hM hW FG_X11_26 lb_0 (rf_0_10 hW.2.1) dX11_keep_17 ?_
  refine w_get (v := .int c4) hM hW FG_X11_322 lb_18 ((hW.2.2.1 18 4 (by omega)).trans h_c4) dX11_keep_20 ?_
  exact hE _ _ _ _ _ _ hW.1 ⟨_, rfl, hW.2.1, hG, hW.2.2, f12489, f12490, f12491, rfl⟩ dX11_keep_23


set_option maxRecDepth 100000 in
set_option maxHeartbeats 4000000 in
theorem s_X11_undo (l : Launch) (D : va_G) (cA : Nat → ClassId) (ad : Nat → Nat) (g0 : Nat → va_E)  (ik : Int32) (c3 : Int32) (c4 : Int32) (d3 : Int32) (d4 : Int32)  (hSh : Shp ad cA g0) (hG : Rng g0) (h_ik : fld g0 0 15 = .int ik) (h_c3 : fld g0 30 3 = .int c3) (h_c4 : fld g0 30 4 = .int c4) (h_d3 : fld g0 18 3 = .int d3) (h_d4 : fld g0 18 4 = .int d4) : CT l NN ad cA D yX11_undo cX11_undo 1 (some FieldType.boolean) (1, 23) [.ref (ad 0)] g0 (fun v g' => ∃ (e3 : Int32) (e4 : Int32) (r : Int32), v = some (.int r) ∧ Shp ad cA g' ∧ Rng g' ∧ FR (fun i k => i = 19 ∨ i = 20 ∨ (22 ≤ i ∧ i < 30) ∨ (i = 18 ∧ (k = 3 ∨ k = 4 ∨ k = 5 ∨ k = 6 ∨ k = 7))) g0 g' ∧ fld g' 18 3 = .int e3 ∧ fld g' 18 4 = .int e4 ∧ ((r.toInt = 1 ∧ ik.toInt ≠ 0 ∧ e3 = c3 ∧ e4 = c4) ∨ (r.toInt = 0 ∧ ik.toInt = 0 ∧ e3 = d3 ∧ e4 = d4))) := by
  refine q_enterZ (by decide) (Nat.le_of_ble_eq_true rfl) (fun K H locs ls _ _ hM hW0 hR hC hE hl => ?_)
  have hl : lv_has ls 1 [(0, .ref (ad 0))] := hl
  have hW : WS ad cA (fun i k => i = 19 ∨ i = 20 ∨ (22 ≤ i ∧ i < 30) ∨ (i = 18 ∧ (k = 3 ∨ k = 4 ∨ k = 5 ∨ k = 6 ∨ k = 7))) g0 K g0 H locs := ⟨hW0, hSh, FR.rf⟩
  have b_ik := hG.f h_ik rF_0_15 (by decide)
  have b_c3 := hG.f h_c3 rF_30_3 (by decide)
  have b_d3 := hG.f h_d3 rF_18_3 (by decide)
  have := kc_0
  have := kc_1
  have f12492 : fld g0 18 3 = .int d3 := h_d3
  have f12493 : fld g0 18 4 = .int d4 := h_d4
  refine q_aload_n hM dX11_undo_0 (lv_at hl 0 rfl) ?_
  refine w_get (v := .int ik) hM hW FG_X11_108 lb_0 ((hW.2.2.1 0 15 (by omega)).trans h_ik) dX11_undo_1 ?_
  refine q_if_ne (tgt := 9) hM dX11_undo_4 (by decide) (rfl : ik.toInt = ik.toInt) (fun h4 => ?_) (fun h4 => ?_)
  · refine q_aload_n hM dX11_undo_9 (lv_at hl 0 rfl) ?_
    refine w_get (v := .ref (ad 18)) hM hW FG_X11_26 lb_0 (rf_0_10 hW.2.1) dX11_undo_10 ?_
    refine q_aload_n hM dX11_undo_13 (lv_at hl 0 rfl) ?_
    refine w_get (v := .ref (ad 30)) hM hW FG_X11_30 lb_0 (rf_0_11 hW.2.1) dX11_undo_14 ?_
    refine q_callV (As := [.ref (ad 30)]) (rest := []) hM hW.1 hR hC myX7_become (kAW (v_3_0 (List.mem_of_getElem? (i := 9) rfl)) rfl) (rfl : vwCl[7]? = some (RX7, TX7, 8)) rfl lb_18.1 (shO hW.2.1 lb_18) (s_X7_become_18_30 _ _ cA ad g0 c3 c4 hW.2.1 hG ((hW.2.2.1 30 3 (by omega)).trans h_c3) ((hW.2.2.1 30 4 (by omega)).trans h_c4)) ⟨by decide, by decide⟩ rfl rfl hl.1 (Nat.le_of_ble_eq_true rfl) dX11_undo_17 (fun v g12497 H locs hp hW1 => ?_)
    obtain ⟨rfl, hs1, hG, hf1, q12495, q12496⟩ := hp
    have hW : WS ad cA (fun i k => i = 19 ∨ i = 20 ∨ (22 ≤ i ∧ i < 30) ∨ (i = 18 ∧ (k = 3 ∨ k = 4 ∨ k = 5 ∨ k = 6 ∨ k = 7))) g0 K g12497 H locs := ⟨hW1, hs1, hW.2.2.tr hf1 (fun i k h => h.elim (fun h => (Or.inl h)) (fun h => h.elim (fun h => (Or.inr (Or.inl h))) (fun h => h.elim (fun h => (Or.inr (Or.inr (Or.inl h)))) (fun h => (Or.inr (Or.inr (Or.inr h)))))))⟩
    refine q_iconst (v := (1 : Int32)) hM dX11_undo_20 (by decide) ?_
    exact hE _ _ _ _ _ _ hW.1 nz_1 ⟨c3, c4, _, rfl, hW.2.1, hG, hW.2.2, q12495, q12496, (Or.inl ⟨kc_1, by omega, rfl, rfl⟩)⟩ dX11_undo_21
  · refine q_iconst (v := (0 : Int32)) hM dX11_undo_7 (by decide) ?_
    exact hE _ _ _ _ _ _ hW.1 nz_0 ⟨d3, d4, _, rfl, hW.2.1, hG, hW.2.2, f12492, f12493, (Or.inr ⟨kc_0, by omega, rfl, rfl⟩)⟩ dX11_undo_8
