theorem dX11_beginTrial_0 : decode cX11_beginTrial 0 = .ok (.aload_n 0, 1) := by decide +kernel
theorem dX11_beginTrial_1 : decode cX11_beginTrial 1 = .ok (.getfield 33, 3) := by decide +kernel
theorem dX11_beginTrial_4 : decode cX11_beginTrial 4 = .ok (.aload_n 0, 1) := by decide +kernel
theorem dX11_beginTrial_5 : decode cX11_beginTrial 5 = .ok (.getfield 26, 3) := by decide +kernel
theorem dX11_beginTrial_8 : decode cX11_beginTrial 8 = .ok (.invokevirtual 319, 3) := by decide +kernel
theorem dX11_beginTrial_11 : decode cX11_beginTrial 11 = .ok (.aload_n 0, 1) := by decide +kernel
theorem dX11_beginTrial_12 : decode cX11_beginTrial 12 = .ok (.getfield 83, 3) := by decide +kernel
theorem dX11_beginTrial_15 : decode cX11_beginTrial 15 = .ok (.aload_n 1, 1) := by decide +kernel
theorem dX11_beginTrial_16 : decode cX11_beginTrial 16 = .ok (.aload_n 0, 1) := by decide +kernel
theorem dX11_beginTrial_17 : decode cX11_beginTrial 17 = .ok (.getfield 33, 3) := by decide +kernel
theorem dX11_beginTrial_20 : decode cX11_beginTrial 20 = .ok (.invokevirtual 176, 3) := by decide +kernel
theorem dX11_beginTrial_23 : decode cX11_beginTrial 23 = .ok (.return_, 1) := by decide +kernel
theorem FG_X11_33 : FG RX11 33 11 16 12 := ⟨RX11, TX11, rfl, wX11, by decide, kAW (v_1_7 (List.mem_of_getElem? (i := 8) rfl)) rfl, rfl⟩
theorem FG_X11_26 : FG RX11 26 11 16 10 := ⟨RX11, TX11, rfl, wX11, by decide, kAW (v_1_7 (List.mem_of_getElem? (i := 6) rfl)) rfl, rfl⟩
theorem myX7_become : MI yX7_become cX7_become 4 none 1 := ⟨kAW (v_3_0 (List.mem_of_getElem? (i := 12) rfl)) rfl, kAW (v_0_0 (List.mem_of_getElem? (i := 4) rfl)) rfl, kAW (v_3_0 (List.mem_of_getElem? (i := 10) rfl)) rfl, kAW (v_3_0 (List.mem_of_getElem? (i := 11) rfl)) rfl, by decide, by decide, by decide +kernel⟩
theorem FG_X11_83 : FG RX11 83 11 16 2 := ⟨RX11, TX11, rfl, wX11, by decide, kAW (v_1_6 (List.mem_of_getElem? (i := 14) rfl)) rfl, rfl⟩
theorem myX2_begin : MI yX2_begin cX2_begin 3 none 2 := ⟨kAW (v_2_9 (List.mem_of_getElem? (i := 14) rfl)) rfl, kAW (v_0_0 (List.mem_of_getElem? (i := 9) rfl)) rfl, kAW (v_2_9 (List.mem_of_getElem? (i := 12) rfl)) rfl, kAW (v_2_9 (List.mem_of_getElem? (i := 13) rfl)) rfl, by decide, by decide, by decide +kernel⟩
set_option maxRecDepth 100000 in
set_option maxHeartbeats 4000000 in
theorem a_X11_beginTrial (l : Launch) (D : va_G) (cA : Nat → ClassId) (ad : Nat → Nat) (g0 : Nat → va_E) (lw : Nat)   (hSh : Shp ad cA g0) (hG : Rng g0) (hlw : isLw lw) : CT l NN ad cA D yX11_beginTrial cX11_beginTrial 2 none (1, 23) [.ref (ad 0), .ref (ad lw)] g0 (fun v g' => v = none ∧ Shp ad cA g' ∧ Rng g' ∧ FR (fun i k => i = 43 ∨ i = 44 ∨ (46 ≤ i ∧ i < 54) ∨ (i = 42 ∧ (k = 3 ∨ k = 4 ∨ k = 5 ∨ k = 6 ∨ k = 7)) ∨ (i = 80 ∧ (k = 7 ∨ k = 8 ∨ k = 9 ∨ k = 10))) g0 g' ∧ fld g' 80 9 = .ref (ad lw) ∧ fld g' 80 10 = .ref (ad 42)) := by
  refine q_enterV (by decide) (Nat.le_of_ble_eq_true rfl) (fun K H locs ls _ _ hM hW0 hR hC hE hl => ?_)
  have hl : lv_has ls 2 [(0, .ref (ad 0)), (1, .ref (ad lw))] := hl
  have hW : WS ad cA (fun i k => i = 43 ∨ i = 44 ∨ (46 ≤ i ∧ i < 54) ∨ (i = 42 ∧ (k = 3 ∨ k = 4 ∨ k = 5 ∨ k = 6 ∨ k = 7)) ∨ (i = 80 ∧ (k = 7 ∨ k = 8 ∨ k = 9 ∨ k = 10))) g0 K g0 H locs := ⟨hW0, hSh, FR.rf⟩
  have ulw := hlw
  unfold isLw at ulw
  refine q_aload_n hM dX11_beginTrial_0 (lv_at hl 0 rfl) ?_
  refine w_get (v := .ref (ad 42)) hM hW FG_X11_33 lb_0 (rf_0_12 hW.2.1) dX11_beginTrial_1 ?_
  refine q_aload_n hM dX11_beginTrial_4 (lv_at hl 0 rfl) ?_
  refine w_get (v := .ref (ad 18)) hM hW FG_X11_26 lb_0 (rf_0_10 hW.2.1) dX11_beginTrial_5 ?_
  refine q_callV (As := [.ref (ad 18)]) (rest := []) hM hW.1 hR hC myX7_become (kAW (v_3_0 (List.mem_of_getElem? (i := 9) rfl)) rfl) (rfl : vwCl[7]? = some (RX7, TX7, 8)) rfl lb_42.1 (shO hW.2.1 lb_42) (a_X7_become_42_18 _ _ cA ad g0  hW.2.1 hG) ⟨by decide, by decide⟩ rfl rfl hl.1 (Nat.le_of_ble_eq_true rfl) dX11_beginTrial_8 (fun v g4489 H locs hp hW1 => ?_)
  obtain ⟨rfl, hs1, hG, hf1⟩ := hp
  have hW : WS ad cA (fun i k => i = 43 ∨ i = 44 ∨ (46 ≤ i ∧ i < 54) ∨ (i = 42 ∧ (k = 3 ∨ k = 4 ∨ k = 5 ∨ k = 6 ∨ k = 7)) ∨ (i = 80 ∧ (k = 7 ∨ k = 8 ∨ k = 9 ∨ k = 10))) g0 K g4489 H locs := ⟨hW1, hs1, hW.2.2.tr hf1 (fun i k h => h.elim (fun h => (Or.inl h)) (fun h => h.elim (fun h => (Or.inr (Or.inl h))) (fun h => h.elim (fun h => (Or.inr (Or.inr (Or.inl h)))) (fun h => (Or.inr (Or.inr (Or.inr (Or.inl h))))))))⟩
  refine q_aload_n hM dX11_beginTrial_11 (lv_at hl 0 rfl) ?_
  refine w_get (v := .ref (ad 80)) hM hW FG_X11_83 lb_0 (rf_0_2 hW.2.1) dX11_beginTrial_12 ?_
  refine q_aload_n hM dX11_beginTrial_15 (lv_at hl 1 rfl) ?_
  refine q_aload_n hM dX11_beginTrial_16 (lv_at hl 0 rfl) ?_
  refine w_get (v := .ref (ad 42)) hM hW FG_X11_33 lb_0 (rf_0_12 hW.2.1) dX11_beginTrial_17 ?_
  refine q_callV (As := [.ref (ad lw), .ref (ad 42)]) (rest := []) hM hW.1 hR hC myX2_begin (kAW (v_2_9 (List.mem_of_getElem? (i := 11) rfl)) rfl) (rfl : vwCl[2]? = some (RX2, TX2, 11)) rfl lb_80.1 (shO hW.2.1 lb_80) (a_X2_begin _ _ cA ad g4489 lw 42 hW.2.1 hG hlw (Or.inr rfl : isPb 42)) ⟨by decide, by decide⟩ rfl rfl hl.1 (Nat.le_of_ble_eq_true rfl) dX11_beginTrial_20 (fun v g4492 H locs hp hW1 => ?_)
  obtain ⟨rfl, hs1, hG, hf1, q4490, q4491⟩ := hp
  have hW : WS ad cA (fun i k => i = 43 ∨ i = 44 ∨ (46 ≤ i ∧ i < 54) ∨ (i = 42 ∧ (k = 3 ∨ k = 4 ∨ k = 5 ∨ k = 6 ∨ k = 7)) ∨ (i = 80 ∧ (k = 7 ∨ k = 8 ∨ k = 9 ∨ k = 10))) g0 K g4492 H locs := ⟨hW1, hs1, hW.2.2.tr hf1 (fun i k h => (Or.inr (Or.inr (Or.inr (Or.inr h)))))⟩
  exact hE _ _ _ _ _ hW.1 ⟨rfl, hW.2.1, hG, hW.2.2, q4490, q4491⟩ dX11_beginTrial_23

theorem dX11_areSome_0 : decode cX11_areSome 0 = .ok (.iload_n 1, 1) := by decide +kernel
theorem dX11_areSome_1 : decode cX11_areSome 1 = .ok (.aload_n 0, 1) := by decide +kernel
theorem dX11_areSome_2 : decode cX11_areSome 2 = .ok (.getfield 26, 3) := by decide +kernel
theorem dX11_areSome_5 : decode cX11_areSome 5 = .ok (.getfield 135, 3) := by decide +kernel
theorem dX11_areSome_8 : decode cX11_areSome 8 = .ok (.invokestatic 227, 3) := by decide +kernel
theorem dX11_areSome_11 : decode cX11_areSome 11 = .ok (.ifCond .eq 15, 3) := by decide +kernel
theorem dX11_areSome_14 : decode cX11_areSome 14 = .ok (.iload_n 1, 1) := by decide +kernel
theorem dX11_areSome_15 : decode cX11_areSome 15 = .ok (.invokestatic 206, 3) := by decide +kernel
theorem dX11_areSome_18 : decode cX11_areSome 18 = .ok (.iconst 2, 1) := by decide +kernel
theorem dX11_areSome_19 : decode cX11_areSome 19 = .ok (.if_icmp .lt 7, 3) := by decide +kernel
theorem dX11_areSome_22 : decode cX11_areSome 22 = .ok (.iconst 1, 1) := by decide +kernel
theorem dX11_areSome_23 : decode cX11_areSome 23 = .ok (.goto 4, 3) := by decide +kernel
theorem dX11_areSome_26 : decode cX11_areSome 26 = .ok (.iconst 0, 1) := by decide +kernel
theorem dX11_areSome_27 : decode cX11_areSome 27 = .ok (.ireturn, 1) := by decide +kernel
theorem FG_X11_135 : FG RX11 135 7 8 3 := ⟨RX7, TX7, rfl, wX7, by decide, kAW (v_0_5 (List.mem_of_getElem? (i := 7) rfl)) rfl, rfl⟩
set_option maxRecDepth 100000 in
set_option maxHeartbeats 4000000 in
theorem a_X11_areSome (l : Launch) (D : va_G) (cA : Nat → ClassId) (ad : Nat → Nat) (g0 : Nat → va_E) (so : Int32) (hSh : Shp ad cA g0) (hG : Rng g0) : CT l NN ad cA D yX11_areSome cX11_areSome 2 (some FieldType.boolean) (1, 21) [.ref (ad 0), .int so] g0 (PU g0 (fun r => r.toInt = 0 ∨ r.toInt = 1)) := by
  refine q_enterZ (by decide) (Nat.le_of_ble_eq_true rfl) (fun K H locs ls _ _ hM hW0 hR hC hE hl => ?_)
  have hl : lv_has ls 2 [(0, .ref (ad 0)), (1, .int so)] := hl
  have hW : WS ad cA (fun i k => False) g0 K g0 H locs := ⟨hW0, hSh, FR.rf⟩
  refine q_iload_n hM dX11_areSome_0 (lv_at hl 1 rfl) ?_
  refine q_aload_n hM dX11_areSome_1 (lv_at hl 0 rfl) ?_
  refine w_get (v := .ref (ad 18)) hM hW FG_X11_26 lb_0 (rf_0_10 hW.2.1) dX11_areSome_2 ?_
  refine w_getI hM hW FG_X11_135 lb_18 (by decide) (by decide) dX11_areSome_5 (fun x4493 fx4493 => ?_)
  have bx4493 := hG.f fx4493 rF_18_3 (by decide)
  refine q_callS (As := [.int so, .int x4493]) (rest := []) hM hW.1 hR hC myX11_areOf (kAW (v_3_4 (List.mem_of_getElem? (i := 6) rfl)) rfl) (c_X11_areOf _ _ cA ad g0 so x4493 hW.2.1) ⟨by decide, by decide⟩ rfl rfl hl.1 (Nat.le_of_ble_eq_true rfl) dX11_areSome_8 (fun v g4495 H locs hp hW1 => ?_)
  obtain ⟨r4494, rfl, hr4494, rfl⟩ := hp
  have hW : WS ad cA (fun i k => False) g0 K g0 H locs := ⟨hW1, hW.2.1, hW.2.2⟩
  refine q_if_eq (tgt := 26) hM dX11_areSome_11 (by decide) (rfl : r4494.toInt = r4494.toInt) (fun h11 => ?_) (fun h11 => ?_)
  · refine q_iconst (v := (0 : Int32)) hM dX11_areSome_26 (by decide) ?_
    exact hE _ _ _ _ _ _ hW.1 nz_0 ⟨_, rfl, (by have := kc_0; omega), rfl⟩ dX11_areSome_27
  · refine q_iload_n hM dX11_areSome_14 (lv_at hl 1 rfl) ?_
    refine q_callS (As := [.int so]) (rest := []) hM hW.1 hR hC myJ6_bitCount_0f7a4 (kAW (v_3_1 (List.mem_of_getElem? (i := 2) rfl)) rfl) (c_J6_bitCount_0f7a4 _ _ cA ad g0 so hW.2.1) ⟨by decide, by decide⟩ rfl rfl hl.1 (Nat.le_of_ble_eq_true rfl) dX11_areSome_15 (fun v g4499 H locs hp hW1 => ?_)
    obtain ⟨r4498, rfl, hr4498, rfl⟩ := hp
    have hW : WS ad cA (fun i k => False) g0 K g0 H locs := ⟨hW1, hW.2.1, hW.2.2⟩
    refine q_iconst (v := (2 : Int32)) hM dX11_areSome_18 (by decide) ?_
    refine q_icmp_lt (tgt := 26) hM dX11_areSome_19 (by decide) (rfl : r4498.toInt = r4498.toInt) (kc_2 : (2 : Int32).toInt = 2) (fun h19 => ?_) (fun h19 => ?_)
    · refine q_iconst (v := (0 : Int32)) hM dX11_areSome_26 (by decide) ?_
      exact hE _ _ _ _ _ _ hW.1 nz_0 ⟨_, rfl, (by have := kc_0; omega), rfl⟩ dX11_areSome_27
    · refine q_iconst (v := (1 : Int32)) hM dX11_areSome_22 (by decide) ?_
      refine q_goto (tgt := 27) hM dX11_areSome_23 (by decide) ?_
      exact hE _ _ _ _ _ _ hW.1 nz_1 ⟨_, rfl, (by have := kc_1; omega), rfl⟩ dX11_areSome_27

theorem dX11_fewestQuestions_0 : decode cX11_fewestQuestions 0 = .ok (.aload_n 0, 1) := by decide +kernel
theorem dX11_fewestQuestions_1 : decode cX11_fewestQuestions 1 = .ok (.getfield 19, 3) := by decide +kernel
theorem dX11_fewestQuestions_4 : decode cX11_fewestQuestions 4 = .ok (.getfield 116, 3) := by decide +kernel
theorem dX11_fewestQuestions_7 : decode cX11_fewestQuestions 7 = .ok (.istore_n 2, 1) := by decide +kernel
theorem dX11_fewestQuestions_8 : decode cX11_fewestQuestions 8 = .ok (.iconst 0, 1) := by decide +kernel
theorem dX11_fewestQuestions_9 : decode cX11_fewestQuestions 9 = .ok (.istore_n 3, 1) := by decide +kernel
theorem dX11_fewestQuestions_10 : decode cX11_fewestQuestions 10 = .ok (.iload_n 3, 1) := by decide +kernel
theorem dX11_fewestQuestions_11 : decode cX11_fewestQuestions 11 = .ok (.sipush 4096, 3) := by decide +kernel
theorem dX11_fewestQuestions_14 : decode cX11_fewestQuestions 14 = .ok (.if_icmp .ge 48, 3) := by decide +kernel
theorem dX11_fewestQuestions_17 : decode cX11_fewestQuestions 17 = .ok (.iload_n 3, 1) := by decide +kernel
theorem dX11_fewestQuestions_18 : decode cX11_fewestQuestions 18 = .ok (.aload_n 0, 1) := by decide +kernel
theorem dX11_fewestQuestions_19 : decode cX11_fewestQuestions 19 = .ok (.getfield 19, 3) := by decide +kernel
theorem dX11_fewestQuestions_22 : decode cX11_fewestQuestions 22 = .ok (.getfield 116, 3) := by decide +kernel
theorem dX11_fewestQuestions_25 : decode cX11_fewestQuestions 25 = .ok (.invokestatic 227, 3) := by decide +kernel
theorem dX11_fewestQuestions_28 : decode cX11_fewestQuestions 28 = .ok (.ifCond .eq 28, 3) := by decide +kernel
theorem dX11_fewestQuestions_31 : decode cX11_fewestQuestions 31 = .ok (.iload_n 3, 1) := by decide +kernel
theorem dX11_fewestQuestions_32 : decode cX11_fewestQuestions 32 = .ok (.invokestatic 206, 3) := by decide +kernel
theorem dX11_fewestQuestions_35 : decode cX11_fewestQuestions 35 = .ok (.iload_n 2, 1) := by decide +kernel
theorem dX11_fewestQuestions_36 : decode cX11_fewestQuestions 36 = .ok (.invokestatic 206, 3) := by decide +kernel
theorem dX11_fewestQuestions_39 : decode cX11_fewestQuestions 39 = .ok (.if_icmp .ge 17, 3) := by decide +kernel
theorem dX11_fewestQuestions_42 : decode cX11_fewestQuestions 42 = .ok (.aload_n 0, 1) := by decide +kernel
theorem dX11_fewestQuestions_43 : decode cX11_fewestQuestions 43 = .ok (.getfield 26, 3) := by decide +kernel
theorem dX11_fewestQuestions_46 : decode cX11_fewestQuestions 46 = .ok (.iload_n 1, 1) := by decide +kernel
theorem dX11_fewestQuestions_47 : decode cX11_fewestQuestions 47 = .ok (.iload_n 3, 1) := by decide +kernel
theorem dX11_fewestQuestions_48 : decode cX11_fewestQuestions 48 = .ok (.invokevirtual 258, 3) := by decide +kernel
theorem dX11_fewestQuestions_51 : decode cX11_fewestQuestions 51 = .ok (.ifCond .eq 5, 3) := by decide +kernel
theorem dX11_fewestQuestions_54 : decode cX11_fewestQuestions 54 = .ok (.iload_n 3, 1) := by decide +kernel
theorem dX11_fewestQuestions_55 : decode cX11_fewestQuestions 55 = .ok (.istore_n 2, 1) := by decide +kernel
theorem dX11_fewestQuestions_56 : decode cX11_fewestQuestions 56 = .ok (.iinc 3 1, 3) := by decide +kernel
theorem dX11_fewestQuestions_59 : decode cX11_fewestQuestions 59 = .ok (.goto (-49), 3) := by decide +kernel
theorem dX11_fewestQuestions_62 : decode cX11_fewestQuestions 62 = .ok (.iload_n 2, 1) := by decide +kernel
theorem dX11_fewestQuestions_63 : decode cX11_fewestQuestions 63 = .ok (.ireturn, 1) := by decide +kernel
theorem FG_X11_19 : FG RX11 19 11 16 1 := ⟨RX11, TX11, rfl, wX11, by decide, kAW (v_1_6 (List.mem_of_getElem? (i := 13) rfl)) rfl, rfl⟩
theorem FG_X11_116 : FG RX11 116 5 3 2 := ⟨RX5, TX5, rfl, wX5, by decide, kAW (v_0_3 (List.mem_of_getElem? (i := 11) rfl)) rfl, rfl⟩
theorem myX7_apart : MI yX7_apart cX7_apart 5 (some FieldType.boolean) 2 := ⟨kAW (v_3_10 (List.mem_of_getElem? (i := 9) rfl)) rfl, kAW (v_0_0 (List.mem_of_getElem? (i := 4) rfl)) rfl, kAW (v_3_10 (List.mem_of_getElem? (i := 7) rfl)) rfl, kAW (v_3_10 (List.mem_of_getElem? (i := 8) rfl)) rfl, by decide, by decide, by decide +kernel⟩
set_option maxRecDepth 100000 in
set_option maxHeartbeats 4000000 in
theorem a_X11_fewestQuestions (l : Launch) (D : va_G) (cA : Nat → ClassId) (ad : Nat → Nat) (g0 : Nat → va_E) (so : Int32) (hSh : Shp ad cA g0) (hG : Rng g0) : CT l NN ad cA D yX11_fewestQuestions cX11_fewestQuestions 4 (some FieldType.int) (2, 47) [.ref (ad 0), .int so] g0 (PU g0 (fun r => True)) := by
  refine q_enterI (by decide) (Nat.le_of_ble_eq_true rfl) rfl (fun K H locs ls _ _ hM hW0 hR hC hE hl => ?_)
  have hl : lv_has ls 4 [(0, .ref (ad 0)), (1, .int so)] := hl
  have hW : WS ad cA (fun i k => False) g0 K g0 H locs := ⟨hW0, hSh, FR.rf⟩
  refine q_aload_n hM dX11_fewestQuestions_0 (lv_at hl 0 rfl) ?_
  refine w_get (v := .ref (ad 3)) hM hW FG_X11_19 lb_0 (rf_0_1 hW.2.1) dX11_fewestQuestions_1 ?_
  refine w_getI hM hW FG_X11_116 lb_3 (by decide) (by decide) dX11_fewestQuestions_4 (fun x4502 fx4502 => ?_)
  have bx4502 := hG.f fx4502 rF_3_2 (by decide)
  refine q_istore_n (lv9 := [(2, .int x4502), (0, .ref (ad 0)), (1, .int so)]) hM dX11_fewestQuestions_7 hl (by decide) rfl (fun ls hl => ?_)
  refine q_iconst (v := (0 : Int32)) hM dX11_fewestQuestions_8 (by decide) ?_
  refine q_istore_n (lv9 := [(3, .int (0 : Int32)), (2, .int x4502), (0, .ref (ad 0)), (1, .int so)]) hM dX11_fewestQuestions_9 hl (by decide) rfl (fun ls hl => ?_)
  have L10 : ∀ (fu10 : Nat) (w10_2 : Int32) (w10_3 : Int32) (H : Heap) (locs : List Loc) (ls : Array Slot), (4096 - w10_3.toInt).toNat < fu10 → (0 ≤ w10_3.toInt) → (w10_3.toInt ≤ 4096) → lv_has ls 4 [(0, .ref (ad 0)), (1, .int so), (2, .int w10_2), (3, .int w10_3)] → WS ad cA (fun i k => False) g0 K g0 H locs → XX K 0 0 H locs 10 ls [] := by
    intro fu10
    induction fu10 with
    | zero => intro w10_2 w10_3 H locs ls h0; omega
    | succ fu10 ih10 =>
      intro w10_2 w10_3 H locs ls hm10 i10_0 i10_1 hl hW
      refine q_iload_n hM dX11_fewestQuestions_10 (lv_at hl 3 rfl) ?_
      refine q_sipush (v := (4096 : Int32)) hM dX11_fewestQuestions_11 (by decide) ?_
      refine q_icmp_ge (tgt := 62) hM dX11_fewestQuestions_14 (by decide) (rfl : w10_3.toInt = w10_3.toInt) (kc_4096 : (4096 : Int32).toInt = 4096) (fun h14 => ?_) (fun h14 => ?_)
      · refine q_iload_n hM dX11_fewestQuestions_62 (lv_at hl 2 rfl) ?_
        exact hE _ _ _ _ _ _ hW.1 ⟨_, rfl, (by trivial), rfl⟩ dX11_fewestQuestions_63
      · refine q_iload_n hM dX11_fewestQuestions_17 (lv_at hl 3 rfl) ?_
        refine q_aload_n hM dX11_fewestQuestions_18 (lv_at hl 0 rfl) ?_
        refine w_get (v := .ref (ad 3)) hM hW FG_X11_19 lb_0 (rf_0_1 hW.2.1) dX11_fewestQuestions_19 ?_
        refine w_get (v := .int x4502) hM hW FG_X11_116 lb_3 fx4502 dX11_fewestQuestions_22 ?_
        have bx4502 := hG.f fx4502 rF_3_2 (by decide)
        refine q_callS (As := [.int w10_3, .int x4502]) (rest := []) hM hW.1 hR hC myX11_areOf (kAW (v_3_4 (List.mem_of_getElem? (i := 6) rfl)) rfl) (c_X11_areOf _ _ cA ad g0 w10_3 x4502 hW.2.1) ⟨by decide, by decide⟩ rfl rfl hl.1 (Nat.le_of_ble_eq_true rfl) dX11_fewestQuestions_25 (fun v g4507 H locs hp hW1 => ?_)
        obtain ⟨r4506, rfl, hr4506, rfl⟩ := hp
        have hW : WS ad cA (fun i k => False) g0 K g0 H locs := ⟨hW1, hW.2.1, hW.2.2⟩
        refine q_if_eq (tgt := 56) hM dX11_fewestQuestions_28 (by decide) (rfl : r4506.toInt = r4506.toInt) (fun h28 => ?_) (fun h28 => ?_)
        · refine q_iinc (lv9 := fun z4509 => [(3, .int z4509), (0, .ref (ad 0)), (1, .int so), (2, .int w10_2)]) hM dX11_fewestQuestions_56 hl (kq := 3) rfl (by decide) (fun _ => rfl) (fun z4509 ls hz4509 hl => ?_)
          first | have tz4509 := i_addT hz4509 (rfl : w10_3.toInt = w10_3.toInt) (kc_1 : (Int32.ofInt 1).toInt = 1) (by omega) (by omega) | skip
          refine q_goto (tgt := 10) hM dX11_fewestQuestions_59 (by decide) ?_
          exact ih10 w10_2 z4509 _ _ _ (by omega) (by omega) (by omega) (lv_sub hl [1, 2, 3, 0] rfl) hW
        · refine q_iload_n hM dX11_fewestQuestions_31 (lv_at hl 3 rfl) ?_
          refine q_callS (As := [.int w10_3]) (rest := []) hM hW.1 hR hC myJ6_bitCount_0f7a4 (kAW (v_3_1 (List.mem_of_getElem? (i := 2) rfl)) rfl) (c_J6_bitCount_0f7a4 _ _ cA ad g0 w10_3 hW.2.1) ⟨by decide, by decide⟩ rfl rfl hl.1 (Nat.le_of_ble_eq_true rfl) dX11_fewestQuestions_32 (fun v g4512 H locs hp hW1 => ?_)
          obtain ⟨r4511, rfl, hr4511, rfl⟩ := hp
          have hW : WS ad cA (fun i k => False) g0 K g0 H locs := ⟨hW1, hW.2.1, hW.2.2⟩
          refine q_iload_n hM dX11_fewestQuestions_35 (lv_at hl 2 rfl) ?_
          refine q_callS (As := [.int w10_2]) (rest := [.int r4511]) hM hW.1 hR hC myJ6_bitCount_0f7a4 (kAW (v_3_1 (List.mem_of_getElem? (i := 2) rfl)) rfl) (c_J6_bitCount_0f7a4 _ _ cA ad g0 w10_2 hW.2.1) ⟨by decide, by decide⟩ rfl rfl hl.1 (Nat.le_of_ble_eq_true rfl) dX11_fewestQuestions_36 (fun v g4514 H locs hp hW1 => ?_)
          obtain ⟨r4513, rfl, hr4513, rfl⟩ := hp
          have hW : WS ad cA (fun i k => False) g0 K g0 H locs := ⟨hW1, hW.2.1, hW.2.2⟩
          refine q_icmp_ge (tgt := 56) hM dX11_fewestQuestions_39 (by decide) (rfl : r4511.toInt = r4511.toInt) (rfl : r4513.toInt = r4513.toInt) (fun h39 => ?_) (fun h39 => ?_)
          · refine q_iinc (lv9 := fun z4516 => [(3, .int z4516), (0, .ref (ad 0)), (1, .int so), (2, .int w10_2)]) hM dX11_fewestQuestions_56 hl (kq := 3) rfl (by decide) (fun _ => rfl) (fun z4516 ls hz4516 hl => ?_)
            first | have tz4516 := i_addT hz4516 (rfl : w10_3.toInt = w10_3.toInt) (kc_1 : (Int32.ofInt 1).toInt = 1) (by omega) (by omega) | skip
            refine q_goto (tgt := 10) hM dX11_fewestQuestions_59 (by decide) ?_
            exact ih10 w10_2 z4516 _ _ _ (by omega) (by omega) (by omega) (lv_sub hl [1, 2, 3, 0] rfl) hW
          · refine q_aload_n hM dX11_fewestQuestions_42 (lv_at hl 0 rfl) ?_
            refine w_get (v := .ref (ad 18)) hM hW FG_X11_26 lb_0 (rf_0_10 hW.2.1) dX11_fewestQuestions_43 ?_
            refine q_iload_n hM dX11_fewestQuestions_46 (lv_at hl 1 rfl) ?_
            refine q_iload_n hM dX11_fewestQuestions_47 (lv_at hl 3 rfl) ?_
            refine q_callV (As := [.int so, .int w10_3]) (rest := []) hM hW.1 hR hC myX7_apart (kAW (v_3_10 (List.mem_of_getElem? (i := 6) rfl)) rfl) (rfl : vwCl[7]? = some (RX7, TX7, 8)) rfl lb_18.1 (shO hW.2.1 lb_18) (a_X7_apart _ _ cA ad g0 18 so w10_3 hW.2.1 hG (Or.inl rfl : isPb 18)) ⟨by decide, by decide⟩ rfl rfl hl.1 (Nat.le_of_ble_eq_true rfl) dX11_fewestQuestions_48 (fun v g4519 H locs hp hW1 => ?_)
            obtain ⟨r4518, rfl, hr4518, rfl⟩ := hp
            have hW : WS ad cA (fun i k => False) g0 K g0 H locs := ⟨hW1, hW.2.1, hW.2.2⟩
            refine q_if_eq (tgt := 56) hM dX11_fewestQuestions_51 (by decide) (rfl : r4518.toInt = r4518.toInt) (fun h51 => ?_) (fun h51 => ?_)
            · refine q_iinc (lv9 := fun z4521 => [(3, .int z4521), (0, .ref (ad 0)), (1, .int so), (2, .int w10_2)]) hM dX11_fewestQuestions_56 hl (kq := 3) rfl (by decide) (fun _ => rfl) (fun z4521 ls hz4521 hl => ?_)
              first | have tz4521 := i_addT hz4521 (rfl : w10_3.toInt = w10_3.toInt) (kc_1 : (Int32.ofInt 1).toInt = 1) (by omega) (by omega) | skip
              refine q_goto (tgt := 10) hM dX11_fewestQuestions_59 (by decide) ?_
              exact ih10 w10_2 z4521 _ _ _ (by omega) (by omega) (by omega) (lv_sub hl [1, 2, 3, 0] rfl) hW
            · refine q_iload_n hM dX11_fewestQuestions_54 (lv_at hl 3 rfl) ?_
              refine q_istore_n (lv9 := [(2, .int w10_3), (0, .ref (ad 0)), (1, .int so), (3, .int w10_3)]) hM dX11_fewestQuestions_55 hl (by decide) rfl (fun ls hl => ?_)
              refine q_iinc (lv9 := fun z4523 => [(3, .int z4523), (2, .int w10_3), (0, .ref (ad 0)), (1, .int so)]) hM dX11_fewestQuestions_56 hl (kq := 3) rfl (by decide) (fun _ => rfl) (fun z4523 ls hz4523 hl => ?_)
              first | have tz4523 := i_addT hz4523 (rfl : w10_3.toInt = w10_3.toInt) (kc_1 : (Int32.ofInt 1).toInt = 1) (by omega) (by omega) | skip
              refine q_goto (tgt := 10) hM dX11_fewestQuestions_59 (by decide) ?_
              exact ih10 w10_3 z4523 _ _ _ (by omega) (by omega) (by omega) (lv_sub hl [2, 3, 1, 0] rfl) hW
  have := kc_0
  exact L10 _ x4502 (0 : Int32) _ _ _ (Nat.lt_succ_self _) (by omega) (by omega) (lv_sub hl [2, 3, 1, 0] rfl) hW

theorem dX11_canBeTried_0 : decode cX11_canBeTried 0 = .ok (.iload_n 1, 1) := by decide +kernel
theorem dX11_canBeTried_1 : decode cX11_canBeTried 1 = .ok (.iconst 1, 1) := by decide +kernel
theorem dX11_canBeTried_2 : decode cX11_canBeTried 2 = .ok (.bipush 60, 2) := by decide +kernel
theorem dX11_canBeTried_4 : decode cX11_canBeTried 4 = .ok (.invokestatic 112, 3) := by decide +kernel
theorem dX11_canBeTried_7 : decode cX11_canBeTried 7 = .ok (.ifCond .eq 67, 3) := by decide +kernel
theorem dX11_canBeTried_10 : decode cX11_canBeTried 10 = .ok (.iload_n 2, 1) := by decide +kernel
theorem dX11_canBeTried_11 : decode cX11_canBeTried 11 = .ok (.iconst 0, 1) := by decide +kernel
theorem dX11_canBeTried_12 : decode cX11_canBeTried 12 = .ok (.iconst 3, 1) := by decide +kernel
theorem dX11_canBeTried_13 : decode cX11_canBeTried 13 = .ok (.invokestatic 112, 3) := by decide +kernel
theorem dX11_canBeTried_16 : decode cX11_canBeTried 16 = .ok (.ifCond .ne 54, 3) := by decide +kernel
theorem dX11_canBeTried_19 : decode cX11_canBeTried 19 = .ok (.aload_n 0, 1) := by decide +kernel
theorem dX11_canBeTried_20 : decode cX11_canBeTried 20 = .ok (.getfield 26, 3) := by decide +kernel
theorem dX11_canBeTried_23 : decode cX11_canBeTried 23 = .ok (.getfield 135, 3) := by decide +kernel
theorem dX11_canBeTried_26 : decode cX11_canBeTried 26 = .ok (.iload_n 2, 1) := by decide +kernel
theorem dX11_canBeTried_27 : decode cX11_canBeTried 27 = .ok (.bipush 10, 2) := by decide +kernel
theorem dX11_canBeTried_29 : decode cX11_canBeTried 29 = .ok (.isub, 1) := by decide +kernel
theorem dX11_canBeTried_30 : decode cX11_canBeTried 30 = .ok (.invokestatic 123, 3) := by decide +kernel
theorem dX11_canBeTried_33 : decode cX11_canBeTried 33 = .ok (.ifCond .ne 37, 3) := by decide +kernel
theorem dX11_canBeTried_36 : decode cX11_canBeTried 36 = .ok (.aload_n 0, 1) := by decide +kernel
theorem dX11_canBeTried_37 : decode cX11_canBeTried 37 = .ok (.getfield 26, 3) := by decide +kernel
theorem dX11_canBeTried_40 : decode cX11_canBeTried 40 = .ok (.getfield 135, 3) := by decide +kernel
theorem dX11_canBeTried_43 : decode cX11_canBeTried 43 = .ok (.iload_n 2, 1) := by decide +kernel
theorem dX11_canBeTried_44 : decode cX11_canBeTried 44 = .ok (.bipush 20, 2) := by decide +kernel
theorem dX11_canBeTried_46 : decode cX11_canBeTried 46 = .ok (.isub, 1) := by decide +kernel
theorem dX11_canBeTried_47 : decode cX11_canBeTried 47 = .ok (.invokestatic 123, 3) := by decide +kernel
theorem dX11_canBeTried_50 : decode cX11_canBeTried 50 = .ok (.ifCond .ne 20, 3) := by decide +kernel
theorem dX11_canBeTried_53 : decode cX11_canBeTried 53 = .ok (.aload_n 0, 1) := by decide +kernel
theorem dX11_canBeTried_54 : decode cX11_canBeTried 54 = .ok (.getfield 19, 3) := by decide +kernel
theorem dX11_canBeTried_57 : decode cX11_canBeTried 57 = .ok (.getfield 116, 3) := by decide +kernel
theorem dX11_canBeTried_60 : decode cX11_canBeTried 60 = .ok (.iload_n 2, 1) := by decide +kernel
theorem dX11_canBeTried_61 : decode cX11_canBeTried 61 = .ok (.bipush 30, 2) := by decide +kernel
theorem dX11_canBeTried_63 : decode cX11_canBeTried 63 = .ok (.isub, 1) := by decide +kernel
theorem dX11_canBeTried_64 : decode cX11_canBeTried 64 = .ok (.invokestatic 123, 3) := by decide +kernel
theorem dX11_canBeTried_67 : decode cX11_canBeTried 67 = .ok (.ifCond .eq 7, 3) := by decide +kernel
theorem dX11_canBeTried_70 : decode cX11_canBeTried 70 = .ok (.iconst 1, 1) := by decide +kernel
theorem dX11_canBeTried_71 : decode cX11_canBeTried 71 = .ok (.goto 4, 3) := by decide +kernel
theorem dX11_canBeTried_74 : decode cX11_canBeTried 74 = .ok (.iconst 0, 1) := by decide +kernel
theorem dX11_canBeTried_75 : decode cX11_canBeTried 75 = .ok (.ireturn, 1) := by decide +kernel
set_option maxRecDepth 100000 in
set_option maxHeartbeats 4000000 in
theorem a_X11_canBeTried (l : Launch) (D : va_G) (cA : Nat → ClassId) (ad : Nat → Nat) (g0 : Nat → va_E) (n : Int32) (wh : Int32) (hSh : Shp ad cA g0) (hG : Rng g0) : CT l NN ad cA D yX11_canBeTried cX11_canBeTried 3 (some FieldType.boolean) (1, 22) [.ref (ad 0), .int n, .int wh] g0 (PU g0 (fun r => r.toInt = 0 ∨ r.toInt = 1)) := by
  refine q_enterZ (by decide) (Nat.le_of_ble_eq_true rfl) (fun K H locs ls _ _ hM hW0 hR hC hE hl => ?_)
  have hl : lv_has ls 3 [(0, .ref (ad 0)), (1, .int n), (2, .int wh)] := hl
  have hW : WS ad cA (fun i k => False) g0 K g0 H locs := ⟨hW0, hSh, FR.rf⟩
  refine q_iload_n hM dX11_canBeTried_0 (lv_at hl 1 rfl) ?_
  refine q_iconst (v := (1 : Int32)) hM dX11_canBeTried_1 (by decide) ?_
  refine q_bipush (v := (60 : Int32)) hM dX11_canBeTried_2 (by decide) ?_
  refine q_callS (As := [.int n, .int (1 : Int32), .int (60 : Int32)]) (rest := []) hM hW.1 hR hC myX11_within (kAW (v_1_10 (List.mem_of_getElem? (i := 1) rfl)) rfl) (c_X11_within _ _ cA ad g0 n (1 : Int32) (60 : Int32) hW.2.1) ⟨by decide, by decide⟩ rfl rfl hl.1 (Nat.le_of_ble_eq_true rfl) dX11_canBeTried_4 (fun v g4525 H locs hp hW1 => ?_)
  obtain ⟨r4524, rfl, hr4524, rfl⟩ := hp
  have hW : WS ad cA (fun i k => False) g0 K g0 H locs := ⟨hW1, hW.2.1, hW.2.2⟩
  have := kc_1
  have := kc_60
  refine q_if_eq (tgt := 74) hM dX11_canBeTried_7 (by decide) (rfl : r4524.toInt = r4524.toInt) (fun h7 => ?_) (fun h7 => ?_)
  · refine q_iconst (v := (0 : Int32)) hM dX11_canBeTried_74 (by decide) ?_
    exact hE _ _ _ _ _ _ hW.1 nz_0 ⟨_, rfl, (by have := kc_0; omega), rfl⟩ dX11_canBeTried_75
  · refine q_iload_n hM dX11_canBeTried_10 (lv_at hl 2 rfl) ?_
    refine q_iconst (v := (0 : Int32)) hM dX11_canBeTried_11 (by decide) ?_
    refine q_iconst (v := (3 : Int32)) hM dX11_canBeTried_12 (by decide) ?_
    refine q_callS (As := [.int wh, .int (0 : Int32), .int (3 : Int32)]) (rest := []) hM hW.1 hR hC myX11_within (kAW (v_1_10 (List.mem_of_getElem? (i := 1) rfl)) rfl) (c_X11_within _ _ cA ad g0 wh (0 : Int32) (3 : Int32) hW.2.1) ⟨by decide, by decide⟩ rfl rfl hl.1 (Nat.le_of_ble_eq_true rfl) dX11_canBeTried_13 (fun v g4529 H locs hp hW1 => ?_)
    obtain ⟨r4528, rfl, hr4528, rfl⟩ := hp
    have hW : WS ad cA (fun i k => False) g0 K g0 H locs := ⟨hW1, hW.2.1, hW.2.2⟩
    have := kc_0
    have := kc_3
    refine q_if_ne (tgt := 70) hM dX11_canBeTried_16 (by decide) (rfl : r4528.toInt = r4528.toInt) (fun h16 => ?_) (fun h16 => ?_)
    · refine q_iconst (v := (1 : Int32)) hM dX11_canBeTried_70 (by decide) ?_
      refine q_goto (tgt := 75) hM dX11_canBeTried_71 (by decide) ?_
      exact hE _ _ _ _ _ _ hW.1 nz_1 ⟨_, rfl, (by have := kc_1; omega), rfl⟩ dX11_canBeTried_75
    · refine q_aload_n hM dX11_canBeTried_19 (lv_at hl 0 rfl) ?_
      refine w_get (v := .ref (ad 18)) hM hW FG_X11_26 lb_0 (rf_0_10 hW.2.1) dX11_canBeTried_20 ?_
      refine w_getI hM hW FG_X11_135 lb_18 (by decide) (by decide) dX11_canBeTried_23 (fun x4532 fx4532 => ?_)
      have bx4532 := hG.f fx4532 rF_18_3 (by decide)
      refine q_iload_n hM dX11_canBeTried_26 (lv_at hl 2 rfl) ?_
      refine q_bipush (v := (10 : Int32)) hM dX11_canBeTried_27 (by decide) ?_
      refine q_isub hM dX11_canBeTried_29 (fun z4533 hz4533 => ?_)
      first | have tz4533 := i_subT hz4533 (rfl : wh.toInt = wh.toInt) (kc_10 : (10 : Int32).toInt = 10) (by omega) (by omega) | skip
      refine q_callS (As := [.int x4532, .int z4533]) (rest := []) hM hW.1 hR hC myX11_has (kAW (v_1_10 (List.mem_of_getElem? (i := 8) rfl)) rfl) (c_X11_has _ _ cA ad g0 x4532 z4533 hW.2.1) ⟨by decide, by decide⟩ rfl rfl hl.1 (Nat.le_of_ble_eq_true rfl) dX11_canBeTried_30 (fun v g4535 H locs hp hW1 => ?_)
      obtain ⟨r4534, rfl, hr4534, rfl⟩ := hp
      have hW : WS ad cA (fun i k => False) g0 K g0 H locs := ⟨hW1, hW.2.1, hW.2.2⟩
      first | have ltr4534 := has_lt 5 hr4534 (by omega) (by omega) | have ltr4534 := has_lt 6 hr4534 (by omega) (by omega) | have ltr4534 := has_lt 8 hr4534 (by omega) (by omega) | have ltr4534 := has_lt 12 hr4534 (by omega) (by omega) | skip
      refine q_if_ne (tgt := 70) hM dX11_canBeTried_33 (by decide) (rfl : r4534.toInt = r4534.toInt) (fun h33 => ?_) (fun h33 => ?_)
      · refine q_iconst (v := (1 : Int32)) hM dX11_canBeTried_70 (by decide) ?_
        refine q_goto (tgt := 75) hM dX11_canBeTried_71 (by decide) ?_
        exact hE _ _ _ _ _ _ hW.1 nz_1 ⟨_, rfl, (by have := kc_1; omega), rfl⟩ dX11_canBeTried_75
      · refine q_aload_n hM dX11_canBeTried_36 (lv_at hl 0 rfl) ?_
        refine w_get (v := .ref (ad 18)) hM hW FG_X11_26 lb_0 (rf_0_10 hW.2.1) dX11_canBeTried_37 ?_
        refine w_get (v := .int x4532) hM hW FG_X11_135 lb_18 fx4532 dX11_canBeTried_40 ?_
        have bx4532 := hG.f fx4532 rF_18_3 (by decide)
        refine q_iload_n hM dX11_canBeTried_43 (lv_at hl 2 rfl) ?_
        refine q_bipush (v := (20 : Int32)) hM dX11_canBeTried_44 (by decide) ?_
        refine q_isub hM dX11_canBeTried_46 (fun z4538 hz4538 => ?_)
        first | have tz4538 := i_subT hz4538 (rfl : wh.toInt = wh.toInt) (kc_20 : (20 : Int32).toInt = 20) (by omega) (by omega) | skip
        refine q_callS (As := [.int x4532, .int z4538]) (rest := []) hM hW.1 hR hC myX11_has (kAW (v_1_10 (List.mem_of_getElem? (i := 8) rfl)) rfl) (c_X11_has _ _ cA ad g0 x4532 z4538 hW.2.1) ⟨by decide, by decide⟩ rfl rfl hl.1 (Nat.le_of_ble_eq_true rfl) dX11_canBeTried_47 (fun v g4540 H locs hp hW1 => ?_)
        obtain ⟨r4539, rfl, hr4539, rfl⟩ := hp
        have hW : WS ad cA (fun i k => False) g0 K g0 H locs := ⟨hW1, hW.2.1, hW.2.2⟩
        first | have ltr4539 := has_lt 5 hr4539 (by omega) (by omega) | have ltr4539 := has_lt 6 hr4539 (by omega) (by omega) | have ltr4539 := has_lt 8 hr4539 (by omega) (by omega) | have ltr4539 := has_lt 12 hr4539 (by omega) (by omega) | skip
        refine q_if_ne (tgt := 70) hM dX11_canBeTried_50 (by decide) (rfl : r4539.toInt = r4539.toInt) (fun h50 => ?_) (fun h50 => ?_)
        · refine q_iconst (v := (1 : Int32)) hM dX11_canBeTried_70 (by decide) ?_
          refine q_goto (tgt := 75) hM dX11_canBeTried_71 (by decide) ?_
          exact hE _ _ _ _ _ _ hW.1 nz_1 ⟨_, rfl, (by have := kc_1; omega), rfl⟩ dX11_canBeTried_75
        · refine q_aload_n hM dX11_canBeTried_53 (lv_at hl 0 rfl) ?_
          refine w_get (v := .ref (ad 3)) hM hW FG_X11_19 lb_0 (rf_0_1 hW.2.1) dX11_canBeTried_54 ?_
          refine w_getI hM hW FG_X11_116 lb_3 (by decide) (by decide) dX11_canBeTried_57 (fun x4543 fx4543 => ?_)
          have bx4543 := hG.f fx4543 rF_3_2 (by decide)
          refine q_iload_n hM dX11_canBeTried_60 (lv_at hl 2 rfl) ?_
          refine q_bipush (v := (30 : Int32)) hM dX11_canBeTried_61 (by decide) ?_
          refine q_isub hM dX11_canBeTried_63 (fun z4544 hz4544 => ?_)
          first | have tz4544 := i_subT hz4544 (rfl : wh.toInt = wh.toInt) (kc_30 : (30 : Int32).toInt = 30) (by omega) (by omega) | skip
          refine q_callS (As := [.int x4543, .int z4544]) (rest := []) hM hW.1 hR hC myX11_has (kAW (v_1_10 (List.mem_of_getElem? (i := 8) rfl)) rfl) (c_X11_has _ _ cA ad g0 x4543 z4544 hW.2.1) ⟨by decide, by decide⟩ rfl rfl hl.1 (Nat.le_of_ble_eq_true rfl) dX11_canBeTried_64 (fun v g4546 H locs hp hW1 => ?_)
          obtain ⟨r4545, rfl, hr4545, rfl⟩ := hp
          have hW : WS ad cA (fun i k => False) g0 K g0 H locs := ⟨hW1, hW.2.1, hW.2.2⟩
          first | have ltr4545 := has_lt 5 hr4545 (by omega) (by omega) | have ltr4545 := has_lt 6 hr4545 (by omega) (by omega) | have ltr4545 := has_lt 8 hr4545 (by omega) (by omega) | have ltr4545 := has_lt 12 hr4545 (by omega) (by omega) | skip
          refine q_if_eq (tgt := 74) hM dX11_canBeTried_67 (by decide) (rfl : r4545.toInt = r4545.toInt) (fun h67 => ?_) (fun h67 => ?_)
          · refine q_iconst (v := (0 : Int32)) hM dX11_canBeTried_74 (by decide) ?_
            exact hE _ _ _ _ _ _ hW.1 nz_0 ⟨_, rfl, (by have := kc_0; omega), rfl⟩ dX11_canBeTried_75
          · refine q_iconst (v := (1 : Int32)) hM dX11_canBeTried_70 (by decide) ?_
            refine q_goto (tgt := 75) hM dX11_canBeTried_71 (by decide) ?_
            exact hE _ _ _ _ _ _ hW.1 nz_1 ⟨_, rfl, (by have := kc_1; omega), rfl⟩ dX11_canBeTried_75

theorem dX11_trialTells_0 : decode cX11_trialTells 0 = .ok (.iload_n 1, 1) := by decide +kernel
theorem dX11_trialTells_1 : decode cX11_trialTells 1 = .ok (.bipush 10, 2) := by decide +kernel
theorem dX11_trialTells_3 : decode cX11_trialTells 3 = .ok (.bipush 17, 2) := by decide +kernel
theorem dX11_trialTells_5 : decode cX11_trialTells 5 = .ok (.invokestatic 112, 3) := by decide +kernel
theorem dX11_trialTells_8 : decode cX11_trialTells 8 = .ok (.ifCond .eq 18, 3) := by decide +kernel
theorem dX11_trialTells_11 : decode cX11_trialTells 11 = .ok (.aload_n 0, 1) := by decide +kernel
theorem dX11_trialTells_12 : decode cX11_trialTells 12 = .ok (.getfield 33, 3) := by decide +kernel
theorem dX11_trialTells_15 : decode cX11_trialTells 15 = .ok (.iload_n 1, 1) := by decide +kernel
theorem dX11_trialTells_16 : decode cX11_trialTells 16 = .ok (.bipush 10, 2) := by decide +kernel
theorem dX11_trialTells_18 : decode cX11_trialTells 18 = .ok (.isub, 1) := by decide +kernel
theorem dX11_trialTells_19 : decode cX11_trialTells 19 = .ok (.invokevirtual 203, 3) := by decide +kernel
theorem dX11_trialTells_22 : decode cX11_trialTells 22 = .ok (.invokestatic 206, 3) := by decide +kernel
theorem dX11_trialTells_25 : decode cX11_trialTells 25 = .ok (.ireturn, 1) := by decide +kernel
theorem dX11_trialTells_26 : decode cX11_trialTells 26 = .ok (.iload_n 1, 1) := by decide +kernel
theorem dX11_trialTells_27 : decode cX11_trialTells 27 = .ok (.bipush 20, 2) := by decide +kernel
theorem dX11_trialTells_29 : decode cX11_trialTells 29 = .ok (.bipush 27, 2) := by decide +kernel
theorem dX11_trialTells_31 : decode cX11_trialTells 31 = .ok (.invokestatic 112, 3) := by decide +kernel
theorem dX11_trialTells_34 : decode cX11_trialTells 34 = .ok (.ifCond .eq 16, 3) := by decide +kernel
theorem dX11_trialTells_37 : decode cX11_trialTells 37 = .ok (.aload_n 0, 1) := by decide +kernel
theorem dX11_trialTells_38 : decode cX11_trialTells 38 = .ok (.getfield 33, 3) := by decide +kernel
theorem dX11_trialTells_41 : decode cX11_trialTells 41 = .ok (.getfield 211, 3) := by decide +kernel
theorem dX11_trialTells_44 : decode cX11_trialTells 44 = .ok (.iload_n 1, 1) := by decide +kernel
theorem dX11_trialTells_45 : decode cX11_trialTells 45 = .ok (.bipush 20, 2) := by decide +kernel
theorem dX11_trialTells_47 : decode cX11_trialTells 47 = .ok (.isub, 1) := by decide +kernel
theorem dX11_trialTells_48 : decode cX11_trialTells 48 = .ok (.iaload, 1) := by decide +kernel
theorem dX11_trialTells_49 : decode cX11_trialTells 49 = .ok (.ireturn, 1) := by decide +kernel
theorem dX11_trialTells_50 : decode cX11_trialTells 50 = .ok (.iload_n 1, 1) := by decide +kernel
theorem dX11_trialTells_51 : decode cX11_trialTells 51 = .ok (.bipush 30, 2) := by decide +kernel
theorem dX11_trialTells_53 : decode cX11_trialTells 53 = .ok (.bipush 41, 2) := by decide +kernel
theorem dX11_trialTells_55 : decode cX11_trialTells 55 = .ok (.invokestatic 112, 3) := by decide +kernel
theorem dX11_trialTells_58 : decode cX11_trialTells 58 = .ok (.ifCond .eq 15, 3) := by decide +kernel
theorem dX11_trialTells_61 : decode cX11_trialTells 61 = .ok (.aload_n 0, 1) := by decide +kernel
theorem dX11_trialTells_62 : decode cX11_trialTells 62 = .ok (.getfield 33, 3) := by decide +kernel
theorem dX11_trialTells_65 : decode cX11_trialTells 65 = .ok (.iload_n 1, 1) := by decide +kernel
theorem dX11_trialTells_66 : decode cX11_trialTells 66 = .ok (.bipush 30, 2) := by decide +kernel
theorem dX11_trialTells_68 : decode cX11_trialTells 68 = .ok (.isub, 1) := by decide +kernel
theorem dX11_trialTells_69 : decode cX11_trialTells 69 = .ok (.invokevirtual 331, 3) := by decide +kernel
theorem dX11_trialTells_72 : decode cX11_trialTells 72 = .ok (.ireturn, 1) := by decide +kernel
theorem dX11_trialTells_73 : decode cX11_trialTells 73 = .ok (.iload_n 1, 1) := by decide +kernel
theorem dX11_trialTells_74 : decode cX11_trialTells 74 = .ok (.tableswitch 66 0 2 #[26, 42, 50], 26) := by decide +kernel
theorem dX11_trialTells_100 : decode cX11_trialTells 100 = .ok (.aload_n 0, 1) := by decide +kernel
theorem dX11_trialTells_101 : decode cX11_trialTells 101 = .ok (.getfield 33, 3) := by decide +kernel
theorem dX11_trialTells_104 : decode cX11_trialTells 104 = .ok (.getfield 173, 3) := by decide +kernel
theorem dX11_trialTells_107 : decode cX11_trialTells 107 = .ok (.aload_n 0, 1) := by decide +kernel
theorem dX11_trialTells_108 : decode cX11_trialTells 108 = .ok (.getfield 26, 3) := by decide +kernel
theorem dX11_trialTells_111 : decode cX11_trialTells 111 = .ok (.getfield 173, 3) := by decide +kernel
theorem dX11_trialTells_114 : decode cX11_trialTells 114 = .ok (.isub, 1) := by decide +kernel
theorem dX11_trialTells_115 : decode cX11_trialTells 115 = .ok (.ireturn, 1) := by decide +kernel
theorem dX11_trialTells_116 : decode cX11_trialTells 116 = .ok (.aload_n 0, 1) := by decide +kernel
theorem dX11_trialTells_117 : decode cX11_trialTells 117 = .ok (.getfield 83, 3) := by decide +kernel
theorem dX11_trialTells_120 : decode cX11_trialTells 120 = .ok (.getfield 334, 3) := by decide +kernel
theorem dX11_trialTells_123 : decode cX11_trialTells 123 = .ok (.ireturn, 1) := by decide +kernel
theorem dX11_trialTells_124 : decode cX11_trialTells 124 = .ok (.aload_n 0, 1) := by decide +kernel
theorem dX11_trialTells_125 : decode cX11_trialTells 125 = .ok (.getfield 33, 3) := by decide +kernel
theorem dX11_trialTells_128 : decode cX11_trialTells 128 = .ok (.getfield 328, 3) := by decide +kernel
theorem dX11_trialTells_131 : decode cX11_trialTells 131 = .ok (.aload_n 0, 1) := by decide +kernel
theorem dX11_trialTells_132 : decode cX11_trialTells 132 = .ok (.getfield 26, 3) := by decide +kernel
theorem dX11_trialTells_135 : decode cX11_trialTells 135 = .ok (.getfield 328, 3) := by decide +kernel
theorem dX11_trialTells_138 : decode cX11_trialTells 138 = .ok (.isub, 1) := by decide +kernel
theorem dX11_trialTells_139 : decode cX11_trialTells 139 = .ok (.ireturn, 1) := by decide +kernel
theorem dX11_trialTells_140 : decode cX11_trialTells 140 = .ok (.aload_n 0, 1) := by decide +kernel
theorem dX11_trialTells_141 : decode cX11_trialTells 141 = .ok (.getfield 83, 3) := by decide +kernel
theorem dX11_trialTells_144 : decode cX11_trialTells 144 = .ok (.getfield 337, 3) := by decide +kernel
theorem dX11_trialTells_147 : decode cX11_trialTells 147 = .ok (.ireturn, 1) := by decide +kernel
theorem FG_X11_337 : FG RX11 337 2 11 8 := ⟨RX2, TX2, rfl, wX2, by decide, kAW (v_1_0 (List.mem_of_getElem? (i := 3) rfl)) rfl, rfl⟩
theorem FG_X11_173 : FG RX11 173 7 8 5 := ⟨RX7, TX7, rfl, wX7, by decide, kAW (v_0_5 (List.mem_of_getElem? (i := 13) rfl)) rfl, rfl⟩
theorem FG_X11_334 : FG RX11 334 2 11 7 := ⟨RX2, TX2, rfl, wX2, by decide, kAW (v_1_0 (List.mem_of_getElem? (i := 1) rfl)) rfl, rfl⟩
theorem FG_X11_328 : FG RX11 328 7 8 6 := ⟨RX7, TX7, rfl, wX7, by decide, kAW (v_0_6 (List.mem_of_getElem? (i := 0) rfl)) rfl, rfl⟩
theorem myX7_knowing : MI yX7_knowing cX7_knowing 4 (some FieldType.int) 1 := ⟨kAW (v_3_1 (List.mem_of_getElem? (i := 6) rfl)) rfl, kAW (v_0_0 (List.mem_of_getElem? (i := 4) rfl)) rfl, kAW (v_3_1 (List.mem_of_getElem? (i := 4) rfl)) rfl, kAW (v_3_1 (List.mem_of_getElem? (i := 5) rfl)) rfl, by decide, by decide, by decide +kernel⟩
theorem FG_X11_211 : FG RX11 211 7 8 0 := ⟨RX7, TX7, rfl, wX7, by decide, kAW (v_0_4 (List.mem_of_getElem? (i := 13) rfl)) rfl, rfl⟩
set_option maxRecDepth 100000 in
set_option maxHeartbeats 4000000 in
theorem a_X11_trialTells (l : Launch) (D : va_G) (cA : Nat → ClassId) (ad : Nat → Nat) (g0 : Nat → va_E) (wh : Int32)   (hSh : Shp ad cA g0) (hG : Rng g0) : CT l NN ad cA D yX11_trialTells cX11_trialTells 2 (some FieldType.int) (2, 44) [.ref (ad 0), .int wh] g0 (fun v g' => ∃ (r : Int32), v = some (.int r) ∧ Shp ad cA g' ∧ Rng g' ∧ FR (fun i k => False) g0 g') := by
  refine q_enterI (by decide) (Nat.le_of_ble_eq_true rfl) rfl (fun K H locs ls _ _ hM hW0 hR hC hE hl => ?_)
  have hl : lv_has ls 2 [(0, .ref (ad 0)), (1, .int wh)] := hl
  have hW : WS ad cA (fun i k => False) g0 K g0 H locs := ⟨hW0, hSh, FR.rf⟩
  refine q_iload_n hM dX11_trialTells_0 (lv_at hl 1 rfl) ?_
  refine q_bipush (v := (10 : Int32)) hM dX11_trialTells_1 (by decide) ?_
  refine q_bipush (v := (17 : Int32)) hM dX11_trialTells_3 (by decide) ?_
  refine q_callS (As := [.int wh, .int (10 : Int32), .int (17 : Int32)]) (rest := []) hM hW.1 hR hC myX11_within (kAW (v_1_10 (List.mem_of_getElem? (i := 1) rfl)) rfl) (c_X11_within _ _ cA ad g0 wh (10 : Int32) (17 : Int32) hW.2.1) ⟨by decide, by decide⟩ rfl rfl hl.1 (Nat.le_of_ble_eq_true rfl) dX11_trialTells_5 (fun v g4550 H locs hp hW1 => ?_)
  obtain ⟨r4549, rfl, hr4549, rfl⟩ := hp
  have hW : WS ad cA (fun i k => False) g0 K g0 H locs := ⟨hW1, hW.2.1, hW.2.2⟩
  have := kc_10
  have := kc_17
  refine q_if_eq (tgt := 26) hM dX11_trialTells_8 (by decide) (rfl : r4549.toInt = r4549.toInt) (fun h8 => ?_) (fun h8 => ?_)
  · refine q_iload_n hM dX11_trialTells_26 (lv_at hl 1 rfl) ?_
    refine q_bipush (v := (20 : Int32)) hM dX11_trialTells_27 (by decide) ?_
    refine q_bipush (v := (27 : Int32)) hM dX11_trialTells_29 (by decide) ?_
    refine q_callS (As := [.int wh, .int (20 : Int32), .int (27 : Int32)]) (rest := []) hM hW.1 hR hC myX11_within (kAW (v_1_10 (List.mem_of_getElem? (i := 1) rfl)) rfl) (c_X11_within _ _ cA ad g0 wh (20 : Int32) (27 : Int32) hW.2.1) ⟨by decide, by decide⟩ rfl rfl hl.1 (Nat.le_of_ble_eq_true rfl) dX11_trialTells_31 (fun v g4553 H locs hp hW1 => ?_)
    obtain ⟨r4552, rfl, hr4552, rfl⟩ := hp
    have hW : WS ad cA (fun i k => False) g0 K g0 H locs := ⟨hW1, hW.2.1, hW.2.2⟩
    have := kc_20
    have := kc_27
    refine q_if_eq (tgt := 50) hM dX11_trialTells_34 (by decide) (rfl : r4552.toInt = r4552.toInt) (fun h34 => ?_) (fun h34 => ?_)
    · refine q_iload_n hM dX11_trialTells_50 (lv_at hl 1 rfl) ?_
      refine q_bipush (v := (30 : Int32)) hM dX11_trialTells_51 (by decide) ?_
      refine q_bipush (v := (41 : Int32)) hM dX11_trialTells_53 (by decide) ?_
      refine q_callS (As := [.int wh, .int (30 : Int32), .int (41 : Int32)]) (rest := []) hM hW.1 hR hC myX11_within (kAW (v_1_10 (List.mem_of_getElem? (i := 1) rfl)) rfl) (c_X11_within _ _ cA ad g0 wh (30 : Int32) (41 : Int32) hW.2.1) ⟨by decide, by decide⟩ rfl rfl hl.1 (Nat.le_of_ble_eq_true rfl) dX11_trialTells_55 (fun v g4556 H locs hp hW1 => ?_)
      obtain ⟨r4555, rfl, hr4555, rfl⟩ := hp
      have hW : WS ad cA (fun i k => False) g0 K g0 H locs := ⟨hW1, hW.2.1, hW.2.2⟩
      have := kc_30
      have := kc_41
      refine q_if_eq (tgt := 73) hM dX11_trialTells_58 (by decide) (rfl : r4555.toInt = r4555.toInt) (fun h58 => ?_) (fun h58 => ?_)
      · refine q_iload_n hM dX11_trialTells_73 (lv_at hl 1 rfl) ?_
        rcases (show wh.toInt < 0 ∨ 2 < wh.toInt ∨ wh.toInt = 0 ∨ wh.toInt = 1 ∨ wh.toInt = 2 from by omega) with h74 | h74 | h74 | h74 | h74
        · refine q_tableOut (tgt := 140) hM dX11_trialTells_74 rfl (by omega) (by decide) ?_
          refine q_aload_n hM dX11_trialTells_140 (lv_at hl 0 rfl) ?_
          refine w_get (v := .ref (ad 80)) hM hW FG_X11_83 lb_0 (rf_0_2 hW.2.1) dX11_trialTells_141 ?_
          refine w_getI hM hW FG_X11_337 lb_80 (by decide) (by decide) dX11_trialTells_144 (fun x4559 fx4559 => ?_)
          exact hE _ _ _ _ _ _ hW.1 ⟨_, rfl, hW.2.1, hG, hW.2.2⟩ dX11_trialTells_147
        · refine q_tableOut (tgt := 140) hM dX11_trialTells_74 rfl (by omega) (by decide) ?_
          refine q_aload_n hM dX11_trialTells_140 (lv_at hl 0 rfl) ?_
          refine w_get (v := .ref (ad 80)) hM hW FG_X11_83 lb_0 (rf_0_2 hW.2.1) dX11_trialTells_141 ?_
          refine w_getI hM hW FG_X11_337 lb_80 (by decide) (by decide) dX11_trialTells_144 (fun x4561 fx4561 => ?_)
          exact hE _ _ _ _ _ _ hW.1 ⟨_, rfl, hW.2.1, hG, hW.2.2⟩ dX11_trialTells_147
        · refine q_tableIn (tgt := 100) hM dX11_trialTells_74 ((rfl : wh.toInt = _).trans h74) (by decide) (by decide) rfl (by decide) ?_
          refine q_aload_n hM dX11_trialTells_100 (lv_at hl 0 rfl) ?_
          refine w_get (v := .ref (ad 42)) hM hW FG_X11_33 lb_0 (rf_0_12 hW.2.1) dX11_trialTells_101 ?_
          refine w_getI hM hW FG_X11_173 lb_42 (by decide) (by decide) dX11_trialTells_104 (fun x4563 fx4563 => ?_)
          refine q_aload_n hM dX11_trialTells_107 (lv_at hl 0 rfl) ?_
          refine w_get (v := .ref (ad 18)) hM hW FG_X11_26 lb_0 (rf_0_10 hW.2.1) dX11_trialTells_108 ?_
          refine w_getI hM hW FG_X11_173 lb_18 (by decide) (by decide) dX11_trialTells_111 (fun x4564 fx4564 => ?_)
          refine q_isub hM dX11_trialTells_114 (fun z4565 hz4565 => ?_)
          first | have tz4565 := i_subT hz4565 (rfl : x4563.toInt = x4563.toInt) (rfl : x4564.toInt = x4564.toInt) (by omega) (by omega) | skip
          exact hE _ _ _ _ _ _ hW.1 ⟨_, rfl, hW.2.1, hG, hW.2.2⟩ dX11_trialTells_115
        · refine q_tableIn (tgt := 116) hM dX11_trialTells_74 ((rfl : wh.toInt = _).trans h74) (by decide) (by decide) rfl (by decide) ?_
          refine q_aload_n hM dX11_trialTells_116 (lv_at hl 0 rfl) ?_
          refine w_get (v := .ref (ad 80)) hM hW FG_X11_83 lb_0 (rf_0_2 hW.2.1) dX11_trialTells_117 ?_
          refine w_getI hM hW FG_X11_334 lb_80 (by decide) (by decide) dX11_trialTells_120 (fun x4567 fx4567 => ?_)
          exact hE _ _ _ _ _ _ hW.1 ⟨_, rfl, hW.2.1, hG, hW.2.2⟩ dX11_trialTells_123
        · refine q_tableIn (tgt := 124) hM dX11_trialTells_74 ((rfl : wh.toInt = _).trans h74) (by decide) (by decide) rfl (by decide) ?_
          refine q_aload_n hM dX11_trialTells_124 (lv_at hl 0 rfl) ?_
          refine w_get (v := .ref (ad 42)) hM hW FG_X11_33 lb_0 (rf_0_12 hW.2.1) dX11_trialTells_125 ?_
          refine w_getI hM hW FG_X11_328 lb_42 (by decide) (by decide) dX11_trialTells_128 (fun x4569 fx4569 => ?_)
          refine q_aload_n hM dX11_trialTells_131 (lv_at hl 0 rfl) ?_
          refine w_get (v := .ref (ad 18)) hM hW FG_X11_26 lb_0 (rf_0_10 hW.2.1) dX11_trialTells_132 ?_
          refine w_getI hM hW FG_X11_328 lb_18 (by decide) (by decide) dX11_trialTells_135 (fun x4570 fx4570 => ?_)
          refine q_isub hM dX11_trialTells_138 (fun z4571 hz4571 => ?_)
          first | have tz4571 := i_subT hz4571 (rfl : x4569.toInt = x4569.toInt) (rfl : x4570.toInt = x4570.toInt) (by omega) (by omega) | skip
          exact hE _ _ _ _ _ _ hW.1 ⟨_, rfl, hW.2.1, hG, hW.2.2⟩ dX11_trialTells_139
      · refine q_aload_n hM dX11_trialTells_61 (lv_at hl 0 rfl) ?_
        refine w_get (v := .ref (ad 42)) hM hW FG_X11_33 lb_0 (rf_0_12 hW.2.1) dX11_trialTells_62 ?_
        refine q_iload_n hM dX11_trialTells_65 (lv_at hl 1 rfl) ?_
        refine q_bipush (v := (30 : Int32)) hM dX11_trialTells_66 (by decide) ?_
        refine q_isub hM dX11_trialTells_68 (fun z4573 hz4573 => ?_)
        first | have tz4573 := i_subT hz4573 (rfl : wh.toInt = wh.toInt) (kc_30 : (30 : Int32).toInt = 30) (by omega) (by omega) | skip
        refine q_callV (As := [.int z4573]) (rest := []) hM hW.1 hR hC myX7_knowing (kAW (v_3_1 (List.mem_of_getElem? (i := 3) rfl)) rfl) (rfl : vwCl[7]? = some (RX7, TX7, 8)) rfl lb_42.1 (shO hW.2.1 lb_42) (a_X7_knowing _ _ cA ad g0 42 z4573 hW.2.1 hG (Or.inr rfl : isPb 42) (by  omega) (by  omega)) ⟨by decide, by decide⟩ rfl rfl hl.1 (Nat.le_of_ble_eq_true rfl) dX11_trialTells_69 (fun v g4575 H locs hp hW1 => ?_)
        obtain ⟨r4574, rfl, hr4574, rfl⟩ := hp
        have hW : WS ad cA (fun i k => False) g0 K g0 H locs := ⟨hW1, hW.2.1, hW.2.2⟩
        exact hE _ _ _ _ _ _ hW.1 ⟨_, rfl, hW.2.1, hG, hW.2.2⟩ dX11_trialTells_72
    · refine q_aload_n hM dX11_trialTells_37 (lv_at hl 0 rfl) ?_
      refine w_get (v := .ref (ad 42)) hM hW FG_X11_33 lb_0 (rf_0_12 hW.2.1) dX11_trialTells_38 ?_
      refine w_get (v := .ref (ad 43)) hM hW FG_X11_211 lb_42 (rf_42_0 hW.2.1) dX11_trialTells_41 ?_
      refine q_iload_n hM dX11_trialTells_44 (lv_at hl 1 rfl) ?_
      refine q_bipush (v := (20 : Int32)) hM dX11_trialTells_45 (by decide) ?_
      refine q_isub hM dX11_trialTells_47 (fun z4577 hz4577 => ?_)
      first | have tz4577 := i_subT hz4577 (rfl : wh.toInt = wh.toInt) (kc_20 : (20 : Int32).toInt = 20) (by omega) (by omega) | skip
      refine w_iald hM hW lb_43 (i_in (by omega) (by omega)) dX11_trialTells_48 ?_
      refine q_top (fun y4578 hy4578 => ?_)
      have by4578 := hG.a hy4578 rA_43
      exact hE _ _ _ _ _ _ hW.1 ⟨_, rfl, hW.2.1, hG, hW.2.2⟩ dX11_trialTells_49
  · refine q_aload_n hM dX11_trialTells_11 (lv_at hl 0 rfl) ?_
    refine w_get (v := .ref (ad 42)) hM hW FG_X11_33 lb_0 (rf_0_12 hW.2.1) dX11_trialTells_12 ?_
    refine q_iload_n hM dX11_trialTells_15 (lv_at hl 1 rfl) ?_
    refine q_bipush (v := (10 : Int32)) hM dX11_trialTells_16 (by decide) ?_
    refine q_isub hM dX11_trialTells_18 (fun z4580 hz4580 => ?_)
    first | have tz4580 := i_subT hz4580 (rfl : wh.toInt = wh.toInt) (kc_10 : (10 : Int32).toInt = 10) (by omega) (by omega) | skip
    refine q_callV (As := [.int z4580]) (rest := []) hM hW.1 hR hC myX7_known (kAW (v_3_1 (List.mem_of_getElem? (i := 1) rfl)) rfl) (rfl : vwCl[7]? = some (RX7, TX7, 8)) rfl lb_42.1 (shO hW.2.1 lb_42) (a_X7_known _ _ cA ad g0 42 z4580 hW.2.1 hG (Or.inr rfl : isPb 42) (by  omega) (by  omega)) ⟨by decide, by decide⟩ rfl rfl hl.1 (Nat.le_of_ble_eq_true rfl) dX11_trialTells_19 (fun v g4582 H locs hp hW1 => ?_)
    obtain ⟨r4581, rfl, hr4581, rfl⟩ := hp
    have hW : WS ad cA (fun i k => False) g0 K g0 H locs := ⟨hW1, hW.2.1, hW.2.2⟩
    refine q_callS (As := [.int r4581]) (rest := []) hM hW.1 hR hC myJ6_bitCount_0f7a4 (kAW (v_3_1 (List.mem_of_getElem? (i := 2) rfl)) rfl) (c_J6_bitCount_0f7a4 _ _ cA ad g0 r4581 hW.2.1) ⟨by decide, by decide⟩ rfl rfl hl.1 (Nat.le_of_ble_eq_true rfl) dX11_trialTells_22 (fun v g4584 H locs hp hW1 => ?_)
    obtain ⟨r4583, rfl, hr4583, rfl⟩ := hp
    have hW : WS ad cA (fun i k => False) g0 K g0 H locs := ⟨hW1, hW.2.1, hW.2.2⟩
    exact hE _ _ _ _ _ _ hW.1 ⟨_, rfl, hW.2.1, hG, hW.2.2⟩ dX11_trialTells_25

theorem dX11_fact_0 : decode cX11_fact 0 = .ok (.iload_n 1, 1) := by decide +kernel
theorem dX11_fact_1 : decode cX11_fact 1 = .ok (.iconst 0, 1) := by decide +kernel
theorem dX11_fact_2 : decode cX11_fact 2 = .ok (.bipush 11, 2) := by decide +kernel
theorem dX11_fact_4 : decode cX11_fact 4 = .ok (.invokestatic 112, 3) := by decide +kernel
theorem dX11_fact_7 : decode cX11_fact 7 = .ok (.ifCond .eq 13, 3) := by decide +kernel
theorem dX11_fact_10 : decode cX11_fact 10 = .ok (.iload_n 2, 1) := by decide +kernel
theorem dX11_fact_11 : decode cX11_fact 11 = .ok (.iconst 0, 1) := by decide +kernel
theorem dX11_fact_12 : decode cX11_fact 12 = .ok (.bipush 8, 2) := by decide +kernel
theorem dX11_fact_14 : decode cX11_fact 14 = .ok (.invokestatic 112, 3) := by decide +kernel
theorem dX11_fact_17 : decode cX11_fact 17 = .ok (.ifCond .ne 5, 3) := by decide +kernel
theorem dX11_fact_20 : decode cX11_fact 20 = .ok (.iconst 0, 1) := by decide +kernel
theorem dX11_fact_21 : decode cX11_fact 21 = .ok (.ireturn, 1) := by decide +kernel
theorem dX11_fact_22 : decode cX11_fact 22 = .ok (.aload_n 0, 1) := by decide +kernel
theorem dX11_fact_23 : decode cX11_fact 23 = .ok (.getfield 19, 3) := by decide +kernel
theorem dX11_fact_26 : decode cX11_fact 26 = .ok (.dup, 1) := by decide +kernel
theorem dX11_fact_27 : decode cX11_fact 27 = .ok (.getfield 116, 3) := by decide +kernel
theorem dX11_fact_30 : decode cX11_fact 30 = .ok (.iconst 1, 1) := by decide +kernel
theorem dX11_fact_31 : decode cX11_fact 31 = .ok (.iload_n 1, 1) := by decide +kernel
theorem dX11_fact_32 : decode cX11_fact 32 = .ok (.ishl, 1) := by decide +kernel
theorem dX11_fact_33 : decode cX11_fact 33 = .ok (.ior, 1) := by decide +kernel
theorem dX11_fact_34 : decode cX11_fact 34 = .ok (.putfield 116, 3) := by decide +kernel
theorem dX11_fact_37 : decode cX11_fact 37 = .ok (.aload_n 0, 1) := by decide +kernel
theorem dX11_fact_38 : decode cX11_fact 38 = .ok (.getfield 19, 3) := by decide +kernel
theorem dX11_fact_41 : decode cX11_fact 41 = .ok (.getfield 120, 3) := by decide +kernel
theorem dX11_fact_44 : decode cX11_fact 44 = .ok (.iload_n 1, 1) := by decide +kernel
theorem dX11_fact_45 : decode cX11_fact 45 = .ok (.iload_n 2, 1) := by decide +kernel
theorem dX11_fact_46 : decode cX11_fact 46 = .ok (.iastore, 1) := by decide +kernel
theorem dX11_fact_47 : decode cX11_fact 47 = .ok (.iconst 1, 1) := by decide +kernel
theorem dX11_fact_48 : decode cX11_fact 48 = .ok (.ireturn, 1) := by decide +kernel
theorem FP_X11_116 : FPX RX11 116 5 3 2 .int := ⟨⟨RX5, TX5, tyX5, rfl, wX5, by decide, kAW (v_0_3 (List.mem_of_getElem? (i := 11) rfl)) rfl, rfl, tyX5_ok, nmX5, by decide +kernel, rfl⟩, by decide +kernel⟩
theorem FG_X11_120 : FG RX11 120 5 3 0 := ⟨RX5, TX5, rfl, wX5, by decide, kAW (v_0_3 (List.mem_of_getElem? (i := 6) rfl)) rfl, rfl⟩
set_option maxRecDepth 100000 in
set_option maxHeartbeats 4000000 in
theorem p_X11_fact (l : Launch) (D : va_G) (cA : Nat → ClassId) (ad : Nat → Nat) (g0 : Nat → va_E) (a : Int32) (b : Int32)   (hSh : Shp ad cA g0) (hG : Rng g0) : CT l NN ad cA D yX11_fact cX11_fact 3 (some FieldType.boolean) (1, 22) [.ref (ad 0), .int a, .int b] g0 (fun v g' => ∃ (r : Int32), v = some (.int r) ∧ Shp ad cA g' ∧ Rng g' ∧ FR (fun i k => (i = 3 ∧ (k = 2)) ∨ i = 4) g0 g' ∧ ((r.toInt = 1 ∧ 0 ≤ a.toInt ∧ a.toInt ≤ 11 ∧ 0 ≤ b.toInt ∧ b.toInt ≤ 8) ∨ (r.toInt = 0 ∧ ¬ (0 ≤ a.toInt ∧ a.toInt ≤ 11 ∧ 0 ≤ b.toInt ∧ b.toInt ≤ 8)))) := by
  refine q_enterZ (by decide) (Nat.le_of_ble_eq_true rfl) (fun K H locs ls _ _ hM hW0 hR hC hE hl => ?_)
  have hl : lv_has ls 3 [(0, .ref (ad 0)), (1, .int a), (2, .int b)] := hl
  have hW : WS ad cA (fun i k => (i = 3 ∧ (k = 2)) ∨ i = 4) g0 K g0 H locs := ⟨hW0, hSh, FR.rf⟩
  have := kc_0
  have := kc_1
  have := kc_m1
  have := kc_m2
  refine q_iload_n hM dX11_fact_0 (lv_at hl 1 rfl) ?_
  refine q_iconst (v := (0 : Int32)) hM dX11_fact_1 (by decide) ?_
  refine q_bipush (v := (11 : Int32)) hM dX11_fact_2 (by decide) ?_
  refine q_callS (As := [.int a, .int (0 : Int32), .int (11 : Int32)]) (rest := []) hM hW.1 hR hC myX11_within (kAW (v_1_10 (List.mem_of_getElem? (i := 1) rfl)) rfl) (c_X11_within _ _ cA ad g0 a (0 : Int32) (11 : Int32) hW.2.1) ⟨by decide, by decide⟩ rfl rfl hl.1 (Nat.le_of_ble_eq_true rfl) dX11_fact_4 (fun v g4586 H locs hp hW1 => ?_)
  obtain ⟨r4585, rfl, hr4585, rfl⟩ := hp
  have hW : WS ad cA (fun i k => (i = 3 ∧ (k = 2)) ∨ i = 4) g0 K g0 H locs := ⟨hW1, hW.2.1, hW.2.2⟩
  have := kc_0
  have := kc_11
  refine q_if_eq (tgt := 20) hM dX11_fact_7 (by decide) (rfl : r4585.toInt = r4585.toInt) (fun h7 => ?_) (fun h7 => ?_)
  · refine q_iconst (v := (0 : Int32)) hM dX11_fact_20 (by decide) ?_
    exact hE _ _ _ _ _ _ hW.1 nz_0 ⟨_, rfl, hW.2.1, hG, hW.2.2, (by have := kc_0; omega)⟩ dX11_fact_21
  · refine q_iload_n hM dX11_fact_10 (lv_at hl 2 rfl) ?_
    refine q_iconst (v := (0 : Int32)) hM dX11_fact_11 (by decide) ?_
    refine q_bipush (v := (8 : Int32)) hM dX11_fact_12 (by decide) ?_
    refine q_callS (As := [.int b, .int (0 : Int32), .int (8 : Int32)]) (rest := []) hM hW.1 hR hC myX11_within (kAW (v_1_10 (List.mem_of_getElem? (i := 1) rfl)) rfl) (c_X11_within _ _ cA ad g0 b (0 : Int32) (8 : Int32) hW.2.1) ⟨by decide, by decide⟩ rfl rfl hl.1 (Nat.le_of_ble_eq_true rfl) dX11_fact_14 (fun v g4590 H locs hp hW1 => ?_)
    obtain ⟨r4589, rfl, hr4589, rfl⟩ := hp
    have hW : WS ad cA (fun i k => (i = 3 ∧ (k = 2)) ∨ i = 4) g0 K g0 H locs := ⟨hW1, hW.2.1, hW.2.2⟩
    have := kc_0
    have := kc_8
    refine q_if_ne (tgt := 22) hM dX11_fact_17 (by decide) (rfl : r4589.toInt = r4589.toInt) (fun h17 => ?_) (fun h17 => ?_)
    · refine q_aload_n hM dX11_fact_22 (lv_at hl 0 rfl) ?_
      refine w_get (v := .ref (ad 3)) hM hW FG_X11_19 lb_0 (rf_0_1 hW.2.1) dX11_fact_23 ?_
      refine q_dup hM dX11_fact_26 rfl ?_
      refine w_getI hM hW FG_X11_116 lb_3 (by decide) (by decide) dX11_fact_27 (fun x4592 fx4592 => ?_)
      have bx4592 := hG.f fx4592 rF_3_2 (by decide)
      refine q_iconst (v := (1 : Int32)) hM dX11_fact_30 (by decide) ?_
      refine q_iload_n hM dX11_fact_31 (lv_at hl 1 rfl) ?_
      refine q_ishl hM dX11_fact_32 (fun z4593 hz4593 => ?_)
      have sz4593 := i_shl1 12 (by decide) hz4593 (by omega) (by omega)
      refine q_ior hM dX11_fact_33 (fun z4594 hz4594 => ?_)
      have oz4594 := i_ork 12 (by decide) hz4594 (by omega) (by omega) (by omega) (by omega)
      refine w_put hM hW FP_X11_116 lb_3 (by omega) (Or.inl ⟨_, rfl⟩) rfl rfl dX11_fact_34 (fun g4595 H locs hW e1 e2 => ?_)
      have f4596 : fld g4595 3 2 = .int z4594 := e1
      have hG := hG.put e1 e2 rF_3_2 (by decide) (by have := i_rng z4594; omega) (by have := i_rng z4594; omega)
      refine q_aload_n hM dX11_fact_37 (lv_at hl 0 rfl) ?_
      refine w_get (v := .ref (ad 3)) hM hW FG_X11_19 lb_0 (rf_0_1 hW.2.1) dX11_fact_38 ?_
      refine w_get (v := .ref (ad 4)) hM hW FG_X11_120 lb_3 (rf_3_0 hW.2.1) dX11_fact_41 ?_
      refine q_iload_n hM dX11_fact_44 (lv_at hl 1 rfl) ?_
      refine q_iload_n hM dX11_fact_45 (lv_at hl 2 rfl) ?_
      refine w_iast hM hW lb_4 (by omega) (i_in (by omega) (by omega)) dX11_fact_46 (fun g4597 H locs hW e1 e2 => ?_)
      have f4598 : fld g4597 3 2 = .int z4594 := (e2.1 3 2 (by unfold Only; omega)).trans f4596
      have hG := hG.st e1 e2 (rfl : rA 4 = (-2147483648, 2147483647)) (by have := i_rng b; omega) (by have := i_rng b; omega)
      refine q_iconst (v := (1 : Int32)) hM dX11_fact_47 (by decide) ?_
      exact hE _ _ _ _ _ _ hW.1 nz_1 ⟨_, rfl, hW.2.1, hG, hW.2.2, (by have := kc_1; omega)⟩ dX11_fact_48
    · refine q_iconst (v := (0 : Int32)) hM dX11_fact_20 (by decide) ?_
      exact hE _ _ _ _ _ _ hW.1 nz_0 ⟨_, rfl, hW.2.1, hG, hW.2.2, (by have := kc_0; omega)⟩ dX11_fact_21

theorem dX11_link_0 : decode cX11_link 0 = .ok (.aload_n 0, 1) := by decide +kernel
theorem dX11_link_1 : decode cX11_link 1 = .ok (.getfield 19, 3) := by decide +kernel
theorem dX11_link_4 : decode cX11_link 4 = .ok (.getfield 116, 3) := by decide +kernel
theorem dX11_link_7 : decode cX11_link 7 = .ok (.iload_n 1, 1) := by decide +kernel
theorem dX11_link_8 : decode cX11_link 8 = .ok (.invokestatic 123, 3) := by decide +kernel
theorem dX11_link_11 : decode cX11_link 11 = .ok (.ifCond .eq 32, 3) := by decide +kernel
theorem dX11_link_14 : decode cX11_link 14 = .ok (.aload_n 0, 1) := by decide +kernel
theorem dX11_link_15 : decode cX11_link 15 = .ok (.getfield 19, 3) := by decide +kernel
theorem dX11_link_18 : decode cX11_link 18 = .ok (.getfield 116, 3) := by decide +kernel
theorem dX11_link_21 : decode cX11_link 21 = .ok (.iload_n 2, 1) := by decide +kernel
theorem dX11_link_22 : decode cX11_link 22 = .ok (.invokestatic 123, 3) := by decide +kernel
theorem dX11_link_25 : decode cX11_link 25 = .ok (.ifCond .eq 18, 3) := by decide +kernel
theorem dX11_link_28 : decode cX11_link 28 = .ok (.iload_n 1, 1) := by decide +kernel
theorem dX11_link_29 : decode cX11_link 29 = .ok (.iload_n 2, 1) := by decide +kernel
theorem dX11_link_30 : decode cX11_link 30 = .ok (.if_icmp .eq 13, 3) := by decide +kernel
theorem dX11_link_33 : decode cX11_link 33 = .ok (.iload_n 3, 1) := by decide +kernel
theorem dX11_link_34 : decode cX11_link 34 = .ok (.iconst 0, 1) := by decide +kernel
theorem dX11_link_35 : decode cX11_link 35 = .ok (.bipush 9, 2) := by decide +kernel
theorem dX11_link_37 : decode cX11_link 37 = .ok (.invokestatic 112, 3) := by decide +kernel
theorem dX11_link_40 : decode cX11_link 40 = .ok (.ifCond .ne 5, 3) := by decide +kernel
theorem dX11_link_43 : decode cX11_link 43 = .ok (.iconst 0, 1) := by decide +kernel
theorem dX11_link_44 : decode cX11_link 44 = .ok (.ireturn, 1) := by decide +kernel
theorem dX11_link_45 : decode cX11_link 45 = .ok (.aload_n 0, 1) := by decide +kernel
theorem dX11_link_46 : decode cX11_link 46 = .ok (.getfield 19, 3) := by decide +kernel
theorem dX11_link_49 : decode cX11_link 49 = .ok (.getfield 127, 3) := by decide +kernel
theorem dX11_link_52 : decode cX11_link 52 = .ok (.iload_n 1, 1) := by decide +kernel
theorem dX11_link_53 : decode cX11_link 53 = .ok (.aaload, 1) := by decide +kernel
theorem dX11_link_54 : decode cX11_link 54 = .ok (.iload_n 2, 1) := by decide +kernel
theorem dX11_link_55 : decode cX11_link 55 = .ok (.iload_n 3, 1) := by decide +kernel
theorem dX11_link_56 : decode cX11_link 56 = .ok (.iastore, 1) := by decide +kernel
theorem dX11_link_57 : decode cX11_link 57 = .ok (.iconst 1, 1) := by decide +kernel
theorem dX11_link_58 : decode cX11_link 58 = .ok (.ireturn, 1) := by decide +kernel
theorem FG_X11_127 : FG RX11 127 5 3 1 := ⟨RX5, TX5, rfl, wX5, by decide, kAW (v_0_3 (List.mem_of_getElem? (i := 9) rfl)) rfl, rfl⟩
set_option maxRecDepth 100000 in
set_option maxHeartbeats 4000000 in
theorem p_X11_link (l : Launch) (D : va_G) (cA : Nat → ClassId) (ad : Nat → Nat) (g0 : Nat → va_E) (a : Int32) (b : Int32) (c : Int32)   (hSh : Shp ad cA g0) (hG : Rng g0) : CT l NN ad cA D yX11_link cX11_link 4 (some FieldType.boolean) (1, 22) [.ref (ad 0), .int a, .int b, .int c] g0 (fun v g' => ∃ (r : Int32), v = some (.int r) ∧ Shp ad cA g' ∧ Rng g' ∧ FR (fun i k => (6 ≤ i ∧ i < 18)) g0 g' ∧ (r.toInt = 0 ∨ r.toInt = 1)) := by
  refine q_enterZ (by decide) (Nat.le_of_ble_eq_true rfl) (fun K H locs ls _ _ hM hW0 hR hC hE hl => ?_)
  have hl : lv_has ls 4 [(0, .ref (ad 0)), (1, .int a), (2, .int b), (3, .int c)] := hl
  have hW : WS ad cA (fun i k => (6 ≤ i ∧ i < 18)) g0 K g0 H locs := ⟨hW0, hSh, FR.rf⟩
  have := kc_0
  have := kc_1
  have := kc_m1
  have := kc_m2
  refine q_aload_n hM dX11_link_0 (lv_at hl 0 rfl) ?_
  refine w_get (v := .ref (ad 3)) hM hW FG_X11_19 lb_0 (rf_0_1 hW.2.1) dX11_link_1 ?_
  refine w_getI hM hW FG_X11_116 lb_3 (by decide) (by decide) dX11_link_4 (fun x4600 fx4600 => ?_)
  have bx4600 := hG.f fx4600 rF_3_2 (by decide)
  refine q_iload_n hM dX11_link_7 (lv_at hl 1 rfl) ?_
  refine q_callS (As := [.int x4600, .int a]) (rest := []) hM hW.1 hR hC myX11_has (kAW (v_1_10 (List.mem_of_getElem? (i := 8) rfl)) rfl) (c_X11_has _ _ cA ad g0 x4600 a hW.2.1) ⟨by decide, by decide⟩ rfl rfl hl.1 (Nat.le_of_ble_eq_true rfl) dX11_link_8 (fun v g4602 H locs hp hW1 => ?_)
  obtain ⟨r4601, rfl, hr4601, rfl⟩ := hp
  have hW : WS ad cA (fun i k => (6 ≤ i ∧ i < 18)) g0 K g0 H locs := ⟨hW1, hW.2.1, hW.2.2⟩
  first | have ltr4601 := has_lt 5 hr4601 (by omega) (by omega) | have ltr4601 := has_lt 6 hr4601 (by omega) (by omega) | have ltr4601 := has_lt 8 hr4601 (by omega) (by omega) | have ltr4601 := has_lt 12 hr4601 (by omega) (by omega) | skip
  refine q_if_eq (tgt := 43) hM dX11_link_11 (by decide) (rfl : r4601.toInt = r4601.toInt) (fun h11 => ?_) (fun h11 => ?_)
  · refine q_iconst (v := (0 : Int32)) hM dX11_link_43 (by decide) ?_
    exact hE _ _ _ _ _ _ hW.1 nz_0 ⟨_, rfl, hW.2.1, hG, hW.2.2, (by have := kc_0; omega)⟩ dX11_link_44
  · refine q_aload_n hM dX11_link_14 (lv_at hl 0 rfl) ?_
    refine w_get (v := .ref (ad 3)) hM hW FG_X11_19 lb_0 (rf_0_1 hW.2.1) dX11_link_15 ?_
    refine w_get (v := .int x4600) hM hW FG_X11_116 lb_3 fx4600 dX11_link_18 ?_
    have bx4600 := hG.f fx4600 rF_3_2 (by decide)
    refine q_iload_n hM dX11_link_21 (lv_at hl 2 rfl) ?_
    refine q_callS (As := [.int x4600, .int b]) (rest := []) hM hW.1 hR hC myX11_has (kAW (v_1_10 (List.mem_of_getElem? (i := 8) rfl)) rfl) (c_X11_has _ _ cA ad g0 x4600 b hW.2.1) ⟨by decide, by decide⟩ rfl rfl hl.1 (Nat.le_of_ble_eq_true rfl) dX11_link_22 (fun v g4606 H locs hp hW1 => ?_)
    obtain ⟨r4605, rfl, hr4605, rfl⟩ := hp
    have hW : WS ad cA (fun i k => (6 ≤ i ∧ i < 18)) g0 K g0 H locs := ⟨hW1, hW.2.1, hW.2.2⟩
    first | have ltr4605 := has_lt 5 hr4605 (by omega) (by omega) | have ltr4605 := has_lt 6 hr4605 (by omega) (by omega) | have ltr4605 := has_lt 8 hr4605 (by omega) (by omega) | have ltr4605 := has_lt 12 hr4605 (by omega) (by omega) | skip
    refine q_if_eq (tgt := 43) hM dX11_link_25 (by decide) (rfl : r4605.toInt = r4605.toInt) (fun h25 => ?_) (fun h25 => ?_)
    · refine q_iconst (v := (0 : Int32)) hM dX11_link_43 (by decide) ?_
      exact hE _ _ _ _ _ _ hW.1 nz_0 ⟨_, rfl, hW.2.1, hG, hW.2.2, (by have := kc_0; omega)⟩ dX11_link_44
    · refine q_iload_n hM dX11_link_28 (lv_at hl 1 rfl) ?_
      refine q_iload_n hM dX11_link_29 (lv_at hl 2 rfl) ?_
      refine q_icmp_eq (tgt := 43) hM dX11_link_30 (by decide) (rfl : a.toInt = a.toInt) (rfl : b.toInt = b.toInt) (fun h30 => ?_) (fun h30 => ?_)
      · refine q_iconst (v := (0 : Int32)) hM dX11_link_43 (by decide) ?_
        exact hE _ _ _ _ _ _ hW.1 nz_0 ⟨_, rfl, hW.2.1, hG, hW.2.2, (by have := kc_0; omega)⟩ dX11_link_44
      · refine q_iload_n hM dX11_link_33 (lv_at hl 3 rfl) ?_
        refine q_iconst (v := (0 : Int32)) hM dX11_link_34 (by decide) ?_
        refine q_bipush (v := (9 : Int32)) hM dX11_link_35 (by decide) ?_
        refine q_callS (As := [.int c, .int (0 : Int32), .int (9 : Int32)]) (rest := []) hM hW.1 hR hC myX11_within (kAW (v_1_10 (List.mem_of_getElem? (i := 1) rfl)) rfl) (c_X11_within _ _ cA ad g0 c (0 : Int32) (9 : Int32) hW.2.1) ⟨by decide, by decide⟩ rfl rfl hl.1 (Nat.le_of_ble_eq_true rfl) dX11_link_37 (fun v g4612 H locs hp hW1 => ?_)
        obtain ⟨r4611, rfl, hr4611, rfl⟩ := hp
        have hW : WS ad cA (fun i k => (6 ≤ i ∧ i < 18)) g0 K g0 H locs := ⟨hW1, hW.2.1, hW.2.2⟩
        have := kc_0
        have := kc_9
        refine q_if_ne (tgt := 45) hM dX11_link_40 (by decide) (rfl : r4611.toInt = r4611.toInt) (fun h40 => ?_) (fun h40 => ?_)
        · refine q_aload_n hM dX11_link_45 (lv_at hl 0 rfl) ?_
          refine w_get (v := .ref (ad 3)) hM hW FG_X11_19 lb_0 (rf_0_1 hW.2.1) dX11_link_46 ?_
          refine w_get (v := .ref (ad 5)) hM hW FG_X11_127 lb_3 (rf_3_1 hW.2.1) dX11_link_49 ?_
          refine q_iload_n hM dX11_link_52 (lv_at hl 1 rfl) ?_
          refine w_aald hM hW lb_5 (Or.inl rfl) (i_in (by omega) (by omega)) (aq (aq_5 hW.2.1) (by omega) (by omega)) dX11_link_53 ?_
          refine q_iload_n hM dX11_link_54 (lv_at hl 2 rfl) ?_
          refine q_iload_n hM dX11_link_55 (lv_at hl 3 rfl) ?_
          refine w_iast hM hW (lr_6 (by omega)) (by omega) (i_in (by omega) (by omega)) dX11_link_56 (fun g4614 H locs hW e1 e2 => ?_)
          have f4615 : fld g4614 3 2 = .int x4600 := (e2.1 3 2 (by unfold Only; omega)).trans fx4600
          have hG := hG.st e1 e2 (rA_row_6 (by omega)) (by have := i_rng c; omega) (by have := i_rng c; omega)
          refine q_iconst (v := (1 : Int32)) hM dX11_link_57 (by decide) ?_
          exact hE _ _ _ _ _ _ hW.1 nz_1 ⟨_, rfl, hW.2.1, hG, hW.2.2, (by have := kc_1; omega)⟩ dX11_link_58
        · refine q_iconst (v := (0 : Int32)) hM dX11_link_43 (by decide) ?_
          exact hE _ _ _ _ _ _ hW.1 nz_0 ⟨_, rfl, hW.2.1, hG, hW.2.2, (by have := kc_0; omega)⟩ dX11_link_44

theorem dX11_pupil_0 : decode cX11_pupil 0 = .ok (.iload_n 1, 1) := by decide +kernel
theorem dX11_pupil_1 : decode cX11_pupil 1 = .ok (.iconst 0, 1) := by decide +kernel
theorem dX11_pupil_2 : decode cX11_pupil 2 = .ok (.bipush 7, 2) := by decide +kernel
theorem dX11_pupil_4 : decode cX11_pupil 4 = .ok (.invokestatic 112, 3) := by decide +kernel
theorem dX11_pupil_7 : decode cX11_pupil 7 = .ok (.ifCond .eq 23, 3) := by decide +kernel
theorem dX11_pupil_10 : decode cX11_pupil 10 = .ok (.iload_n 2, 1) := by decide +kernel
theorem dX11_pupil_11 : decode cX11_pupil 11 = .ok (.iconst 1, 1) := by decide +kernel
theorem dX11_pupil_12 : decode cX11_pupil 12 = .ok (.bipush 9, 2) := by decide +kernel
theorem dX11_pupil_14 : decode cX11_pupil 14 = .ok (.invokestatic 112, 3) := by decide +kernel
theorem dX11_pupil_17 : decode cX11_pupil 17 = .ok (.ifCond .eq 13, 3) := by decide +kernel
theorem dX11_pupil_20 : decode cX11_pupil 20 = .ok (.iload_n 3, 1) := by decide +kernel
theorem dX11_pupil_21 : decode cX11_pupil 21 = .ok (.iconst 0, 1) := by decide +kernel
theorem dX11_pupil_22 : decode cX11_pupil 22 = .ok (.bipush 99, 2) := by decide +kernel
theorem dX11_pupil_24 : decode cX11_pupil 24 = .ok (.invokestatic 112, 3) := by decide +kernel
theorem dX11_pupil_27 : decode cX11_pupil 27 = .ok (.ifCond .ne 5, 3) := by decide +kernel
theorem dX11_pupil_30 : decode cX11_pupil 30 = .ok (.iconst 0, 1) := by decide +kernel
theorem dX11_pupil_31 : decode cX11_pupil 31 = .ok (.ireturn, 1) := by decide +kernel
theorem dX11_pupil_32 : decode cX11_pupil 32 = .ok (.aload_n 0, 1) := by decide +kernel
theorem dX11_pupil_33 : decode cX11_pupil 33 = .ok (.getfield 26, 3) := by decide +kernel
theorem dX11_pupil_36 : decode cX11_pupil 36 = .ok (.iload_n 1, 1) := by decide +kernel
theorem dX11_pupil_37 : decode cX11_pupil 37 = .ok (.iload_n 2, 1) := by decide +kernel
theorem dX11_pupil_38 : decode cX11_pupil 38 = .ok (.iload_n 3, 1) := by decide +kernel
theorem dX11_pupil_39 : decode cX11_pupil 39 = .ok (.invokevirtual 131, 3) := by decide +kernel
theorem dX11_pupil_42 : decode cX11_pupil 42 = .ok (.iconst 1, 1) := by decide +kernel
theorem dX11_pupil_43 : decode cX11_pupil 43 = .ok (.ireturn, 1) := by decide +kernel
theorem myX7_tell : MI yX7_tell cX7_tell 5 none 3 := ⟨kAW (v_1_11 (List.mem_of_getElem? (i := 2) rfl)) rfl, kAW (v_0_0 (List.mem_of_getElem? (i := 4) rfl)) rfl, kAW (v_1_11 (List.mem_of_getElem? (i := 0) rfl)) rfl, kAW (v_1_11 (List.mem_of_getElem? (i := 1) rfl)) rfl, by decide, by decide, by decide +kernel⟩
set_option maxRecDepth 100000 in
set_option maxHeartbeats 4000000 in
theorem p_X11_pupil (l : Launch) (D : va_G) (cA : Nat → ClassId) (ad : Nat → Nat) (g0 : Nat → va_E) (a : Int32) (b : Int32) (c : Int32)   (hSh : Shp ad cA g0) (hG : Rng g0) : CT l NN ad cA D yX11_pupil cX11_pupil 4 (some FieldType.boolean) (1, 24) [.ref (ad 0), .int a, .int b, .int c] g0 (fun v g' => ∃ (r : Int32), v = some (.int r) ∧ Shp ad cA g' ∧ Rng g' ∧ FR (fun i k => (i = 18 ∧ (k = 3)) ∨ i = 19 ∨ i = 20 ∨ (22 ≤ i ∧ i < 30)) g0 g' ∧ ((r.toInt = 1 ∧ 0 ≤ a.toInt ∧ a.toInt ≤ 7 ∧ 1 ≤ b.toInt ∧ b.toInt ≤ 9 ∧ 0 ≤ c.toInt ∧ c.toInt ≤ 99) ∨ (r.toInt = 0 ∧ ¬ (0 ≤ a.toInt ∧ a.toInt ≤ 7 ∧ 1 ≤ b.toInt ∧ b.toInt ≤ 9 ∧ 0 ≤ c.toInt ∧ c.toInt ≤ 99)))) := by
  refine q_enterZ (by decide) (Nat.le_of_ble_eq_true rfl) (fun K H locs ls _ _ hM hW0 hR hC hE hl => ?_)
  have hl : lv_has ls 4 [(0, .ref (ad 0)), (1, .int a), (2, .int b), (3, .int c)] := hl
  have hW : WS ad cA (fun i k => (i = 18 ∧ (k = 3)) ∨ i = 19 ∨ i = 20 ∨ (22 ≤ i ∧ i < 30)) g0 K g0 H locs := ⟨hW0, hSh, FR.rf⟩
  have := kc_0
  have := kc_1
  have := kc_m1
  have := kc_m2
  refine q_iload_n hM dX11_pupil_0 (lv_at hl 1 rfl) ?_
  refine q_iconst (v := (0 : Int32)) hM dX11_pupil_1 (by decide) ?_
  refine q_bipush (v := (7 : Int32)) hM dX11_pupil_2 (by decide) ?_
  refine q_callS (As := [.int a, .int (0 : Int32), .int (7 : Int32)]) (rest := []) hM hW.1 hR hC myX11_within (kAW (v_1_10 (List.mem_of_getElem? (i := 1) rfl)) rfl) (c_X11_within _ _ cA ad g0 a (0 : Int32) (7 : Int32) hW.2.1) ⟨by decide, by decide⟩ rfl rfl hl.1 (Nat.le_of_ble_eq_true rfl) dX11_pupil_4 (fun v g4618 H locs hp hW1 => ?_)
  obtain ⟨r4617, rfl, hr4617, rfl⟩ := hp
  have hW : WS ad cA (fun i k => (i = 18 ∧ (k = 3)) ∨ i = 19 ∨ i = 20 ∨ (22 ≤ i ∧ i < 30)) g0 K g0 H locs := ⟨hW1, hW.2.1, hW.2.2⟩
  have := kc_0
  have := kc_7
  refine q_if_eq (tgt := 30) hM dX11_pupil_7 (by decide) (rfl : r4617.toInt = r4617.toInt) (fun h7 => ?_) (fun h7 => ?_)
  · refine q_iconst (v := (0 : Int32)) hM dX11_pupil_30 (by decide) ?_
    exact hE _ _ _ _ _ _ hW.1 nz_0 ⟨_, rfl, hW.2.1, hG, hW.2.2, (by have := kc_0; omega)⟩ dX11_pupil_31
  · refine q_iload_n hM dX11_pupil_10 (lv_at hl 2 rfl) ?_
    refine q_iconst (v := (1 : Int32)) hM dX11_pupil_11 (by decide) ?_
    refine q_bipush (v := (9 : Int32)) hM dX11_pupil_12 (by decide) ?_
    refine q_callS (As := [.int b, .int (1 : Int32), .int (9 : Int32)]) (rest := []) hM hW.1 hR hC myX11_within (kAW (v_1_10 (List.mem_of_getElem? (i := 1) rfl)) rfl) (c_X11_within _ _ cA ad g0 b (1 : Int32) (9 : Int32) hW.2.1) ⟨by decide, by decide⟩ rfl rfl hl.1 (Nat.le_of_ble_eq_true rfl) dX11_pupil_14 (fun v g4622 H locs hp hW1 => ?_)
    obtain ⟨r4621, rfl, hr4621, rfl⟩ := hp
    have hW : WS ad cA (fun i k => (i = 18 ∧ (k = 3)) ∨ i = 19 ∨ i = 20 ∨ (22 ≤ i ∧ i < 30)) g0 K g0 H locs := ⟨hW1, hW.2.1, hW.2.2⟩
    have := kc_1
    have := kc_9
    refine q_if_eq (tgt := 30) hM dX11_pupil_17 (by decide) (rfl : r4621.toInt = r4621.toInt) (fun h17 => ?_) (fun h17 => ?_)
    · refine q_iconst (v := (0 : Int32)) hM dX11_pupil_30 (by decide) ?_
      exact hE _ _ _ _ _ _ hW.1 nz_0 ⟨_, rfl, hW.2.1, hG, hW.2.2, (by have := kc_0; omega)⟩ dX11_pupil_31
    · refine q_iload_n hM dX11_pupil_20 (lv_at hl 3 rfl) ?_
      refine q_iconst (v := (0 : Int32)) hM dX11_pupil_21 (by decide) ?_
      refine q_bipush (v := (99 : Int32)) hM dX11_pupil_22 (by decide) ?_
      refine q_callS (As := [.int c, .int (0 : Int32), .int (99 : Int32)]) (rest := []) hM hW.1 hR hC myX11_within (kAW (v_1_10 (List.mem_of_getElem? (i := 1) rfl)) rfl) (c_X11_within _ _ cA ad g0 c (0 : Int32) (99 : Int32) hW.2.1) ⟨by decide, by decide⟩ rfl rfl hl.1 (Nat.le_of_ble_eq_true rfl) dX11_pupil_24 (fun v g4626 H locs hp hW1 => ?_)
      obtain ⟨r4625, rfl, hr4625, rfl⟩ := hp
      have hW : WS ad cA (fun i k => (i = 18 ∧ (k = 3)) ∨ i = 19 ∨ i = 20 ∨ (22 ≤ i ∧ i < 30)) g0 K g0 H locs := ⟨hW1, hW.2.1, hW.2.2⟩
      have := kc_0
      have := kc_99
      refine q_if_ne (tgt := 32) hM dX11_pupil_27 (by decide) (rfl : r4625.toInt = r4625.toInt) (fun h27 => ?_) (fun h27 => ?_)
      · refine q_aload_n hM dX11_pupil_32 (lv_at hl 0 rfl) ?_
        refine w_get (v := .ref (ad 18)) hM hW FG_X11_26 lb_0 (rf_0_10 hW.2.1) dX11_pupil_33 ?_
        refine q_iload_n hM dX11_pupil_36 (lv_at hl 1 rfl) ?_
        refine q_iload_n hM dX11_pupil_37 (lv_at hl 2 rfl) ?_
        refine q_iload_n hM dX11_pupil_38 (lv_at hl 3 rfl) ?_
        refine q_callV (As := [.int a, .int b, .int c]) (rest := []) hM hW.1 hR hC myX7_tell (kAW (v_1_10 (List.mem_of_getElem? (i := 15) rfl)) rfl) (rfl : vwCl[7]? = some (RX7, TX7, 8)) rfl lb_18.1 (shO hW.2.1 lb_18) (a_X7_tell_18 _ _ cA ad g0 a b c hW.2.1 hG (by  omega) (by  omega) (by  omega)) ⟨by decide, by decide⟩ rfl rfl hl.1 (Nat.le_of_ble_eq_true rfl) dX11_pupil_39 (fun v g4628 H locs hp hW1 => ?_)
        obtain ⟨rfl, hs1, hG, hf1⟩ := hp
        have hW : WS ad cA (fun i k => (i = 18 ∧ (k = 3)) ∨ i = 19 ∨ i = 20 ∨ (22 ≤ i ∧ i < 30)) g0 K g4628 H locs := ⟨hW1, hs1, hW.2.2.tr hf1 (fun i k h => h.elim (fun h => (Or.inl h)) (fun h => h.elim (fun h => (Or.inr (Or.inl h))) (fun h => h.elim (fun h => (Or.inr (Or.inr (Or.inl h)))) (fun h => (Or.inr (Or.inr (Or.inr h)))))))⟩
        refine q_iconst (v := (1 : Int32)) hM dX11_pupil_42 (by decide) ?_
        exact hE _ _ _ _ _ _ hW.1 nz_1 ⟨_, rfl, hW.2.1, hG, hW.2.2, (by have := kc_1; omega)⟩ dX11_pupil_43
      · refine q_iconst (v := (0 : Int32)) hM dX11_pupil_30 (by decide) ?_
        exact hE _ _ _ _ _ _ hW.1 nz_0 ⟨_, rfl, hW.2.1, hG, hW.2.2, (by have := kc_0; omega)⟩ dX11_pupil_31

theorem dX11_knows_0 : decode cX11_knows 0 = .ok (.aload_n 0, 1) := by decide +kernel
theorem dX11_knows_1 : decode cX11_knows 1 = .ok (.getfield 26, 3) := by decide +kernel
theorem dX11_knows_4 : decode cX11_knows 4 = .ok (.getfield 135, 3) := by decide +kernel
theorem dX11_knows_7 : decode cX11_knows 7 = .ok (.iload_n 1, 1) := by decide +kernel
theorem dX11_knows_8 : decode cX11_knows 8 = .ok (.invokestatic 123, 3) := by decide +kernel
theorem dX11_knows_11 : decode cX11_knows 11 = .ok (.ifCond .eq 27, 3) := by decide +kernel
theorem dX11_knows_14 : decode cX11_knows 14 = .ok (.aload_n 0, 1) := by decide +kernel
theorem dX11_knows_15 : decode cX11_knows 15 = .ok (.getfield 19, 3) := by decide +kernel
theorem dX11_knows_18 : decode cX11_knows 18 = .ok (.getfield 116, 3) := by decide +kernel
theorem dX11_knows_21 : decode cX11_knows 21 = .ok (.iload_n 2, 1) := by decide +kernel
theorem dX11_knows_22 : decode cX11_knows 22 = .ok (.invokestatic 123, 3) := by decide +kernel
theorem dX11_knows_25 : decode cX11_knows 25 = .ok (.ifCond .eq 13, 3) := by decide +kernel
theorem dX11_knows_28 : decode cX11_knows 28 = .ok (.iload_n 3, 1) := by decide +kernel
theorem dX11_knows_29 : decode cX11_knows 29 = .ok (.iconst 0, 1) := by decide +kernel
theorem dX11_knows_30 : decode cX11_knows 30 = .ok (.bipush 99, 2) := by decide +kernel
theorem dX11_knows_32 : decode cX11_knows 32 = .ok (.invokestatic 112, 3) := by decide +kernel
theorem dX11_knows_35 : decode cX11_knows 35 = .ok (.ifCond .ne 5, 3) := by decide +kernel
theorem dX11_knows_38 : decode cX11_knows 38 = .ok (.iconst 0, 1) := by decide +kernel
theorem dX11_knows_39 : decode cX11_knows 39 = .ok (.ireturn, 1) := by decide +kernel
theorem dX11_knows_40 : decode cX11_knows 40 = .ok (.aload_n 0, 1) := by decide +kernel
theorem dX11_knows_41 : decode cX11_knows 41 = .ok (.getfield 26, 3) := by decide +kernel
theorem dX11_knows_44 : decode cX11_knows 44 = .ok (.getfield 136, 3) := by decide +kernel
theorem dX11_knows_47 : decode cX11_knows 47 = .ok (.iload_n 1, 1) := by decide +kernel
theorem dX11_knows_48 : decode cX11_knows 48 = .ok (.aaload, 1) := by decide +kernel
theorem dX11_knows_49 : decode cX11_knows 49 = .ok (.iload_n 2, 1) := by decide +kernel
theorem dX11_knows_50 : decode cX11_knows 50 = .ok (.iload_n 3, 1) := by decide +kernel
theorem dX11_knows_51 : decode cX11_knows 51 = .ok (.iastore, 1) := by decide +kernel
theorem dX11_knows_52 : decode cX11_knows 52 = .ok (.iconst 1, 1) := by decide +kernel
theorem dX11_knows_53 : decode cX11_knows 53 = .ok (.ireturn, 1) := by decide +kernel
theorem FG_X11_136 : FG RX11 136 7 8 2 := ⟨RX7, TX7, rfl, wX7, by decide, kAW (v_0_5 (List.mem_of_getElem? (i := 4) rfl)) rfl, rfl⟩
set_option maxRecDepth 100000 in
set_option maxHeartbeats 4000000 in
theorem p_X11_knows (l : Launch) (D : va_G) (cA : Nat → ClassId) (ad : Nat → Nat) (g0 : Nat → va_E) (a : Int32) (b : Int32) (c : Int32)   (hSh : Shp ad cA g0) (hG : Rng g0) : CT l NN ad cA D yX11_knows cX11_knows 4 (some FieldType.boolean) (1, 22) [.ref (ad 0), .int a, .int b, .int c] g0 (fun v g' => ∃ (r : Int32), v = some (.int r) ∧ Shp ad cA g' ∧ Rng g' ∧ FR (fun i k => (22 ≤ i ∧ i < 30)) g0 g' ∧ (r.toInt = 0 ∨ r.toInt = 1)) := by
  refine q_enterZ (by decide) (Nat.le_of_ble_eq_true rfl) (fun K H locs ls _ _ hM hW0 hR hC hE hl => ?_)
  have hl : lv_has ls 4 [(0, .ref (ad 0)), (1, .int a), (2, .int b), (3, .int c)] := hl
  have hW : WS ad cA (fun i k => (22 ≤ i ∧ i < 30)) g0 K g0 H locs := ⟨hW0, hSh, FR.rf⟩
  have := kc_0
  have := kc_1
  have := kc_m1
  have := kc_m2
  refine q_aload_n hM dX11_knows_0 (lv_at hl 0 rfl) ?_
  refine w_get (v := .ref (ad 18)) hM hW FG_X11_26 lb_0 (rf_0_10 hW.2.1) dX11_knows_1 ?_
  refine w_getI hM hW FG_X11_135 lb_18 (by decide) (by decide) dX11_knows_4 (fun x4630 fx4630 => ?_)
  have bx4630 := hG.f fx4630 rF_18_3 (by decide)
  refine q_iload_n hM dX11_knows_7 (lv_at hl 1 rfl) ?_
  refine q_callS (As := [.int x4630, .int a]) (rest := []) hM hW.1 hR hC myX11_has (kAW (v_1_10 (List.mem_of_getElem? (i := 8) rfl)) rfl) (c_X11_has _ _ cA ad g0 x4630 a hW.2.1) ⟨by decide, by decide⟩ rfl rfl hl.1 (Nat.le_of_ble_eq_true rfl) dX11_knows_8 (fun v g4632 H locs hp hW1 => ?_)
  obtain ⟨r4631, rfl, hr4631, rfl⟩ := hp
  have hW : WS ad cA (fun i k => (22 ≤ i ∧ i < 30)) g0 K g0 H locs := ⟨hW1, hW.2.1, hW.2.2⟩
  first | have ltr4631 := has_lt 5 hr4631 (by omega) (by omega) | have ltr4631 := has_lt 6 hr4631 (by omega) (by omega) | have ltr4631 := has_lt 8 hr4631 (by omega) (by omega) | have ltr4631 := has_lt 12 hr4631 (by omega) (by omega) | skip
  refine q_if_eq (tgt := 38) hM dX11_knows_11 (by decide) (rfl : r4631.toInt = r4631.toInt) (fun h11 => ?_) (fun h11 => ?_)
  · refine q_iconst (v := (0 : Int32)) hM dX11_knows_38 (by decide) ?_
    exact hE _ _ _ _ _ _ hW.1 nz_0 ⟨_, rfl, hW.2.1, hG, hW.2.2, (by have := kc_0; omega)⟩ dX11_knows_39
  · refine q_aload_n hM dX11_knows_14 (lv_at hl 0 rfl) ?_
    refine w_get (v := .ref (ad 3)) hM hW FG_X11_19 lb_0 (rf_0_1 hW.2.1) dX11_knows_15 ?_
    refine w_getI hM hW FG_X11_116 lb_3 (by decide) (by decide) dX11_knows_18 (fun x4635 fx4635 => ?_)
    have bx4635 := hG.f fx4635 rF_3_2 (by decide)
    refine q_iload_n hM dX11_knows_21 (lv_at hl 2 rfl) ?_
    refine q_callS (As := [.int x4635, .int b]) (rest := []) hM hW.1 hR hC myX11_has (kAW (v_1_10 (List.mem_of_getElem? (i := 8) rfl)) rfl) (c_X11_has _ _ cA ad g0 x4635 b hW.2.1) ⟨by decide, by decide⟩ rfl rfl hl.1 (Nat.le_of_ble_eq_true rfl) dX11_knows_22 (fun v g4637 H locs hp hW1 => ?_)
    obtain ⟨r4636, rfl, hr4636, rfl⟩ := hp
    have hW : WS ad cA (fun i k => (22 ≤ i ∧ i < 30)) g0 K g0 H locs := ⟨hW1, hW.2.1, hW.2.2⟩
    first | have ltr4636 := has_lt 5 hr4636 (by omega) (by omega) | have ltr4636 := has_lt 6 hr4636 (by omega) (by omega) | have ltr4636 := has_lt 8 hr4636 (by omega) (by omega) | have ltr4636 := has_lt 12 hr4636 (by omega) (by omega) | skip
    refine q_if_eq (tgt := 38) hM dX11_knows_25 (by decide) (rfl : r4636.toInt = r4636.toInt) (fun h25 => ?_) (fun h25 => ?_)
    · refine q_iconst (v := (0 : Int32)) hM dX11_knows_38 (by decide) ?_
      exact hE _ _ _ _ _ _ hW.1 nz_0 ⟨_, rfl, hW.2.1, hG, hW.2.2, (by have := kc_0; omega)⟩ dX11_knows_39
    · refine q_iload_n hM dX11_knows_28 (lv_at hl 3 rfl) ?_
      refine q_iconst (v := (0 : Int32)) hM dX11_knows_29 (by decide) ?_
      refine q_bipush (v := (99 : Int32)) hM dX11_knows_30 (by decide) ?_
      refine q_callS (As := [.int c, .int (0 : Int32), .int (99 : Int32)]) (rest := []) hM hW.1 hR hC myX11_within (kAW (v_1_10 (List.mem_of_getElem? (i := 1) rfl)) rfl) (c_X11_within _ _ cA ad g0 c (0 : Int32) (99 : Int32) hW.2.1) ⟨by decide, by decide⟩ rfl rfl hl.1 (Nat.le_of_ble_eq_true rfl) dX11_knows_32 (fun v g4641 H locs hp hW1 => ?_)
      obtain ⟨r4640, rfl, hr4640, rfl⟩ := hp
      have hW : WS ad cA (fun i k => (22 ≤ i ∧ i < 30)) g0 K g0 H locs := ⟨hW1, hW.2.1, hW.2.2⟩
      have := kc_0
      have := kc_99
      refine q_if_ne (tgt := 40) hM dX11_knows_35 (by decide) (rfl : r4640.toInt = r4640.toInt) (fun h35 => ?_) (fun h35 => ?_)
      · refine q_aload_n hM dX11_knows_40 (lv_at hl 0 rfl) ?_
        refine w_get (v := .ref (ad 18)) hM hW FG_X11_26 lb_0 (rf_0_10 hW.2.1) dX11_knows_41 ?_
        refine w_get (v := .ref (ad 21)) hM hW FG_X11_136 lb_18 (rf_18_2 hW.2.1) dX11_knows_44 ?_
        refine q_iload_n hM dX11_knows_47 (lv_at hl 1 rfl) ?_
        refine w_aald hM hW lb_21 (Or.inl rfl) (i_in (by omega) (by omega)) (aq (aq_21 hW.2.1) (by omega) (by omega)) dX11_knows_48 ?_
        refine q_iload_n hM dX11_knows_49 (lv_at hl 2 rfl) ?_
        refine q_iload_n hM dX11_knows_50 (lv_at hl 3 rfl) ?_
        refine w_iast hM hW (lr_22 (by omega)) (by omega) (i_in (by omega) (by omega)) dX11_knows_51 (fun g4643 H locs hW e1 e2 => ?_)
        have f4644 : fld g4643 18 3 = .int x4630 := (e2.1 18 3 (by unfold Only; omega)).trans fx4630
        have f4645 : fld g4643 3 2 = .int x4635 := (e2.1 3 2 (by unfold Only; omega)).trans fx4635
        have hG := hG.st e1 e2 (rA_row_22 (by omega)) (by have := i_rng c; omega) (by have := i_rng c; omega)
        refine q_iconst (v := (1 : Int32)) hM dX11_knows_52 (by decide) ?_
        exact hE _ _ _ _ _ _ hW.1 nz_1 ⟨_, rfl, hW.2.1, hG, hW.2.2, (by have := kc_1; omega)⟩ dX11_knows_53
      · refine q_iconst (v := (0 : Int32)) hM dX11_knows_38 (by decide) ?_
        exact hE _ _ _ _ _ _ hW.1 nz_0 ⟨_, rfl, hW.2.1, hG, hW.2.2, (by have := kc_0; omega)⟩ dX11_knows_39

theorem dX11_feed_0 : decode cX11_feed 0 = .ok (.aload_n 0, 1) := by decide +kernel
theorem dX11_feed_1 : decode cX11_feed 1 = .ok (.getfield 10, 3) := by decide +kernel
theorem dX11_feed_4 : decode cX11_feed 4 = .ok (.getfield 139, 3) := by decide +kernel
theorem dX11_feed_7 : decode cX11_feed 7 = .ok (.bipush 20, 2) := by decide +kernel
theorem dX11_feed_9 : decode cX11_feed 9 = .ok (.iadd, 1) := by decide +kernel
theorem dX11_feed_10 : decode cX11_feed 10 = .ok (.sipush 260, 3) := by decide +kernel
theorem dX11_feed_13 : decode cX11_feed 13 = .ok (.if_icmp .le 5, 3) := by decide +kernel
theorem dX11_feed_16 : decode cX11_feed 16 = .ok (.iconst (-1), 1) := by decide +kernel
theorem dX11_feed_17 : decode cX11_feed 17 = .ok (.ireturn, 1) := by decide +kernel
theorem dX11_feed_18 : decode cX11_feed 18 = .ok (.aload_n 0, 1) := by decide +kernel
theorem dX11_feed_19 : decode cX11_feed 19 = .ok (.getfield 10, 3) := by decide +kernel
theorem dX11_feed_22 : decode cX11_feed 22 = .ok (.iload_n 1, 1) := by decide +kernel
theorem dX11_feed_23 : decode cX11_feed 23 = .ok (.invokevirtual 142, 3) := by decide +kernel
theorem dX11_feed_26 : decode cX11_feed 26 = .ok (.aload_n 0, 1) := by decide +kernel
theorem dX11_feed_27 : decode cX11_feed 27 = .ok (.getfield 10, 3) := by decide +kernel
theorem dX11_feed_30 : decode cX11_feed 30 = .ok (.iload_n 2, 1) := by decide +kernel
theorem dX11_feed_31 : decode cX11_feed 31 = .ok (.invokevirtual 142, 3) := by decide +kernel
theorem dX11_feed_34 : decode cX11_feed 34 = .ok (.aload_n 0, 1) := by decide +kernel
theorem dX11_feed_35 : decode cX11_feed 35 = .ok (.getfield 10, 3) := by decide +kernel
theorem dX11_feed_38 : decode cX11_feed 38 = .ok (.iload_n 3, 1) := by decide +kernel
theorem dX11_feed_39 : decode cX11_feed 39 = .ok (.invokevirtual 142, 3) := by decide +kernel
theorem dX11_feed_42 : decode cX11_feed 42 = .ok (.aload_n 0, 1) := by decide +kernel
theorem dX11_feed_43 : decode cX11_feed 43 = .ok (.getfield 10, 3) := by decide +kernel
theorem dX11_feed_46 : decode cX11_feed 46 = .ok (.iload 4, 2) := by decide +kernel
theorem dX11_feed_48 : decode cX11_feed 48 = .ok (.invokevirtual 142, 3) := by decide +kernel
theorem dX11_feed_51 : decode cX11_feed 51 = .ok (.aload_n 0, 1) := by decide +kernel
theorem dX11_feed_52 : decode cX11_feed 52 = .ok (.getfield 10, 3) := by decide +kernel
theorem dX11_feed_55 : decode cX11_feed 55 = .ok (.iload 5, 2) := by decide +kernel
theorem dX11_feed_57 : decode cX11_feed 57 = .ok (.invokevirtual 142, 3) := by decide +kernel
theorem dX11_feed_60 : decode cX11_feed 60 = .ok (.aload_n 0, 1) := by decide +kernel
theorem dX11_feed_61 : decode cX11_feed 61 = .ok (.getfield 10, 3) := by decide +kernel
theorem dX11_feed_64 : decode cX11_feed 64 = .ok (.getfield 139, 3) := by decide +kernel
theorem dX11_feed_67 : decode cX11_feed 67 = .ok (.ireturn, 1) := by decide +kernel
theorem FG_X11_10 : FG RX11 10 11 16 0 := ⟨RX11, TX11, rfl, wX11, by decide, kAW (v_1_6 (List.mem_of_getElem? (i := 12) rfl)) rfl, rfl⟩
theorem FG_X11_139 : FG RX11 139 10 2 1 := ⟨RX10, TX10, rfl, wX10, by decide, kAW (v_0_2 (List.mem_of_getElem? (i := 6) rfl)) rfl, rfl⟩
theorem myX10_put : MI yX10_put cX10_put 3 none 1 := ⟨kAW (v_1_11 (List.mem_of_getElem? (i := 14) rfl)) rfl, kAW (v_0_0 (List.mem_of_getElem? (i := 2) rfl)) rfl, kAW (v_1_11 (List.mem_of_getElem? (i := 12) rfl)) rfl, kAW (v_1_11 (List.mem_of_getElem? (i := 13) rfl)) rfl, by decide, by decide, by decide +kernel⟩
set_option maxRecDepth 100000 in
set_option maxHeartbeats 4000000 in
theorem p_X11_feed (l : Launch) (D : va_G) (cA : Nat → ClassId) (ad : Nat → Nat) (g0 : Nat → va_E) (a : Int32) (b : Int32) (c : Int32) (d : Int32) (e : Int32)   (hSh : Shp ad cA g0) (hG : Rng g0) : CT l NN ad cA D yX11_feed cX11_feed 6 (some FieldType.int) (1, 22) [.ref (ad 0), .int a, .int b, .int c, .int d, .int e] g0 (fun v g' => ∃ (r : Int32), v = some (.int r) ∧ Shp ad cA g' ∧ Rng g' ∧ FR (fun i k => (i = 1 ∧ (k = 1)) ∨ i = 2) g0 g') := by
  refine q_enterI (by decide) (Nat.le_of_ble_eq_true rfl) rfl (fun K H locs ls _ _ hM hW0 hR hC hE hl => ?_)
  have hl : lv_has ls 6 [(0, .ref (ad 0)), (1, .int a), (2, .int b), (3, .int c), (4, .int d), (5, .int e)] := hl
  have hW : WS ad cA (fun i k => (i = 1 ∧ (k = 1)) ∨ i = 2) g0 K g0 H locs := ⟨hW0, hSh, FR.rf⟩
  have := kc_0
  have := kc_1
  have := kc_m1
  have := kc_m2
  refine q_aload_n hM dX11_feed_0 (lv_at hl 0 rfl) ?_
  refine w_get (v := .ref (ad 1)) hM hW FG_X11_10 lb_0 (rf_0_0 hW.2.1) dX11_feed_1 ?_
  refine w_getI hM hW FG_X11_139 lb_1 (by decide) (by decide) dX11_feed_4 (fun x4647 fx4647 => ?_)
  have bx4647 := hG.f fx4647 rF_1_1 (by decide)
  refine q_bipush (v := (20 : Int32)) hM dX11_feed_7 (by decide) ?_
  refine q_iadd hM dX11_feed_9 (fun z4648 hz4648 => ?_)
  first | have tz4648 := i_addT hz4648 (rfl : x4647.toInt = x4647.toInt) (kc_20 : (20 : Int32).toInt = 20) (by omega) (by omega) | skip
  refine q_sipush (v := (260 : Int32)) hM dX11_feed_10 (by decide) ?_
  refine q_icmp_le (tgt := 18) hM dX11_feed_13 (by decide) (rfl : z4648.toInt = z4648.toInt) (kc_260 : (260 : Int32).toInt = 260) (fun h13 => ?_) (fun h13 => ?_)
  · refine q_aload_n hM dX11_feed_18 (lv_at hl 0 rfl) ?_
    refine w_get (v := .ref (ad 1)) hM hW FG_X11_10 lb_0 (rf_0_0 hW.2.1) dX11_feed_19 ?_
    refine q_iload_n hM dX11_feed_22 (lv_at hl 1 rfl) ?_
    refine q_callV (As := [.int a]) (rest := []) hM hW.1 hR hC myX10_put (kAW (v_1_11 (List.mem_of_getElem? (i := 11) rfl)) rfl) (rfl : vwCl[10]? = some (RX10, TX10, 2)) rfl lb_1.1 (shO hW.2.1 lb_1) (a_X10_put _ _ cA ad g0 a hW.2.1 hG) ⟨by decide, by decide⟩ rfl rfl hl.1 (Nat.le_of_ble_eq_true rfl) dX11_feed_23 (fun v g4650 H locs hp hW1 => ?_)
    obtain ⟨rfl, hs1, hG, hf1⟩ := hp
    have hW : WS ad cA (fun i k => (i = 1 ∧ (k = 1)) ∨ i = 2) g0 K g4650 H locs := ⟨hW1, hs1, hW.2.2.tr hf1 (fun i k h => h.elim (fun h => (Or.inl h)) (fun h => (Or.inr h)))⟩
    refine q_aload_n hM dX11_feed_26 (lv_at hl 0 rfl) ?_
    refine w_get (v := .ref (ad 1)) hM hW FG_X11_10 lb_0 (rf_0_0 hW.2.1) dX11_feed_27 ?_
    refine q_iload_n hM dX11_feed_30 (lv_at hl 2 rfl) ?_
    refine q_callV (As := [.int b]) (rest := []) hM hW.1 hR hC myX10_put (kAW (v_1_11 (List.mem_of_getElem? (i := 11) rfl)) rfl) (rfl : vwCl[10]? = some (RX10, TX10, 2)) rfl lb_1.1 (shO hW.2.1 lb_1) (a_X10_put _ _ cA ad g4650 b hW.2.1 hG) ⟨by decide, by decide⟩ rfl rfl hl.1 (Nat.le_of_ble_eq_true rfl) dX11_feed_31 (fun v g4651 H locs hp hW1 => ?_)
    obtain ⟨rfl, hs1, hG, hf1⟩ := hp
    have hW : WS ad cA (fun i k => (i = 1 ∧ (k = 1)) ∨ i = 2) g0 K g4651 H locs := ⟨hW1, hs1, hW.2.2.tr hf1 (fun i k h => h.elim (fun h => (Or.inl h)) (fun h => (Or.inr h)))⟩
    refine q_aload_n hM dX11_feed_34 (lv_at hl 0 rfl) ?_
    refine w_get (v := .ref (ad 1)) hM hW FG_X11_10 lb_0 (rf_0_0 hW.2.1) dX11_feed_35 ?_
    refine q_iload_n hM dX11_feed_38 (lv_at hl 3 rfl) ?_
    refine q_callV (As := [.int c]) (rest := []) hM hW.1 hR hC myX10_put (kAW (v_1_11 (List.mem_of_getElem? (i := 11) rfl)) rfl) (rfl : vwCl[10]? = some (RX10, TX10, 2)) rfl lb_1.1 (shO hW.2.1 lb_1) (a_X10_put _ _ cA ad g4651 c hW.2.1 hG) ⟨by decide, by decide⟩ rfl rfl hl.1 (Nat.le_of_ble_eq_true rfl) dX11_feed_39 (fun v g4652 H locs hp hW1 => ?_)
    obtain ⟨rfl, hs1, hG, hf1⟩ := hp
    have hW : WS ad cA (fun i k => (i = 1 ∧ (k = 1)) ∨ i = 2) g0 K g4652 H locs := ⟨hW1, hs1, hW.2.2.tr hf1 (fun i k h => h.elim (fun h => (Or.inl h)) (fun h => (Or.inr h)))⟩
    refine q_aload_n hM dX11_feed_42 (lv_at hl 0 rfl) ?_
    refine w_get (v := .ref (ad 1)) hM hW FG_X11_10 lb_0 (rf_0_0 hW.2.1) dX11_feed_43 ?_
    refine q_iload hM dX11_feed_46 (lv_at hl 4 rfl) ?_
    refine q_callV (As := [.int d]) (rest := []) hM hW.1 hR hC myX10_put (kAW (v_1_11 (List.mem_of_getElem? (i := 11) rfl)) rfl) (rfl : vwCl[10]? = some (RX10, TX10, 2)) rfl lb_1.1 (shO hW.2.1 lb_1) (a_X10_put _ _ cA ad g4652 d hW.2.1 hG) ⟨by decide, by decide⟩ rfl rfl hl.1 (Nat.le_of_ble_eq_true rfl) dX11_feed_48 (fun v g4653 H locs hp hW1 => ?_)
    obtain ⟨rfl, hs1, hG, hf1⟩ := hp
    have hW : WS ad cA (fun i k => (i = 1 ∧ (k = 1)) ∨ i = 2) g0 K g4653 H locs := ⟨hW1, hs1, hW.2.2.tr hf1 (fun i k h => h.elim (fun h => (Or.inl h)) (fun h => (Or.inr h)))⟩
    refine q_aload_n hM dX11_feed_51 (lv_at hl 0 rfl) ?_
    refine w_get (v := .ref (ad 1)) hM hW FG_X11_10 lb_0 (rf_0_0 hW.2.1) dX11_feed_52 ?_
    refine q_iload hM dX11_feed_55 (lv_at hl 5 rfl) ?_
    refine q_callV (As := [.int e]) (rest := []) hM hW.1 hR hC myX10_put (kAW (v_1_11 (List.mem_of_getElem? (i := 11) rfl)) rfl) (rfl : vwCl[10]? = some (RX10, TX10, 2)) rfl lb_1.1 (shO hW.2.1 lb_1) (a_X10_put _ _ cA ad g4653 e hW.2.1 hG) ⟨by decide, by decide⟩ rfl rfl hl.1 (Nat.le_of_ble_eq_true rfl) dX11_feed_57 (fun v g4654 H locs hp hW1 => ?_)
    obtain ⟨rfl, hs1, hG, hf1⟩ := hp
    have hW : WS ad cA (fun i k => (i = 1 ∧ (k = 1)) ∨ i = 2) g0 K g4654 H locs := ⟨hW1, hs1, hW.2.2.tr hf1 (fun i k h => h.elim (fun h => (Or.inl h)) (fun h => (Or.inr h)))⟩
    refine q_aload_n hM dX11_feed_60 (lv_at hl 0 rfl) ?_
    refine w_get (v := .ref (ad 1)) hM hW FG_X11_10 lb_0 (rf_0_0 hW.2.1) dX11_feed_61 ?_
    refine w_getI hM hW FG_X11_139 lb_1 (by decide) (by decide) dX11_feed_64 (fun x4655 fx4655 => ?_)
    have bx4655 := hG.f fx4655 rF_1_1 (by decide)
    exact hE _ _ _ _ _ _ hW.1 ⟨_, rfl, hW.2.1, hG, hW.2.2⟩ dX11_feed_67
  · refine q_iconst (v := ((-1) : Int32)) hM dX11_feed_16 (by decide) ?_
    exact hE _ _ _ _ _ _ hW.1 ⟨_, rfl, hW.2.1, hG, hW.2.2⟩ dX11_feed_17

theorem dX11_art_0 : decode cX11_art 0 = .ok (.iload_n 1, 1) := by decide +kernel
theorem dX11_art_1 : decode cX11_art 1 = .ok (.iconst 0, 1) := by decide +kernel
theorem dX11_art_2 : decode cX11_art 2 = .ok (.iconst 5, 1) := by decide +kernel
theorem dX11_art_3 : decode cX11_art 3 = .ok (.invokestatic 112, 3) := by decide +kernel
theorem dX11_art_6 : decode cX11_art 6 = .ok (.ifCond .eq 24, 3) := by decide +kernel
theorem dX11_art_9 : decode cX11_art 9 = .ok (.iload_n 2, 1) := by decide +kernel
theorem dX11_art_10 : decode cX11_art 10 = .ok (.iconst 1, 1) := by decide +kernel
theorem dX11_art_11 : decode cX11_art 11 = .ok (.bipush 60, 2) := by decide +kernel
theorem dX11_art_13 : decode cX11_art 13 = .ok (.invokestatic 112, 3) := by decide +kernel
theorem dX11_art_16 : decode cX11_art 16 = .ok (.ifCond .eq 14, 3) := by decide +kernel
theorem dX11_art_19 : decode cX11_art 19 = .ok (.iload_n 2, 1) := by decide +kernel
theorem dX11_art_20 : decode cX11_art 20 = .ok (.aload_n 0, 1) := by decide +kernel
theorem dX11_art_21 : decode cX11_art 21 = .ok (.getfield 10, 3) := by decide +kernel
theorem dX11_art_24 : decode cX11_art 24 = .ok (.getfield 139, 3) := by decide +kernel
theorem dX11_art_27 : decode cX11_art 27 = .ok (.if_icmp .le 5, 3) := by decide +kernel
theorem dX11_art_30 : decode cX11_art 30 = .ok (.iconst (-1), 1) := by decide +kernel
theorem dX11_art_31 : decode cX11_art 31 = .ok (.ireturn, 1) := by decide +kernel
theorem dX11_art_32 : decode cX11_art 32 = .ok (.aload_n 0, 1) := by decide +kernel
theorem dX11_art_33 : decode cX11_art 33 = .ok (.getfield 65, 3) := by decide +kernel
theorem dX11_art_36 : decode cX11_art 36 = .ok (.iload_n 2, 1) := by decide +kernel
theorem dX11_art_37 : decode cX11_art 37 = .ok (.aload_n 0, 1) := by decide +kernel
theorem dX11_art_38 : decode cX11_art 38 = .ok (.getfield 52, 3) := by decide +kernel
theorem dX11_art_41 : decode cX11_art 41 = .ok (.invokevirtual 146, 3) := by decide +kernel
theorem dX11_art_44 : decode cX11_art 44 = .ok (.istore_n 3, 1) := by decide +kernel
theorem dX11_art_45 : decode cX11_art 45 = .ok (.aload_n 0, 1) := by decide +kernel
theorem dX11_art_46 : decode cX11_art 46 = .ok (.getfield 10, 3) := by decide +kernel
theorem dX11_art_49 : decode cX11_art 49 = .ok (.iconst 0, 1) := by decide +kernel
theorem dX11_art_50 : decode cX11_art 50 = .ok (.putfield 139, 3) := by decide +kernel
theorem dX11_art_53 : decode cX11_art 53 = .ok (.iload_n 3, 1) := by decide +kernel
theorem dX11_art_54 : decode cX11_art 54 = .ok (.ifCond .le 34, 3) := by decide +kernel
theorem dX11_art_57 : decode cX11_art 57 = .ok (.aload_n 0, 1) := by decide +kernel
theorem dX11_art_58 : decode cX11_art 58 = .ok (.getfield 83, 3) := by decide +kernel
theorem dX11_art_61 : decode cX11_art 61 = .ok (.getfield 150, 3) := by decide +kernel
theorem dX11_art_64 : decode cX11_art 64 = .ok (.iload_n 1, 1) := by decide +kernel
theorem dX11_art_65 : decode cX11_art 65 = .ok (.aaload, 1) := by decide +kernel
theorem dX11_art_66 : decode cX11_art 66 = .ok (.aload_n 0, 1) := by decide +kernel
theorem dX11_art_67 : decode cX11_art 67 = .ok (.getfield 52, 3) := by decide +kernel
theorem dX11_art_70 : decode cX11_art 70 = .ok (.invokevirtual 154, 3) := by decide +kernel
theorem dX11_art_73 : decode cX11_art 73 = .ok (.aload_n 0, 1) := by decide +kernel
theorem dX11_art_74 : decode cX11_art 74 = .ok (.getfield 83, 3) := by decide +kernel
theorem dX11_art_77 : decode cX11_art 77 = .ok (.dup, 1) := by decide +kernel
theorem dX11_art_78 : decode cX11_art 78 = .ok (.getfield 158, 3) := by decide +kernel
theorem dX11_art_81 : decode cX11_art 81 = .ok (.iconst 1, 1) := by decide +kernel
theorem dX11_art_82 : decode cX11_art 82 = .ok (.iload_n 1, 1) := by decide +kernel
theorem dX11_art_83 : decode cX11_art 83 = .ok (.ishl, 1) := by decide +kernel
theorem dX11_art_84 : decode cX11_art 84 = .ok (.ior, 1) := by decide +kernel
theorem dX11_art_85 : decode cX11_art 85 = .ok (.putfield 158, 3) := by decide +kernel
theorem dX11_art_88 : decode cX11_art 88 = .ok (.iload_n 3, 1) := by decide +kernel
theorem dX11_art_89 : decode cX11_art 89 = .ok (.ireturn, 1) := by decide +kernel
theorem FG_X11_65 : FG RX11 65 11 16 6 := ⟨RX11, TX11, rfl, wX11, by decide, kAW (v_1_7 (List.mem_of_getElem? (i := 2) rfl)) rfl, rfl⟩
theorem FG_X11_52 : FG RX11 52 11 16 8 := ⟨RX11, TX11, rfl, wX11, by decide, kAW (v_1_7 (List.mem_of_getElem? (i := 4) rfl)) rfl, rfl⟩
theorem myX1_read : MI yX1_read cX1_read 3 (some FieldType.int) 2 := ⟨kAW (v_1_12 (List.mem_of_getElem? (i := 6) rfl)) rfl, kAW (v_0_0 (List.mem_of_getElem? (i := 7) rfl)) rfl, kAW (v_1_12 (List.mem_of_getElem? (i := 4) rfl)) rfl, kAW (v_1_12 (List.mem_of_getElem? (i := 5) rfl)) rfl, by decide, by decide, by decide +kernel⟩
theorem FP_X11_139 : FPX RX11 139 10 2 1 .int := ⟨⟨RX10, TX10, tyX10, rfl, wX10, by decide, kAW (v_0_2 (List.mem_of_getElem? (i := 6) rfl)) rfl, rfl, tyX10_ok, nmX10, by decide +kernel, rfl⟩, by decide +kernel⟩
theorem FG_X11_150 : FG RX11 150 2 11 1 := ⟨RX2, TX2, rfl, wX2, by decide, kAW (v_0_14 (List.mem_of_getElem? (i := 6) rfl)) rfl, rfl⟩
theorem myX0_become : MI yX0_become cX0_become 3 none 1 := ⟨kAW (v_1_14 (List.mem_of_getElem? (i := 14) rfl)) rfl, kAW (v_0_0 (List.mem_of_getElem? (i := 6) rfl)) rfl, kAW (v_1_14 (List.mem_of_getElem? (i := 12) rfl)) rfl, kAW (v_1_14 (List.mem_of_getElem? (i := 13) rfl)) rfl, by decide, by decide, by decide +kernel⟩
theorem FG_X11_158 : FG RX11 158 2 11 4 := ⟨RX2, TX2, rfl, wX2, by decide, kAW (v_0_14 (List.mem_of_getElem? (i := 11) rfl)) rfl, rfl⟩
theorem FP_X11_158 : FPX RX11 158 2 11 4 .int := ⟨⟨RX2, TX2, tyX2, rfl, wX2, by decide, kAW (v_0_14 (List.mem_of_getElem? (i := 11) rfl)) rfl, rfl, tyX2_ok, nmX2, by decide +kernel, rfl⟩, by decide +kernel⟩
set_option maxRecDepth 100000 in
set_option maxHeartbeats 4000000 in
theorem p_X11_art (l : Launch) (D : va_G) (cA : Nat → ClassId) (ad : Nat → Nat) (g0 : Nat → va_E) (a : Int32) (b : Int32)   (hSh : Shp ad cA g0) (hG : Rng g0) : CT l NN ad cA D yX11_art cX11_art 4 (some FieldType.int) (10, 228) [.ref (ad 0), .int a, .int b] g0 (fun v g' => ∃ (r : Int32), v = some (.int r) ∧ Shp ad cA g' ∧ Rng g' ∧ FR (fun i k => (i = 1 ∧ (k = 1)) ∨ (i = 78 ∧ (k = 1 ∨ k = 2 ∨ k = 3 ∨ k = 4)) ∨ (i = 75 ∧ (k = 2)) ∨ i = 76 ∨ i = 77 ∨ (84 ≤ i ∧ i < 102) ∨ (i = 80 ∧ (k = 4))) g0 g') := by
  refine q_enterI (by decide) (Nat.le_of_ble_eq_true rfl) rfl (fun K H locs ls _ _ hM hW0 hR hC hE hl => ?_)
  have hl : lv_has ls 4 [(0, .ref (ad 0)), (1, .int a), (2, .int b)] := hl
  have hW : WS ad cA (fun i k => (i = 1 ∧ (k = 1)) ∨ (i = 78 ∧ (k = 1 ∨ k = 2 ∨ k = 3 ∨ k = 4)) ∨ (i = 75 ∧ (k = 2)) ∨ i = 76 ∨ i = 77 ∨ (84 ≤ i ∧ i < 102) ∨ (i = 80 ∧ (k = 4))) g0 K g0 H locs := ⟨hW0, hSh, FR.rf⟩
  have := kc_0
  have := kc_1
  have := kc_m1
  have := kc_m2
  refine q_iload_n hM dX11_art_0 (lv_at hl 1 rfl) ?_
  refine q_iconst (v := (0 : Int32)) hM dX11_art_1 (by decide) ?_
  refine q_iconst (v := (5 : Int32)) hM dX11_art_2 (by decide) ?_
  refine q_callS (As := [.int a, .int (0 : Int32), .int (5 : Int32)]) (rest := []) hM hW.1 hR hC myX11_within (kAW (v_1_10 (List.mem_of_getElem? (i := 1) rfl)) rfl) (c_X11_within _ _ cA ad g0 a (0 : Int32) (5 : Int32) hW.2.1) ⟨by decide, by decide⟩ rfl rfl hl.1 (Nat.le_of_ble_eq_true rfl) dX11_art_3 (fun v g4658 H locs hp hW1 => ?_)
  obtain ⟨r4657, rfl, hr4657, rfl⟩ := hp
  have hW : WS ad cA (fun i k => (i = 1 ∧ (k = 1)) ∨ (i = 78 ∧ (k = 1 ∨ k = 2 ∨ k = 3 ∨ k = 4)) ∨ (i = 75 ∧ (k = 2)) ∨ i = 76 ∨ i = 77 ∨ (84 ≤ i ∧ i < 102) ∨ (i = 80 ∧ (k = 4))) g0 K g0 H locs := ⟨hW1, hW.2.1, hW.2.2⟩
  have := kc_0
  have := kc_5
  refine q_if_eq (tgt := 30) hM dX11_art_6 (by decide) (rfl : r4657.toInt = r4657.toInt) (fun h6 => ?_) (fun h6 => ?_)
  · refine q_iconst (v := ((-1) : Int32)) hM dX11_art_30 (by decide) ?_
    exact hE _ _ _ _ _ _ hW.1 ⟨_, rfl, hW.2.1, hG, hW.2.2⟩ dX11_art_31
  · refine q_iload_n hM dX11_art_9 (lv_at hl 2 rfl) ?_
    refine q_iconst (v := (1 : Int32)) hM dX11_art_10 (by decide) ?_
    refine q_bipush (v := (60 : Int32)) hM dX11_art_11 (by decide) ?_
    refine q_callS (As := [.int b, .int (1 : Int32), .int (60 : Int32)]) (rest := []) hM hW.1 hR hC myX11_within (kAW (v_1_10 (List.mem_of_getElem? (i := 1) rfl)) rfl) (c_X11_within _ _ cA ad g0 b (1 : Int32) (60 : Int32) hW.2.1) ⟨by decide, by decide⟩ rfl rfl hl.1 (Nat.le_of_ble_eq_true rfl) dX11_art_13 (fun v g4662 H locs hp hW1 => ?_)
    obtain ⟨r4661, rfl, hr4661, rfl⟩ := hp
    have hW : WS ad cA (fun i k => (i = 1 ∧ (k = 1)) ∨ (i = 78 ∧ (k = 1 ∨ k = 2 ∨ k = 3 ∨ k = 4)) ∨ (i = 75 ∧ (k = 2)) ∨ i = 76 ∨ i = 77 ∨ (84 ≤ i ∧ i < 102) ∨ (i = 80 ∧ (k = 4))) g0 K g0 H locs := ⟨hW1, hW.2.1, hW.2.2⟩
    have := kc_1
    have := kc_60
    refine q_if_eq (tgt := 30) hM dX11_art_16 (by decide) (rfl : r4661.toInt = r4661.toInt) (fun h16 => ?_) (fun h16 => ?_)
    · refine q_iconst (v := ((-1) : Int32)) hM dX11_art_30 (by decide) ?_
      exact hE _ _ _ _ _ _ hW.1 ⟨_, rfl, hW.2.1, hG, hW.2.2⟩ dX11_art_31
    · refine q_iload_n hM dX11_art_19 (lv_at hl 2 rfl) ?_
      refine q_aload_n hM dX11_art_20 (lv_at hl 0 rfl) ?_
      refine w_get (v := .ref (ad 1)) hM hW FG_X11_10 lb_0 (rf_0_0 hW.2.1) dX11_art_21 ?_
      refine w_getI hM hW FG_X11_139 lb_1 (by decide) (by decide) dX11_art_24 (fun x4665 fx4665 => ?_)
      have bx4665 := hG.f fx4665 rF_1_1 (by decide)
      refine q_icmp_le (tgt := 32) hM dX11_art_27 (by decide) (rfl : b.toInt = b.toInt) (rfl : x4665.toInt = x4665.toInt) (fun h27 => ?_) (fun h27 => ?_)
      · refine q_aload_n hM dX11_art_32 (lv_at hl 0 rfl) ?_
        refine w_get (v := .ref (ad 78)) hM hW FG_X11_65 lb_0 (rf_0_6 hW.2.1) dX11_art_33 ?_
        refine q_iload_n hM dX11_art_36 (lv_at hl 2 rfl) ?_
        refine q_aload_n hM dX11_art_37 (lv_at hl 0 rfl) ?_
        refine w_get (v := .ref (ad 75)) hM hW FG_X11_52 lb_0 (rf_0_8 hW.2.1) dX11_art_38 ?_
        refine q_callV (As := [.int b, .ref (ad 75)]) (rest := []) hM hW.1 hR hC myX1_read (kAW (v_1_12 (List.mem_of_getElem? (i := 3) rfl)) rfl) (rfl : vwCl[1]? = some (RX1, TX1, 5)) rfl lb_78.1 (shO hW.2.1 lb_78) (a_X1_read _ _ cA ad g0 b hW.2.1 hG (by  omega) (by  omega)) ⟨by decide, by decide⟩ rfl rfl hl.1 (Nat.le_of_ble_eq_true rfl) dX11_art_41 (fun v g4668 H locs hp hW1 => ?_)
        obtain ⟨r4667, rfl, hs1, hG, hf1⟩ := hp
        have f4669 : fld g4668 1 1 = .int x4665 := (hf1.1 1 1 (by omega)).trans fx4665
        have hW : WS ad cA (fun i k => (i = 1 ∧ (k = 1)) ∨ (i = 78 ∧ (k = 1 ∨ k = 2 ∨ k = 3 ∨ k = 4)) ∨ (i = 75 ∧ (k = 2)) ∨ i = 76 ∨ i = 77 ∨ (84 ≤ i ∧ i < 102) ∨ (i = 80 ∧ (k = 4))) g0 K g4668 H locs := ⟨hW1, hs1, hW.2.2.tr hf1 (fun i k h => h.elim (fun h => (Or.inr (Or.inl h))) (fun h => h.elim (fun h => (Or.inr (Or.inr (Or.inl h)))) (fun h => h.elim (fun h => (Or.inr (Or.inr (Or.inr (Or.inl h))))) (fun h => (Or.inr (Or.inr (Or.inr (Or.inr (Or.inl h)))))))))⟩
        refine q_istore_n (lv9 := [(3, .int r4667), (0, .ref (ad 0)), (1, .int a), (2, .int b)]) hM dX11_art_44 hl (by decide) rfl (fun ls hl => ?_)
        refine q_aload_n hM dX11_art_45 (lv_at hl 1 rfl) ?_
        refine w_get (v := .ref (ad 1)) hM hW FG_X11_10 lb_0 (rf_0_0 hW.2.1) dX11_art_46 ?_
        refine q_iconst (v := (0 : Int32)) hM dX11_art_49 (by decide) ?_
        refine w_put hM hW FP_X11_139 lb_1 (by omega) (Or.inl ⟨_, rfl⟩) rfl rfl dX11_art_50 (fun g4670 H locs hW e1 e2 => ?_)
        have f4671 : fld g4670 1 1 = .int (0 : Int32) := e1
        have hG := hG.put e1 e2 rF_1_1 (by decide) (by have := kc_0; have := i_rng (0 : Int32); omega) (by have := kc_0; have := i_rng (0 : Int32); omega)
        refine q_iload_n hM dX11_art_53 (lv_at hl 0 rfl) ?_
        refine q_if_le (tgt := 88) hM dX11_art_54 (by decide) (rfl : r4667.toInt = r4667.toInt) (fun h54 => ?_) (fun h54 => ?_)
        · refine q_iload_n hM dX11_art_88 (lv_at hl 0 rfl) ?_
          exact hE _ _ _ _ _ _ hW.1 ⟨_, rfl, hW.2.1, hG, hW.2.2⟩ dX11_art_89
        · refine q_aload_n hM dX11_art_57 (lv_at hl 1 rfl) ?_
          refine w_get (v := .ref (ad 80)) hM hW FG_X11_83 lb_0 (rf_0_2 hW.2.1) dX11_art_58 ?_
          refine w_get (v := .ref (ad 81)) hM hW FG_X11_150 lb_80 (rf_80_1 hW.2.1) dX11_art_61 ?_
          refine q_iload_n hM dX11_art_64 (lv_at hl 2 rfl) ?_
          refine w_aald hM hW lb_81 (Or.inr rfl) (i_in (by omega) (by omega)) (aq (aq_81 hW.2.1) (by omega) (by omega)) dX11_art_65 ?_
          refine q_aload_n hM dX11_art_66 (lv_at hl 1 rfl) ?_
          refine w_get (v := .ref (ad 75)) hM hW FG_X11_52 lb_0 (rf_0_8 hW.2.1) dX11_art_67 ?_
          refine q_callV (As := [.ref (ad 75)]) (rest := []) hM hW.1 hR hC myX0_become (kAW (v_1_14 (List.mem_of_getElem? (i := 11) rfl)) rfl) (rfl : vwCl[0]? = some (RX0, TX0, 3)) rfl (lo_art (by omega)).1 (shO hW.2.1 (lo_art (by omega))) (a_X0_become _ _ cA ad g4670 (84 + 3 * a.toInt.toNat) hW.2.1 hG (isAt_art (by omega) : isAt (84 + 3 * a.toInt.toNat))) ⟨by decide, by decide⟩ rfl rfl hl.1 (Nat.le_of_ble_eq_true rfl) dX11_art_70 (fun v g4674 H locs hp hW1 => ?_)
          obtain ⟨rfl, hs1, hG, hf1⟩ := hp
          have hW : WS ad cA (fun i k => (i = 1 ∧ (k = 1)) ∨ (i = 78 ∧ (k = 1 ∨ k = 2 ∨ k = 3 ∨ k = 4)) ∨ (i = 75 ∧ (k = 2)) ∨ i = 76 ∨ i = 77 ∨ (84 ≤ i ∧ i < 102) ∨ (i = 80 ∧ (k = 4))) g0 K g4674 H locs := ⟨hW1, hs1, hW.2.2.tr hf1 (fun i k h => h.elim (fun h => (by omega)) (fun h => h.elim (fun h => (by omega)) (fun h => (by omega))))⟩
          refine q_aload_n hM dX11_art_73 (lv_at hl 1 rfl) ?_
          refine w_get (v := .ref (ad 80)) hM hW FG_X11_83 lb_0 (rf_0_2 hW.2.1) dX11_art_74 ?_
          refine q_dup hM dX11_art_77 rfl ?_
          refine w_getI hM hW FG_X11_158 lb_80 (by decide) (by decide) dX11_art_78 (fun x4675 fx4675 => ?_)
          have bx4675 := hG.f fx4675 rF_80_4 (by decide)
          refine q_iconst (v := (1 : Int32)) hM dX11_art_81 (by decide) ?_
          refine q_iload_n hM dX11_art_82 (lv_at hl 2 rfl) ?_
          refine q_ishl hM dX11_art_83 (fun z4676 hz4676 => ?_)
          have sz4676 := i_shl1 6 (by decide) hz4676 (by omega) (by omega)
          refine q_ior hM dX11_art_84 (fun z4677 hz4677 => ?_)
          have oz4677 := i_ork 6 (by decide) hz4677 (by omega) (by omega) (by omega) (by omega)
          refine w_put hM hW FP_X11_158 lb_80 (by omega) (Or.inl ⟨_, rfl⟩) rfl rfl dX11_art_85 (fun g4678 H locs hW e1 e2 => ?_)
          have f4679 : fld g4678 80 4 = .int z4677 := e1
          have hG := hG.put e1 e2 rF_80_4 (by decide) (by have := i_rng z4677; omega) (by have := i_rng z4677; omega)
          refine q_iload_n hM dX11_art_88 (lv_at hl 0 rfl) ?_
          exact hE _ _ _ _ _ _ hW.1 ⟨_, rfl, hW.2.1, hG, hW.2.2⟩ dX11_art_89
      · refine q_iconst (v := ((-1) : Int32)) hM dX11_art_30 (by decide) ?_
        exact hE _ _ _ _ _ _ hW.1 ⟨_, rfl, hW.2.1, hG, hW.2.2⟩ dX11_art_31

theorem dX11_law_0 : decode cX11_law 0 = .ok (.iload_n 1, 1) := by decide +kernel
theorem dX11_law_1 : decode cX11_law 1 = .ok (.iconst 1, 1) := by decide +kernel
theorem dX11_law_2 : decode cX11_law 2 = .ok (.sipush 240, 3) := by decide +kernel
theorem dX11_law_5 : decode cX11_law 5 = .ok (.invokestatic 112, 3) := by decide +kernel
theorem dX11_law_8 : decode cX11_law 8 = .ok (.ifCond .eq 14, 3) := by decide +kernel
theorem dX11_law_11 : decode cX11_law 11 = .ok (.iload_n 1, 1) := by decide +kernel
theorem dX11_law_12 : decode cX11_law 12 = .ok (.aload_n 0, 1) := by decide +kernel
theorem dX11_law_13 : decode cX11_law 13 = .ok (.getfield 10, 3) := by decide +kernel
theorem dX11_law_16 : decode cX11_law 16 = .ok (.getfield 139, 3) := by decide +kernel
theorem dX11_law_19 : decode cX11_law 19 = .ok (.if_icmp .le 5, 3) := by decide +kernel
theorem dX11_law_22 : decode cX11_law 22 = .ok (.iconst (-1), 1) := by decide +kernel
theorem dX11_law_23 : decode cX11_law 23 = .ok (.ireturn, 1) := by decide +kernel
theorem dX11_law_24 : decode cX11_law 24 = .ok (.aload_n 0, 1) := by decide +kernel
theorem dX11_law_25 : decode cX11_law 25 = .ok (.getfield 74, 3) := by decide +kernel
theorem dX11_law_28 : decode cX11_law 28 = .ok (.iload_n 1, 1) := by decide +kernel
theorem dX11_law_29 : decode cX11_law 29 = .ok (.aload_n 0, 1) := by decide +kernel
theorem dX11_law_30 : decode cX11_law 30 = .ok (.getfield 46, 3) := by decide +kernel
theorem dX11_law_33 : decode cX11_law 33 = .ok (.invokevirtual 161, 3) := by decide +kernel
theorem dX11_law_36 : decode cX11_law 36 = .ok (.istore_n 2, 1) := by decide +kernel
theorem dX11_law_37 : decode cX11_law 37 = .ok (.aload_n 0, 1) := by decide +kernel
theorem dX11_law_38 : decode cX11_law 38 = .ok (.getfield 10, 3) := by decide +kernel
theorem dX11_law_41 : decode cX11_law 41 = .ok (.iconst 0, 1) := by decide +kernel
theorem dX11_law_42 : decode cX11_law 42 = .ok (.putfield 139, 3) := by decide +kernel
theorem dX11_law_45 : decode cX11_law 45 = .ok (.iload_n 2, 1) := by decide +kernel
theorem dX11_law_46 : decode cX11_law 46 = .ok (.ifCond .le 21, 3) := by decide +kernel
theorem dX11_law_49 : decode cX11_law 49 = .ok (.aload_n 0, 1) := by decide +kernel
theorem dX11_law_50 : decode cX11_law 50 = .ok (.getfield 39, 3) := by decide +kernel
theorem dX11_law_53 : decode cX11_law 53 = .ok (.astore_n 3, 1) := by decide +kernel
theorem dX11_law_54 : decode cX11_law 54 = .ok (.aload_n 0, 1) := by decide +kernel
theorem dX11_law_55 : decode cX11_law 55 = .ok (.aload_n 0, 1) := by decide +kernel
theorem dX11_law_56 : decode cX11_law 56 = .ok (.getfield 46, 3) := by decide +kernel
theorem dX11_law_59 : decode cX11_law 59 = .ok (.putfield 39, 3) := by decide +kernel
theorem dX11_law_62 : decode cX11_law 62 = .ok (.aload_n 0, 1) := by decide +kernel
theorem dX11_law_63 : decode cX11_law 63 = .ok (.aload_n 3, 1) := by decide +kernel
theorem dX11_law_64 : decode cX11_law 64 = .ok (.putfield 46, 3) := by decide +kernel
theorem dX11_law_67 : decode cX11_law 67 = .ok (.iload_n 2, 1) := by decide +kernel
theorem dX11_law_68 : decode cX11_law 68 = .ok (.ireturn, 1) := by decide +kernel
theorem FG_X11_74 : FG RX11 74 11 16 7 := ⟨RX11, TX11, rfl, wX11, by decide, kAW (v_1_7 (List.mem_of_getElem? (i := 3) rfl)) rfl, rfl⟩
theorem FG_X11_46 : FG RX11 46 11 16 14 := ⟨RX11, TX11, rfl, wX11, by decide, kAW (v_1_7 (List.mem_of_getElem? (i := 10) rfl)) rfl, rfl⟩
theorem myX4_read : MI yX4_read cX4_read 4 (some FieldType.int) 2 := ⟨kAW (v_2_0 (List.mem_of_getElem? (i := 6) rfl)) rfl, kAW (v_0_0 (List.mem_of_getElem? (i := 8) rfl)) rfl, kAW (v_2_0 (List.mem_of_getElem? (i := 4) rfl)) rfl, kAW (v_2_0 (List.mem_of_getElem? (i := 5) rfl)) rfl, by decide, by decide, by decide +kernel⟩
theorem FG_X11_39 : FG RX11 39 11 16 13 := ⟨RX11, TX11, rfl, wX11, by decide, kAW (v_1_7 (List.mem_of_getElem? (i := 9) rfl)) rfl, rfl⟩
theorem FP_X11_39 : FPX RX11 39 11 16 13 (.object "ForgetSchool$Law") := ⟨⟨RX11, TX11, tyX11, rfl, wX11, by decide, kAW (v_1_7 (List.mem_of_getElem? (i := 9) rfl)) rfl, rfl, tyX11_ok, nmX11, by decide +kernel, rfl⟩, by decide +kernel⟩
theorem FP_X11_46 : FPX RX11 46 11 16 14 (.object "ForgetSchool$Law") := ⟨⟨RX11, TX11, tyX11, rfl, wX11, by decide, kAW (v_1_7 (List.mem_of_getElem? (i := 10) rfl)) rfl, rfl, tyX11_ok, nmX11, by decide +kernel, rfl⟩, by decide +kernel⟩
set_option maxRecDepth 100000 in
set_option maxHeartbeats 4000000 in
theorem p_X11_law (l : Launch) (D : va_G) (cA : Nat → ClassId) (ad : Nat → Nat) (g0 : Nat → va_E) (a : Int32)  (lw : Nat) (lwn : Nat) (hSh : Shp ad cA g0) (hG : Rng g0) (hlw : isLw lw) (hlwn : isLw lwn) (h_r13 : fld g0 0 13 = .ref (ad lw)) (h_r14 : fld g0 0 14 = .ref (ad lwn)) : CT l NN ad cA D yX11_law cX11_law 4 (some FieldType.int) (21, 486) [.ref (ad 0), .int a] g0 (fun v g' => ∃ (r : Int32), v = some (.int r) ∧ Shp ad cA g' ∧ Rng g' ∧ FR (fun i k => (i = 1 ∧ (k = 1)) ∨ (i = 79 ∧ (k = 1 ∨ k = 2 ∨ k = 3 ∨ k = 4)) ∨ (i = lwn ∧ (k = 6 ∨ k = 7)) ∨ i = (lwn + 1) ∨ i = (lwn + 2) ∨ i = (lwn + 3) ∨ i = (lwn + 4) ∨ i = (lwn + 5) ∨ (i = 0 ∧ (k = 13 ∨ k = 14))) g0 g' ∧ ((fld g' 0 13 = .ref (ad lw) ∧ fld g' 0 14 = .ref (ad lwn)) ∨ (fld g' 0 13 = .ref (ad lwn) ∧ fld g' 0 14 = .ref (ad lw)))) := by
  refine q_enterI (by decide) (Nat.le_of_ble_eq_true rfl) rfl (fun K H locs ls _ _ hM hW0 hR hC hE hl => ?_)
  have hl : lv_has ls 4 [(0, .ref (ad 0)), (1, .int a)] := hl
  have hW : WS ad cA (fun i k => (i = 1 ∧ (k = 1)) ∨ (i = 79 ∧ (k = 1 ∨ k = 2 ∨ k = 3 ∨ k = 4)) ∨ (i = lwn ∧ (k = 6 ∨ k = 7)) ∨ i = (lwn + 1) ∨ i = (lwn + 2) ∨ i = (lwn + 3) ∨ i = (lwn + 4) ∨ i = (lwn + 5) ∨ (i = 0 ∧ (k = 13 ∨ k = 14))) g0 K g0 H locs := ⟨hW0, hSh, FR.rf⟩
  have ulw := hlw
  unfold isLw at ulw
  have ulwn := hlwn
  unfold isLw at ulwn
  have := kc_0
  have := kc_1
  have := kc_m1
  have := kc_m2
  have f4681 : fld g0 0 13 = .ref (ad lw) := h_r13
  have f4682 : fld g0 0 14 = .ref (ad lwn) := h_r14
  refine q_iload_n hM dX11_law_0 (lv_at hl 1 rfl) ?_
  refine q_iconst (v := (1 : Int32)) hM dX11_law_1 (by decide) ?_
  refine q_sipush (v := (240 : Int32)) hM dX11_law_2 (by decide) ?_
  refine q_callS (As := [.int a, .int (1 : Int32), .int (240 : Int32)]) (rest := []) hM hW.1 hR hC myX11_within (kAW (v_1_10 (List.mem_of_getElem? (i := 1) rfl)) rfl) (c_X11_within _ _ cA ad g0 a (1 : Int32) (240 : Int32) hW.2.1) ⟨by decide, by decide⟩ rfl rfl hl.1 (Nat.le_of_ble_eq_true rfl) dX11_law_5 (fun v g4684 H locs hp hW1 => ?_)
  obtain ⟨r4683, rfl, hr4683, rfl⟩ := hp
  have hW : WS ad cA (fun i k => (i = 1 ∧ (k = 1)) ∨ (i = 79 ∧ (k = 1 ∨ k = 2 ∨ k = 3 ∨ k = 4)) ∨ (i = lwn ∧ (k = 6 ∨ k = 7)) ∨ i = (lwn + 1) ∨ i = (lwn + 2) ∨ i = (lwn + 3) ∨ i = (lwn + 4) ∨ i = (lwn + 5) ∨ (i = 0 ∧ (k = 13 ∨ k = 14))) g0 K g0 H locs := ⟨hW1, hW.2.1, hW.2.2⟩
  have := kc_1
  have := kc_240
  refine q_if_eq (tgt := 22) hM dX11_law_8 (by decide) (rfl : r4683.toInt = r4683.toInt) (fun h8 => ?_) (fun h8 => ?_)
  · refine q_iconst (v := ((-1) : Int32)) hM dX11_law_22 (by decide) ?_
    exact hE _ _ _ _ _ _ hW.1 ⟨_, rfl, hW.2.1, hG, hW.2.2, Or.inl ⟨f4681, f4682⟩⟩ dX11_law_23
  · refine q_iload_n hM dX11_law_11 (lv_at hl 1 rfl) ?_
    refine q_aload_n hM dX11_law_12 (lv_at hl 0 rfl) ?_
    refine w_get (v := .ref (ad 1)) hM hW FG_X11_10 lb_0 (rf_0_0 hW.2.1) dX11_law_13 ?_
    refine w_getI hM hW FG_X11_139 lb_1 (by decide) (by decide) dX11_law_16 (fun x4687 fx4687 => ?_)
    have bx4687 := hG.f fx4687 rF_1_1 (by decide)
    refine q_icmp_le (tgt := 24) hM dX11_law_19 (by decide) (rfl : a.toInt = a.toInt) (rfl : x4687.toInt = x4687.toInt) (fun h19 => ?_) (fun h19 => ?_)
    · refine q_aload_n hM dX11_law_24 (lv_at hl 0 rfl) ?_
      refine w_get (v := .ref (ad 79)) hM hW FG_X11_74 lb_0 (rf_0_7 hW.2.1) dX11_law_25 ?_
      refine q_iload_n hM dX11_law_28 (lv_at hl 1 rfl) ?_
      refine q_aload_n hM dX11_law_29 (lv_at hl 0 rfl) ?_
      refine w_get (v := .ref (ad lwn)) hM hW FG_X11_46 lb_0 f4682 dX11_law_30 ?_
      refine q_callV (As := [.int a, .ref (ad lwn)]) (rest := []) hM hW.1 hR hC myX4_read (kAW (v_2_0 (List.mem_of_getElem? (i := 3) rfl)) rfl) (rfl : vwCl[4]? = some (RX4, TX4, 5)) rfl lb_79.1 (shO hW.2.1 lb_79) (a_X4_read _ _ cA ad g0 a lwn hW.2.1 hG hlwn (by  omega) (by  omega)) ⟨by decide, by decide⟩ rfl rfl hl.1 (Nat.le_of_ble_eq_true rfl) dX11_law_33 (fun v g4690 H locs hp hW1 => ?_)
      obtain ⟨r4689, rfl, hs1, hG, hf1⟩ := hp
      have f4691 : fld g4690 0 13 = .ref (ad lw) := (hf1.1 0 13 (by omega)).trans f4681
      have f4692 : fld g4690 0 14 = .ref (ad lwn) := (hf1.1 0 14 (by omega)).trans f4682
      have f4693 : fld g4690 1 1 = .int x4687 := (hf1.1 1 1 (by omega)).trans fx4687
      have hW : WS ad cA (fun i k => (i = 1 ∧ (k = 1)) ∨ (i = 79 ∧ (k = 1 ∨ k = 2 ∨ k = 3 ∨ k = 4)) ∨ (i = lwn ∧ (k = 6 ∨ k = 7)) ∨ i = (lwn + 1) ∨ i = (lwn + 2) ∨ i = (lwn + 3) ∨ i = (lwn + 4) ∨ i = (lwn + 5) ∨ (i = 0 ∧ (k = 13 ∨ k = 14))) g0 K g4690 H locs := ⟨hW1, hs1, hW.2.2.tr hf1 (fun i k h => h.elim (fun h => (Or.inr (Or.inl h))) (fun h => h.elim (fun h => (Or.inr (Or.inr (Or.inl h)))) (fun h => h.elim (fun h => (Or.inr (Or.inr (Or.inr (Or.inl h))))) (fun h => h.elim (fun h => (Or.inr (Or.inr (Or.inr (Or.inr (Or.inl h)))))) (fun h => h.elim (fun h => (Or.inr (Or.inr (Or.inr (Or.inr (Or.inr (Or.inl h))))))) (fun h => h.elim (fun h => (Or.inr (Or.inr (Or.inr (Or.inr (Or.inr (Or.inr (Or.inl h)))))))) (fun h => (Or.inr (Or.inr (Or.inr (Or.inr (Or.inr (Or.inr (Or.inr (Or.inl h)))))))))))))))⟩
      refine q_istore_n (lv9 := [(2, .int r4689), (0, .ref (ad 0)), (1, .int a)]) hM dX11_law_36 hl (by decide) rfl (fun ls hl => ?_)
      refine q_aload_n hM dX11_law_37 (lv_at hl 1 rfl) ?_
      refine w_get (v := .ref (ad 1)) hM hW FG_X11_10 lb_0 (rf_0_0 hW.2.1) dX11_law_38 ?_
      refine q_iconst (v := (0 : Int32)) hM dX11_law_41 (by decide) ?_
      refine w_put hM hW FP_X11_139 lb_1 (by omega) (Or.inl ⟨_, rfl⟩) rfl rfl dX11_law_42 (fun g4694 H locs hW e1 e2 => ?_)
      have f4695 : fld g4694 0 13 = .ref (ad lw) := (e2.1 0 13 (by unfold Only; omega)).trans f4691
      have f4696 : fld g4694 0 14 = .ref (ad lwn) := (e2.1 0 14 (by unfold Only; omega)).trans f4692
      have f4697 : fld g4694 1 1 = .int (0 : Int32) := e1
      have hG := hG.put e1 e2 rF_1_1 (by decide) (by have := kc_0; have := i_rng (0 : Int32); omega) (by have := kc_0; have := i_rng (0 : Int32); omega)
      refine q_iload_n hM dX11_law_45 (lv_at hl 0 rfl) ?_
      refine q_if_le (tgt := 67) hM dX11_law_46 (by decide) (rfl : r4689.toInt = r4689.toInt) (fun h46 => ?_) (fun h46 => ?_)
      · refine q_iload_n hM dX11_law_67 (lv_at hl 0 rfl) ?_
        exact hE _ _ _ _ _ _ hW.1 ⟨_, rfl, hW.2.1, hG, hW.2.2, Or.inl ⟨f4695, f4696⟩⟩ dX11_law_68
      · refine q_aload_n hM dX11_law_49 (lv_at hl 1 rfl) ?_
        refine w_get (v := .ref (ad lw)) hM hW FG_X11_39 lb_0 f4695 dX11_law_50 ?_
        refine q_astore_n (lv9 := [(3, .ref (ad lw)), (2, .int r4689), (0, .ref (ad 0)), (1, .int a)]) hM dX11_law_53 hl (by decide) rfl (fun ls hl => ?_)
        refine q_aload_n hM dX11_law_54 (lv_at hl 2 rfl) ?_
        refine q_aload_n hM dX11_law_55 (lv_at hl 2 rfl) ?_
        refine w_get (v := .ref (ad lwn)) hM hW FG_X11_46 lb_0 f4696 dX11_law_56 ?_
        refine w_put hM hW FP_X11_39 lb_0 (by omega) (Or.inr (by decide)) rfl rfl dX11_law_59 (fun g4700 H locs hW e1 e2 => ?_)
        have f4701 : fld g4700 0 14 = .ref (ad lwn) := (e2.1 0 14 (by unfold Only; omega)).trans f4696
        have f4702 : fld g4700 1 1 = .int (0 : Int32) := (e2.1 1 1 (by unfold Only; omega)).trans f4697
        have f4703 : fld g4700 0 13 = .ref (ad lwn) := e1
        have hG := hG.putR e1 e2 (rfl : rF 0 13 = (-2147483648, 2147483647)) (by decide)
        refine q_aload_n hM dX11_law_62 (lv_at hl 2 rfl) ?_
        refine q_aload_n hM dX11_law_63 (lv_at hl 0 rfl) ?_
        refine w_put hM hW FP_X11_46 lb_0 (by omega) (Or.inr (by decide)) rfl rfl dX11_law_64 (fun g4704 H locs hW e1 e2 => ?_)
        have f4705 : fld g4704 1 1 = .int (0 : Int32) := (e2.1 1 1 (by unfold Only; omega)).trans f4702
        have f4706 : fld g4704 0 13 = .ref (ad lwn) := (e2.1 0 13 (by unfold Only; omega)).trans f4703
        have f4707 : fld g4704 0 14 = .ref (ad lw) := e1
        have hG := hG.putR e1 e2 (rfl : rF 0 14 = (-2147483648, 2147483647)) (by decide)
        refine q_iload_n hM dX11_law_67 (lv_at hl 1 rfl) ?_
        exact hE _ _ _ _ _ _ hW.1 ⟨_, rfl, hW.2.1, hG, hW.2.2, Or.inr ⟨f4706, f4707⟩⟩ dX11_law_68
    · refine q_iconst (v := ((-1) : Int32)) hM dX11_law_22 (by decide) ?_
      exact hE _ _ _ _ _ _ hW.1 ⟨_, rfl, hW.2.1, hG, hW.2.2, Or.inl ⟨f4681, f4682⟩⟩ dX11_law_23

theorem dX11_grade_0 : decode cX11_grade 0 = .ok (.iload_n 1, 1) := by decide +kernel
theorem dX11_grade_1 : decode cX11_grade 1 = .ok (.iconst 1, 1) := by decide +kernel
theorem dX11_grade_2 : decode cX11_grade 2 = .ok (.bipush 9, 2) := by decide +kernel
theorem dX11_grade_4 : decode cX11_grade 4 = .ok (.invokestatic 112, 3) := by decide +kernel
theorem dX11_grade_7 : decode cX11_grade 7 = .ok (.ifCond .eq 12, 3) := by decide +kernel
theorem dX11_grade_10 : decode cX11_grade 10 = .ok (.iload_n 2, 1) := by decide +kernel
theorem dX11_grade_11 : decode cX11_grade 11 = .ok (.iconst (-1), 1) := by decide +kernel
theorem dX11_grade_12 : decode cX11_grade 12 = .ok (.iconst 5, 1) := by decide +kernel
theorem dX11_grade_13 : decode cX11_grade 13 = .ok (.invokestatic 112, 3) := by decide +kernel
theorem dX11_grade_16 : decode cX11_grade 16 = .ok (.ifCond .ne 5, 3) := by decide +kernel
theorem dX11_grade_19 : decode cX11_grade 19 = .ok (.iconst 0, 1) := by decide +kernel
theorem dX11_grade_20 : decode cX11_grade 20 = .ok (.ireturn, 1) := by decide +kernel
theorem dX11_grade_21 : decode cX11_grade 21 = .ok (.aload_n 0, 1) := by decide +kernel
theorem dX11_grade_22 : decode cX11_grade 22 = .ok (.getfield 83, 3) := by decide +kernel
theorem dX11_grade_25 : decode cX11_grade 25 = .ok (.getfield 164, 3) := by decide +kernel
theorem dX11_grade_28 : decode cX11_grade 28 = .ok (.iload_n 1, 1) := by decide +kernel
theorem dX11_grade_29 : decode cX11_grade 29 = .ok (.iload_n 2, 1) := by decide +kernel
theorem dX11_grade_30 : decode cX11_grade 30 = .ok (.iastore, 1) := by decide +kernel
theorem dX11_grade_31 : decode cX11_grade 31 = .ok (.iconst 1, 1) := by decide +kernel
theorem dX11_grade_32 : decode cX11_grade 32 = .ok (.ireturn, 1) := by decide +kernel
theorem FG_X11_164 : FG RX11 164 2 11 2 := ⟨RX2, TX2, rfl, wX2, by decide, kAW (v_0_14 (List.mem_of_getElem? (i := 8) rfl)) rfl, rfl⟩
set_option maxRecDepth 100000 in
set_option maxHeartbeats 4000000 in
theorem p_X11_grade (l : Launch) (D : va_G) (cA : Nat → ClassId) (ad : Nat → Nat) (g0 : Nat → va_E) (a : Int32) (b : Int32)   (hSh : Shp ad cA g0) (hG : Rng g0) : CT l NN ad cA D yX11_grade cX11_grade 3 (some FieldType.boolean) (1, 22) [.ref (ad 0), .int a, .int b] g0 (fun v g' => ∃ (r : Int32), v = some (.int r) ∧ Shp ad cA g' ∧ Rng g' ∧ FR (fun i k => i = 82) g0 g' ∧ ((r.toInt = 1 ∧ 1 ≤ a.toInt ∧ a.toInt ≤ 9 ∧ -1 ≤ b.toInt ∧ b.toInt ≤ 5) ∨ (r.toInt = 0 ∧ ¬ (1 ≤ a.toInt ∧ a.toInt ≤ 9 ∧ -1 ≤ b.toInt ∧ b.toInt ≤ 5)))) := by
  refine q_enterZ (by decide) (Nat.le_of_ble_eq_true rfl) (fun K H locs ls _ _ hM hW0 hR hC hE hl => ?_)
  have hl : lv_has ls 3 [(0, .ref (ad 0)), (1, .int a), (2, .int b)] := hl
  have hW : WS ad cA (fun i k => i = 82) g0 K g0 H locs := ⟨hW0, hSh, FR.rf⟩
  have := kc_0
  have := kc_1
  have := kc_m1
  have := kc_m2
  refine q_iload_n hM dX11_grade_0 (lv_at hl 1 rfl) ?_
  refine q_iconst (v := (1 : Int32)) hM dX11_grade_1 (by decide) ?_
  refine q_bipush (v := (9 : Int32)) hM dX11_grade_2 (by decide) ?_
  refine q_callS (As := [.int a, .int (1 : Int32), .int (9 : Int32)]) (rest := []) hM hW.1 hR hC myX11_within (kAW (v_1_10 (List.mem_of_getElem? (i := 1) rfl)) rfl) (c_X11_within _ _ cA ad g0 a (1 : Int32) (9 : Int32) hW.2.1) ⟨by decide, by decide⟩ rfl rfl hl.1 (Nat.le_of_ble_eq_true rfl) dX11_grade_4 (fun v g4710 H locs hp hW1 => ?_)
  obtain ⟨r4709, rfl, hr4709, rfl⟩ := hp
  have hW : WS ad cA (fun i k => i = 82) g0 K g0 H locs := ⟨hW1, hW.2.1, hW.2.2⟩
  have := kc_1
  have := kc_9
  refine q_if_eq (tgt := 19) hM dX11_grade_7 (by decide) (rfl : r4709.toInt = r4709.toInt) (fun h7 => ?_) (fun h7 => ?_)
  · refine q_iconst (v := (0 : Int32)) hM dX11_grade_19 (by decide) ?_
    exact hE _ _ _ _ _ _ hW.1 nz_0 ⟨_, rfl, hW.2.1, hG, hW.2.2, (by have := kc_0; omega)⟩ dX11_grade_20
  · refine q_iload_n hM dX11_grade_10 (lv_at hl 2 rfl) ?_
    refine q_iconst (v := ((-1) : Int32)) hM dX11_grade_11 (by decide) ?_
    refine q_iconst (v := (5 : Int32)) hM dX11_grade_12 (by decide) ?_
    refine q_callS (As := [.int b, .int ((-1) : Int32), .int (5 : Int32)]) (rest := []) hM hW.1 hR hC myX11_within (kAW (v_1_10 (List.mem_of_getElem? (i := 1) rfl)) rfl) (c_X11_within _ _ cA ad g0 b ((-1) : Int32) (5 : Int32) hW.2.1) ⟨by decide, by decide⟩ rfl rfl hl.1 (Nat.le_of_ble_eq_true rfl) dX11_grade_13 (fun v g4714 H locs hp hW1 => ?_)
    obtain ⟨r4713, rfl, hr4713, rfl⟩ := hp
    have hW : WS ad cA (fun i k => i = 82) g0 K g0 H locs := ⟨hW1, hW.2.1, hW.2.2⟩
    have := kc_m1
    have := kc_5
    refine q_if_ne (tgt := 21) hM dX11_grade_16 (by decide) (rfl : r4713.toInt = r4713.toInt) (fun h16 => ?_) (fun h16 => ?_)
    · refine q_aload_n hM dX11_grade_21 (lv_at hl 0 rfl) ?_
      refine w_get (v := .ref (ad 80)) hM hW FG_X11_83 lb_0 (rf_0_2 hW.2.1) dX11_grade_22 ?_
      refine w_get (v := .ref (ad 82)) hM hW FG_X11_164 lb_80 (rf_80_2 hW.2.1) dX11_grade_25 ?_
      refine q_iload_n hM dX11_grade_28 (lv_at hl 1 rfl) ?_
      refine q_iload_n hM dX11_grade_29 (lv_at hl 2 rfl) ?_
      refine w_iast hM hW lb_82 (by omega) (i_in (by omega) (by omega)) dX11_grade_30 (fun g4716 H locs hW e1 e2 => ?_)
      have hG := hG.st e1 e2 (rfl : rA 82 = (-2147483648, 2147483647)) (by have := i_rng b; omega) (by have := i_rng b; omega)
      refine q_iconst (v := (1 : Int32)) hM dX11_grade_31 (by decide) ?_
      exact hE _ _ _ _ _ _ hW.1 nz_1 ⟨_, rfl, hW.2.1, hG, hW.2.2, (by have := kc_1; omega)⟩ dX11_grade_32
    · refine q_iconst (v := (0 : Int32)) hM dX11_grade_19 (by decide) ?_
      exact hE _ _ _ _ _ _ hW.1 nz_0 ⟨_, rfl, hW.2.1, hG, hW.2.2, (by have := kc_0; omega)⟩ dX11_grade_20

theorem dX11_exam_0 : decode cX11_exam 0 = .ok (.iload_n 1, 1) := by decide +kernel
theorem dX11_exam_1 : decode cX11_exam 1 = .ok (.iconst 0, 1) := by decide +kernel
theorem dX11_exam_2 : decode cX11_exam 2 = .ok (.sipush 4095, 3) := by decide +kernel
theorem dX11_exam_5 : decode cX11_exam 5 = .ok (.invokestatic 112, 3) := by decide +kernel
theorem dX11_exam_8 : decode cX11_exam 8 = .ok (.ifCond .eq 13, 3) := by decide +kernel
theorem dX11_exam_11 : decode cX11_exam 11 = .ok (.iload_n 2, 1) := by decide +kernel
theorem dX11_exam_12 : decode cX11_exam 12 = .ok (.iconst 0, 1) := by decide +kernel
theorem dX11_exam_13 : decode cX11_exam 13 = .ok (.bipush 12, 2) := by decide +kernel
theorem dX11_exam_15 : decode cX11_exam 15 = .ok (.invokestatic 112, 3) := by decide +kernel
theorem dX11_exam_18 : decode cX11_exam 18 = .ok (.ifCond .ne 5, 3) := by decide +kernel
theorem dX11_exam_21 : decode cX11_exam 21 = .ok (.iconst 0, 1) := by decide +kernel
theorem dX11_exam_22 : decode cX11_exam 22 = .ok (.ireturn, 1) := by decide +kernel
theorem dX11_exam_23 : decode cX11_exam 23 = .ok (.aload_n 0, 1) := by decide +kernel
theorem dX11_exam_24 : decode cX11_exam 24 = .ok (.getfield 83, 3) := by decide +kernel
theorem dX11_exam_27 : decode cX11_exam 27 = .ok (.iload_n 1, 1) := by decide +kernel
theorem dX11_exam_28 : decode cX11_exam 28 = .ok (.putfield 167, 3) := by decide +kernel
theorem dX11_exam_31 : decode cX11_exam 31 = .ok (.aload_n 0, 1) := by decide +kernel
theorem dX11_exam_32 : decode cX11_exam 32 = .ok (.getfield 83, 3) := by decide +kernel
theorem dX11_exam_35 : decode cX11_exam 35 = .ok (.iload_n 2, 1) := by decide +kernel
theorem dX11_exam_36 : decode cX11_exam 36 = .ok (.putfield 170, 3) := by decide +kernel
theorem dX11_exam_39 : decode cX11_exam 39 = .ok (.iconst 1, 1) := by decide +kernel
theorem dX11_exam_40 : decode cX11_exam 40 = .ok (.ireturn, 1) := by decide +kernel
theorem FP_X11_167 : FPX RX11 167 2 11 5 .int := ⟨⟨RX2, TX2, tyX2, rfl, wX2, by decide, kAW (v_0_14 (List.mem_of_getElem? (i := 13) rfl)) rfl, rfl, tyX2_ok, nmX2, by decide +kernel, rfl⟩, by decide +kernel⟩
theorem FP_X11_170 : FPX RX11 170 2 11 6 .int := ⟨⟨RX2, TX2, tyX2, rfl, wX2, by decide, kAW (v_0_14 (List.mem_of_getElem? (i := 15) rfl)) rfl, rfl, tyX2_ok, nmX2, by decide +kernel, rfl⟩, by decide +kernel⟩
set_option maxRecDepth 100000 in
set_option maxHeartbeats 4000000 in
theorem p_X11_exam (l : Launch) (D : va_G) (cA : Nat → ClassId) (ad : Nat → Nat) (g0 : Nat → va_E) (a : Int32) (b : Int32)   (hSh : Shp ad cA g0) (hG : Rng g0) : CT l NN ad cA D yX11_exam cX11_exam 3 (some FieldType.boolean) (1, 22) [.ref (ad 0), .int a, .int b] g0 (fun v g' => ∃ (r : Int32), v = some (.int r) ∧ Shp ad cA g' ∧ Rng g' ∧ FR (fun i k => (i = 80 ∧ (k = 5 ∨ k = 6))) g0 g' ∧ ((r.toInt = 1 ∧ 0 ≤ a.toInt ∧ a.toInt ≤ 4095 ∧ 0 ≤ b.toInt ∧ b.toInt ≤ 12) ∨ (r.toInt = 0 ∧ ¬ (0 ≤ a.toInt ∧ a.toInt ≤ 4095 ∧ 0 ≤ b.toInt ∧ b.toInt ≤ 12)))) := by
  refine q_enterZ (by decide) (Nat.le_of_ble_eq_true rfl) (fun K H locs ls _ _ hM hW0 hR hC hE hl => ?_)
  have hl : lv_has ls 3 [(0, .ref (ad 0)), (1, .int a), (2, .int b)] := hl
  have hW : WS ad cA (fun i k => (i = 80 ∧ (k = 5 ∨ k = 6))) g0 K g0 H locs := ⟨hW0, hSh, FR.rf⟩
  have := kc_0
  have := kc_1
  have := kc_m1
  have := kc_m2
  refine q_iload_n hM dX11_exam_0 (lv_at hl 1 rfl) ?_
  refine q_iconst (v := (0 : Int32)) hM dX11_exam_1 (by decide) ?_
  refine q_sipush (v := (4095 : Int32)) hM dX11_exam_2 (by decide) ?_
  refine q_callS (As := [.int a, .int (0 : Int32), .int (4095 : Int32)]) (rest := []) hM hW.1 hR hC myX11_within (kAW (v_1_10 (List.mem_of_getElem? (i := 1) rfl)) rfl) (c_X11_within _ _ cA ad g0 a (0 : Int32) (4095 : Int32) hW.2.1) ⟨by decide, by decide⟩ rfl rfl hl.1 (Nat.le_of_ble_eq_true rfl) dX11_exam_5 (fun v g4719 H locs hp hW1 => ?_)
  obtain ⟨r4718, rfl, hr4718, rfl⟩ := hp
  have hW : WS ad cA (fun i k => (i = 80 ∧ (k = 5 ∨ k = 6))) g0 K g0 H locs := ⟨hW1, hW.2.1, hW.2.2⟩
  have := kc_0
  have := kc_4095
  refine q_if_eq (tgt := 21) hM dX11_exam_8 (by decide) (rfl : r4718.toInt = r4718.toInt) (fun h8 => ?_) (fun h8 => ?_)
  · refine q_iconst (v := (0 : Int32)) hM dX11_exam_21 (by decide) ?_
    exact hE _ _ _ _ _ _ hW.1 nz_0 ⟨_, rfl, hW.2.1, hG, hW.2.2, (by have := kc_0; omega)⟩ dX11_exam_22
  · refine q_iload_n hM dX11_exam_11 (lv_at hl 2 rfl) ?_
    refine q_iconst (v := (0 : Int32)) hM dX11_exam_12 (by decide) ?_
    refine q_bipush (v := (12 : Int32)) hM dX11_exam_13 (by decide) ?_
    refine q_callS (As := [.int b, .int (0 : Int32), .int (12 : Int32)]) (rest := []) hM hW.1 hR hC myX11_within (kAW (v_1_10 (List.mem_of_getElem? (i := 1) rfl)) rfl) (c_X11_within _ _ cA ad g0 b (0 : Int32) (12 : Int32) hW.2.1) ⟨by decide, by decide⟩ rfl rfl hl.1 (Nat.le_of_ble_eq_true rfl) dX11_exam_15 (fun v g4723 H locs hp hW1 => ?_)
    obtain ⟨r4722, rfl, hr4722, rfl⟩ := hp
    have hW : WS ad cA (fun i k => (i = 80 ∧ (k = 5 ∨ k = 6))) g0 K g0 H locs := ⟨hW1, hW.2.1, hW.2.2⟩
    have := kc_0
    have := kc_12
    refine q_if_ne (tgt := 23) hM dX11_exam_18 (by decide) (rfl : r4722.toInt = r4722.toInt) (fun h18 => ?_) (fun h18 => ?_)
    · refine q_aload_n hM dX11_exam_23 (lv_at hl 0 rfl) ?_
      refine w_get (v := .ref (ad 80)) hM hW FG_X11_83 lb_0 (rf_0_2 hW.2.1) dX11_exam_24 ?_
      refine q_iload_n hM dX11_exam_27 (lv_at hl 1 rfl) ?_
      refine w_put hM hW FP_X11_167 lb_80 (by omega) (Or.inl ⟨_, rfl⟩) rfl rfl dX11_exam_28 (fun g4725 H locs hW e1 e2 => ?_)
      have f4726 : fld g4725 80 5 = .int a := e1
      have hG := hG.put e1 e2 (rfl : rF 80 5 = (-2147483648, 2147483647)) (by decide) (by have := i_rng a; omega) (by have := i_rng a; omega)
      refine q_aload_n hM dX11_exam_31 (lv_at hl 0 rfl) ?_
      refine w_get (v := .ref (ad 80)) hM hW FG_X11_83 lb_0 (rf_0_2 hW.2.1) dX11_exam_32 ?_
      refine q_iload_n hM dX11_exam_35 (lv_at hl 2 rfl) ?_
      refine w_put hM hW FP_X11_170 lb_80 (by omega) (Or.inl ⟨_, rfl⟩) rfl rfl dX11_exam_36 (fun g4727 H locs hW e1 e2 => ?_)
      have f4728 : fld g4727 80 5 = .int a := (e2.1 80 5 (by unfold Only; omega)).trans f4726
      have f4729 : fld g4727 80 6 = .int b := e1
      have hG := hG.put e1 e2 (rfl : rF 80 6 = (-2147483648, 2147483647)) (by decide) (by have := i_rng b; omega) (by have := i_rng b; omega)
      refine q_iconst (v := (1 : Int32)) hM dX11_exam_39 (by decide) ?_
      exact hE _ _ _ _ _ _ hW.1 nz_1 ⟨_, rfl, hW.2.1, hG, hW.2.2, (by have := kc_1; omega)⟩ dX11_exam_40
    · refine q_iconst (v := (0 : Int32)) hM dX11_exam_21 (by decide) ?_
      exact hE _ _ _ _ _ _ hW.1 nz_0 ⟨_, rfl, hW.2.1, hG, hW.2.2, (by have := kc_0; omega)⟩ dX11_exam_22

theorem dX11_weeks_0 : decode cX11_weeks 0 = .ok (.iload_n 1, 1) := by decide +kernel
theorem dX11_weeks_1 : decode cX11_weeks 1 = .ok (.iconst 1, 1) := by decide +kernel
theorem dX11_weeks_2 : decode cX11_weeks 2 = .ok (.bipush 60, 2) := by decide +kernel
theorem dX11_weeks_4 : decode cX11_weeks 4 = .ok (.invokestatic 112, 3) := by decide +kernel
theorem dX11_weeks_7 : decode cX11_weeks 7 = .ok (.ifCond .ne 5, 3) := by decide +kernel
theorem dX11_weeks_10 : decode cX11_weeks 10 = .ok (.iconst (-1), 1) := by decide +kernel
theorem dX11_weeks_11 : decode cX11_weeks 11 = .ok (.ireturn, 1) := by decide +kernel
theorem dX11_weeks_12 : decode cX11_weeks 12 = .ok (.aload_n 0, 1) := by decide +kernel
theorem dX11_weeks_13 : decode cX11_weeks 13 = .ok (.getfield 26, 3) := by decide +kernel
theorem dX11_weeks_16 : decode cX11_weeks 16 = .ok (.getfield 173, 3) := by decide +kernel
theorem dX11_weeks_19 : decode cX11_weeks 19 = .ok (.istore_n 2, 1) := by decide +kernel
theorem dX11_weeks_20 : decode cX11_weeks 20 = .ok (.aload_n 0, 1) := by decide +kernel
theorem dX11_weeks_21 : decode cX11_weeks 21 = .ok (.getfield 83, 3) := by decide +kernel
theorem dX11_weeks_24 : decode cX11_weeks 24 = .ok (.aload_n 0, 1) := by decide +kernel
theorem dX11_weeks_25 : decode cX11_weeks 25 = .ok (.getfield 39, 3) := by decide +kernel
theorem dX11_weeks_28 : decode cX11_weeks 28 = .ok (.aload_n 0, 1) := by decide +kernel
theorem dX11_weeks_29 : decode cX11_weeks 29 = .ok (.getfield 26, 3) := by decide +kernel
theorem dX11_weeks_32 : decode cX11_weeks 32 = .ok (.invokevirtual 176, 3) := by decide +kernel
theorem dX11_weeks_35 : decode cX11_weeks 35 = .ok (.aload_n 0, 1) := by decide +kernel
theorem dX11_weeks_36 : decode cX11_weeks 36 = .ok (.getfield 83, 3) := by decide +kernel
theorem dX11_weeks_39 : decode cX11_weeks 39 = .ok (.iload_n 1, 1) := by decide +kernel
theorem dX11_weeks_40 : decode cX11_weeks 40 = .ok (.invokevirtual 180, 3) := by decide +kernel
theorem dX11_weeks_43 : decode cX11_weeks 43 = .ok (.aload_n 0, 1) := by decide +kernel
theorem dX11_weeks_44 : decode cX11_weeks 44 = .ok (.getfield 26, 3) := by decide +kernel
theorem dX11_weeks_47 : decode cX11_weeks 47 = .ok (.getfield 173, 3) := by decide +kernel
theorem dX11_weeks_50 : decode cX11_weeks 50 = .ok (.iload_n 2, 1) := by decide +kernel
theorem dX11_weeks_51 : decode cX11_weeks 51 = .ok (.isub, 1) := by decide +kernel
theorem dX11_weeks_52 : decode cX11_weeks 52 = .ok (.ireturn, 1) := by decide +kernel
theorem myX2_go : MI yX2_go cX2_go 4 none 1 := ⟨kAW (v_2_10 (List.mem_of_getElem? (i := 2) rfl)) rfl, kAW (v_0_0 (List.mem_of_getElem? (i := 9) rfl)) rfl, kAW (v_2_10 (List.mem_of_getElem? (i := 0) rfl)) rfl, kAW (v_2_10 (List.mem_of_getElem? (i := 1) rfl)) rfl, by decide, by decide, by decide +kernel⟩
set_option maxRecDepth 100000 in
set_option maxHeartbeats 4000000 in
theorem p_X11_weeks (l : Launch) (D : va_G) (cA : Nat → ClassId) (ad : Nat → Nat) (g0 : Nat → va_E) (a : Int32)  (lw : Nat) (hSh : Shp ad cA g0) (hG : Rng g0) (hlw : isLw lw) (h_r13 : fld g0 0 13 = .ref (ad lw)) : CT l NN ad cA D yX11_weeks cX11_weeks 3 (some FieldType.int) (7, 167) [.ref (ad 0), .int a] g0 (fun v g' => ∃ (r : Int32), v = some (.int r) ∧ Shp ad cA g' ∧ Rng g' ∧ FR (fun i k => (i = 80 ∧ (k = 7 ∨ k = 8 ∨ k = 9 ∨ k = 10)) ∨ (22 ≤ i ∧ i < 30) ∨ i = 83 ∨ i = (lw + 6) ∨ (i = 18 ∧ (k = 4 ∨ k = 5 ∨ k = 6 ∨ k = 7)) ∨ (i = 80 ∧ (k = 7 ∨ k = 8)) ∨ i = 19) g0 g') := by
  refine q_enterI (by decide) (Nat.le_of_ble_eq_true rfl) rfl (fun K H locs ls _ _ hM hW0 hR hC hE hl => ?_)
  have hl : lv_has ls 3 [(0, .ref (ad 0)), (1, .int a)] := hl
  have hW : WS ad cA (fun i k => (i = 80 ∧ (k = 7 ∨ k = 8 ∨ k = 9 ∨ k = 10)) ∨ (22 ≤ i ∧ i < 30) ∨ i = 83 ∨ i = (lw + 6) ∨ (i = 18 ∧ (k = 4 ∨ k = 5 ∨ k = 6 ∨ k = 7)) ∨ (i = 80 ∧ (k = 7 ∨ k = 8)) ∨ i = 19) g0 K g0 H locs := ⟨hW0, hSh, FR.rf⟩
  have ulw := hlw
  unfold isLw at ulw
  have := kc_0
  have := kc_1
  have := kc_m1
  have := kc_m2
  refine q_iload_n hM dX11_weeks_0 (lv_at hl 1 rfl) ?_
  refine q_iconst (v := (1 : Int32)) hM dX11_weeks_1 (by decide) ?_
  refine q_bipush (v := (60 : Int32)) hM dX11_weeks_2 (by decide) ?_
  refine q_callS (As := [.int a, .int (1 : Int32), .int (60 : Int32)]) (rest := []) hM hW.1 hR hC myX11_within (kAW (v_1_10 (List.mem_of_getElem? (i := 1) rfl)) rfl) (c_X11_within _ _ cA ad g0 a (1 : Int32) (60 : Int32) hW.2.1) ⟨by decide, by decide⟩ rfl rfl hl.1 (Nat.le_of_ble_eq_true rfl) dX11_weeks_4 (fun v g4732 H locs hp hW1 => ?_)
  obtain ⟨r4731, rfl, hr4731, rfl⟩ := hp
  have hW : WS ad cA (fun i k => (i = 80 ∧ (k = 7 ∨ k = 8 ∨ k = 9 ∨ k = 10)) ∨ (22 ≤ i ∧ i < 30) ∨ i = 83 ∨ i = (lw + 6) ∨ (i = 18 ∧ (k = 4 ∨ k = 5 ∨ k = 6 ∨ k = 7)) ∨ (i = 80 ∧ (k = 7 ∨ k = 8)) ∨ i = 19) g0 K g0 H locs := ⟨hW1, hW.2.1, hW.2.2⟩
  have := kc_1
  have := kc_60
  refine q_if_ne (tgt := 12) hM dX11_weeks_7 (by decide) (rfl : r4731.toInt = r4731.toInt) (fun h7 => ?_) (fun h7 => ?_)
  · refine q_aload_n hM dX11_weeks_12 (lv_at hl 0 rfl) ?_
    refine w_get (v := .ref (ad 18)) hM hW FG_X11_26 lb_0 (rf_0_10 hW.2.1) dX11_weeks_13 ?_
    refine w_getI hM hW FG_X11_173 lb_18 (by decide) (by decide) dX11_weeks_16 (fun x4734 fx4734 => ?_)
    refine q_istore_n (lv9 := [(2, .int x4734), (0, .ref (ad 0)), (1, .int a)]) hM dX11_weeks_19 hl (by decide) rfl (fun ls hl => ?_)
    refine q_aload_n hM dX11_weeks_20 (lv_at hl 1 rfl) ?_
    refine w_get (v := .ref (ad 80)) hM hW FG_X11_83 lb_0 (rf_0_2 hW.2.1) dX11_weeks_21 ?_
    refine q_aload_n hM dX11_weeks_24 (lv_at hl 1 rfl) ?_
    refine w_get (v := .ref (ad lw)) hM hW FG_X11_39 lb_0 ((hW.2.2.1 0 13 (by omega)).trans h_r13) dX11_weeks_25 ?_
    refine q_aload_n hM dX11_weeks_28 (lv_at hl 1 rfl) ?_
    refine w_get (v := .ref (ad 18)) hM hW FG_X11_26 lb_0 (rf_0_10 hW.2.1) dX11_weeks_29 ?_
    refine q_callV (As := [.ref (ad lw), .ref (ad 18)]) (rest := []) hM hW.1 hR hC myX2_begin (kAW (v_2_9 (List.mem_of_getElem? (i := 11) rfl)) rfl) (rfl : vwCl[2]? = some (RX2, TX2, 11)) rfl lb_80.1 (shO hW.2.1 lb_80) (a_X2_begin _ _ cA ad g0 lw 18 hW.2.1 hG hlw (Or.inl rfl : isPb 18)) ⟨by decide, by decide⟩ rfl rfl hl.1 (Nat.le_of_ble_eq_true rfl) dX11_weeks_32 (fun v g4737 H locs hp hW1 => ?_)
    obtain ⟨rfl, hs1, hG, hf1, q4735, q4736⟩ := hp
    have f4738 : fld g4737 18 5 = .int x4734 := (hf1.1 18 5 (by omega)).trans fx4734
    have hW : WS ad cA (fun i k => (i = 80 ∧ (k = 7 ∨ k = 8 ∨ k = 9 ∨ k = 10)) ∨ (22 ≤ i ∧ i < 30) ∨ i = 83 ∨ i = (lw + 6) ∨ (i = 18 ∧ (k = 4 ∨ k = 5 ∨ k = 6 ∨ k = 7)) ∨ (i = 80 ∧ (k = 7 ∨ k = 8)) ∨ i = 19) g0 K g4737 H locs := ⟨hW1, hs1, hW.2.2.tr hf1 (fun i k h => (Or.inl h))⟩
    refine q_aload_n hM dX11_weeks_35 (lv_at hl 1 rfl) ?_
    refine w_get (v := .ref (ad 80)) hM hW FG_X11_83 lb_0 (rf_0_2 hW.2.1) dX11_weeks_36 ?_
    refine q_iload_n hM dX11_weeks_39 (lv_at hl 2 rfl) ?_
    refine q_callV (As := [.int a]) (rest := []) hM hW.1 hR hC myX2_go (kAW (v_2_9 (List.mem_of_getElem? (i := 15) rfl)) rfl) (rfl : vwCl[2]? = some (RX2, TX2, 11)) rfl lb_80.1 (shO hW.2.1 lb_80) (a_X2_go_18 _ _ cA ad g4737 a lw hW.2.1 hG hlw q4735 q4736) ⟨by decide, by decide⟩ rfl rfl hl.1 (Nat.le_of_ble_eq_true rfl) dX11_weeks_40 (fun v g4739 H locs hp hW1 => ?_)
    obtain ⟨rfl, hs1, hG, hf1⟩ := hp
    have f4740 : fld g4739 80 9 = .ref (ad lw) := (hf1.1 80 9 (by omega)).trans q4735
    have f4741 : fld g4739 80 10 = .ref (ad 18) := (hf1.1 80 10 (by omega)).trans q4736
    have hW : WS ad cA (fun i k => (i = 80 ∧ (k = 7 ∨ k = 8 ∨ k = 9 ∨ k = 10)) ∨ (22 ≤ i ∧ i < 30) ∨ i = 83 ∨ i = (lw + 6) ∨ (i = 18 ∧ (k = 4 ∨ k = 5 ∨ k = 6 ∨ k = 7)) ∨ (i = 80 ∧ (k = 7 ∨ k = 8)) ∨ i = 19) g0 K g4739 H locs := ⟨hW1, hs1, hW.2.2.tr hf1 (fun i k h => h.elim (fun h => (Or.inr (Or.inl h))) (fun h => h.elim (fun h => (Or.inr (Or.inr (Or.inl h)))) (fun h => h.elim (fun h => (Or.inr (Or.inr (Or.inr (Or.inl h))))) (fun h => h.elim (fun h => (Or.inr (Or.inr (Or.inr (Or.inr (Or.inl (by omega))))))) (fun h => h.elim (fun h => (Or.inl (by omega))) (fun h => h.elim (fun h => (Or.inr (Or.inr (Or.inr (Or.inr (Or.inr (Or.inr h))))))) (fun h => (Or.inr (Or.inr (Or.inr (Or.inr (Or.inl (by omega)))))))))))))⟩
    refine q_aload_n hM dX11_weeks_43 (lv_at hl 1 rfl) ?_
    refine w_get (v := .ref (ad 18)) hM hW FG_X11_26 lb_0 (rf_0_10 hW.2.1) dX11_weeks_44 ?_
    refine w_getI hM hW FG_X11_173 lb_18 (by decide) (by decide) dX11_weeks_47 (fun x4742 fx4742 => ?_)
    refine q_iload_n hM dX11_weeks_50 (lv_at hl 0 rfl) ?_
    refine q_isub hM dX11_weeks_51 (fun z4743 hz4743 => ?_)
    first | have tz4743 := i_subT hz4743 (rfl : x4742.toInt = x4742.toInt) (rfl : x4734.toInt = x4734.toInt) (by omega) (by omega) | skip
    exact hE _ _ _ _ _ _ hW.1 ⟨_, rfl, hW.2.1, hG, hW.2.2⟩ dX11_weeks_52
  · refine q_iconst (v := ((-1) : Int32)) hM dX11_weeks_10 (by decide) ?_
    exact hE _ _ _ _ _ _ hW.1 ⟨_, rfl, hW.2.1, hG, hW.2.2⟩ dX11_weeks_11

theorem dX11_tried_0 : decode cX11_tried 0 = .ok (.aload_n 0, 1) := by decide +kernel
theorem dX11_tried_1 : decode cX11_tried 1 = .ok (.iload_n 1, 1) := by decide +kernel
theorem dX11_tried_2 : decode cX11_tried 2 = .ok (.iload_n 2, 1) := by decide +kernel
theorem dX11_tried_3 : decode cX11_tried 3 = .ok (.invokevirtual 183, 3) := by decide +kernel
theorem dX11_tried_6 : decode cX11_tried 6 = .ok (.ifCond .ne 5, 3) := by decide +kernel
theorem dX11_tried_9 : decode cX11_tried 9 = .ok (.iconst (-1), 1) := by decide +kernel
theorem dX11_tried_10 : decode cX11_tried 10 = .ok (.ireturn, 1) := by decide +kernel
theorem dX11_tried_11 : decode cX11_tried 11 = .ok (.aload_n 0, 1) := by decide +kernel
theorem dX11_tried_12 : decode cX11_tried 12 = .ok (.aload_n 0, 1) := by decide +kernel
theorem dX11_tried_13 : decode cX11_tried 13 = .ok (.getfield 39, 3) := by decide +kernel
theorem dX11_tried_16 : decode cX11_tried 16 = .ok (.invokevirtual 186, 3) := by decide +kernel
theorem dX11_tried_19 : decode cX11_tried 19 = .ok (.aload_n 0, 1) := by decide +kernel
theorem dX11_tried_20 : decode cX11_tried 20 = .ok (.getfield 83, 3) := by decide +kernel
theorem dX11_tried_23 : decode cX11_tried 23 = .ok (.iload_n 1, 1) := by decide +kernel
theorem dX11_tried_24 : decode cX11_tried 24 = .ok (.invokevirtual 180, 3) := by decide +kernel
theorem dX11_tried_27 : decode cX11_tried 27 = .ok (.aload_n 0, 1) := by decide +kernel
theorem dX11_tried_28 : decode cX11_tried 28 = .ok (.iload_n 2, 1) := by decide +kernel
theorem dX11_tried_29 : decode cX11_tried 29 = .ok (.invokevirtual 190, 3) := by decide +kernel
theorem dX11_tried_32 : decode cX11_tried 32 = .ok (.ireturn, 1) := by decide +kernel
theorem myX11_canBeTried : MI yX11_canBeTried cX11_canBeTried 3 (some FieldType.boolean) 2 := ⟨kAW (v_3_0 (List.mem_of_getElem? (i := 4) rfl)) rfl, kAW (v_0_0 (List.mem_of_getElem? (i := 1) rfl)) rfl, kAW (v_3_0 (List.mem_of_getElem? (i := 3) rfl)) rfl, kAW (tp_t1 (List.mem_of_getElem? (i := 6) rfl)) rfl, by decide, by decide, by decide +kernel⟩
theorem myX11_beginTrial : MI yX11_beginTrial cX11_beginTrial 2 none 1 := ⟨kAW (v_3_0 (List.mem_of_getElem? (i := 8) rfl)) rfl, kAW (v_0_0 (List.mem_of_getElem? (i := 1) rfl)) rfl, kAW (v_3_0 (List.mem_of_getElem? (i := 7) rfl)) rfl, kAW (tp_t1 (List.mem_of_getElem? (i := 7) rfl)) rfl, by decide, by decide, by decide +kernel⟩
theorem myX11_trialTells : MI yX11_trialTells cX11_trialTells 2 (some FieldType.int) 1 := ⟨kAW (v_3_1 (List.mem_of_getElem? (i := 0) rfl)) rfl, kAW (v_0_0 (List.mem_of_getElem? (i := 1) rfl)) rfl, kAW (v_3_0 (List.mem_of_getElem? (i := 15) rfl)) rfl, kAW (tp_t1 (List.mem_of_getElem? (i := 8) rfl)) rfl, by decide, by decide, by decide +kernel⟩
set_option maxRecDepth 100000 in
set_option maxHeartbeats 4000000 in
theorem p_X11_tried (l : Launch) (D : va_G) (cA : Nat → ClassId) (ad : Nat → Nat) (g0 : Nat → va_E) (a : Int32) (b : Int32)  (lw : Nat) (hSh : Shp ad cA g0) (hG : Rng g0) (hlw : isLw lw) (h_r13 : fld g0 0 13 = .ref (ad lw)) : CT l NN ad cA D yX11_tried cX11_tried 3 (some FieldType.int) (7, 167) [.ref (ad 0), .int a, .int b] g0 (fun v g' => ∃ (r : Int32), v = some (.int r) ∧ Shp ad cA g' ∧ Rng g' ∧ FR (fun i k => i = 43 ∨ i = 44 ∨ (46 ≤ i ∧ i < 54) ∨ (i = 42 ∧ (k = 3 ∨ k = 4 ∨ k = 5 ∨ k = 6 ∨ k = 7)) ∨ (i = 80 ∧ (k = 7 ∨ k = 8 ∨ k = 9 ∨ k = 10)) ∨ (46 ≤ i ∧ i < 54) ∨ i = 83 ∨ i = (lw + 6) ∨ (i = 42 ∧ (k = 4 ∨ k = 5 ∨ k = 6 ∨ k = 7)) ∨ (i = 80 ∧ (k = 7 ∨ k = 8)) ∨ i = 43) g0 g') := by
  refine q_enterI (by decide) (Nat.le_of_ble_eq_true rfl) rfl (fun K H locs ls _ _ hM hW0 hR hC hE hl => ?_)
  have hl : lv_has ls 3 [(0, .ref (ad 0)), (1, .int a), (2, .int b)] := hl
  have hW : WS ad cA (fun i k => i = 43 ∨ i = 44 ∨ (46 ≤ i ∧ i < 54) ∨ (i = 42 ∧ (k = 3 ∨ k = 4 ∨ k = 5 ∨ k = 6 ∨ k = 7)) ∨ (i = 80 ∧ (k = 7 ∨ k = 8 ∨ k = 9 ∨ k = 10)) ∨ (46 ≤ i ∧ i < 54) ∨ i = 83 ∨ i = (lw + 6) ∨ (i = 42 ∧ (k = 4 ∨ k = 5 ∨ k = 6 ∨ k = 7)) ∨ (i = 80 ∧ (k = 7 ∨ k = 8)) ∨ i = 43) g0 K g0 H locs := ⟨hW0, hSh, FR.rf⟩
  have ulw := hlw
  unfold isLw at ulw
  have := kc_0
  have := kc_1
  have := kc_m1
  have := kc_m2
  refine q_aload_n hM dX11_tried_0 (lv_at hl 0 rfl) ?_
  refine q_iload_n hM dX11_tried_1 (lv_at hl 1 rfl) ?_
  refine q_iload_n hM dX11_tried_2 (lv_at hl 2 rfl) ?_
  refine q_callV (As := [.int a, .int b]) (rest := []) hM hW.1 hR hC myX11_canBeTried (kAW (v_3_0 (List.mem_of_getElem? (i := 1) rfl)) rfl) (rfl : vwCl[11]? = some (RX11, TX11, 16)) rfl lb_0.1 (shO hW.2.1 lb_0) (a_X11_canBeTried _ _ cA ad g0 a b hW.2.1 hG) ⟨by decide, by decide⟩ rfl rfl hl.1 (Nat.le_of_ble_eq_true rfl) dX11_tried_3 (fun v g4746 H locs hp hW1 => ?_)
  obtain ⟨r4745, rfl, hr4745, rfl⟩ := hp
  have hW : WS ad cA (fun i k => i = 43 ∨ i = 44 ∨ (46 ≤ i ∧ i < 54) ∨ (i = 42 ∧ (k = 3 ∨ k = 4 ∨ k = 5 ∨ k = 6 ∨ k = 7)) ∨ (i = 80 ∧ (k = 7 ∨ k = 8 ∨ k = 9 ∨ k = 10)) ∨ (46 ≤ i ∧ i < 54) ∨ i = 83 ∨ i = (lw + 6) ∨ (i = 42 ∧ (k = 4 ∨ k = 5 ∨ k = 6 ∨ k = 7)) ∨ (i = 80 ∧ (k = 7 ∨ k = 8)) ∨ i = 43) g0 K g0 H locs := ⟨hW1, hW.2.1, hW.2.2⟩
  refine q_if_ne (tgt := 11) hM dX11_tried_6 (by decide) (rfl : r4745.toInt = r4745.toInt) (fun h6 => ?_) (fun h6 => ?_)
  · refine q_aload_n hM dX11_tried_11 (lv_at hl 0 rfl) ?_
    refine q_aload_n hM dX11_tried_12 (lv_at hl 0 rfl) ?_
    refine w_get (v := .ref (ad lw)) hM hW FG_X11_39 lb_0 ((hW.2.2.1 0 13 (by omega)).trans h_r13) dX11_tried_13 ?_
    refine q_callV (As := [.ref (ad lw)]) (rest := []) hM hW.1 hR hC myX11_beginTrial (kAW (v_3_0 (List.mem_of_getElem? (i := 5) rfl)) rfl) (rfl : vwCl[11]? = some (RX11, TX11, 16)) rfl lb_0.1 (shO hW.2.1 lb_0) (a_X11_beginTrial _ _ cA ad g0 lw hW.2.1 hG hlw) ⟨by decide, by decide⟩ rfl rfl hl.1 (Nat.le_of_ble_eq_true rfl) dX11_tried_16 (fun v g4750 H locs hp hW1 => ?_)
    obtain ⟨rfl, hs1, hG, hf1, q4748, q4749⟩ := hp
    have hW : WS ad cA (fun i k => i = 43 ∨ i = 44 ∨ (46 ≤ i ∧ i < 54) ∨ (i = 42 ∧ (k = 3 ∨ k = 4 ∨ k = 5 ∨ k = 6 ∨ k = 7)) ∨ (i = 80 ∧ (k = 7 ∨ k = 8 ∨ k = 9 ∨ k = 10)) ∨ (46 ≤ i ∧ i < 54) ∨ i = 83 ∨ i = (lw + 6) ∨ (i = 42 ∧ (k = 4 ∨ k = 5 ∨ k = 6 ∨ k = 7)) ∨ (i = 80 ∧ (k = 7 ∨ k = 8)) ∨ i = 43) g0 K g4750 H locs := ⟨hW1, hs1, hW.2.2.tr hf1 (fun i k h => h.elim (fun h => (Or.inl h)) (fun h => h.elim (fun h => (Or.inr (Or.inl h))) (fun h => h.elim (fun h => (Or.inr (Or.inr (Or.inl h)))) (fun h => h.elim (fun h => (Or.inr (Or.inr (Or.inr (Or.inl h))))) (fun h => (Or.inr (Or.inr (Or.inr (Or.inr (Or.inl h))))))))))⟩
    refine q_aload_n hM dX11_tried_19 (lv_at hl 0 rfl) ?_
    refine w_get (v := .ref (ad 80)) hM hW FG_X11_83 lb_0 (rf_0_2 hW.2.1) dX11_tried_20 ?_
    refine q_iload_n hM dX11_tried_23 (lv_at hl 1 rfl) ?_
    refine q_callV (As := [.int a]) (rest := []) hM hW.1 hR hC myX2_go (kAW (v_2_9 (List.mem_of_getElem? (i := 15) rfl)) rfl) (rfl : vwCl[2]? = some (RX2, TX2, 11)) rfl lb_80.1 (shO hW.2.1 lb_80) (a_X2_go_42 _ _ cA ad g4750 a lw hW.2.1 hG hlw q4748 q4749) ⟨by decide, by decide⟩ rfl rfl hl.1 (Nat.le_of_ble_eq_true rfl) dX11_tried_24 (fun v g4751 H locs hp hW1 => ?_)
    obtain ⟨rfl, hs1, hG, hf1⟩ := hp
    have f4752 : fld g4751 80 9 = .ref (ad lw) := (hf1.1 80 9 (by omega)).trans q4748
    have f4753 : fld g4751 80 10 = .ref (ad 42) := (hf1.1 80 10 (by omega)).trans q4749
    have hW : WS ad cA (fun i k => i = 43 ∨ i = 44 ∨ (46 ≤ i ∧ i < 54) ∨ (i = 42 ∧ (k = 3 ∨ k = 4 ∨ k = 5 ∨ k = 6 ∨ k = 7)) ∨ (i = 80 ∧ (k = 7 ∨ k = 8 ∨ k = 9 ∨ k = 10)) ∨ (46 ≤ i ∧ i < 54) ∨ i = 83 ∨ i = (lw + 6) ∨ (i = 42 ∧ (k = 4 ∨ k = 5 ∨ k = 6 ∨ k = 7)) ∨ (i = 80 ∧ (k = 7 ∨ k = 8)) ∨ i = 43) g0 K g4751 H locs := ⟨hW1, hs1, hW.2.2.tr hf1 (fun i k h => h.elim (fun h => (Or.inr (Or.inr (Or.inl h)))) (fun h => h.elim (fun h => (Or.inr (Or.inr (Or.inr (Or.inr (Or.inr (Or.inr (Or.inl h)))))))) (fun h => h.elim (fun h => (Or.inr (Or.inr (Or.inr (Or.inr (Or.inr (Or.inr (Or.inr (Or.inl h))))))))) (fun h => h.elim (fun h => (Or.inr (Or.inr (Or.inr (Or.inl (by omega)))))) (fun h => h.elim (fun h => (Or.inr (Or.inr (Or.inr (Or.inr (Or.inl (by omega))))))) (fun h => h.elim (fun h => (Or.inl h)) (fun h => (Or.inr (Or.inr (Or.inr (Or.inl (by omega))))))))))))⟩
    refine q_aload_n hM dX11_tried_27 (lv_at hl 0 rfl) ?_
    refine q_iload_n hM dX11_tried_28 (lv_at hl 2 rfl) ?_
    refine q_callV (As := [.int b]) (rest := []) hM hW.1 hR hC myX11_trialTells (kAW (v_3_0 (List.mem_of_getElem? (i := 13) rfl)) rfl) (rfl : vwCl[11]? = some (RX11, TX11, 16)) rfl lb_0.1 (shO hW.2.1 lb_0) (a_X11_trialTells _ _ cA ad g4751 b hW.2.1 hG) ⟨by decide, by decide⟩ rfl rfl hl.1 (Nat.le_of_ble_eq_true rfl) dX11_tried_29 (fun v g4755 H locs hp hW1 => ?_)
    obtain ⟨r4754, rfl, hs1, hG, hf1⟩ := hp
    have f4756 : fld g4755 80 9 = .ref (ad lw) := (hf1.1 80 9 (fun h => h)).trans f4752
    have f4757 : fld g4755 80 10 = .ref (ad 42) := (hf1.1 80 10 (fun h => h)).trans f4753
    have hW : WS ad cA (fun i k => i = 43 ∨ i = 44 ∨ (46 ≤ i ∧ i < 54) ∨ (i = 42 ∧ (k = 3 ∨ k = 4 ∨ k = 5 ∨ k = 6 ∨ k = 7)) ∨ (i = 80 ∧ (k = 7 ∨ k = 8 ∨ k = 9 ∨ k = 10)) ∨ (46 ≤ i ∧ i < 54) ∨ i = 83 ∨ i = (lw + 6) ∨ (i = 42 ∧ (k = 4 ∨ k = 5 ∨ k = 6 ∨ k = 7)) ∨ (i = 80 ∧ (k = 7 ∨ k = 8)) ∨ i = 43) g0 K g4755 H locs := ⟨hW1, hs1, hW.2.2.tr hf1 (fun _ _ h => h.elim)⟩
    exact hE _ _ _ _ _ _ hW.1 ⟨_, rfl, hW.2.1, hG, hW.2.2⟩ dX11_tried_32
  · refine q_iconst (v := ((-1) : Int32)) hM dX11_tried_9 (by decide) ?_
    exact hE _ _ _ _ _ _ hW.1 ⟨_, rfl, hW.2.1, hG, hW.2.2⟩ dX11_tried_10

theorem dX11_other_0 : decode cX11_other 0 = .ok (.aload_n 0, 1) := by decide +kernel
theorem dX11_other_1 : decode cX11_other 1 = .ok (.iload_n 1, 1) := by decide +kernel
theorem dX11_other_2 : decode cX11_other 2 = .ok (.iload_n 2, 1) := by decide +kernel
theorem dX11_other_3 : decode cX11_other 3 = .ok (.invokevirtual 183, 3) := by decide +kernel
theorem dX11_other_6 : decode cX11_other 6 = .ok (.ifCond .ne 5, 3) := by decide +kernel
theorem dX11_other_9 : decode cX11_other 9 = .ok (.iconst (-1), 1) := by decide +kernel
theorem dX11_other_10 : decode cX11_other 10 = .ok (.ireturn, 1) := by decide +kernel
theorem dX11_other_11 : decode cX11_other 11 = .ok (.aload_n 0, 1) := by decide +kernel
theorem dX11_other_12 : decode cX11_other 12 = .ok (.aload_n 0, 1) := by decide +kernel
theorem dX11_other_13 : decode cX11_other 13 = .ok (.getfield 43, 3) := by decide +kernel
theorem dX11_other_16 : decode cX11_other 16 = .ok (.invokevirtual 186, 3) := by decide +kernel
theorem dX11_other_19 : decode cX11_other 19 = .ok (.aload_n 0, 1) := by decide +kernel
theorem dX11_other_20 : decode cX11_other 20 = .ok (.getfield 83, 3) := by decide +kernel
theorem dX11_other_23 : decode cX11_other 23 = .ok (.iload_n 1, 1) := by decide +kernel
theorem dX11_other_24 : decode cX11_other 24 = .ok (.invokevirtual 180, 3) := by decide +kernel
theorem dX11_other_27 : decode cX11_other 27 = .ok (.aload_n 0, 1) := by decide +kernel
theorem dX11_other_28 : decode cX11_other 28 = .ok (.iload_n 2, 1) := by decide +kernel
theorem dX11_other_29 : decode cX11_other 29 = .ok (.invokevirtual 190, 3) := by decide +kernel
theorem dX11_other_32 : decode cX11_other 32 = .ok (.ireturn, 1) := by decide +kernel
theorem FG_X11_43 : FG RX11 43 11 16 9 := ⟨RX11, TX11, rfl, wX11, by decide, kAW (v_1_7 (List.mem_of_getElem? (i := 5) rfl)) rfl, rfl⟩
set_option maxRecDepth 100000 in
set_option maxHeartbeats 4000000 in
theorem p_X11_other (l : Launch) (D : va_G) (cA : Nat → ClassId) (ad : Nat → Nat) (g0 : Nat → va_E) (a : Int32) (b : Int32)   (hSh : Shp ad cA g0) (hG : Rng g0) : CT l NN ad cA D yX11_other cX11_other 3 (some FieldType.int) (7, 167) [.ref (ad 0), .int a, .int b] g0 (fun v g' => ∃ (r : Int32), v = some (.int r) ∧ Shp ad cA g' ∧ Rng g' ∧ FR (fun i k => i = 43 ∨ i = 44 ∨ (46 ≤ i ∧ i < 54) ∨ (i = 42 ∧ (k = 3 ∨ k = 4 ∨ k = 5 ∨ k = 6 ∨ k = 7)) ∨ (i = 80 ∧ (k = 7 ∨ k = 8 ∨ k = 9 ∨ k = 10)) ∨ (46 ≤ i ∧ i < 54) ∨ i = 83 ∨ i = 67 ∨ (i = 42 ∧ (k = 4 ∨ k = 5 ∨ k = 6 ∨ k = 7)) ∨ (i = 80 ∧ (k = 7 ∨ k = 8)) ∨ i = 43) g0 g') := by
  refine q_enterI (by decide) (Nat.le_of_ble_eq_true rfl) rfl (fun K H locs ls _ _ hM hW0 hR hC hE hl => ?_)
  have hl : lv_has ls 3 [(0, .ref (ad 0)), (1, .int a), (2, .int b)] := hl
  have hW : WS ad cA (fun i k => i = 43 ∨ i = 44 ∨ (46 ≤ i ∧ i < 54) ∨ (i = 42 ∧ (k = 3 ∨ k = 4 ∨ k = 5 ∨ k = 6 ∨ k = 7)) ∨ (i = 80 ∧ (k = 7 ∨ k = 8 ∨ k = 9 ∨ k = 10)) ∨ (46 ≤ i ∧ i < 54) ∨ i = 83 ∨ i = 67 ∨ (i = 42 ∧ (k = 4 ∨ k = 5 ∨ k = 6 ∨ k = 7)) ∨ (i = 80 ∧ (k = 7 ∨ k = 8)) ∨ i = 43) g0 K g0 H locs := ⟨hW0, hSh, FR.rf⟩
  have := kc_0
  have := kc_1
  have := kc_m1
  have := kc_m2
  refine q_aload_n hM dX11_other_0 (lv_at hl 0 rfl) ?_
  refine q_iload_n hM dX11_other_1 (lv_at hl 1 rfl) ?_
  refine q_iload_n hM dX11_other_2 (lv_at hl 2 rfl) ?_
  refine q_callV (As := [.int a, .int b]) (rest := []) hM hW.1 hR hC myX11_canBeTried (kAW (v_3_0 (List.mem_of_getElem? (i := 1) rfl)) rfl) (rfl : vwCl[11]? = some (RX11, TX11, 16)) rfl lb_0.1 (shO hW.2.1 lb_0) (a_X11_canBeTried _ _ cA ad g0 a b hW.2.1 hG) ⟨by decide, by decide⟩ rfl rfl hl.1 (Nat.le_of_ble_eq_true rfl) dX11_other_3 (fun v g4760 H locs hp hW1 => ?_)
  obtain ⟨r4759, rfl, hr4759, rfl⟩ := hp
  have hW : WS ad cA (fun i k => i = 43 ∨ i = 44 ∨ (46 ≤ i ∧ i < 54) ∨ (i = 42 ∧ (k = 3 ∨ k = 4 ∨ k = 5 ∨ k = 6 ∨ k = 7)) ∨ (i = 80 ∧ (k = 7 ∨ k = 8 ∨ k = 9 ∨ k = 10)) ∨ (46 ≤ i ∧ i < 54) ∨ i = 83 ∨ i = 67 ∨ (i = 42 ∧ (k = 4 ∨ k = 5 ∨ k = 6 ∨ k = 7)) ∨ (i = 80 ∧ (k = 7 ∨ k = 8)) ∨ i = 43) g0 K g0 H locs := ⟨hW1, hW.2.1, hW.2.2⟩
  refine q_if_ne (tgt := 11) hM dX11_other_6 (by decide) (rfl : r4759.toInt = r4759.toInt) (fun h6 => ?_) (fun h6 => ?_)
  · refine q_aload_n hM dX11_other_11 (lv_at hl 0 rfl) ?_
    refine q_aload_n hM dX11_other_12 (lv_at hl 0 rfl) ?_
    refine w_get (v := .ref (ad 61)) hM hW FG_X11_43 lb_0 (rf_0_9 hW.2.1) dX11_other_13 ?_
    refine q_callV (As := [.ref (ad 61)]) (rest := []) hM hW.1 hR hC myX11_beginTrial (kAW (v_3_0 (List.mem_of_getElem? (i := 5) rfl)) rfl) (rfl : vwCl[11]? = some (RX11, TX11, 16)) rfl lb_0.1 (shO hW.2.1 lb_0) (a_X11_beginTrial _ _ cA ad g0 61 hW.2.1 hG (Or.inr (Or.inl rfl) : isLw 61)) ⟨by decide, by decide⟩ rfl rfl hl.1 (Nat.le_of_ble_eq_true rfl) dX11_other_16 (fun v g4764 H locs hp hW1 => ?_)
    obtain ⟨rfl, hs1, hG, hf1, q4762, q4763⟩ := hp
    have hW : WS ad cA (fun i k => i = 43 ∨ i = 44 ∨ (46 ≤ i ∧ i < 54) ∨ (i = 42 ∧ (k = 3 ∨ k = 4 ∨ k = 5 ∨ k = 6 ∨ k = 7)) ∨ (i = 80 ∧ (k = 7 ∨ k = 8 ∨ k = 9 ∨ k = 10)) ∨ (46 ≤ i ∧ i < 54) ∨ i = 83 ∨ i = 67 ∨ (i = 42 ∧ (k = 4 ∨ k = 5 ∨ k = 6 ∨ k = 7)) ∨ (i = 80 ∧ (k = 7 ∨ k = 8)) ∨ i = 43) g0 K g4764 H locs := ⟨hW1, hs1, hW.2.2.tr hf1 (fun i k h => h.elim (fun h => (Or.inl h)) (fun h => h.elim (fun h => (Or.inr (Or.inl h))) (fun h => h.elim (fun h => (Or.inr (Or.inr (Or.inl h)))) (fun h => h.elim (fun h => (Or.inr (Or.inr (Or.inr (Or.inl h))))) (fun h => (Or.inr (Or.inr (Or.inr (Or.inr (Or.inl h))))))))))⟩
    refine q_aload_n hM dX11_other_19 (lv_at hl 0 rfl) ?_
    refine w_get (v := .ref (ad 80)) hM hW FG_X11_83 lb_0 (rf_0_2 hW.2.1) dX11_other_20 ?_
    refine q_iload_n hM dX11_other_23 (lv_at hl 1 rfl) ?_
    refine q_callV (As := [.int a]) (rest := []) hM hW.1 hR hC myX2_go (kAW (v_2_9 (List.mem_of_getElem? (i := 15) rfl)) rfl) (rfl : vwCl[2]? = some (RX2, TX2, 11)) rfl lb_80.1 (shO hW.2.1 lb_80) (a_X2_go_42 _ _ cA ad g4764 a 61 hW.2.1 hG (Or.inr (Or.inl rfl) : isLw 61) q4762 q4763) ⟨by decide, by decide⟩ rfl rfl hl.1 (Nat.le_of_ble_eq_true rfl) dX11_other_24 (fun v g4765 H locs hp hW1 => ?_)
    obtain ⟨rfl, hs1, hG, hf1⟩ := hp
    have hW : WS ad cA (fun i k => i = 43 ∨ i = 44 ∨ (46 ≤ i ∧ i < 54) ∨ (i = 42 ∧ (k = 3 ∨ k = 4 ∨ k = 5 ∨ k = 6 ∨ k = 7)) ∨ (i = 80 ∧ (k = 7 ∨ k = 8 ∨ k = 9 ∨ k = 10)) ∨ (46 ≤ i ∧ i < 54) ∨ i = 83 ∨ i = 67 ∨ (i = 42 ∧ (k = 4 ∨ k = 5 ∨ k = 6 ∨ k = 7)) ∨ (i = 80 ∧ (k = 7 ∨ k = 8)) ∨ i = 43) g0 K g4765 H locs := ⟨hW1, hs1, hW.2.2.tr hf1 (fun i k h => h.elim (fun h => (Or.inr (Or.inr (Or.inl h)))) (fun h => h.elim (fun h => (Or.inr (Or.inr (Or.inr (Or.inr (Or.inr (Or.inr (Or.inl h)))))))) (fun h => h.elim (fun h => (by omega)) (fun h => h.elim (fun h => (Or.inr (Or.inr (Or.inr (Or.inl (by omega)))))) (fun h => h.elim (fun h => (Or.inr (Or.inr (Or.inr (Or.inr (Or.inl (by omega))))))) (fun h => h.elim (fun h => (Or.inl h)) (fun h => (Or.inr (Or.inr (Or.inr (Or.inl (by omega))))))))))))⟩
    refine q_aload_n hM dX11_other_27 (lv_at hl 0 rfl) ?_
    refine q_iload_n hM dX11_other_28 (lv_at hl 2 rfl) ?_
    refine q_callV (As := [.int b]) (rest := []) hM hW.1 hR hC myX11_trialTells (kAW (v_3_0 (List.mem_of_getElem? (i := 13) rfl)) rfl) (rfl : vwCl[11]? = some (RX11, TX11, 16)) rfl lb_0.1 (shO hW.2.1 lb_0) (a_X11_trialTells _ _ cA ad g4765 b hW.2.1 hG) ⟨by decide, by decide⟩ rfl rfl hl.1 (Nat.le_of_ble_eq_true rfl) dX11_other_29 (fun v g4767 H locs hp hW1 => ?_)
    obtain ⟨r4766, rfl, hs1, hG, hf1⟩ := hp
    have hW : WS ad cA (fun i k => i = 43 ∨ i = 44 ∨ (46 ≤ i ∧ i < 54) ∨ (i = 42 ∧ (k = 3 ∨ k = 4 ∨ k = 5 ∨ k = 6 ∨ k = 7)) ∨ (i = 80 ∧ (k = 7 ∨ k = 8 ∨ k = 9 ∨ k = 10)) ∨ (46 ≤ i ∧ i < 54) ∨ i = 83 ∨ i = 67 ∨ (i = 42 ∧ (k = 4 ∨ k = 5 ∨ k = 6 ∨ k = 7)) ∨ (i = 80 ∧ (k = 7 ∨ k = 8)) ∨ i = 43) g0 K g4767 H locs := ⟨hW1, hs1, hW.2.2.tr hf1 (fun _ _ h => h.elim)⟩
    exact hE _ _ _ _ _ _ hW.1 ⟨_, rfl, hW.2.1, hG, hW.2.2⟩ dX11_other_32
  · refine q_iconst (v := ((-1) : Int32)) hM dX11_other_9 (by decide) ?_
    exact hE _ _ _ _ _ _ hW.1 ⟨_, rfl, hW.2.1, hG, hW.2.2⟩ dX11_other_10

theorem dX11_copy_0 : decode cX11_copy 0 = .ok (.aload_n 0, 1) := by decide +kernel
theorem dX11_copy_1 : decode cX11_copy 1 = .ok (.getfield 43, 3) := by decide +kernel
theorem dX11_copy_4 : decode cX11_copy 4 = .ok (.aload_n 0, 1) := by decide +kernel
theorem dX11_copy_5 : decode cX11_copy 5 = .ok (.getfield 39, 3) := by decide +kernel
theorem dX11_copy_8 : decode cX11_copy 8 = .ok (.invokevirtual 194, 3) := by decide +kernel
theorem dX11_copy_11 : decode cX11_copy 11 = .ok (.aload_n 0, 1) := by decide +kernel
theorem dX11_copy_12 : decode cX11_copy 12 = .ok (.getfield 43, 3) := by decide +kernel
theorem dX11_copy_15 : decode cX11_copy 15 = .ok (.getfield 196, 3) := by decide +kernel
theorem dX11_copy_18 : decode cX11_copy 18 = .ok (.ireturn, 1) := by decide +kernel
theorem myX3_become : MI yX3_become cX3_become 3 none 1 := ⟨kAW (v_3_2 (List.mem_of_getElem? (i := 3) rfl)) rfl, kAW (v_0_0 (List.mem_of_getElem? (i := 5) rfl)) rfl, kAW (v_3_2 (List.mem_of_getElem? (i := 1) rfl)) rfl, kAW (v_3_2 (List.mem_of_getElem? (i := 2) rfl)) rfl, by decide, by decide, by decide +kernel⟩
theorem FG_X11_196 : FG RX11 196 3 8 6 := ⟨RX3, TX3, rfl, wX3, by decide, kAW (v_0_8 (List.mem_of_getElem? (i := 5) rfl)) rfl, rfl⟩
set_option maxRecDepth 100000 in
set_option maxHeartbeats 4000000 in
theorem p_X11_copy (l : Launch) (D : va_G) (cA : Nat → ClassId) (ad : Nat → Nat) (g0 : Nat → va_E)   (lw : Nat) (hSh : Shp ad cA g0) (hG : Rng g0) (hlw : isLw lw) (h_r13 : fld g0 0 13 = .ref (ad lw)) : CT l NN ad cA D yX11_copy cX11_copy 1 (some FieldType.int) (1, 22) [.ref (ad 0)] g0 (fun v g' => ∃ (r : Int32), v = some (.int r) ∧ Shp ad cA g' ∧ Rng g' ∧ FR (fun i k => (i = 61 ∧ (k = 6 ∨ k = 7)) ∨ (62 ≤ i ∧ i < 67)) g0 g') := by
  refine q_enterI (by decide) (Nat.le_of_ble_eq_true rfl) rfl (fun K H locs ls _ _ hM hW0 hR hC hE hl => ?_)
  have hl : lv_has ls 1 [(0, .ref (ad 0))] := hl
  have hW : WS ad cA (fun i k => (i = 61 ∧ (k = 6 ∨ k = 7)) ∨ (62 ≤ i ∧ i < 67)) g0 K g0 H locs := ⟨hW0, hSh, FR.rf⟩
  have ulw := hlw
  unfold isLw at ulw
  have := kc_0
  have := kc_1
  have := kc_m1
  have := kc_m2
  refine q_aload_n hM dX11_copy_0 (lv_at hl 0 rfl) ?_
  refine w_get (v := .ref (ad 61)) hM hW FG_X11_43 lb_0 (rf_0_9 hW.2.1) dX11_copy_1 ?_
  refine q_aload_n hM dX11_copy_4 (lv_at hl 0 rfl) ?_
  refine w_get (v := .ref (ad lw)) hM hW FG_X11_39 lb_0 ((hW.2.2.1 0 13 (by omega)).trans h_r13) dX11_copy_5 ?_
  refine q_callV (As := [.ref (ad lw)]) (rest := []) hM hW.1 hR hC myX3_become (kAW (v_3_2 (List.mem_of_getElem? (i := 0) rfl)) rfl) (rfl : vwCl[3]? = some (RX3, TX3, 8)) rfl lb_61.1 (shO hW.2.1 lb_61) (a_X3_become _ _ cA ad g0 lw hW.2.1 hG hlw) ⟨by decide, by decide⟩ rfl rfl hl.1 (Nat.le_of_ble_eq_true rfl) dX11_copy_8 (fun v g4769 H locs hp hW1 => ?_)
  obtain ⟨rfl, hs1, hG, hf1⟩ := hp
  have hW : WS ad cA (fun i k => (i = 61 ∧ (k = 6 ∨ k = 7)) ∨ (62 ≤ i ∧ i < 67)) g0 K g4769 H locs := ⟨hW1, hs1, hW.2.2.tr hf1 (fun i k h => h.elim (fun h => (Or.inl h)) (fun h => (Or.inr h)))⟩
  refine q_aload_n hM dX11_copy_11 (lv_at hl 0 rfl) ?_
  refine w_get (v := .ref (ad 61)) hM hW FG_X11_43 lb_0 (rf_0_9 hW.2.1) dX11_copy_12 ?_
  refine w_getI hM hW FG_X11_196 lb_61 (by decide) (by decide) dX11_copy_15 (fun x4770 fx4770 => ?_)
  have bx4770 := hG.f fx4770 rF_61_6 (by decide)
  exact hE _ _ _ _ _ _ hW.1 ⟨_, rfl, hW.2.1, hG, hW.2.2⟩ dX11_copy_18

theorem dX11_first_0 : decode cX11_first 0 = .ok (.iload_n 1, 1) := by decide +kernel
theorem dX11_first_1 : decode cX11_first 1 = .ok (.iconst 1, 1) := by decide +kernel
theorem dX11_first_2 : decode cX11_first 2 = .ok (.bipush 60, 2) := by decide +kernel
theorem dX11_first_4 : decode cX11_first 4 = .ok (.invokestatic 112, 3) := by decide +kernel
theorem dX11_first_7 : decode cX11_first 7 = .ok (.ifCond .eq 26, 3) := by decide +kernel
theorem dX11_first_10 : decode cX11_first 10 = .ok (.aload_n 0, 1) := by decide +kernel
theorem dX11_first_11 : decode cX11_first 11 = .ok (.getfield 19, 3) := by decide +kernel
theorem dX11_first_14 : decode cX11_first 14 = .ok (.getfield 116, 3) := by decide +kernel
theorem dX11_first_17 : decode cX11_first 17 = .ok (.iload_n 2, 1) := by decide +kernel
theorem dX11_first_18 : decode cX11_first 18 = .ok (.invokestatic 123, 3) := by decide +kernel
theorem dX11_first_21 : decode cX11_first 21 = .ok (.ifCond .eq 12, 3) := by decide +kernel
theorem dX11_first_24 : decode cX11_first 24 = .ok (.iload_n 3, 1) := by decide +kernel
theorem dX11_first_25 : decode cX11_first 25 = .ok (.iconst 0, 1) := by decide +kernel
theorem dX11_first_26 : decode cX11_first 26 = .ok (.iconst 1, 1) := by decide +kernel
theorem dX11_first_27 : decode cX11_first 27 = .ok (.invokestatic 112, 3) := by decide +kernel
theorem dX11_first_30 : decode cX11_first 30 = .ok (.ifCond .ne 5, 3) := by decide +kernel
theorem dX11_first_33 : decode cX11_first 33 = .ok (.iconst (-1), 1) := by decide +kernel
theorem dX11_first_34 : decode cX11_first 34 = .ok (.ireturn, 1) := by decide +kernel
theorem dX11_first_35 : decode cX11_first 35 = .ok (.aload_n 0, 1) := by decide +kernel
theorem dX11_first_36 : decode cX11_first 36 = .ok (.aload_n 0, 1) := by decide +kernel
theorem dX11_first_37 : decode cX11_first 37 = .ok (.getfield 39, 3) := by decide +kernel
theorem dX11_first_40 : decode cX11_first 40 = .ok (.invokevirtual 186, 3) := by decide +kernel
theorem dX11_first_43 : decode cX11_first 43 = .ok (.iconst 1, 1) := by decide +kernel
theorem dX11_first_44 : decode cX11_first 44 = .ok (.istore 4, 2) := by decide +kernel
theorem dX11_first_46 : decode cX11_first 46 = .ok (.iload 4, 2) := by decide +kernel
theorem dX11_first_48 : decode cX11_first 48 = .ok (.iload_n 1, 1) := by decide +kernel
theorem dX11_first_49 : decode cX11_first 49 = .ok (.if_icmp .gt 90, 3) := by decide +kernel
theorem dX11_first_52 : decode cX11_first 52 = .ok (.aload_n 0, 1) := by decide +kernel
theorem dX11_first_53 : decode cX11_first 53 = .ok (.getfield 83, 3) := by decide +kernel
theorem dX11_first_56 : decode cX11_first 56 = .ok (.iconst 1, 1) := by decide +kernel
theorem dX11_first_57 : decode cX11_first 57 = .ok (.invokevirtual 180, 3) := by decide +kernel
theorem dX11_first_60 : decode cX11_first 60 = .ok (.iconst 0, 1) := by decide +kernel
theorem dX11_first_61 : decode cX11_first 61 = .ok (.istore 5, 2) := by decide +kernel
theorem dX11_first_63 : decode cX11_first 63 = .ok (.iload 5, 2) := by decide +kernel
theorem dX11_first_65 : decode cX11_first 65 = .ok (.bipush 8, 2) := by decide +kernel
theorem dX11_first_67 : decode cX11_first 67 = .ok (.if_icmp .ge 66, 3) := by decide +kernel
theorem dX11_first_70 : decode cX11_first 70 = .ok (.aload_n 0, 1) := by decide +kernel
theorem dX11_first_71 : decode cX11_first 71 = .ok (.getfield 26, 3) := by decide +kernel
theorem dX11_first_74 : decode cX11_first 74 = .ok (.getfield 135, 3) := by decide +kernel
theorem dX11_first_77 : decode cX11_first 77 = .ok (.iload 5, 2) := by decide +kernel
theorem dX11_first_79 : decode cX11_first 79 = .ok (.invokestatic 123, 3) := by decide +kernel
theorem dX11_first_82 : decode cX11_first 82 = .ok (.ifCond .eq 45, 3) := by decide +kernel
theorem dX11_first_85 : decode cX11_first 85 = .ok (.aload_n 0, 1) := by decide +kernel
theorem dX11_first_86 : decode cX11_first 86 = .ok (.getfield 26, 3) := by decide +kernel
theorem dX11_first_89 : decode cX11_first 89 = .ok (.getfield 136, 3) := by decide +kernel
theorem dX11_first_92 : decode cX11_first 92 = .ok (.iload 5, 2) := by decide +kernel
theorem dX11_first_94 : decode cX11_first 94 = .ok (.aaload, 1) := by decide +kernel
theorem dX11_first_95 : decode cX11_first 95 = .ok (.iload_n 2, 1) := by decide +kernel
theorem dX11_first_96 : decode cX11_first 96 = .ok (.iaload, 1) := by decide +kernel
theorem dX11_first_97 : decode cX11_first 97 = .ok (.ifCond .le 30, 3) := by decide +kernel
theorem dX11_first_100 : decode cX11_first 100 = .ok (.aload_n 0, 1) := by decide +kernel
theorem dX11_first_101 : decode cX11_first 101 = .ok (.getfield 33, 3) := by decide +kernel
theorem dX11_first_104 : decode cX11_first 104 = .ok (.getfield 136, 3) := by decide +kernel
theorem dX11_first_107 : decode cX11_first 107 = .ok (.iload 5, 2) := by decide +kernel
theorem dX11_first_109 : decode cX11_first 109 = .ok (.aaload, 1) := by decide +kernel
theorem dX11_first_110 : decode cX11_first 110 = .ok (.iload_n 2, 1) := by decide +kernel
theorem dX11_first_111 : decode cX11_first 111 = .ok (.iaload, 1) := by decide +kernel
theorem dX11_first_112 : decode cX11_first 112 = .ok (.ifCond .ne 15, 3) := by decide +kernel
theorem dX11_first_115 : decode cX11_first 115 = .ok (.iload_n 3, 1) := by decide +kernel
theorem dX11_first_116 : decode cX11_first 116 = .ok (.ifCond .ne 8, 3) := by decide +kernel
theorem dX11_first_119 : decode cX11_first 119 = .ok (.iload 5, 2) := by decide +kernel
theorem dX11_first_121 : decode cX11_first 121 = .ok (.goto 5, 3) := by decide +kernel
theorem dX11_first_124 : decode cX11_first 124 = .ok (.iload 4, 2) := by decide +kernel
theorem dX11_first_126 : decode cX11_first 126 = .ok (.ireturn, 1) := by decide +kernel
theorem dX11_first_127 : decode cX11_first 127 = .ok (.iinc 5 1, 3) := by decide +kernel
theorem dX11_first_130 : decode cX11_first 130 = .ok (.goto (-67), 3) := by decide +kernel
theorem dX11_first_133 : decode cX11_first 133 = .ok (.iinc 4 1, 3) := by decide +kernel
theorem dX11_first_136 : decode cX11_first 136 = .ok (.goto (-90), 3) := by decide +kernel
theorem dX11_first_139 : decode cX11_first 139 = .ok (.bipush (-2), 2) := by decide +kernel
theorem dX11_first_141 : decode cX11_first 141 = .ok (.ireturn, 1) := by decide +kernel
set_option maxRecDepth 100000 in
set_option maxHeartbeats 4000000 in
theorem p_X11_first (l : Launch) (D : va_G) (cA : Nat → ClassId) (ad : Nat → Nat) (g0 : Nat → va_E) (a : Int32) (b : Int32) (c : Int32)  (lw : Nat) (hSh : Shp ad cA g0) (hG : Rng g0) (hlw : isLw lw) (h_r13 : fld g0 0 13 = .ref (ad lw)) : CT l NN ad cA D yX11_first cX11_first 6 (some FieldType.int) (7, 167) [.ref (ad 0), .int a, .int b, .int c] g0 (fun v g' => ∃ (r : Int32), v = some (.int r) ∧ Shp ad cA g' ∧ Rng g' ∧ FR (fun i k => i = 43 ∨ i = 44 ∨ (46 ≤ i ∧ i < 54) ∨ (i = 42 ∧ (k = 3 ∨ k = 4 ∨ k = 5 ∨ k = 6 ∨ k = 7)) ∨ (i = 80 ∧ (k = 7 ∨ k = 8 ∨ k = 9 ∨ k = 10)) ∨ (46 ≤ i ∧ i < 54) ∨ i = 83 ∨ i = (lw + 6) ∨ (i = 42 ∧ (k = 4 ∨ k = 5 ∨ k = 6 ∨ k = 7)) ∨ (i = 80 ∧ (k = 7 ∨ k = 8)) ∨ i = 43) g0 g') := by
  refine q_enterI (by decide) (Nat.le_of_ble_eq_true rfl) rfl (fun K H locs ls _ _ hM hW0 hR hC hE hl => ?_)
  have hl : lv_has ls 6 [(0, .ref (ad 0)), (1, .int a), (2, .int b), (3, .int c)] := hl
  have hW : WS ad cA (fun i k => i = 43 ∨ i = 44 ∨ (46 ≤ i ∧ i < 54) ∨ (i = 42 ∧ (k = 3 ∨ k = 4 ∨ k = 5 ∨ k = 6 ∨ k = 7)) ∨ (i = 80 ∧ (k = 7 ∨ k = 8 ∨ k = 9 ∨ k = 10)) ∨ (46 ≤ i ∧ i < 54) ∨ i = 83 ∨ i = (lw + 6) ∨ (i = 42 ∧ (k = 4 ∨ k = 5 ∨ k = 6 ∨ k = 7)) ∨ (i = 80 ∧ (k = 7 ∨ k = 8)) ∨ i = 43) g0 K g0 H locs := ⟨hW0, hSh, FR.rf⟩
  have ulw := hlw
  unfold isLw at ulw
  have := kc_0
  have := kc_1
  have := kc_m1
  have := kc_m2
  have := i_rng a
  refine q_iload_n hM dX11_first_0 (lv_at hl 1 rfl) ?_
  refine q_iconst (v := (1 : Int32)) hM dX11_first_1 (by decide) ?_
  refine q_bipush (v := (60 : Int32)) hM dX11_first_2 (by decide) ?_
  refine q_callS (As := [.int a, .int (1 : Int32), .int (60 : Int32)]) (rest := []) hM hW.1 hR hC myX11_within (kAW (v_1_10 (List.mem_of_getElem? (i := 1) rfl)) rfl) (c_X11_within _ _ cA ad g0 a (1 : Int32) (60 : Int32) hW.2.1) ⟨by decide, by decide⟩ rfl rfl hl.1 (Nat.le_of_ble_eq_true rfl) dX11_first_4 (fun v g4772 H locs hp hW1 => ?_)
  obtain ⟨r4771, rfl, hr4771, rfl⟩ := hp
  have hW : WS ad cA (fun i k => i = 43 ∨ i = 44 ∨ (46 ≤ i ∧ i < 54) ∨ (i = 42 ∧ (k = 3 ∨ k = 4 ∨ k = 5 ∨ k = 6 ∨ k = 7)) ∨ (i = 80 ∧ (k = 7 ∨ k = 8 ∨ k = 9 ∨ k = 10)) ∨ (46 ≤ i ∧ i < 54) ∨ i = 83 ∨ i = (lw + 6) ∨ (i = 42 ∧ (k = 4 ∨ k = 5 ∨ k = 6 ∨ k = 7)) ∨ (i = 80 ∧ (k = 7 ∨ k = 8)) ∨ i = 43) g0 K g0 H locs := ⟨hW1, hW.2.1, hW.2.2⟩
  have := kc_1
  have := kc_60
  refine q_if_eq (tgt := 33) hM dX11_first_7 (by decide) (rfl : r4771.toInt = r4771.toInt) (fun h7 => ?_) (fun h7 => ?_)
  · refine q_iconst (v := ((-1) : Int32)) hM dX11_first_33 (by decide) ?_
    exact hE _ _ _ _ _ _ hW.1 ⟨_, rfl, hW.2.1, hG, hW.2.2⟩ dX11_first_34
  · refine q_aload_n hM dX11_first_10 (lv_at hl 0 rfl) ?_
    refine w_get (v := .ref (ad 3)) hM hW FG_X11_19 lb_0 (rf_0_1 hW.2.1) dX11_first_11 ?_
    refine w_getI hM hW FG_X11_116 lb_3 (by decide) (by decide) dX11_first_14 (fun x4775 fx4775 => ?_)
    have bx4775 := hG.f fx4775 rF_3_2 (by decide)
    refine q_iload_n hM dX11_first_17 (lv_at hl 2 rfl) ?_
    refine q_callS (As := [.int x4775, .int b]) (rest := []) hM hW.1 hR hC myX11_has (kAW (v_1_10 (List.mem_of_getElem? (i := 8) rfl)) rfl) (c_X11_has _ _ cA ad g0 x4775 b hW.2.1) ⟨by decide, by decide⟩ rfl rfl hl.1 (Nat.le_of_ble_eq_true rfl) dX11_first_18 (fun v g4777 H locs hp hW1 => ?_)
    obtain ⟨r4776, rfl, hr4776, rfl⟩ := hp
    have hW : WS ad cA (fun i k => i = 43 ∨ i = 44 ∨ (46 ≤ i ∧ i < 54) ∨ (i = 42 ∧ (k = 3 ∨ k = 4 ∨ k = 5 ∨ k = 6 ∨ k = 7)) ∨ (i = 80 ∧ (k = 7 ∨ k = 8 ∨ k = 9 ∨ k = 10)) ∨ (46 ≤ i ∧ i < 54) ∨ i = 83 ∨ i = (lw + 6) ∨ (i = 42 ∧ (k = 4 ∨ k = 5 ∨ k = 6 ∨ k = 7)) ∨ (i = 80 ∧ (k = 7 ∨ k = 8)) ∨ i = 43) g0 K g0 H locs := ⟨hW1, hW.2.1, hW.2.2⟩
    first | have ltr4776 := has_lt 5 hr4776 (by omega) (by omega) | have ltr4776 := has_lt 6 hr4776 (by omega) (by omega) | have ltr4776 := has_lt 8 hr4776 (by omega) (by omega) | have ltr4776 := has_lt 12 hr4776 (by omega) (by omega) | skip
    refine q_if_eq (tgt := 33) hM dX11_first_21 (by decide) (rfl : r4776.toInt = r4776.toInt) (fun h21 => ?_) (fun h21 => ?_)
    · refine q_iconst (v := ((-1) : Int32)) hM dX11_first_33 (by decide) ?_
      exact hE _ _ _ _ _ _ hW.1 ⟨_, rfl, hW.2.1, hG, hW.2.2⟩ dX11_first_34
    · refine q_iload_n hM dX11_first_24 (lv_at hl 3 rfl) ?_
      refine q_iconst (v := (0 : Int32)) hM dX11_first_25 (by decide) ?_
      refine q_iconst (v := (1 : Int32)) hM dX11_first_26 (by decide) ?_
      refine q_callS (As := [.int c, .int (0 : Int32), .int (1 : Int32)]) (rest := []) hM hW.1 hR hC myX11_within (kAW (v_1_10 (List.mem_of_getElem? (i := 1) rfl)) rfl) (c_X11_within _ _ cA ad g0 c (0 : Int32) (1 : Int32) hW.2.1) ⟨by decide, by decide⟩ rfl rfl hl.1 (Nat.le_of_ble_eq_true rfl) dX11_first_27 (fun v g4781 H locs hp hW1 => ?_)
      obtain ⟨r4780, rfl, hr4780, rfl⟩ := hp
      have hW : WS ad cA (fun i k => i = 43 ∨ i = 44 ∨ (46 ≤ i ∧ i < 54) ∨ (i = 42 ∧ (k = 3 ∨ k = 4 ∨ k = 5 ∨ k = 6 ∨ k = 7)) ∨ (i = 80 ∧ (k = 7 ∨ k = 8 ∨ k = 9 ∨ k = 10)) ∨ (46 ≤ i ∧ i < 54) ∨ i = 83 ∨ i = (lw + 6) ∨ (i = 42 ∧ (k = 4 ∨ k = 5 ∨ k = 6 ∨ k = 7)) ∨ (i = 80 ∧ (k = 7 ∨ k = 8)) ∨ i = 43) g0 K g0 H locs := ⟨hW1, hW.2.1, hW.2.2⟩
      have := kc_0
      have := kc_1
      refine q_if_ne (tgt := 35) hM dX11_first_30 (by decide) (rfl : r4780.toInt = r4780.toInt) (fun h30 => ?_) (fun h30 => ?_)
      · refine q_aload_n hM dX11_first_35 (lv_at hl 0 rfl) ?_
        refine q_aload_n hM dX11_first_36 (lv_at hl 0 rfl) ?_
        refine w_get (v := .ref (ad lw)) hM hW FG_X11_39 lb_0 ((hW.2.2.1 0 13 (by omega)).trans h_r13) dX11_first_37 ?_
        refine q_callV (As := [.ref (ad lw)]) (rest := []) hM hW.1 hR hC myX11_beginTrial (kAW (v_3_0 (List.mem_of_getElem? (i := 5) rfl)) rfl) (rfl : vwCl[11]? = some (RX11, TX11, 16)) rfl lb_0.1 (shO hW.2.1 lb_0) (a_X11_beginTrial _ _ cA ad g0 lw hW.2.1 hG hlw) ⟨by decide, by decide⟩ rfl rfl hl.1 (Nat.le_of_ble_eq_true rfl) dX11_first_40 (fun v g4785 H locs hp hW1 => ?_)
        obtain ⟨rfl, hs1, hG, hf1, q4783, q4784⟩ := hp
        have f4786 : fld g4785 3 2 = .int x4775 := (hf1.1 3 2 (by omega)).trans fx4775
        have hW : WS ad cA (fun i k => i = 43 ∨ i = 44 ∨ (46 ≤ i ∧ i < 54) ∨ (i = 42 ∧ (k = 3 ∨ k = 4 ∨ k = 5 ∨ k = 6 ∨ k = 7)) ∨ (i = 80 ∧ (k = 7 ∨ k = 8 ∨ k = 9 ∨ k = 10)) ∨ (46 ≤ i ∧ i < 54) ∨ i = 83 ∨ i = (lw + 6) ∨ (i = 42 ∧ (k = 4 ∨ k = 5 ∨ k = 6 ∨ k = 7)) ∨ (i = 80 ∧ (k = 7 ∨ k = 8)) ∨ i = 43) g0 K g4785 H locs := ⟨hW1, hs1, hW.2.2.tr hf1 (fun i k h => h.elim (fun h => (Or.inl h)) (fun h => h.elim (fun h => (Or.inr (Or.inl h))) (fun h => h.elim (fun h => (Or.inr (Or.inr (Or.inl h)))) (fun h => h.elim (fun h => (Or.inr (Or.inr (Or.inr (Or.inl h))))) (fun h => (Or.inr (Or.inr (Or.inr (Or.inr (Or.inl h))))))))))⟩
        refine q_iconst (v := (1 : Int32)) hM dX11_first_43 (by decide) ?_
        refine q_istore (lv9 := [(4, .int (1 : Int32)), (0, .ref (ad 0)), (1, .int a), (2, .int b), (3, .int c)]) hM dX11_first_44 hl (by decide) rfl (fun ls hl => ?_)
        have L46 : ∀ (fu46 : Nat) (w46_4 : Int32) (g9 : Nat → va_E) (H : Heap) (locs : List Loc) (ls : Array Slot), (a.toInt - w46_4.toInt + 1).toNat < fu46 → (Rng g9) → (1 ≤ w46_4.toInt) → (fld g9 80 9 = .ref (ad lw)) → (fld g9 80 10 = .ref (ad 42)) → lv_has ls 6 [(0, .ref (ad 0)), (1, .int a), (2, .int b), (3, .int c), (4, .int w46_4)] → WS ad cA (fun i k => i = 43 ∨ i = 44 ∨ (46 ≤ i ∧ i < 54) ∨ (i = 42 ∧ (k = 3 ∨ k = 4 ∨ k = 5 ∨ k = 6 ∨ k = 7)) ∨ (i = 80 ∧ (k = 7 ∨ k = 8 ∨ k = 9 ∨ k = 10)) ∨ (46 ≤ i ∧ i < 54) ∨ i = 83 ∨ i = (lw + 6) ∨ (i = 42 ∧ (k = 4 ∨ k = 5 ∨ k = 6 ∨ k = 7)) ∨ (i = 80 ∧ (k = 7 ∨ k = 8)) ∨ i = 43) g0 K g9 H locs → XX K 0 0 H locs 46 ls [] := by
          intro fu46
          induction fu46 with
          | zero => intro w46_4 g9 H locs ls h0; omega
          | succ fu46 ih46 =>
            intro w46_4 g9 H locs ls hm46 i46_0 i46_1 c46_80_9 c46_80_10 hl hW
            have hG := i46_0
            have := i_rng a
            refine q_iload hM dX11_first_46 (lv_at hl 4 rfl) ?_
            refine q_iload_n hM dX11_first_48 (lv_at hl 1 rfl) ?_
            refine q_icmp_gt (tgt := 139) hM dX11_first_49 (by decide) (rfl : w46_4.toInt = w46_4.toInt) (rfl : a.toInt = a.toInt) (fun h49 => ?_) (fun h49 => ?_)
            · refine q_bipush (v := ((-2) : Int32)) hM dX11_first_139 (by decide) ?_
              exact hE _ _ _ _ _ _ hW.1 ⟨_, rfl, hW.2.1, hG, hW.2.2⟩ dX11_first_141
            · refine q_aload_n hM dX11_first_52 (lv_at hl 0 rfl) ?_
              refine w_get (v := .ref (ad 80)) hM hW FG_X11_83 lb_0 (rf_0_2 hW.2.1) dX11_first_53 ?_
              refine q_iconst (v := (1 : Int32)) hM dX11_first_56 (by decide) ?_
              refine q_callV (As := [.int (1 : Int32)]) (rest := []) hM hW.1 hR hC myX2_go (kAW (v_2_9 (List.mem_of_getElem? (i := 15) rfl)) rfl) (rfl : vwCl[2]? = some (RX2, TX2, 11)) rfl lb_80.1 (shO hW.2.1 lb_80) (a_X2_go_42 _ _ cA ad g9 (1 : Int32) lw hW.2.1 hG hlw c46_80_9 c46_80_10) ⟨by decide, by decide⟩ rfl rfl hl.1 (Nat.le_of_ble_eq_true rfl) dX11_first_57 (fun v g4790 H locs hp hW1 => ?_)
              obtain ⟨rfl, hs1, hG, hf1⟩ := hp
              have f4791 : fld g4790 80 9 = .ref (ad lw) := (hf1.1 80 9 (by omega)).trans c46_80_9
              have f4792 : fld g4790 80 10 = .ref (ad 42) := (hf1.1 80 10 (by omega)).trans c46_80_10
              have hW : WS ad cA (fun i k => i = 43 ∨ i = 44 ∨ (46 ≤ i ∧ i < 54) ∨ (i = 42 ∧ (k = 3 ∨ k = 4 ∨ k = 5 ∨ k = 6 ∨ k = 7)) ∨ (i = 80 ∧ (k = 7 ∨ k = 8 ∨ k = 9 ∨ k = 10)) ∨ (46 ≤ i ∧ i < 54) ∨ i = 83 ∨ i = (lw + 6) ∨ (i = 42 ∧ (k = 4 ∨ k = 5 ∨ k = 6 ∨ k = 7)) ∨ (i = 80 ∧ (k = 7 ∨ k = 8)) ∨ i = 43) g0 K g4790 H locs := ⟨hW1, hs1, hW.2.2.tr hf1 (fun i k h => h.elim (fun h => (Or.inr (Or.inr (Or.inl h)))) (fun h => h.elim (fun h => (Or.inr (Or.inr (Or.inr (Or.inr (Or.inr (Or.inr (Or.inl h)))))))) (fun h => h.elim (fun h => (Or.inr (Or.inr (Or.inr (Or.inr (Or.inr (Or.inr (Or.inr (Or.inl h))))))))) (fun h => h.elim (fun h => (Or.inr (Or.inr (Or.inr (Or.inl (by omega)))))) (fun h => h.elim (fun h => (Or.inr (Or.inr (Or.inr (Or.inr (Or.inl (by omega))))))) (fun h => h.elim (fun h => (Or.inl h)) (fun h => (Or.inr (Or.inr (Or.inr (Or.inl (by omega))))))))))))⟩
              refine q_iconst (v := (0 : Int32)) hM dX11_first_60 (by decide) ?_
              refine q_istore (lv9 := [(5, .int (0 : Int32)), (0, .ref (ad 0)), (1, .int a), (2, .int b), (3, .int c), (4, .int w46_4)]) hM dX11_first_61 hl (by decide) rfl (fun ls hl => ?_)
              have L63 : ∀ (fu63 : Nat) (w63_5 : Int32) (g9 : Nat → va_E) (H : Heap) (locs : List Loc) (ls : Array Slot), (8 - w63_5.toInt).toNat < fu63 → (Rng g9) → (0 ≤ w63_5.toInt) → (w63_5.toInt ≤ 8) → (fld g9 80 9 = .ref (ad lw)) → (fld g9 80 10 = .ref (ad 42)) → lv_has ls 6 [(0, .ref (ad 0)), (1, .int a), (2, .int b), (3, .int c), (4, .int w46_4), (5, .int w63_5)] → WS ad cA (fun i k => i = 43 ∨ i = 44 ∨ (46 ≤ i ∧ i < 54) ∨ (i = 42 ∧ (k = 3 ∨ k = 4 ∨ k = 5 ∨ k = 6 ∨ k = 7)) ∨ (i = 80 ∧ (k = 7 ∨ k = 8 ∨ k = 9 ∨ k = 10)) ∨ (46 ≤ i ∧ i < 54) ∨ i = 83 ∨ i = (lw + 6) ∨ (i = 42 ∧ (k = 4 ∨ k = 5 ∨ k = 6 ∨ k = 7)) ∨ (i = 80 ∧ (k = 7 ∨ k = 8)) ∨ i = 43) g0 K g9 H locs → XX K 0 0 H locs 63 ls [] := by
                intro fu63
                induction fu63 with
                | zero => intro w63_5 g9 H locs ls h0; omega
                | succ fu63 ih63 =>
                  intro w63_5 g9 H locs ls hm63 i63_0 i63_1 i63_2 c63_80_9 c63_80_10 hl hW
                  have hG := i63_0
                  refine q_iload hM dX11_first_63 (lv_at hl 5 rfl) ?_
                  refine q_bipush (v := (8 : Int32)) hM dX11_first_65 (by decide) ?_
                  refine q_icmp_ge (tgt := 133) hM dX11_first_67 (by decide) (rfl : w63_5.toInt = w63_5.toInt) (kc_8 : (8 : Int32).toInt = 8) (fun h67 => ?_) (fun h67 => ?_)
                  · refine q_iinc (lv9 := fun z4795 => [(4, .int z4795), (0, .ref (ad 0)), (1, .int a), (2, .int b), (3, .int c), (5, .int w63_5)]) hM dX11_first_133 hl (kq := 4) rfl (by decide) (fun _ => rfl) (fun z4795 ls hz4795 hl => ?_)
                    first | have tz4795 := i_addT hz4795 (rfl : w46_4.toInt = w46_4.toInt) (kc_1 : (Int32.ofInt 1).toInt = 1) (by omega) (by omega) | skip
                    refine q_goto (tgt := 46) hM dX11_first_136 (by decide) ?_
                    exact ih46 z4795 _ _ _ _ (by omega) hG (by omega) c63_80_9 c63_80_10 (lv_sub hl [1, 2, 3, 4, 0] rfl) hW
                  · refine q_aload_n hM dX11_first_70 (lv_at hl 0 rfl) ?_
                    refine w_get (v := .ref (ad 18)) hM hW FG_X11_26 lb_0 (rf_0_10 hW.2.1) dX11_first_71 ?_
                    refine w_getI hM hW FG_X11_135 lb_18 (by decide) (by decide) dX11_first_74 (fun x4797 fx4797 => ?_)
                    have bx4797 := hG.f fx4797 rF_18_3 (by decide)
                    refine q_iload hM dX11_first_77 (lv_at hl 5 rfl) ?_
                    refine q_callS (As := [.int x4797, .int w63_5]) (rest := []) hM hW.1 hR hC myX11_has (kAW (v_1_10 (List.mem_of_getElem? (i := 8) rfl)) rfl) (c_X11_has _ _ cA ad g9 x4797 w63_5 hW.2.1) ⟨by decide, by decide⟩ rfl rfl hl.1 (Nat.le_of_ble_eq_true rfl) dX11_first_79 (fun v g4799 H locs hp hW1 => ?_)
                    obtain ⟨r4798, rfl, hr4798, rfl⟩ := hp
                    have hW : WS ad cA (fun i k => i = 43 ∨ i = 44 ∨ (46 ≤ i ∧ i < 54) ∨ (i = 42 ∧ (k = 3 ∨ k = 4 ∨ k = 5 ∨ k = 6 ∨ k = 7)) ∨ (i = 80 ∧ (k = 7 ∨ k = 8 ∨ k = 9 ∨ k = 10)) ∨ (46 ≤ i ∧ i < 54) ∨ i = 83 ∨ i = (lw + 6) ∨ (i = 42 ∧ (k = 4 ∨ k = 5 ∨ k = 6 ∨ k = 7)) ∨ (i = 80 ∧ (k = 7 ∨ k = 8)) ∨ i = 43) g0 K g9 H locs := ⟨hW1, hW.2.1, hW.2.2⟩
                    first | have ltr4798 := has_lt 5 hr4798 (by omega) (by omega) | have ltr4798 := has_lt 6 hr4798 (by omega) (by omega) | have ltr4798 := has_lt 8 hr4798 (by omega) (by omega) | have ltr4798 := has_lt 12 hr4798 (by omega) (by omega) | skip
                    refine q_if_eq (tgt := 127) hM dX11_first_82 (by decide) (rfl : r4798.toInt = r4798.toInt) (fun h82 => ?_) (fun h82 => ?_)
                    · refine q_iinc (lv9 := fun z4801 => [(5, .int z4801), (0, .ref (ad 0)), (1, .int a), (2, .int b), (3, .int c), (4, .int w46_4)]) hM dX11_first_127 hl (kq := 5) rfl (by decide) (fun _ => rfl) (fun z4801 ls hz4801 hl => ?_)
                      first | have tz4801 := i_addT hz4801 (rfl : w63_5.toInt = w63_5.toInt) (kc_1 : (Int32.ofInt 1).toInt = 1) (by omega) (by omega) | skip
                      refine q_goto (tgt := 63) hM dX11_first_130 (by decide) ?_
                      exact ih63 z4801 _ _ _ _ (by omega) hG (by omega) (by omega) c63_80_9 c63_80_10 (lv_sub hl [1, 2, 3, 4, 5, 0] rfl) hW
                    · refine q_aload_n hM dX11_first_85 (lv_at hl 0 rfl) ?_
                      refine w_get (v := .ref (ad 18)) hM hW FG_X11_26 lb_0 (rf_0_10 hW.2.1) dX11_first_86 ?_
                      refine w_get (v := .ref (ad 21)) hM hW FG_X11_136 lb_18 (rf_18_2 hW.2.1) dX11_first_89 ?_
                      refine q_iload hM dX11_first_92 (lv_at hl 5 rfl) ?_
                      refine w_aald hM hW lb_21 (Or.inl rfl) (i_in (by omega) (by omega)) (aq (aq_21 hW.2.1) (by omega) (by omega)) dX11_first_94 ?_
                      refine q_iload_n hM dX11_first_95 (lv_at hl 2 rfl) ?_
                      refine w_iald hM hW (lr_22 (by omega)) (i_in (by omega) (by omega)) dX11_first_96 ?_
                      refine q_top (fun y4803 hy4803 => ?_)
                      refine q_if_le (tgt := 127) hM dX11_first_97 (by decide) (rfl : y4803.toInt = y4803.toInt) (fun h97 => ?_) (fun h97 => ?_)
                      · refine q_iinc (lv9 := fun z4805 => [(5, .int z4805), (0, .ref (ad 0)), (1, .int a), (2, .int b), (3, .int c), (4, .int w46_4)]) hM dX11_first_127 hl (kq := 5) rfl (by decide) (fun _ => rfl) (fun z4805 ls hz4805 hl => ?_)
                        first | have tz4805 := i_addT hz4805 (rfl : w63_5.toInt = w63_5.toInt) (kc_1 : (Int32.ofInt 1).toInt = 1) (by omega) (by omega) | skip
                        refine q_goto (tgt := 63) hM dX11_first_130 (by decide) ?_
                        exact ih63 z4805 _ _ _ _ (by omega) hG (by omega) (by omega) c63_80_9 c63_80_10 (lv_sub hl [1, 2, 3, 4, 5, 0] rfl) hW
                      · refine q_aload_n hM dX11_first_100 (lv_at hl 0 rfl) ?_
                        refine w_get (v := .ref (ad 42)) hM hW FG_X11_33 lb_0 (rf_0_12 hW.2.1) dX11_first_101 ?_
                        refine w_get (v := .ref (ad 45)) hM hW FG_X11_136 lb_42 (rf_42_2 hW.2.1) dX11_first_104 ?_
                        refine q_iload hM dX11_first_107 (lv_at hl 5 rfl) ?_
                        refine w_aald hM hW lb_45 (Or.inl rfl) (i_in (by omega) (by omega)) (aq (aq_45 hW.2.1) (by omega) (by omega)) dX11_first_109 ?_
                        refine q_iload_n hM dX11_first_110 (lv_at hl 2 rfl) ?_
                        refine w_iald hM hW (lr_46 (by omega)) (i_in (by omega) (by omega)) dX11_first_111 ?_
                        refine q_top (fun y4807 hy4807 => ?_)
                        refine q_if_ne (tgt := 127) hM dX11_first_112 (by decide) (rfl : y4807.toInt = y4807.toInt) (fun h112 => ?_) (fun h112 => ?_)
                        · refine q_iinc (lv9 := fun z4809 => [(5, .int z4809), (0, .ref (ad 0)), (1, .int a), (2, .int b), (3, .int c), (4, .int w46_4)]) hM dX11_first_127 hl (kq := 5) rfl (by decide) (fun _ => rfl) (fun z4809 ls hz4809 hl => ?_)
                          first | have tz4809 := i_addT hz4809 (rfl : w63_5.toInt = w63_5.toInt) (kc_1 : (Int32.ofInt 1).toInt = 1) (by omega) (by omega) | skip
                          refine q_goto (tgt := 63) hM dX11_first_130 (by decide) ?_
                          exact ih63 z4809 _ _ _ _ (by omega) hG (by omega) (by omega) c63_80_9 c63_80_10 (lv_sub hl [1, 2, 3, 4, 5, 0] rfl) hW
                        · refine q_iload_n hM dX11_first_115 (lv_at hl 3 rfl) ?_
                          refine q_if_ne (tgt := 124) hM dX11_first_116 (by decide) (rfl : c.toInt = c.toInt) (fun h116 => ?_) (fun h116 => ?_)
                          · refine q_iload hM dX11_first_124 (lv_at hl 4 rfl) ?_
                            exact hE _ _ _ _ _ _ hW.1 ⟨_, rfl, hW.2.1, hG, hW.2.2⟩ dX11_first_126
                          · refine q_iload hM dX11_first_119 (lv_at hl 5 rfl) ?_
                            refine q_goto (tgt := 126) hM dX11_first_121 (by decide) ?_
                            exact hE _ _ _ _ _ _ hW.1 ⟨_, rfl, hW.2.1, hG, hW.2.2⟩ dX11_first_126
              have := kc_0
              exact L63 _ (0 : Int32) _ _ _ _ (Nat.lt_succ_self _) hG (by omega) (by omega) f4791 f4792 (lv_sub hl [1, 2, 3, 4, 5, 0] rfl) hW
        have := kc_1
        exact L46 _ (1 : Int32) _ _ _ _ (Nat.lt_succ_self _) hG (by omega) q4783 q4784 (lv_sub hl [1, 2, 3, 4, 0] rfl) hW
      · refine q_iconst (v := ((-1) : Int32)) hM dX11_first_33 (by decide) ?_
        exact hE _ _ _ _ _ _ hW.1 ⟨_, rfl, hW.2.1, hG, hW.2.2⟩ dX11_first_34

theorem dX11_does_0 : decode cX11_does 0 = .ok (.aload_n 0, 1) := by decide +kernel
theorem dX11_does_1 : decode cX11_does 1 = .ok (.getfield 26, 3) := by decide +kernel
theorem dX11_does_4 : decode cX11_does 4 = .ok (.getfield 135, 3) := by decide +kernel
theorem dX11_does_7 : decode cX11_does 7 = .ok (.iload_n 1, 1) := by decide +kernel
theorem dX11_does_8 : decode cX11_does 8 = .ok (.invokestatic 123, 3) := by decide +kernel
theorem dX11_does_11 : decode cX11_does 11 = .ok (.ifCond .eq 17, 3) := by decide +kernel
theorem dX11_does_14 : decode cX11_does 14 = .ok (.aload_n 0, 1) := by decide +kernel
theorem dX11_does_15 : decode cX11_does 15 = .ok (.getfield 83, 3) := by decide +kernel
theorem dX11_does_18 : decode cX11_does 18 = .ok (.getfield 158, 3) := by decide +kernel
theorem dX11_does_21 : decode cX11_does 21 = .ok (.iload_n 2, 1) := by decide +kernel
theorem dX11_does_22 : decode cX11_does 22 = .ok (.invokestatic 123, 3) := by decide +kernel
theorem dX11_does_25 : decode cX11_does 25 = .ok (.ifCond .ne 5, 3) := by decide +kernel
theorem dX11_does_28 : decode cX11_does 28 = .ok (.iconst (-1), 1) := by decide +kernel
theorem dX11_does_29 : decode cX11_does 29 = .ok (.ireturn, 1) := by decide +kernel
theorem dX11_does_30 : decode cX11_does 30 = .ok (.aload_n 0, 1) := by decide +kernel
theorem dX11_does_31 : decode cX11_does 31 = .ok (.getfield 83, 3) := by decide +kernel
theorem dX11_does_34 : decode cX11_does 34 = .ok (.aload_n 0, 1) := by decide +kernel
theorem dX11_does_35 : decode cX11_does 35 = .ok (.getfield 39, 3) := by decide +kernel
theorem dX11_does_38 : decode cX11_does 38 = .ok (.aload_n 0, 1) := by decide +kernel
theorem dX11_does_39 : decode cX11_does 39 = .ok (.getfield 26, 3) := by decide +kernel
theorem dX11_does_42 : decode cX11_does 42 = .ok (.invokevirtual 176, 3) := by decide +kernel
theorem dX11_does_45 : decode cX11_does 45 = .ok (.aload_n 0, 1) := by decide +kernel
theorem dX11_does_46 : decode cX11_does 46 = .ok (.getfield 83, 3) := by decide +kernel
theorem dX11_does_49 : decode cX11_does 49 = .ok (.iload_n 1, 1) := by decide +kernel
theorem dX11_does_50 : decode cX11_does 50 = .ok (.aload_n 0, 1) := by decide +kernel
theorem dX11_does_51 : decode cX11_does 51 = .ok (.getfield 83, 3) := by decide +kernel
theorem dX11_does_54 : decode cX11_does 54 = .ok (.getfield 150, 3) := by decide +kernel
theorem dX11_does_57 : decode cX11_does 57 = .ok (.iload_n 2, 1) := by decide +kernel
theorem dX11_does_58 : decode cX11_does 58 = .ok (.aaload, 1) := by decide +kernel
theorem dX11_does_59 : decode cX11_does 59 = .ok (.invokevirtual 199, 3) := by decide +kernel
theorem dX11_does_62 : decode cX11_does 62 = .ok (.aload_n 0, 1) := by decide +kernel
theorem dX11_does_63 : decode cX11_does 63 = .ok (.getfield 26, 3) := by decide +kernel
theorem dX11_does_66 : decode cX11_does 66 = .ok (.iload_n 1, 1) := by decide +kernel
theorem dX11_does_67 : decode cX11_does 67 = .ok (.invokevirtual 203, 3) := by decide +kernel
theorem dX11_does_70 : decode cX11_does 70 = .ok (.invokestatic 206, 3) := by decide +kernel
theorem dX11_does_73 : decode cX11_does 73 = .ok (.ireturn, 1) := by decide +kernel
set_option maxRecDepth 100000 in
set_option maxHeartbeats 4000000 in
theorem p_X11_does (l : Launch) (D : va_G) (cA : Nat → ClassId) (ad : Nat → Nat) (g0 : Nat → va_E) (a : Int32) (b : Int32)  (lw : Nat) (hSh : Shp ad cA g0) (hG : Rng g0) (hlw : isLw lw) (h_r13 : fld g0 0 13 = .ref (ad lw)) : CT l NN ad cA D yX11_does cX11_does 3 (some FieldType.int) (5, 121) [.ref (ad 0), .int a, .int b] g0 (fun v g' => ∃ (r : Int32), v = some (.int r) ∧ Shp ad cA g' ∧ Rng g' ∧ FR (fun i k => (i = 80 ∧ (k = 7 ∨ k = 8 ∨ k = 9 ∨ k = 10)) ∨ (22 ≤ i ∧ i < 30) ∨ i = 83 ∨ i = (lw + 6)) g0 g') := by
  refine q_enterI (by decide) (Nat.le_of_ble_eq_true rfl) rfl (fun K H locs ls _ _ hM hW0 hR hC hE hl => ?_)
  have hl : lv_has ls 3 [(0, .ref (ad 0)), (1, .int a), (2, .int b)] := hl
  have hW : WS ad cA (fun i k => (i = 80 ∧ (k = 7 ∨ k = 8 ∨ k = 9 ∨ k = 10)) ∨ (22 ≤ i ∧ i < 30) ∨ i = 83 ∨ i = (lw + 6)) g0 K g0 H locs := ⟨hW0, hSh, FR.rf⟩
  have ulw := hlw
  unfold isLw at ulw
  have := kc_0
  have := kc_1
  have := kc_m1
  have := kc_m2
  refine q_aload_n hM dX11_does_0 (lv_at hl 0 rfl) ?_
  refine w_get (v := .ref (ad 18)) hM hW FG_X11_26 lb_0 (rf_0_10 hW.2.1) dX11_does_1 ?_
  refine w_getI hM hW FG_X11_135 lb_18 (by decide) (by decide) dX11_does_4 (fun x4814 fx4814 => ?_)
  have bx4814 := hG.f fx4814 rF_18_3 (by decide)
  refine q_iload_n hM dX11_does_7 (lv_at hl 1 rfl) ?_
  refine q_callS (As := [.int x4814, .int a]) (rest := []) hM hW.1 hR hC myX11_has (kAW (v_1_10 (List.mem_of_getElem? (i := 8) rfl)) rfl) (c_X11_has _ _ cA ad g0 x4814 a hW.2.1) ⟨by decide, by decide⟩ rfl rfl hl.1 (Nat.le_of_ble_eq_true rfl) dX11_does_8 (fun v g4816 H locs hp hW1 => ?_)
  obtain ⟨r4815, rfl, hr4815, rfl⟩ := hp
  have hW : WS ad cA (fun i k => (i = 80 ∧ (k = 7 ∨ k = 8 ∨ k = 9 ∨ k = 10)) ∨ (22 ≤ i ∧ i < 30) ∨ i = 83 ∨ i = (lw + 6)) g0 K g0 H locs := ⟨hW1, hW.2.1, hW.2.2⟩
  first | have ltr4815 := has_lt 5 hr4815 (by omega) (by omega) | have ltr4815 := has_lt 6 hr4815 (by omega) (by omega) | have ltr4815 := has_lt 8 hr4815 (by omega) (by omega) | have ltr4815 := has_lt 12 hr4815 (by omega) (by omega) | skip
  refine q_if_eq (tgt := 28) hM dX11_does_11 (by decide) (rfl : r4815.toInt = r4815.toInt) (fun h11 => ?_) (fun h11 => ?_)
  · refine q_iconst (v := ((-1) : Int32)) hM dX11_does_28 (by decide) ?_
    exact hE _ _ _ _ _ _ hW.1 ⟨_, rfl, hW.2.1, hG, hW.2.2⟩ dX11_does_29
  · refine q_aload_n hM dX11_does_14 (lv_at hl 0 rfl) ?_
    refine w_get (v := .ref (ad 80)) hM hW FG_X11_83 lb_0 (rf_0_2 hW.2.1) dX11_does_15 ?_
    refine w_getI hM hW FG_X11_158 lb_80 (by decide) (by decide) dX11_does_18 (fun x4819 fx4819 => ?_)
    have bx4819 := hG.f fx4819 rF_80_4 (by decide)
    refine q_iload_n hM dX11_does_21 (lv_at hl 2 rfl) ?_
    refine q_callS (As := [.int x4819, .int b]) (rest := []) hM hW.1 hR hC myX11_has (kAW (v_1_10 (List.mem_of_getElem? (i := 8) rfl)) rfl) (c_X11_has _ _ cA ad g0 x4819 b hW.2.1) ⟨by decide, by decide⟩ rfl rfl hl.1 (Nat.le_of_ble_eq_true rfl) dX11_does_22 (fun v g4821 H locs hp hW1 => ?_)
    obtain ⟨r4820, rfl, hr4820, rfl⟩ := hp
    have hW : WS ad cA (fun i k => (i = 80 ∧ (k = 7 ∨ k = 8 ∨ k = 9 ∨ k = 10)) ∨ (22 ≤ i ∧ i < 30) ∨ i = 83 ∨ i = (lw + 6)) g0 K g0 H locs := ⟨hW1, hW.2.1, hW.2.2⟩
    first | have ltr4820 := has_lt 5 hr4820 (by omega) (by omega) | have ltr4820 := has_lt 6 hr4820 (by omega) (by omega) | have ltr4820 := has_lt 8 hr4820 (by omega) (by omega) | have ltr4820 := has_lt 12 hr4820 (by omega) (by omega) | skip
    refine q_if_ne (tgt := 30) hM dX11_does_25 (by decide) (rfl : r4820.toInt = r4820.toInt) (fun h25 => ?_) (fun h25 => ?_)
    · refine q_aload_n hM dX11_does_30 (lv_at hl 0 rfl) ?_
      refine w_get (v := .ref (ad 80)) hM hW FG_X11_83 lb_0 (rf_0_2 hW.2.1) dX11_does_31 ?_
      refine q_aload_n hM dX11_does_34 (lv_at hl 0 rfl) ?_
      refine w_get (v := .ref (ad lw)) hM hW FG_X11_39 lb_0 ((hW.2.2.1 0 13 (by omega)).trans h_r13) dX11_does_35 ?_
      refine q_aload_n hM dX11_does_38 (lv_at hl 0 rfl) ?_
      refine w_get (v := .ref (ad 18)) hM hW FG_X11_26 lb_0 (rf_0_10 hW.2.1) dX11_does_39 ?_
      refine q_callV (As := [.ref (ad lw), .ref (ad 18)]) (rest := []) hM hW.1 hR hC myX2_begin (kAW (v_2_9 (List.mem_of_getElem? (i := 11) rfl)) rfl) (rfl : vwCl[2]? = some (RX2, TX2, 11)) rfl lb_80.1 (shO hW.2.1 lb_80) (a_X2_begin _ _ cA ad g0 lw 18 hW.2.1 hG hlw (Or.inl rfl : isPb 18)) ⟨by decide, by decide⟩ rfl rfl hl.1 (Nat.le_of_ble_eq_true rfl) dX11_does_42 (fun v g4825 H locs hp hW1 => ?_)
      obtain ⟨rfl, hs1, hG, hf1, q4823, q4824⟩ := hp
      have f4826 : fld g4825 18 3 = .int x4814 := (hf1.1 18 3 (by omega)).trans fx4814
      have f4827 : fld g4825 80 4 = .int x4819 := (hf1.1 80 4 (by omega)).trans fx4819
      have hW : WS ad cA (fun i k => (i = 80 ∧ (k = 7 ∨ k = 8 ∨ k = 9 ∨ k = 10)) ∨ (22 ≤ i ∧ i < 30) ∨ i = 83 ∨ i = (lw + 6)) g0 K g4825 H locs := ⟨hW1, hs1, hW.2.2.tr hf1 (fun i k h => (Or.inl h))⟩
      refine q_aload_n hM dX11_does_45 (lv_at hl 0 rfl) ?_
      refine w_get (v := .ref (ad 80)) hM hW FG_X11_83 lb_0 (rf_0_2 hW.2.1) dX11_does_46 ?_
      refine q_iload_n hM dX11_does_49 (lv_at hl 1 rfl) ?_
      refine q_aload_n hM dX11_does_50 (lv_at hl 0 rfl) ?_
      refine w_get (v := .ref (ad 80)) hM hW FG_X11_83 lb_0 (rf_0_2 hW.2.1) dX11_does_51 ?_
      refine w_get (v := .ref (ad 81)) hM hW FG_X11_150 lb_80 (rf_80_1 hW.2.1) dX11_does_54 ?_
      refine q_iload_n hM dX11_does_57 (lv_at hl 2 rfl) ?_
      refine w_aald hM hW lb_81 (Or.inr rfl) (i_in (by omega) (by omega)) (aq (aq_81 hW.2.1) (by omega) (by omega)) dX11_does_58 ?_
      refine q_callV (As := [.int a, .ref (ad (84 + 3 * b.toInt.toNat))]) (rest := []) hM hW.1 hR hC myX2_doArt (kAW (v_3_2 (List.mem_of_getElem? (i := 12) rfl)) rfl) (rfl : vwCl[2]? = some (RX2, TX2, 11)) rfl lb_80.1 (shO hW.2.1 lb_80) (a_X2_doArt_18 _ _ cA ad g4825 a (84 + 3 * b.toInt.toNat) lw hW.2.1 hG (isAt_art (by omega) : isAt (84 + 3 * b.toInt.toNat)) hlw q4823 q4824 (by  omega) (by  omega)) ⟨by decide, by decide⟩ rfl rfl hl.1 (Nat.le_of_ble_eq_true rfl) dX11_does_59 (fun v g4828 H locs hp hW1 => ?_)
      obtain ⟨rfl, hs1, hG, hf1⟩ := hp
      have f4829 : fld g4828 18 3 = .int x4814 := (hf1.1 18 3 (by omega)).trans f4826
      have f4830 : fld g4828 80 4 = .int x4819 := (hf1.1 80 4 (by omega)).trans f4827
      have f4831 : fld g4828 80 9 = .ref (ad lw) := (hf1.1 80 9 (by omega)).trans q4823
      have f4832 : fld g4828 80 10 = .ref (ad 18) := (hf1.1 80 10 (by omega)).trans q4824
      have hW : WS ad cA (fun i k => (i = 80 ∧ (k = 7 ∨ k = 8 ∨ k = 9 ∨ k = 10)) ∨ (22 ≤ i ∧ i < 30) ∨ i = 83 ∨ i = (lw + 6)) g0 K g4828 H locs := ⟨hW1, hs1, hW.2.2.tr hf1 (fun i k h => h.elim (fun h => (Or.inr (Or.inl h))) (fun h => h.elim (fun h => (Or.inr (Or.inr (Or.inl h)))) (fun h => (Or.inr (Or.inr (Or.inr h))))))⟩
      refine q_aload_n hM dX11_does_62 (lv_at hl 0 rfl) ?_
      refine w_get (v := .ref (ad 18)) hM hW FG_X11_26 lb_0 (rf_0_10 hW.2.1) dX11_does_63 ?_
      refine q_iload_n hM dX11_does_66 (lv_at hl 1 rfl) ?_
      refine q_callV (As := [.int a]) (rest := []) hM hW.1 hR hC myX7_known (kAW (v_3_1 (List.mem_of_getElem? (i := 1) rfl)) rfl) (rfl : vwCl[7]? = some (RX7, TX7, 8)) rfl lb_18.1 (shO hW.2.1 lb_18) (a_X7_known _ _ cA ad g4828 18 a hW.2.1 hG (Or.inl rfl : isPb 18) (by  omega) (by  omega)) ⟨by decide, by decide⟩ rfl rfl hl.1 (Nat.le_of_ble_eq_true rfl) dX11_does_67 (fun v g4834 H locs hp hW1 => ?_)
      obtain ⟨r4833, rfl, hr4833, rfl⟩ := hp
      have hW : WS ad cA (fun i k => (i = 80 ∧ (k = 7 ∨ k = 8 ∨ k = 9 ∨ k = 10)) ∨ (22 ≤ i ∧ i < 30) ∨ i = 83 ∨ i = (lw + 6)) g0 K g4828 H locs := ⟨hW1, hW.2.1, hW.2.2⟩
      refine q_callS (As := [.int r4833]) (rest := []) hM hW.1 hR hC myJ6_bitCount_0f7a4 (kAW (v_3_1 (List.mem_of_getElem? (i := 2) rfl)) rfl) (c_J6_bitCount_0f7a4 _ _ cA ad g4828 r4833 hW.2.1) ⟨by decide, by decide⟩ rfl rfl hl.1 (Nat.le_of_ble_eq_true rfl) dX11_does_70 (fun v g4836 H locs hp hW1 => ?_)
      obtain ⟨r4835, rfl, hr4835, rfl⟩ := hp
      have hW : WS ad cA (fun i k => (i = 80 ∧ (k = 7 ∨ k = 8 ∨ k = 9 ∨ k = 10)) ∨ (22 ≤ i ∧ i < 30) ∨ i = 83 ∨ i = (lw + 6)) g0 K g4828 H locs := ⟨hW1, hW.2.1, hW.2.2⟩
      exact hE _ _ _ _ _ _ hW.1 ⟨_, rfl, hW.2.1, hG, hW.2.2⟩ dX11_does_73
    · refine q_iconst (v := ((-1) : Int32)) hM dX11_does_28 (by decide) ?_
      exact hE _ _ _ _ _ _ hW.1 ⟨_, rfl, hW.2.1, hG, hW.2.2⟩ dX11_does_29

theorem dX11_pupilIs_0 : decode cX11_pupilIs 0 = .ok (.aload_n 0, 1) := by decide +kernel
theorem dX11_pupilIs_1 : decode cX11_pupilIs 1 = .ok (.getfield 26, 3) := by decide +kernel
theorem dX11_pupilIs_4 : decode cX11_pupilIs 4 = .ok (.getfield 135, 3) := by decide +kernel
theorem dX11_pupilIs_7 : decode cX11_pupilIs 7 = .ok (.iload_n 1, 1) := by decide +kernel
theorem dX11_pupilIs_8 : decode cX11_pupilIs 8 = .ok (.invokestatic 123, 3) := by decide +kernel
theorem dX11_pupilIs_11 : decode cX11_pupilIs 11 = .ok (.ifCond .ne 5, 3) := by decide +kernel
theorem dX11_pupilIs_14 : decode cX11_pupilIs 14 = .ok (.iconst (-1), 1) := by decide +kernel
theorem dX11_pupilIs_15 : decode cX11_pupilIs 15 = .ok (.ireturn, 1) := by decide +kernel
theorem dX11_pupilIs_16 : decode cX11_pupilIs 16 = .ok (.iload_n 2, 1) := by decide +kernel
theorem dX11_pupilIs_17 : decode cX11_pupilIs 17 = .ok (.tableswitch 82 0 4 #[35, 45, 55, 64, 73], 35) := by decide +kernel
theorem dX11_pupilIs_52 : decode cX11_pupilIs 52 = .ok (.aload_n 0, 1) := by decide +kernel
theorem dX11_pupilIs_53 : decode cX11_pupilIs 53 = .ok (.getfield 26, 3) := by decide +kernel
theorem dX11_pupilIs_56 : decode cX11_pupilIs 56 = .ok (.getfield 211, 3) := by decide +kernel
theorem dX11_pupilIs_59 : decode cX11_pupilIs 59 = .ok (.iload_n 1, 1) := by decide +kernel
theorem dX11_pupilIs_60 : decode cX11_pupilIs 60 = .ok (.iaload, 1) := by decide +kernel
theorem dX11_pupilIs_61 : decode cX11_pupilIs 61 = .ok (.ireturn, 1) := by decide +kernel
theorem dX11_pupilIs_62 : decode cX11_pupilIs 62 = .ok (.aload_n 0, 1) := by decide +kernel
theorem dX11_pupilIs_63 : decode cX11_pupilIs 63 = .ok (.getfield 26, 3) := by decide +kernel
theorem dX11_pupilIs_66 : decode cX11_pupilIs 66 = .ok (.getfield 214, 3) := by decide +kernel
theorem dX11_pupilIs_69 : decode cX11_pupilIs 69 = .ok (.iload_n 1, 1) := by decide +kernel
theorem dX11_pupilIs_70 : decode cX11_pupilIs 70 = .ok (.iaload, 1) := by decide +kernel
theorem dX11_pupilIs_71 : decode cX11_pupilIs 71 = .ok (.ireturn, 1) := by decide +kernel
theorem dX11_pupilIs_72 : decode cX11_pupilIs 72 = .ok (.aload_n 0, 1) := by decide +kernel
theorem dX11_pupilIs_73 : decode cX11_pupilIs 73 = .ok (.getfield 26, 3) := by decide +kernel
theorem dX11_pupilIs_76 : decode cX11_pupilIs 76 = .ok (.iload_n 1, 1) := by decide +kernel
theorem dX11_pupilIs_77 : decode cX11_pupilIs 77 = .ok (.invokevirtual 203, 3) := by decide +kernel
theorem dX11_pupilIs_80 : decode cX11_pupilIs 80 = .ok (.ireturn, 1) := by decide +kernel
theorem dX11_pupilIs_81 : decode cX11_pupilIs 81 = .ok (.aload_n 0, 1) := by decide +kernel
theorem dX11_pupilIs_82 : decode cX11_pupilIs 82 = .ok (.getfield 26, 3) := by decide +kernel
theorem dX11_pupilIs_85 : decode cX11_pupilIs 85 = .ok (.iload_n 1, 1) := by decide +kernel
theorem dX11_pupilIs_86 : decode cX11_pupilIs 86 = .ok (.invokevirtual 217, 3) := by decide +kernel
theorem dX11_pupilIs_89 : decode cX11_pupilIs 89 = .ok (.ireturn, 1) := by decide +kernel
theorem dX11_pupilIs_90 : decode cX11_pupilIs 90 = .ok (.aload_n 0, 1) := by decide +kernel
theorem dX11_pupilIs_91 : decode cX11_pupilIs 91 = .ok (.getfield 26, 3) := by decide +kernel
theorem dX11_pupilIs_94 : decode cX11_pupilIs 94 = .ok (.iload_n 1, 1) := by decide +kernel
theorem dX11_pupilIs_95 : decode cX11_pupilIs 95 = .ok (.invokevirtual 220, 3) := by decide +kernel
theorem dX11_pupilIs_98 : decode cX11_pupilIs 98 = .ok (.ireturn, 1) := by decide +kernel
theorem dX11_pupilIs_99 : decode cX11_pupilIs 99 = .ok (.iconst (-1), 1) := by decide +kernel
theorem dX11_pupilIs_100 : decode cX11_pupilIs 100 = .ok (.ireturn, 1) := by decide +kernel
theorem FG_X11_214 : FG RX11 214 7 8 1 := ⟨RX7, TX7, rfl, wX7, by decide, kAW (v_0_5 (List.mem_of_getElem? (i := 0) rfl)) rfl, rfl⟩
theorem myX7_strongest : MI yX7_strongest cX7_strongest 5 (some FieldType.int) 1 := ⟨kAW (v_3_3 (List.mem_of_getElem? (i := 4) rfl)) rfl, kAW (v_0_0 (List.mem_of_getElem? (i := 4) rfl)) rfl, kAW (v_3_3 (List.mem_of_getElem? (i := 2) rfl)) rfl, kAW (v_3_3 (List.mem_of_getElem? (i := 3) rfl)) rfl, by decide, by decide, by decide +kernel⟩
theorem myX7_together : MI yX7_together cX7_together 4 (some FieldType.int) 1 := ⟨kAW (v_3_3 (List.mem_of_getElem? (i := 8) rfl)) rfl, kAW (v_0_0 (List.mem_of_getElem? (i := 4) rfl)) rfl, kAW (v_3_3 (List.mem_of_getElem? (i := 6) rfl)) rfl, kAW (v_3_3 (List.mem_of_getElem? (i := 7) rfl)) rfl, by decide, by decide, by decide +kernel⟩
set_option maxRecDepth 100000 in
set_option maxHeartbeats 4000000 in
theorem p_X11_pupilIs (l : Launch) (D : va_G) (cA : Nat → ClassId) (ad : Nat → Nat) (g0 : Nat → va_E) (a : Int32) (b : Int32)   (hSh : Shp ad cA g0) (hG : Rng g0) : CT l NN ad cA D yX11_pupilIs cX11_pupilIs 3 (some FieldType.int) (1, 24) [.ref (ad 0), .int a, .int b] g0 (fun v g' => ∃ (r : Int32), v = some (.int r) ∧ Shp ad cA g' ∧ Rng g' ∧ FR (fun i k => False) g0 g') := by
  refine q_enterI (by decide) (Nat.le_of_ble_eq_true rfl) rfl (fun K H locs ls _ _ hM hW0 hR hC hE hl => ?_)
  have hl : lv_has ls 3 [(0, .ref (ad 0)), (1, .int a), (2, .int b)] := hl
  have hW : WS ad cA (fun i k => False) g0 K g0 H locs := ⟨hW0, hSh, FR.rf⟩
  have := kc_0
  have := kc_1
  have := kc_m1
  have := kc_m2
  refine q_aload_n hM dX11_pupilIs_0 (lv_at hl 0 rfl) ?_
  refine w_get (v := .ref (ad 18)) hM hW FG_X11_26 lb_0 (rf_0_10 hW.2.1) dX11_pupilIs_1 ?_
  refine w_getI hM hW FG_X11_135 lb_18 (by decide) (by decide) dX11_pupilIs_4 (fun x4838 fx4838 => ?_)
  have bx4838 := hG.f fx4838 rF_18_3 (by decide)
  refine q_iload_n hM dX11_pupilIs_7 (lv_at hl 1 rfl) ?_
  refine q_callS (As := [.int x4838, .int a]) (rest := []) hM hW.1 hR hC myX11_has (kAW (v_1_10 (List.mem_of_getElem? (i := 8) rfl)) rfl) (c_X11_has _ _ cA ad g0 x4838 a hW.2.1) ⟨by decide, by decide⟩ rfl rfl hl.1 (Nat.le_of_ble_eq_true rfl) dX11_pupilIs_8 (fun v g4840 H locs hp hW1 => ?_)
  obtain ⟨r4839, rfl, hr4839, rfl⟩ := hp
  have hW : WS ad cA (fun i k => False) g0 K g0 H locs := ⟨hW1, hW.2.1, hW.2.2⟩
  first | have ltr4839 := has_lt 5 hr4839 (by omega) (by omega) | have ltr4839 := has_lt 6 hr4839 (by omega) (by omega) | have ltr4839 := has_lt 8 hr4839 (by omega) (by omega) | have ltr4839 := has_lt 12 hr4839 (by omega) (by omega) | skip
  refine q_if_ne (tgt := 16) hM dX11_pupilIs_11 (by decide) (rfl : r4839.toInt = r4839.toInt) (fun h11 => ?_) (fun h11 => ?_)
  · refine q_iload_n hM dX11_pupilIs_16 (lv_at hl 2 rfl) ?_
    rcases (show b.toInt < 0 ∨ 4 < b.toInt ∨ b.toInt = 0 ∨ b.toInt = 1 ∨ b.toInt = 2 ∨ b.toInt = 3 ∨ b.toInt = 4 from by omega) with h17 | h17 | h17 | h17 | h17 | h17 | h17
    · refine q_tableOut (tgt := 99) hM dX11_pupilIs_17 rfl (by omega) (by decide) ?_
      refine q_iconst (v := ((-1) : Int32)) hM dX11_pupilIs_99 (by decide) ?_
      exact hE _ _ _ _ _ _ hW.1 ⟨_, rfl, hW.2.1, hG, hW.2.2⟩ dX11_pupilIs_100
    · refine q_tableOut (tgt := 99) hM dX11_pupilIs_17 rfl (by omega) (by decide) ?_
      refine q_iconst (v := ((-1) : Int32)) hM dX11_pupilIs_99 (by decide) ?_
      exact hE _ _ _ _ _ _ hW.1 ⟨_, rfl, hW.2.1, hG, hW.2.2⟩ dX11_pupilIs_100
    · refine q_tableIn (tgt := 52) hM dX11_pupilIs_17 ((rfl : b.toInt = _).trans h17) (by decide) (by decide) rfl (by decide) ?_
      refine q_aload_n hM dX11_pupilIs_52 (lv_at hl 0 rfl) ?_
      refine w_get (v := .ref (ad 18)) hM hW FG_X11_26 lb_0 (rf_0_10 hW.2.1) dX11_pupilIs_53 ?_
      refine w_get (v := .ref (ad 19)) hM hW FG_X11_211 lb_18 (rf_18_0 hW.2.1) dX11_pupilIs_56 ?_
      refine q_iload_n hM dX11_pupilIs_59 (lv_at hl 1 rfl) ?_
      refine w_iald hM hW lb_19 (i_in (by omega) (by omega)) dX11_pupilIs_60 ?_
      refine q_top (fun y4845 hy4845 => ?_)
      have by4845 := hG.a hy4845 rA_19
      exact hE _ _ _ _ _ _ hW.1 ⟨_, rfl, hW.2.1, hG, hW.2.2⟩ dX11_pupilIs_61
    · refine q_tableIn (tgt := 62) hM dX11_pupilIs_17 ((rfl : b.toInt = _).trans h17) (by decide) (by decide) rfl (by decide) ?_
      refine q_aload_n hM dX11_pupilIs_62 (lv_at hl 0 rfl) ?_
      refine w_get (v := .ref (ad 18)) hM hW FG_X11_26 lb_0 (rf_0_10 hW.2.1) dX11_pupilIs_63 ?_
      refine w_get (v := .ref (ad 20)) hM hW FG_X11_214 lb_18 (rf_18_1 hW.2.1) dX11_pupilIs_66 ?_
      refine q_iload_n hM dX11_pupilIs_69 (lv_at hl 1 rfl) ?_
      refine w_iald hM hW lb_20 (i_in (by omega) (by omega)) dX11_pupilIs_70 ?_
      refine q_top (fun y4847 hy4847 => ?_)
      exact hE _ _ _ _ _ _ hW.1 ⟨_, rfl, hW.2.1, hG, hW.2.2⟩ dX11_pupilIs_71
    · refine q_tableIn (tgt := 72) hM dX11_pupilIs_17 ((rfl : b.toInt = _).trans h17) (by decide) (by decide) rfl (by decide) ?_
      refine q_aload_n hM dX11_pupilIs_72 (lv_at hl 0 rfl) ?_
      refine w_get (v := .ref (ad 18)) hM hW FG_X11_26 lb_0 (rf_0_10 hW.2.1) dX11_pupilIs_73 ?_
      refine q_iload_n hM dX11_pupilIs_76 (lv_at hl 1 rfl) ?_
      refine q_callV (As := [.int a]) (rest := []) hM hW.1 hR hC myX7_known (kAW (v_3_1 (List.mem_of_getElem? (i := 1) rfl)) rfl) (rfl : vwCl[7]? = some (RX7, TX7, 8)) rfl lb_18.1 (shO hW.2.1 lb_18) (a_X7_known _ _ cA ad g0 18 a hW.2.1 hG (Or.inl rfl : isPb 18) (by  omega) (by  omega)) ⟨by decide, by decide⟩ rfl rfl hl.1 (Nat.le_of_ble_eq_true rfl) dX11_pupilIs_77 (fun v g4850 H locs hp hW1 => ?_)
      obtain ⟨r4849, rfl, hr4849, rfl⟩ := hp
      have hW : WS ad cA (fun i k => False) g0 K g0 H locs := ⟨hW1, hW.2.1, hW.2.2⟩
      exact hE _ _ _ _ _ _ hW.1 ⟨_, rfl, hW.2.1, hG, hW.2.2⟩ dX11_pupilIs_80
    · refine q_tableIn (tgt := 81) hM dX11_pupilIs_17 ((rfl : b.toInt = _).trans h17) (by decide) (by decide) rfl (by decide) ?_
      refine q_aload_n hM dX11_pupilIs_81 (lv_at hl 0 rfl) ?_
      refine w_get (v := .ref (ad 18)) hM hW FG_X11_26 lb_0 (rf_0_10 hW.2.1) dX11_pupilIs_82 ?_
      refine q_iload_n hM dX11_pupilIs_85 (lv_at hl 1 rfl) ?_
      refine q_callV (As := [.int a]) (rest := []) hM hW.1 hR hC myX7_strongest (kAW (v_3_3 (List.mem_of_getElem? (i := 1) rfl)) rfl) (rfl : vwCl[7]? = some (RX7, TX7, 8)) rfl lb_18.1 (shO hW.2.1 lb_18) (a_X7_strongest _ _ cA ad g0 18 a hW.2.1 hG (Or.inl rfl : isPb 18) (by  omega) (by  omega)) ⟨by decide, by decide⟩ rfl rfl hl.1 (Nat.le_of_ble_eq_true rfl) dX11_pupilIs_86 (fun v g4853 H locs hp hW1 => ?_)
      obtain ⟨r4852, rfl, hr4852, rfl⟩ := hp
      have hW : WS ad cA (fun i k => False) g0 K g0 H locs := ⟨hW1, hW.2.1, hW.2.2⟩
      exact hE _ _ _ _ _ _ hW.1 ⟨_, rfl, hW.2.1, hG, hW.2.2⟩ dX11_pupilIs_89
    · refine q_tableIn (tgt := 90) hM dX11_pupilIs_17 ((rfl : b.toInt = _).trans h17) (by decide) (by decide) rfl (by decide) ?_
      refine q_aload_n hM dX11_pupilIs_90 (lv_at hl 0 rfl) ?_
      refine w_get (v := .ref (ad 18)) hM hW FG_X11_26 lb_0 (rf_0_10 hW.2.1) dX11_pupilIs_91 ?_
      refine q_iload_n hM dX11_pupilIs_94 (lv_at hl 1 rfl) ?_
      refine q_callV (As := [.int a]) (rest := []) hM hW.1 hR hC myX7_together (kAW (v_3_3 (List.mem_of_getElem? (i := 5) rfl)) rfl) (rfl : vwCl[7]? = some (RX7, TX7, 8)) rfl lb_18.1 (shO hW.2.1 lb_18) (a_X7_together _ _ cA ad g0 18 a hW.2.1 hG (Or.inl rfl : isPb 18) (by  omega) (by  omega)) ⟨by decide, by decide⟩ rfl rfl hl.1 (Nat.le_of_ble_eq_true rfl) dX11_pupilIs_95 (fun v g4856 H locs hp hW1 => ?_)
      obtain ⟨r4855, rfl, hr4855, rfl⟩ := hp
      have hW : WS ad cA (fun i k => False) g0 K g0 H locs := ⟨hW1, hW.2.1, hW.2.2⟩
      exact hE _ _ _ _ _ _ hW.1 ⟨_, rfl, hW.2.1, hG, hW.2.2⟩ dX11_pupilIs_98
  · refine q_iconst (v := ((-1) : Int32)) hM dX11_pupilIs_14 (by decide) ?_
    exact hE _ _ _ _ _ _ hW.1 ⟨_, rfl, hW.2.1, hG, hW.2.2⟩ dX11_pupilIs_15

theorem dX11_strength_0 : decode cX11_strength 0 = .ok (.aload_n 0, 1) := by decide +kernel
theorem dX11_strength_1 : decode cX11_strength 1 = .ok (.getfield 26, 3) := by decide +kernel
theorem dX11_strength_4 : decode cX11_strength 4 = .ok (.getfield 135, 3) := by decide +kernel
theorem dX11_strength_7 : decode cX11_strength 7 = .ok (.iload_n 1, 1) := by decide +kernel
theorem dX11_strength_8 : decode cX11_strength 8 = .ok (.invokestatic 123, 3) := by decide +kernel
theorem dX11_strength_11 : decode cX11_strength 11 = .ok (.ifCond .eq 31, 3) := by decide +kernel
theorem dX11_strength_14 : decode cX11_strength 14 = .ok (.aload_n 0, 1) := by decide +kernel
theorem dX11_strength_15 : decode cX11_strength 15 = .ok (.getfield 19, 3) := by decide +kernel
theorem dX11_strength_18 : decode cX11_strength 18 = .ok (.getfield 116, 3) := by decide +kernel
theorem dX11_strength_21 : decode cX11_strength 21 = .ok (.iload_n 2, 1) := by decide +kernel
theorem dX11_strength_22 : decode cX11_strength 22 = .ok (.invokestatic 123, 3) := by decide +kernel
theorem dX11_strength_25 : decode cX11_strength 25 = .ok (.ifCond .eq 17, 3) := by decide +kernel
theorem dX11_strength_28 : decode cX11_strength 28 = .ok (.aload_n 0, 1) := by decide +kernel
theorem dX11_strength_29 : decode cX11_strength 29 = .ok (.getfield 26, 3) := by decide +kernel
theorem dX11_strength_32 : decode cX11_strength 32 = .ok (.getfield 136, 3) := by decide +kernel
theorem dX11_strength_35 : decode cX11_strength 35 = .ok (.iload_n 1, 1) := by decide +kernel
theorem dX11_strength_36 : decode cX11_strength 36 = .ok (.aaload, 1) := by decide +kernel
theorem dX11_strength_37 : decode cX11_strength 37 = .ok (.iload_n 2, 1) := by decide +kernel
theorem dX11_strength_38 : decode cX11_strength 38 = .ok (.iaload, 1) := by decide +kernel
theorem dX11_strength_39 : decode cX11_strength 39 = .ok (.goto 4, 3) := by decide +kernel
theorem dX11_strength_42 : decode cX11_strength 42 = .ok (.iconst (-1), 1) := by decide +kernel
theorem dX11_strength_43 : decode cX11_strength 43 = .ok (.ireturn, 1) := by decide +kernel
set_option maxRecDepth 100000 in
set_option maxHeartbeats 4000000 in
theorem p_X11_strength (l : Launch) (D : va_G) (cA : Nat → ClassId) (ad : Nat → Nat) (g0 : Nat → va_E) (a : Int32) (b : Int32)   (hSh : Shp ad cA g0) (hG : Rng g0) : CT l NN ad cA D yX11_strength cX11_strength 3 (some FieldType.int) (1, 21) [.ref (ad 0), .int a, .int b] g0 (fun v g' => ∃ (r : Int32), v = some (.int r) ∧ Shp ad cA g' ∧ Rng g' ∧ FR (fun i k => False) g0 g') := by
  refine q_enterI (by decide) (Nat.le_of_ble_eq_true rfl) rfl (fun K H locs ls _ _ hM hW0 hR hC hE hl => ?_)
  have hl : lv_has ls 3 [(0, .ref (ad 0)), (1, .int a), (2, .int b)] := hl
  have hW : WS ad cA (fun i k => False) g0 K g0 H locs := ⟨hW0, hSh, FR.rf⟩
  have := kc_0
  have := kc_1
  have := kc_m1
  have := kc_m2
  refine q_aload_n hM dX11_strength_0 (lv_at hl 0 rfl) ?_
  refine w_get (v := .ref (ad 18)) hM hW FG_X11_26 lb_0 (rf_0_10 hW.2.1) dX11_strength_1 ?_
  refine w_getI hM hW FG_X11_135 lb_18 (by decide) (by decide) dX11_strength_4 (fun x4858 fx4858 => ?_)
  have bx4858 := hG.f fx4858 rF_18_3 (by decide)
  refine q_iload_n hM dX11_strength_7 (lv_at hl 1 rfl) ?_
  refine q_callS (As := [.int x4858, .int a]) (rest := []) hM hW.1 hR hC myX11_has (kAW (v_1_10 (List.mem_of_getElem? (i := 8) rfl)) rfl) (c_X11_has _ _ cA ad g0 x4858 a hW.2.1) ⟨by decide, by decide⟩ rfl rfl hl.1 (Nat.le_of_ble_eq_true rfl) dX11_strength_8 (fun v g4860 H locs hp hW1 => ?_)
  obtain ⟨r4859, rfl, hr4859, rfl⟩ := hp
  have hW : WS ad cA (fun i k => False) g0 K g0 H locs := ⟨hW1, hW.2.1, hW.2.2⟩
  first | have ltr4859 := has_lt 5 hr4859 (by omega) (by omega) | have ltr4859 := has_lt 6 hr4859 (by omega) (by omega) | have ltr4859 := has_lt 8 hr4859 (by omega) (by omega) | have ltr4859 := has_lt 12 hr4859 (by omega) (by omega) | skip
  refine q_if_eq (tgt := 42) hM dX11_strength_11 (by decide) (rfl : r4859.toInt = r4859.toInt) (fun h11 => ?_) (fun h11 => ?_)
  · refine q_iconst (v := ((-1) : Int32)) hM dX11_strength_42 (by decide) ?_
    exact hE _ _ _ _ _ _ hW.1 ⟨_, rfl, hW.2.1, hG, hW.2.2⟩ dX11_strength_43
  · refine q_aload_n hM dX11_strength_14 (lv_at hl 0 rfl) ?_
    refine w_get (v := .ref (ad 3)) hM hW FG_X11_19 lb_0 (rf_0_1 hW.2.1) dX11_strength_15 ?_
    refine w_getI hM hW FG_X11_116 lb_3 (by decide) (by decide) dX11_strength_18 (fun x4863 fx4863 => ?_)
    have bx4863 := hG.f fx4863 rF_3_2 (by decide)
    refine q_iload_n hM dX11_strength_21 (lv_at hl 2 rfl) ?_
    refine q_callS (As := [.int x4863, .int b]) (rest := []) hM hW.1 hR hC myX11_has (kAW (v_1_10 (List.mem_of_getElem? (i := 8) rfl)) rfl) (c_X11_has _ _ cA ad g0 x4863 b hW.2.1) ⟨by decide, by decide⟩ rfl rfl hl.1 (Nat.le_of_ble_eq_true rfl) dX11_strength_22 (fun v g4865 H locs hp hW1 => ?_)
    obtain ⟨r4864, rfl, hr4864, rfl⟩ := hp
    have hW : WS ad cA (fun i k => False) g0 K g0 H locs := ⟨hW1, hW.2.1, hW.2.2⟩
    first | have ltr4864 := has_lt 5 hr4864 (by omega) (by omega) | have ltr4864 := has_lt 6 hr4864 (by omega) (by omega) | have ltr4864 := has_lt 8 hr4864 (by omega) (by omega) | have ltr4864 := has_lt 12 hr4864 (by omega) (by omega) | skip
    refine q_if_eq (tgt := 42) hM dX11_strength_25 (by decide) (rfl : r4864.toInt = r4864.toInt) (fun h25 => ?_) (fun h25 => ?_)
    · refine q_iconst (v := ((-1) : Int32)) hM dX11_strength_42 (by decide) ?_
      exact hE _ _ _ _ _ _ hW.1 ⟨_, rfl, hW.2.1, hG, hW.2.2⟩ dX11_strength_43
    · refine q_aload_n hM dX11_strength_28 (lv_at hl 0 rfl) ?_
      refine w_get (v := .ref (ad 18)) hM hW FG_X11_26 lb_0 (rf_0_10 hW.2.1) dX11_strength_29 ?_
      refine w_get (v := .ref (ad 21)) hM hW FG_X11_136 lb_18 (rf_18_2 hW.2.1) dX11_strength_32 ?_
      refine q_iload_n hM dX11_strength_35 (lv_at hl 1 rfl) ?_
      refine w_aald hM hW lb_21 (Or.inl rfl) (i_in (by omega) (by omega)) (aq (aq_21 hW.2.1) (by omega) (by omega)) dX11_strength_36 ?_
      refine q_iload_n hM dX11_strength_37 (lv_at hl 2 rfl) ?_
      refine w_iald hM hW (lr_22 (by omega)) (i_in (by omega) (by omega)) dX11_strength_38 ?_
      refine q_top (fun y4868 hy4868 => ?_)
      refine q_goto (tgt := 43) hM dX11_strength_39 (by decide) ?_
      exact hE _ _ _ _ _ _ hW.1 ⟨_, rfl, hW.2.1, hG, hW.2.2⟩ dX11_strength_43

theorem dX11_heard_0 : decode cX11_heard 0 = .ok (.aload_n 0, 1) := by decide +kernel
theorem dX11_heard_1 : decode cX11_heard 1 = .ok (.getfield 26, 3) := by decide +kernel
theorem dX11_heard_4 : decode cX11_heard 4 = .ok (.getfield 135, 3) := by decide +kernel
theorem dX11_heard_7 : decode cX11_heard 7 = .ok (.iload_n 1, 1) := by decide +kernel
theorem dX11_heard_8 : decode cX11_heard 8 = .ok (.invokestatic 123, 3) := by decide +kernel
theorem dX11_heard_11 : decode cX11_heard 11 = .ok (.ifCond .eq 37, 3) := by decide +kernel
theorem dX11_heard_14 : decode cX11_heard 14 = .ok (.aload_n 0, 1) := by decide +kernel
theorem dX11_heard_15 : decode cX11_heard 15 = .ok (.getfield 19, 3) := by decide +kernel
theorem dX11_heard_18 : decode cX11_heard 18 = .ok (.getfield 116, 3) := by decide +kernel
theorem dX11_heard_21 : decode cX11_heard 21 = .ok (.iload_n 2, 1) := by decide +kernel
theorem dX11_heard_22 : decode cX11_heard 22 = .ok (.invokestatic 123, 3) := by decide +kernel
theorem dX11_heard_25 : decode cX11_heard 25 = .ok (.ifCond .eq 23, 3) := by decide +kernel
theorem dX11_heard_28 : decode cX11_heard 28 = .ok (.aload_n 0, 1) := by decide +kernel
theorem dX11_heard_29 : decode cX11_heard 29 = .ok (.getfield 19, 3) := by decide +kernel
theorem dX11_heard_32 : decode cX11_heard 32 = .ok (.aload_n 0, 1) := by decide +kernel
theorem dX11_heard_33 : decode cX11_heard 33 = .ok (.getfield 26, 3) := by decide +kernel
theorem dX11_heard_36 : decode cX11_heard 36 = .ok (.getfield 136, 3) := by decide +kernel
theorem dX11_heard_39 : decode cX11_heard 39 = .ok (.iload_n 1, 1) := by decide +kernel
theorem dX11_heard_40 : decode cX11_heard 40 = .ok (.aaload, 1) := by decide +kernel
theorem dX11_heard_41 : decode cX11_heard 41 = .ok (.iload_n 2, 1) := by decide +kernel
theorem dX11_heard_42 : decode cX11_heard 42 = .ok (.invokevirtual 223, 3) := by decide +kernel
theorem dX11_heard_45 : decode cX11_heard 45 = .ok (.goto 4, 3) := by decide +kernel
theorem dX11_heard_48 : decode cX11_heard 48 = .ok (.iconst (-1), 1) := by decide +kernel
theorem dX11_heard_49 : decode cX11_heard 49 = .ok (.ireturn, 1) := by decide +kernel
set_option maxRecDepth 100000 in
set_option maxHeartbeats 4000000 in
theorem p_X11_heard (l : Launch) (D : va_G) (cA : Nat → ClassId) (ad : Nat → Nat) (g0 : Nat → va_E) (a : Int32) (b : Int32)   (hSh : Shp ad cA g0) (hG : Rng g0) : CT l NN ad cA D yX11_heard cX11_heard 3 (some FieldType.int) (1, 24) [.ref (ad 0), .int a, .int b] g0 (fun v g' => ∃ (r : Int32), v = some (.int r) ∧ Shp ad cA g' ∧ Rng g' ∧ FR (fun i k => False) g0 g') := by
  refine q_enterI (by decide) (Nat.le_of_ble_eq_true rfl) rfl (fun K H locs ls _ _ hM hW0 hR hC hE hl => ?_)
  have hl : lv_has ls 3 [(0, .ref (ad 0)), (1, .int a), (2, .int b)] := hl
  have hW : WS ad cA (fun i k => False) g0 K g0 H locs := ⟨hW0, hSh, FR.rf⟩
  have := kc_0
  have := kc_1
  have := kc_m1
  have := kc_m2
  refine q_aload_n hM dX11_heard_0 (lv_at hl 0 rfl) ?_
  refine w_get (v := .ref (ad 18)) hM hW FG_X11_26 lb_0 (rf_0_10 hW.2.1) dX11_heard_1 ?_
  refine w_getI hM hW FG_X11_135 lb_18 (by decide) (by decide) dX11_heard_4 (fun x4869 fx4869 => ?_)
  have bx4869 := hG.f fx4869 rF_18_3 (by decide)
  refine q_iload_n hM dX11_heard_7 (lv_at hl 1 rfl) ?_
  refine q_callS (As := [.int x4869, .int a]) (rest := []) hM hW.1 hR hC myX11_has (kAW (v_1_10 (List.mem_of_getElem? (i := 8) rfl)) rfl) (c_X11_has _ _ cA ad g0 x4869 a hW.2.1) ⟨by decide, by decide⟩ rfl rfl hl.1 (Nat.le_of_ble_eq_true rfl) dX11_heard_8 (fun v g4871 H locs hp hW1 => ?_)
  obtain ⟨r4870, rfl, hr4870, rfl⟩ := hp
  have hW : WS ad cA (fun i k => False) g0 K g0 H locs := ⟨hW1, hW.2.1, hW.2.2⟩
  first | have ltr4870 := has_lt 5 hr4870 (by omega) (by omega) | have ltr4870 := has_lt 6 hr4870 (by omega) (by omega) | have ltr4870 := has_lt 8 hr4870 (by omega) (by omega) | have ltr4870 := has_lt 12 hr4870 (by omega) (by omega) | skip
  refine q_if_eq (tgt := 48) hM dX11_heard_11 (by decide) (rfl : r4870.toInt = r4870.toInt) (fun h11 => ?_) (fun h11 => ?_)
  · refine q_iconst (v := ((-1) : Int32)) hM dX11_heard_48 (by decide) ?_
    exact hE _ _ _ _ _ _ hW.1 ⟨_, rfl, hW.2.1, hG, hW.2.2⟩ dX11_heard_49
  · refine q_aload_n hM dX11_heard_14 (lv_at hl 0 rfl) ?_
    refine w_get (v := .ref (ad 3)) hM hW FG_X11_19 lb_0 (rf_0_1 hW.2.1) dX11_heard_15 ?_
    refine w_getI hM hW FG_X11_116 lb_3 (by decide) (by decide) dX11_heard_18 (fun x4874 fx4874 => ?_)
    have bx4874 := hG.f fx4874 rF_3_2 (by decide)
    refine q_iload_n hM dX11_heard_21 (lv_at hl 2 rfl) ?_
    refine q_callS (As := [.int x4874, .int b]) (rest := []) hM hW.1 hR hC myX11_has (kAW (v_1_10 (List.mem_of_getElem? (i := 8) rfl)) rfl) (c_X11_has _ _ cA ad g0 x4874 b hW.2.1) ⟨by decide, by decide⟩ rfl rfl hl.1 (Nat.le_of_ble_eq_true rfl) dX11_heard_22 (fun v g4876 H locs hp hW1 => ?_)
    obtain ⟨r4875, rfl, hr4875, rfl⟩ := hp
    have hW : WS ad cA (fun i k => False) g0 K g0 H locs := ⟨hW1, hW.2.1, hW.2.2⟩
    first | have ltr4875 := has_lt 5 hr4875 (by omega) (by omega) | have ltr4875 := has_lt 6 hr4875 (by omega) (by omega) | have ltr4875 := has_lt 8 hr4875 (by omega) (by omega) | have ltr4875 := has_lt 12 hr4875 (by omega) (by omega) | skip
    refine q_if_eq (tgt := 48) hM dX11_heard_25 (by decide) (rfl : r4875.toInt = r4875.toInt) (fun h25 => ?_) (fun h25 => ?_)
    · refine q_iconst (v := ((-1) : Int32)) hM dX11_heard_48 (by decide) ?_
      exact hE _ _ _ _ _ _ hW.1 ⟨_, rfl, hW.2.1, hG, hW.2.2⟩ dX11_heard_49
    · refine q_aload_n hM dX11_heard_28 (lv_at hl 0 rfl) ?_
      refine w_get (v := .ref (ad 3)) hM hW FG_X11_19 lb_0 (rf_0_1 hW.2.1) dX11_heard_29 ?_
      refine q_aload_n hM dX11_heard_32 (lv_at hl 0 rfl) ?_
      refine w_get (v := .ref (ad 18)) hM hW FG_X11_26 lb_0 (rf_0_10 hW.2.1) dX11_heard_33 ?_
      refine w_get (v := .ref (ad 21)) hM hW FG_X11_136 lb_18 (rf_18_2 hW.2.1) dX11_heard_36 ?_
      refine q_iload_n hM dX11_heard_39 (lv_at hl 1 rfl) ?_
      refine w_aald hM hW lb_21 (Or.inl rfl) (i_in (by omega) (by omega)) (aq (aq_21 hW.2.1) (by omega) (by omega)) dX11_heard_40 ?_
      refine q_iload_n hM dX11_heard_41 (lv_at hl 2 rfl) ?_
      refine q_callV (As := [.ref (ad (22 + 1 * a.toInt.toNat)), .int b]) (rest := []) hM hW.1 hR hC myX5_sound (kAW (v_3_4 (List.mem_of_getElem? (i := 1) rfl)) rfl) (rfl : vwCl[5]? = some (RX5, TX5, 3)) rfl lb_3.1 (shO hW.2.1 lb_3) (a_X5_sound _ _ cA ad g0 (22 + 1 * a.toInt.toNat) b hW.2.1 hG (by unfold isSr; omega : isSr (22 + 1 * a.toInt.toNat)) (by  omega) (by  omega)) ⟨by decide, by decide⟩ rfl rfl hl.1 (Nat.le_of_ble_eq_true rfl) dX11_heard_42 (fun v g4880 H locs hp hW1 => ?_)
      obtain ⟨r4879, rfl, hr4879, rfl⟩ := hp
      have hW : WS ad cA (fun i k => False) g0 K g0 H locs := ⟨hW1, hW.2.1, hW.2.2⟩
      refine q_goto (tgt := 49) hM dX11_heard_45 (by decide) ?_
      exact hE _ _ _ _ _ _ hW.1 ⟨_, rfl, hW.2.1, hG, hW.2.2⟩ dX11_heard_49

theorem dX11_order_0 : decode cX11_order 0 = .ok (.aload_n 0, 1) := by decide +kernel
theorem dX11_order_1 : decode cX11_order 1 = .ok (.getfield 26, 3) := by decide +kernel
theorem dX11_order_4 : decode cX11_order 4 = .ok (.getfield 135, 3) := by decide +kernel
theorem dX11_order_7 : decode cX11_order 7 = .ok (.iload_n 1, 1) := by decide +kernel
theorem dX11_order_8 : decode cX11_order 8 = .ok (.invokestatic 123, 3) := by decide +kernel
theorem dX11_order_11 : decode cX11_order 11 = .ok (.ifCond .eq 65, 3) := by decide +kernel
theorem dX11_order_14 : decode cX11_order 14 = .ok (.iload_n 2, 1) := by decide +kernel
theorem dX11_order_15 : decode cX11_order 15 = .ok (.aload_n 0, 1) := by decide +kernel
theorem dX11_order_16 : decode cX11_order 16 = .ok (.getfield 83, 3) := by decide +kernel
theorem dX11_order_19 : decode cX11_order 19 = .ok (.getfield 158, 3) := by decide +kernel
theorem dX11_order_22 : decode cX11_order 22 = .ok (.invokestatic 227, 3) := by decide +kernel
theorem dX11_order_25 : decode cX11_order 25 = .ok (.ifCond .eq 51, 3) := by decide +kernel
theorem dX11_order_28 : decode cX11_order 28 = .ok (.iload_n 2, 1) := by decide +kernel
theorem dX11_order_29 : decode cX11_order 29 = .ok (.invokestatic 206, 3) := by decide +kernel
theorem dX11_order_32 : decode cX11_order 32 = .ok (.iconst 1, 1) := by decide +kernel
theorem dX11_order_33 : decode cX11_order 33 = .ok (.iconst 4, 1) := by decide +kernel
theorem dX11_order_34 : decode cX11_order 34 = .ok (.invokestatic 112, 3) := by decide +kernel
theorem dX11_order_37 : decode cX11_order 37 = .ok (.ifCond .eq 39, 3) := by decide +kernel
theorem dX11_order_40 : decode cX11_order 40 = .ok (.iload_n 3, 1) := by decide +kernel
theorem dX11_order_41 : decode cX11_order 41 = .ok (.aload_n 0, 1) := by decide +kernel
theorem dX11_order_42 : decode cX11_order 42 = .ok (.getfield 19, 3) := by decide +kernel
theorem dX11_order_45 : decode cX11_order 45 = .ok (.getfield 116, 3) := by decide +kernel
theorem dX11_order_48 : decode cX11_order 48 = .ok (.invokestatic 227, 3) := by decide +kernel
theorem dX11_order_51 : decode cX11_order 51 = .ok (.ifCond .eq 25, 3) := by decide +kernel
theorem dX11_order_54 : decode cX11_order 54 = .ok (.iload 4, 2) := by decide +kernel
theorem dX11_order_56 : decode cX11_order 56 = .ok (.aload_n 0, 1) := by decide +kernel
theorem dX11_order_57 : decode cX11_order 57 = .ok (.getfield 19, 3) := by decide +kernel
theorem dX11_order_60 : decode cX11_order 60 = .ok (.getfield 116, 3) := by decide +kernel
theorem dX11_order_63 : decode cX11_order 63 = .ok (.invokestatic 227, 3) := by decide +kernel
theorem dX11_order_66 : decode cX11_order 66 = .ok (.ifCond .eq 10, 3) := by decide +kernel
theorem dX11_order_69 : decode cX11_order 69 = .ok (.iload_n 3, 1) := by decide +kernel
theorem dX11_order_70 : decode cX11_order 70 = .ok (.iload 4, 2) := by decide +kernel
theorem dX11_order_72 : decode cX11_order 72 = .ok (.iand, 1) := by decide +kernel
theorem dX11_order_73 : decode cX11_order 73 = .ok (.ifCond .eq 5, 3) := by decide +kernel
theorem dX11_order_76 : decode cX11_order 76 = .ok (.iconst (-1), 1) := by decide +kernel
theorem dX11_order_77 : decode cX11_order 77 = .ok (.ireturn, 1) := by decide +kernel
theorem dX11_order_78 : decode cX11_order 78 = .ok (.aload_n 0, 1) := by decide +kernel
theorem dX11_order_79 : decode cX11_order 79 = .ok (.aload_n 0, 1) := by decide +kernel
theorem dX11_order_80 : decode cX11_order 80 = .ok (.getfield 39, 3) := by decide +kernel
theorem dX11_order_83 : decode cX11_order 83 = .ok (.invokevirtual 186, 3) := by decide +kernel
theorem dX11_order_86 : decode cX11_order 86 = .ok (.aload_n 0, 1) := by decide +kernel
theorem dX11_order_87 : decode cX11_order 87 = .ok (.getfield 97, 3) := by decide +kernel
theorem dX11_order_90 : decode cX11_order 90 = .ok (.aload_n 0, 1) := by decide +kernel
theorem dX11_order_91 : decode cX11_order 91 = .ok (.getfield 83, 3) := by decide +kernel
theorem dX11_order_94 : decode cX11_order 94 = .ok (.iload_n 1, 1) := by decide +kernel
theorem dX11_order_95 : decode cX11_order 95 = .ok (.iload_n 2, 1) := by decide +kernel
theorem dX11_order_96 : decode cX11_order 96 = .ok (.iload_n 3, 1) := by decide +kernel
theorem dX11_order_97 : decode cX11_order 97 = .ok (.iload 4, 2) := by decide +kernel
theorem dX11_order_99 : decode cX11_order 99 = .ok (.invokevirtual 230, 3) := by decide +kernel
theorem dX11_order_102 : decode cX11_order 102 = .ok (.istore 6, 2) := by decide +kernel
theorem dX11_order_104 : decode cX11_order 104 = .ok (.iload 6, 2) := by decide +kernel
theorem dX11_order_106 : decode cX11_order 106 = .ok (.ifCond .ge 6, 3) := by decide +kernel
theorem dX11_order_109 : decode cX11_order 109 = .ok (.bipush (-2), 2) := by decide +kernel
theorem dX11_order_111 : decode cX11_order 111 = .ok (.ireturn, 1) := by decide +kernel
theorem dX11_order_112 : decode cX11_order 112 = .ok (.iload 5, 2) := by decide +kernel
theorem dX11_order_114 : decode cX11_order 114 = .ok (.bipush 20, 2) := by decide +kernel
theorem dX11_order_116 : decode cX11_order 116 = .ok (.if_icmp .ne 6, 3) := by decide +kernel
theorem dX11_order_119 : decode cX11_order 119 = .ok (.iload 6, 2) := by decide +kernel
theorem dX11_order_121 : decode cX11_order 121 = .ok (.ireturn, 1) := by decide +kernel
theorem dX11_order_122 : decode cX11_order 122 = .ok (.iload 5, 2) := by decide +kernel
theorem dX11_order_124 : decode cX11_order 124 = .ok (.iconst 0, 1) := by decide +kernel
theorem dX11_order_125 : decode cX11_order 125 = .ok (.iload 6, 2) := by decide +kernel
theorem dX11_order_127 : decode cX11_order 127 = .ok (.iconst 1, 1) := by decide +kernel
theorem dX11_order_128 : decode cX11_order 128 = .ok (.isub, 1) := by decide +kernel
theorem dX11_order_129 : decode cX11_order 129 = .ok (.invokestatic 112, 3) := by decide +kernel
theorem dX11_order_132 : decode cX11_order 132 = .ok (.ifCond .eq 16, 3) := by decide +kernel
theorem dX11_order_135 : decode cX11_order 135 = .ok (.aload_n 0, 1) := by decide +kernel
theorem dX11_order_136 : decode cX11_order 136 = .ok (.getfield 97, 3) := by decide +kernel
theorem dX11_order_139 : decode cX11_order 139 = .ok (.getfield 234, 3) := by decide +kernel
theorem dX11_order_142 : decode cX11_order 142 = .ok (.iload 5, 2) := by decide +kernel
theorem dX11_order_144 : decode cX11_order 144 = .ok (.iaload, 1) := by decide +kernel
theorem dX11_order_145 : decode cX11_order 145 = .ok (.goto 5, 3) := by decide +kernel
theorem dX11_order_148 : decode cX11_order 148 = .ok (.bipush (-4), 2) := by decide +kernel
theorem dX11_order_150 : decode cX11_order 150 = .ok (.ireturn, 1) := by decide +kernel
theorem FG_X11_97 : FG RX11 97 11 16 4 := ⟨RX11, TX11, rfl, wX11, by decide, kAW (v_1_7 (List.mem_of_getElem? (i := 0) rfl)) rfl, rfl⟩
theorem myX8_find : MI yX8_find cX8_find 9 (some FieldType.int) 5 := ⟨kAW (v_3_4 (List.mem_of_getElem? (i := 12) rfl)) rfl, kAW (v_0_0 (List.mem_of_getElem? (i := 11) rfl)) rfl, kAW (v_3_4 (List.mem_of_getElem? (i := 10) rfl)) rfl, kAW (v_3_4 (List.mem_of_getElem? (i := 11) rfl)) rfl, by decide, by decide, by decide +kernel⟩
theorem FG_X11_234 : FG RX11 234 8 7 0 := ⟨RX8, TX8, rfl, wX8, by decide, kAW (v_1_4 (List.mem_of_getElem? (i := 0) rfl)) rfl, rfl⟩
set_option maxRecDepth 100000 in
set_option maxHeartbeats 4000000 in
theorem p_X11_order (l : Launch) (D : va_G) (cA : Nat → ClassId) (ad : Nat → Nat) (g0 : Nat → va_E) (a : Int32) (b : Int32) (c : Int32) (d : Int32) (e : Int32)  (lw : Nat) (hSh : Shp ad cA g0) (hG : Rng g0) (hlw : isLw lw) (h_r13 : fld g0 0 13 = .ref (ad lw)) : CT l NN ad cA D yX11_order cX11_order 7 (some FieldType.int) (7, 171) [.ref (ad 0), .int a, .int b, .int c, .int d, .int e] g0 (fun v g' => ∃ (r : Int32), v = some (.int r) ∧ Shp ad cA g' ∧ Rng g' ∧ FR (fun i k => i = 43 ∨ i = 44 ∨ (46 ≤ i ∧ i < 54) ∨ (i = 42 ∧ (k = 3 ∨ k = 4 ∨ k = 5 ∨ k = 6 ∨ k = 7)) ∨ (i = 80 ∧ (k = 7 ∨ k = 8 ∨ k = 9 ∨ k = 10)) ∨ (46 ≤ i ∧ i < 54) ∨ i = 83 ∨ i = (lw + 6) ∨ (i = 42 ∧ (k = 4 ∨ k = 5 ∨ k = 6 ∨ k = 7)) ∨ (i = 80 ∧ (k = 7 ∨ k = 8)) ∨ i = 43 ∨ (i = 120 ∧ (k = 6)) ∨ i = 121 ∨ i = 122 ∨ i = 123 ∨ i = 124 ∨ i = 125 ∨ i = 126) g0 g') := by
  refine q_enterI (by decide) (Nat.le_of_ble_eq_true rfl) rfl (fun K H locs ls _ _ hM hW0 hR hC hE hl => ?_)
  have hl : lv_has ls 7 [(0, .ref (ad 0)), (1, .int a), (2, .int b), (3, .int c), (4, .int d), (5, .int e)] := hl
  have hW : WS ad cA (fun i k => i = 43 ∨ i = 44 ∨ (46 ≤ i ∧ i < 54) ∨ (i = 42 ∧ (k = 3 ∨ k = 4 ∨ k = 5 ∨ k = 6 ∨ k = 7)) ∨ (i = 80 ∧ (k = 7 ∨ k = 8 ∨ k = 9 ∨ k = 10)) ∨ (46 ≤ i ∧ i < 54) ∨ i = 83 ∨ i = (lw + 6) ∨ (i = 42 ∧ (k = 4 ∨ k = 5 ∨ k = 6 ∨ k = 7)) ∨ (i = 80 ∧ (k = 7 ∨ k = 8)) ∨ i = 43 ∨ (i = 120 ∧ (k = 6)) ∨ i = 121 ∨ i = 122 ∨ i = 123 ∨ i = 124 ∨ i = 125 ∨ i = 126) g0 K g0 H locs := ⟨hW0, hSh, FR.rf⟩
  have ulw := hlw
  unfold isLw at ulw
  have := kc_0
  have := kc_1
  have := kc_m1
  have := kc_m2
  refine q_aload_n hM dX11_order_0 (lv_at hl 0 rfl) ?_
  refine w_get (v := .ref (ad 18)) hM hW FG_X11_26 lb_0 (rf_0_10 hW.2.1) dX11_order_1 ?_
  refine w_getI hM hW FG_X11_135 lb_18 (by decide) (by decide) dX11_order_4 (fun x4881 fx4881 => ?_)
  have bx4881 := hG.f fx4881 rF_18_3 (by decide)
  refine q_iload_n hM dX11_order_7 (lv_at hl 1 rfl) ?_
  refine q_callS (As := [.int x4881, .int a]) (rest := []) hM hW.1 hR hC myX11_has (kAW (v_1_10 (List.mem_of_getElem? (i := 8) rfl)) rfl) (c_X11_has _ _ cA ad g0 x4881 a hW.2.1) ⟨by decide, by decide⟩ rfl rfl hl.1 (Nat.le_of_ble_eq_true rfl) dX11_order_8 (fun v g4883 H locs hp hW1 => ?_)
  obtain ⟨r4882, rfl, hr4882, rfl⟩ := hp
  have hW : WS ad cA (fun i k => i = 43 ∨ i = 44 ∨ (46 ≤ i ∧ i < 54) ∨ (i = 42 ∧ (k = 3 ∨ k = 4 ∨ k = 5 ∨ k = 6 ∨ k = 7)) ∨ (i = 80 ∧ (k = 7 ∨ k = 8 ∨ k = 9 ∨ k = 10)) ∨ (46 ≤ i ∧ i < 54) ∨ i = 83 ∨ i = (lw + 6) ∨ (i = 42 ∧ (k = 4 ∨ k = 5 ∨ k = 6 ∨ k = 7)) ∨ (i = 80 ∧ (k = 7 ∨ k = 8)) ∨ i = 43 ∨ (i = 120 ∧ (k = 6)) ∨ i = 121 ∨ i = 122 ∨ i = 123 ∨ i = 124 ∨ i = 125 ∨ i = 126) g0 K g0 H locs := ⟨hW1, hW.2.1, hW.2.2⟩
  first | have ltr4882 := has_lt 5 hr4882 (by omega) (by omega) | have ltr4882 := has_lt 6 hr4882 (by omega) (by omega) | have ltr4882 := has_lt 8 hr4882 (by omega) (by omega) | have ltr4882 := has_lt 12 hr4882 (by omega) (by omega) | skip
  refine q_if_eq (tgt := 76) hM dX11_order_11 (by decide) (rfl : r4882.toInt = r4882.toInt) (fun h11 => ?_) (fun h11 => ?_)
  · refine q_iconst (v := ((-1) : Int32)) hM dX11_order_76 (by decide) ?_
    exact hE _ _ _ _ _ _ hW.1 ⟨_, rfl, hW.2.1, hG, hW.2.2⟩ dX11_order_77
  · refine q_iload_n hM dX11_order_14 (lv_at hl 2 rfl) ?_
    refine q_aload_n hM dX11_order_15 (lv_at hl 0 rfl) ?_
    refine w_get (v := .ref (ad 80)) hM hW FG_X11_83 lb_0 (rf_0_2 hW.2.1) dX11_order_16 ?_
    refine w_getI hM hW FG_X11_158 lb_80 (by decide) (by decide) dX11_order_19 (fun x4886 fx4886 => ?_)
    have bx4886 := hG.f fx4886 rF_80_4 (by decide)
    refine q_callS (As := [.int b, .int x4886]) (rest := []) hM hW.1 hR hC myX11_areOf (kAW (v_3_4 (List.mem_of_getElem? (i := 6) rfl)) rfl) (c_X11_areOf _ _ cA ad g0 b x4886 hW.2.1) ⟨by decide, by decide⟩ rfl rfl hl.1 (Nat.le_of_ble_eq_true rfl) dX11_order_22 (fun v g4888 H locs hp hW1 => ?_)
    obtain ⟨r4887, rfl, hr4887, rfl⟩ := hp
    have hW : WS ad cA (fun i k => i = 43 ∨ i = 44 ∨ (46 ≤ i ∧ i < 54) ∨ (i = 42 ∧ (k = 3 ∨ k = 4 ∨ k = 5 ∨ k = 6 ∨ k = 7)) ∨ (i = 80 ∧ (k = 7 ∨ k = 8 ∨ k = 9 ∨ k = 10)) ∨ (46 ≤ i ∧ i < 54) ∨ i = 83 ∨ i = (lw + 6) ∨ (i = 42 ∧ (k = 4 ∨ k = 5 ∨ k = 6 ∨ k = 7)) ∨ (i = 80 ∧ (k = 7 ∨ k = 8)) ∨ i = 43 ∨ (i = 120 ∧ (k = 6)) ∨ i = 121 ∨ i = 122 ∨ i = 123 ∨ i = 124 ∨ i = 125 ∨ i = 126) g0 K g0 H locs := ⟨hW1, hW.2.1, hW.2.2⟩
    refine q_if_eq (tgt := 76) hM dX11_order_25 (by decide) (rfl : r4887.toInt = r4887.toInt) (fun h25 => ?_) (fun h25 => ?_)
    · refine q_iconst (v := ((-1) : Int32)) hM dX11_order_76 (by decide) ?_
      exact hE _ _ _ _ _ _ hW.1 ⟨_, rfl, hW.2.1, hG, hW.2.2⟩ dX11_order_77
    · refine q_iload_n hM dX11_order_28 (lv_at hl 2 rfl) ?_
      refine q_callS (As := [.int b]) (rest := []) hM hW.1 hR hC myJ6_bitCount_0f7a4 (kAW (v_3_1 (List.mem_of_getElem? (i := 2) rfl)) rfl) (c_J6_bitCount_0f7a4 _ _ cA ad g0 b hW.2.1) ⟨by decide, by decide⟩ rfl rfl hl.1 (Nat.le_of_ble_eq_true rfl) dX11_order_29 (fun v g4892 H locs hp hW1 => ?_)
      obtain ⟨r4891, rfl, hr4891, rfl⟩ := hp
      have hW : WS ad cA (fun i k => i = 43 ∨ i = 44 ∨ (46 ≤ i ∧ i < 54) ∨ (i = 42 ∧ (k = 3 ∨ k = 4 ∨ k = 5 ∨ k = 6 ∨ k = 7)) ∨ (i = 80 ∧ (k = 7 ∨ k = 8 ∨ k = 9 ∨ k = 10)) ∨ (46 ≤ i ∧ i < 54) ∨ i = 83 ∨ i = (lw + 6) ∨ (i = 42 ∧ (k = 4 ∨ k = 5 ∨ k = 6 ∨ k = 7)) ∨ (i = 80 ∧ (k = 7 ∨ k = 8)) ∨ i = 43 ∨ (i = 120 ∧ (k = 6)) ∨ i = 121 ∨ i = 122 ∨ i = 123 ∨ i = 124 ∨ i = 125 ∨ i = 126) g0 K g0 H locs := ⟨hW1, hW.2.1, hW.2.2⟩
      refine q_iconst (v := (1 : Int32)) hM dX11_order_32 (by decide) ?_
      refine q_iconst (v := (4 : Int32)) hM dX11_order_33 (by decide) ?_
      refine q_callS (As := [.int r4891, .int (1 : Int32), .int (4 : Int32)]) (rest := []) hM hW.1 hR hC myX11_within (kAW (v_1_10 (List.mem_of_getElem? (i := 1) rfl)) rfl) (c_X11_within _ _ cA ad g0 r4891 (1 : Int32) (4 : Int32) hW.2.1) ⟨by decide, by decide⟩ rfl rfl hl.1 (Nat.le_of_ble_eq_true rfl) dX11_order_34 (fun v g4894 H locs hp hW1 => ?_)
      obtain ⟨r4893, rfl, hr4893, rfl⟩ := hp
      have hW : WS ad cA (fun i k => i = 43 ∨ i = 44 ∨ (46 ≤ i ∧ i < 54) ∨ (i = 42 ∧ (k = 3 ∨ k = 4 ∨ k = 5 ∨ k = 6 ∨ k = 7)) ∨ (i = 80 ∧ (k = 7 ∨ k = 8 ∨ k = 9 ∨ k = 10)) ∨ (46 ≤ i ∧ i < 54) ∨ i = 83 ∨ i = (lw + 6) ∨ (i = 42 ∧ (k = 4 ∨ k = 5 ∨ k = 6 ∨ k = 7)) ∨ (i = 80 ∧ (k = 7 ∨ k = 8)) ∨ i = 43 ∨ (i = 120 ∧ (k = 6)) ∨ i = 121 ∨ i = 122 ∨ i = 123 ∨ i = 124 ∨ i = 125 ∨ i = 126) g0 K g0 H locs := ⟨hW1, hW.2.1, hW.2.2⟩
      have := kc_1
      have := kc_4
      refine q_if_eq (tgt := 76) hM dX11_order_37 (by decide) (rfl : r4893.toInt = r4893.toInt) (fun h37 => ?_) (fun h37 => ?_)
      · refine q_iconst (v := ((-1) : Int32)) hM dX11_order_76 (by decide) ?_
        exact hE _ _ _ _ _ _ hW.1 ⟨_, rfl, hW.2.1, hG, hW.2.2⟩ dX11_order_77
      · refine q_iload_n hM dX11_order_40 (lv_at hl 3 rfl) ?_
        refine q_aload_n hM dX11_order_41 (lv_at hl 0 rfl) ?_
        refine w_get (v := .ref (ad 3)) hM hW FG_X11_19 lb_0 (rf_0_1 hW.2.1) dX11_order_42 ?_
        refine w_getI hM hW FG_X11_116 lb_3 (by decide) (by decide) dX11_order_45 (fun x4897 fx4897 => ?_)
        have bx4897 := hG.f fx4897 rF_3_2 (by decide)
        refine q_callS (As := [.int c, .int x4897]) (rest := []) hM hW.1 hR hC myX11_areOf (kAW (v_3_4 (List.mem_of_getElem? (i := 6) rfl)) rfl) (c_X11_areOf _ _ cA ad g0 c x4897 hW.2.1) ⟨by decide, by decide⟩ rfl rfl hl.1 (Nat.le_of_ble_eq_true rfl) dX11_order_48 (fun v g4899 H locs hp hW1 => ?_)
        obtain ⟨r4898, rfl, hr4898, rfl⟩ := hp
        have hW : WS ad cA (fun i k => i = 43 ∨ i = 44 ∨ (46 ≤ i ∧ i < 54) ∨ (i = 42 ∧ (k = 3 ∨ k = 4 ∨ k = 5 ∨ k = 6 ∨ k = 7)) ∨ (i = 80 ∧ (k = 7 ∨ k = 8 ∨ k = 9 ∨ k = 10)) ∨ (46 ≤ i ∧ i < 54) ∨ i = 83 ∨ i = (lw + 6) ∨ (i = 42 ∧ (k = 4 ∨ k = 5 ∨ k = 6 ∨ k = 7)) ∨ (i = 80 ∧ (k = 7 ∨ k = 8)) ∨ i = 43 ∨ (i = 120 ∧ (k = 6)) ∨ i = 121 ∨ i = 122 ∨ i = 123 ∨ i = 124 ∨ i = 125 ∨ i = 126) g0 K g0 H locs := ⟨hW1, hW.2.1, hW.2.2⟩
        refine q_if_eq (tgt := 76) hM dX11_order_51 (by decide) (rfl : r4898.toInt = r4898.toInt) (fun h51 => ?_) (fun h51 => ?_)
        · refine q_iconst (v := ((-1) : Int32)) hM dX11_order_76 (by decide) ?_
          exact hE _ _ _ _ _ _ hW.1 ⟨_, rfl, hW.2.1, hG, hW.2.2⟩ dX11_order_77
        · refine q_iload hM dX11_order_54 (lv_at hl 4 rfl) ?_
          refine q_aload_n hM dX11_order_56 (lv_at hl 0 rfl) ?_
          refine w_get (v := .ref (ad 3)) hM hW FG_X11_19 lb_0 (rf_0_1 hW.2.1) dX11_order_57 ?_
          refine w_get (v := .int x4897) hM hW FG_X11_116 lb_3 fx4897 dX11_order_60 ?_
          have bx4897 := hG.f fx4897 rF_3_2 (by decide)
          refine q_callS (As := [.int d, .int x4897]) (rest := []) hM hW.1 hR hC myX11_areOf (kAW (v_3_4 (List.mem_of_getElem? (i := 6) rfl)) rfl) (c_X11_areOf _ _ cA ad g0 d x4897 hW.2.1) ⟨by decide, by decide⟩ rfl rfl hl.1 (Nat.le_of_ble_eq_true rfl) dX11_order_63 (fun v g4903 H locs hp hW1 => ?_)
          obtain ⟨r4902, rfl, hr4902, rfl⟩ := hp
          have hW : WS ad cA (fun i k => i = 43 ∨ i = 44 ∨ (46 ≤ i ∧ i < 54) ∨ (i = 42 ∧ (k = 3 ∨ k = 4 ∨ k = 5 ∨ k = 6 ∨ k = 7)) ∨ (i = 80 ∧ (k = 7 ∨ k = 8 ∨ k = 9 ∨ k = 10)) ∨ (46 ≤ i ∧ i < 54) ∨ i = 83 ∨ i = (lw + 6) ∨ (i = 42 ∧ (k = 4 ∨ k = 5 ∨ k = 6 ∨ k = 7)) ∨ (i = 80 ∧ (k = 7 ∨ k = 8)) ∨ i = 43 ∨ (i = 120 ∧ (k = 6)) ∨ i = 121 ∨ i = 122 ∨ i = 123 ∨ i = 124 ∨ i = 125 ∨ i = 126) g0 K g0 H locs := ⟨hW1, hW.2.1, hW.2.2⟩
          refine q_if_eq (tgt := 76) hM dX11_order_66 (by decide) (rfl : r4902.toInt = r4902.toInt) (fun h66 => ?_) (fun h66 => ?_)
          · refine q_iconst (v := ((-1) : Int32)) hM dX11_order_76 (by decide) ?_
            exact hE _ _ _ _ _ _ hW.1 ⟨_, rfl, hW.2.1, hG, hW.2.2⟩ dX11_order_77
          · refine q_iload_n hM dX11_order_69 (lv_at hl 3 rfl) ?_
            refine q_iload hM dX11_order_70 (lv_at hl 4 rfl) ?_
            refine q_iand hM dX11_order_72 (fun z4906 hz4906 => ?_)
            refine q_if_eq (tgt := 78) hM dX11_order_73 (by decide) (rfl : z4906.toInt = z4906.toInt) (fun h73 => ?_) (fun h73 => ?_)
            · refine q_aload_n hM dX11_order_78 (lv_at hl 0 rfl) ?_
              refine q_aload_n hM dX11_order_79 (lv_at hl 0 rfl) ?_
              refine w_get (v := .ref (ad lw)) hM hW FG_X11_39 lb_0 ((hW.2.2.1 0 13 (by omega)).trans h_r13) dX11_order_80 ?_
              refine q_callV (As := [.ref (ad lw)]) (rest := []) hM hW.1 hR hC myX11_beginTrial (kAW (v_3_0 (List.mem_of_getElem? (i := 5) rfl)) rfl) (rfl : vwCl[11]? = some (RX11, TX11, 16)) rfl lb_0.1 (shO hW.2.1 lb_0) (a_X11_beginTrial _ _ cA ad g0 lw hW.2.1 hG hlw) ⟨by decide, by decide⟩ rfl rfl hl.1 (Nat.le_of_ble_eq_true rfl) dX11_order_83 (fun v g4910 H locs hp hW1 => ?_)
              obtain ⟨rfl, hs1, hG, hf1, q4908, q4909⟩ := hp
              have f4911 : fld g4910 18 3 = .int x4881 := (hf1.1 18 3 (by omega)).trans fx4881
              have f4912 : fld g4910 80 4 = .int x4886 := (hf1.1 80 4 (by omega)).trans fx4886
              have f4913 : fld g4910 3 2 = .int x4897 := (hf1.1 3 2 (by omega)).trans fx4897
              have hW : WS ad cA (fun i k => i = 43 ∨ i = 44 ∨ (46 ≤ i ∧ i < 54) ∨ (i = 42 ∧ (k = 3 ∨ k = 4 ∨ k = 5 ∨ k = 6 ∨ k = 7)) ∨ (i = 80 ∧ (k = 7 ∨ k = 8 ∨ k = 9 ∨ k = 10)) ∨ (46 ≤ i ∧ i < 54) ∨ i = 83 ∨ i = (lw + 6) ∨ (i = 42 ∧ (k = 4 ∨ k = 5 ∨ k = 6 ∨ k = 7)) ∨ (i = 80 ∧ (k = 7 ∨ k = 8)) ∨ i = 43 ∨ (i = 120 ∧ (k = 6)) ∨ i = 121 ∨ i = 122 ∨ i = 123 ∨ i = 124 ∨ i = 125 ∨ i = 126) g0 K g4910 H locs := ⟨hW1, hs1, hW.2.2.tr hf1 (fun i k h => h.elim (fun h => (Or.inl h)) (fun h => h.elim (fun h => (Or.inr (Or.inl h))) (fun h => h.elim (fun h => (Or.inr (Or.inr (Or.inl h)))) (fun h => h.elim (fun h => (Or.inr (Or.inr (Or.inr (Or.inl h))))) (fun h => (Or.inr (Or.inr (Or.inr (Or.inr (Or.inl h))))))))))⟩
              refine q_aload_n hM dX11_order_86 (lv_at hl 0 rfl) ?_
              refine w_get (v := .ref (ad 120)) hM hW FG_X11_97 lb_0 (rf_0_4 hW.2.1) dX11_order_87 ?_
              refine q_aload_n hM dX11_order_90 (lv_at hl 0 rfl) ?_
              refine w_get (v := .ref (ad 80)) hM hW FG_X11_83 lb_0 (rf_0_2 hW.2.1) dX11_order_91 ?_
              refine q_iload_n hM dX11_order_94 (lv_at hl 1 rfl) ?_
              refine q_iload_n hM dX11_order_95 (lv_at hl 2 rfl) ?_
              refine q_iload_n hM dX11_order_96 (lv_at hl 3 rfl) ?_
              refine q_iload hM dX11_order_97 (lv_at hl 4 rfl) ?_
              refine q_callV (As := [.ref (ad 80), .int a, .int b, .int c, .int d]) (rest := []) hM hW.1 hR hC myX8_find (kAW (v_3_4 (List.mem_of_getElem? (i := 9) rfl)) rfl) (rfl : vwCl[8]? = some (RX8, TX8, 7)) rfl lb_120.1 (shO hW.2.1 lb_120) (a_X8_find _ _ cA ad g4910 a b c d lw hW.2.1 hG hlw q4908 q4909 (by  omega) (by  omega)) ⟨by decide, by decide⟩ rfl rfl hl.1 (Nat.le_of_ble_eq_true rfl) dX11_order_99 (fun v g4915 H locs hp hW1 => ?_)
              obtain ⟨r4914, rfl, hs1, hG, hf1, hr4914⟩ := hp
              have f4916 : fld g4915 18 3 = .int x4881 := (hf1.1 18 3 (by omega)).trans f4911
              have f4917 : fld g4915 80 4 = .int x4886 := (hf1.1 80 4 (by omega)).trans f4912
              have f4918 : fld g4915 3 2 = .int x4897 := (hf1.1 3 2 (by omega)).trans f4913
              have f4919 : fld g4915 80 9 = .ref (ad lw) := (hf1.1 80 9 (by omega)).trans q4908
              have f4920 : fld g4915 80 10 = .ref (ad 42) := (hf1.1 80 10 (by omega)).trans q4909
              have hW : WS ad cA (fun i k => i = 43 ∨ i = 44 ∨ (46 ≤ i ∧ i < 54) ∨ (i = 42 ∧ (k = 3 ∨ k = 4 ∨ k = 5 ∨ k = 6 ∨ k = 7)) ∨ (i = 80 ∧ (k = 7 ∨ k = 8 ∨ k = 9 ∨ k = 10)) ∨ (46 ≤ i ∧ i < 54) ∨ i = 83 ∨ i = (lw + 6) ∨ (i = 42 ∧ (k = 4 ∨ k = 5 ∨ k = 6 ∨ k = 7)) ∨ (i = 80 ∧ (k = 7 ∨ k = 8)) ∨ i = 43 ∨ (i = 120 ∧ (k = 6)) ∨ i = 121 ∨ i = 122 ∨ i = 123 ∨ i = 124 ∨ i = 125 ∨ i = 126) g0 K g4915 H locs := ⟨hW1, hs1, hW.2.2.tr hf1 (fun i k h => h.elim (fun h => (Or.inr (Or.inr (Or.inl h)))) (fun h => h.elim (fun h => (Or.inr (Or.inr (Or.inr (Or.inr (Or.inr (Or.inr (Or.inl h)))))))) (fun h => h.elim (fun h => (Or.inr (Or.inr (Or.inr (Or.inr (Or.inr (Or.inr (Or.inr (Or.inl h))))))))) (fun h => h.elim (fun h => (Or.inr (Or.inr (Or.inr (Or.inl (by omega)))))) (fun h => h.elim (fun h => (Or.inr (Or.inr (Or.inr (Or.inr (Or.inr (Or.inr (Or.inr (Or.inr (Or.inr (Or.inr (Or.inr (Or.inl h))))))))))))) (fun h => h.elim (fun h => (Or.inr (Or.inr (Or.inr (Or.inr (Or.inr (Or.inr (Or.inr (Or.inr (Or.inr (Or.inr (Or.inr (Or.inr (Or.inl h)))))))))))))) (fun h => h.elim (fun h => (Or.inr (Or.inr (Or.inr (Or.inr (Or.inr (Or.inr (Or.inr (Or.inr (Or.inr (Or.inr (Or.inr (Or.inr (Or.inr (Or.inl h))))))))))))))) (fun h => h.elim (fun h => (Or.inr (Or.inr (Or.inr (Or.inr (Or.inr (Or.inr (Or.inr (Or.inr (Or.inr (Or.inr (Or.inr (Or.inr (Or.inr (Or.inr (Or.inl h)))))))))))))))) (fun h => h.elim (fun h => (Or.inr (Or.inr (Or.inr (Or.inr (Or.inr (Or.inr (Or.inr (Or.inr (Or.inr (Or.inr (Or.inr (Or.inr (Or.inr (Or.inr (Or.inr (Or.inl h))))))))))))))))) (fun h => h.elim (fun h => (Or.inr (Or.inr (Or.inr (Or.inr (Or.inr (Or.inr (Or.inr (Or.inr (Or.inr (Or.inr (Or.inr (Or.inr (Or.inr (Or.inr (Or.inr (Or.inr (Or.inl h)))))))))))))))))) (fun h => (Or.inr (Or.inr (Or.inr (Or.inr (Or.inr (Or.inr (Or.inr (Or.inr (Or.inr (Or.inr (Or.inr (Or.inr (Or.inr (Or.inr (Or.inr (Or.inr (Or.inr h))))))))))))))))))))))))))))⟩
              refine q_istore (lv9 := [(6, .int r4914), (0, .ref (ad 0)), (1, .int a), (2, .int b), (3, .int c), (4, .int d), (5, .int e)]) hM dX11_order_102 hl (by decide) rfl (fun ls hl => ?_)
              refine q_iload hM dX11_order_104 (lv_at hl 0 rfl) ?_
              refine q_if_ge (tgt := 112) hM dX11_order_106 (by decide) (rfl : r4914.toInt = r4914.toInt) (fun h106 => ?_) (fun h106 => ?_)
              · refine q_iload hM dX11_order_112 (lv_at hl 6 rfl) ?_
                refine q_bipush (v := (20 : Int32)) hM dX11_order_114 (by decide) ?_
                refine q_icmp_ne (tgt := 122) hM dX11_order_116 (by decide) (rfl : e.toInt = e.toInt) (kc_20 : (20 : Int32).toInt = 20) (fun h116 => ?_) (fun h116 => ?_)
                · refine q_iload hM dX11_order_122 (lv_at hl 6 rfl) ?_
                  refine q_iconst (v := (0 : Int32)) hM dX11_order_124 (by decide) ?_
                  refine q_iload hM dX11_order_125 (lv_at hl 0 rfl) ?_
                  refine q_iconst (v := (1 : Int32)) hM dX11_order_127 (by decide) ?_
                  refine q_isub hM dX11_order_128 (fun z4923 hz4923 => ?_)
                  first | have tz4923 := i_subT hz4923 (rfl : r4914.toInt = r4914.toInt) (kc_1 : (1 : Int32).toInt = 1) (by omega) (by omega) | skip
                  refine q_callS (As := [.int e, .int (0 : Int32), .int z4923]) (rest := []) hM hW.1 hR hC myX11_within (kAW (v_1_10 (List.mem_of_getElem? (i := 1) rfl)) rfl) (c_X11_within _ _ cA ad g4915 e (0 : Int32) z4923 hW.2.1) ⟨by decide, by decide⟩ rfl rfl hl.1 (Nat.le_of_ble_eq_true rfl) dX11_order_129 (fun v g4925 H locs hp hW1 => ?_)
                  obtain ⟨r4924, rfl, hr4924, rfl⟩ := hp
                  have hW : WS ad cA (fun i k => i = 43 ∨ i = 44 ∨ (46 ≤ i ∧ i < 54) ∨ (i = 42 ∧ (k = 3 ∨ k = 4 ∨ k = 5 ∨ k = 6 ∨ k = 7)) ∨ (i = 80 ∧ (k = 7 ∨ k = 8 ∨ k = 9 ∨ k = 10)) ∨ (46 ≤ i ∧ i < 54) ∨ i = 83 ∨ i = (lw + 6) ∨ (i = 42 ∧ (k = 4 ∨ k = 5 ∨ k = 6 ∨ k = 7)) ∨ (i = 80 ∧ (k = 7 ∨ k = 8)) ∨ i = 43 ∨ (i = 120 ∧ (k = 6)) ∨ i = 121 ∨ i = 122 ∨ i = 123 ∨ i = 124 ∨ i = 125 ∨ i = 126) g0 K g4915 H locs := ⟨hW1, hW.2.1, hW.2.2⟩
                  have := kc_0
                  refine q_if_eq (tgt := 148) hM dX11_order_132 (by decide) (rfl : r4924.toInt = r4924.toInt) (fun h132 => ?_) (fun h132 => ?_)
                  · refine q_bipush (v := ((-4) : Int32)) hM dX11_order_148 (by decide) ?_
                    exact hE _ _ _ _ _ _ hW.1 ⟨_, rfl, hW.2.1, hG, hW.2.2⟩ dX11_order_150
                  · refine q_aload_n hM dX11_order_135 (lv_at hl 1 rfl) ?_
                    refine w_get (v := .ref (ad 120)) hM hW FG_X11_97 lb_0 (rf_0_4 hW.2.1) dX11_order_136 ?_
                    refine w_get (v := .ref (ad 121)) hM hW FG_X11_234 lb_120 (rf_120_0 hW.2.1) dX11_order_139 ?_
                    refine q_iload hM dX11_order_142 (lv_at hl 6 rfl) ?_
                    refine w_iald hM hW lb_121 (i_in (by omega) (by omega)) dX11_order_144 ?_
                    refine q_top (fun y4928 hy4928 => ?_)
                    refine q_goto (tgt := 150) hM dX11_order_145 (by decide) ?_
                    exact hE _ _ _ _ _ _ hW.1 ⟨_, rfl, hW.2.1, hG, hW.2.2⟩ dX11_order_150
                · refine q_iload hM dX11_order_119 (lv_at hl 0 rfl) ?_
                  exact hE _ _ _ _ _ _ hW.1 ⟨_, rfl, hW.2.1, hG, hW.2.2⟩ dX11_order_121
              · refine q_bipush (v := ((-2) : Int32)) hM dX11_order_109 (by decide) ?_
                exact hE _ _ _ _ _ _ hW.1 ⟨_, rfl, hW.2.1, hG, hW.2.2⟩ dX11_order_111
            · refine q_iconst (v := ((-1) : Int32)) hM dX11_order_76 (by decide) ?_
              exact hE _ _ _ _ _ _ hW.1 ⟨_, rfl, hW.2.1, hG, hW.2.2⟩ dX11_order_77

theorem dX11_still_0 : decode cX11_still 0 = .ok (.aload_n 0, 1) := by decide +kernel
theorem dX11_still_1 : decode cX11_still 1 = .ok (.getfield 26, 3) := by decide +kernel
theorem dX11_still_4 : decode cX11_still 4 = .ok (.getfield 135, 3) := by decide +kernel
theorem dX11_still_7 : decode cX11_still 7 = .ok (.iload_n 1, 1) := by decide +kernel
theorem dX11_still_8 : decode cX11_still 8 = .ok (.invokestatic 123, 3) := by decide +kernel
theorem dX11_still_11 : decode cX11_still 11 = .ok (.ifCond .eq 26, 3) := by decide +kernel
theorem dX11_still_14 : decode cX11_still 14 = .ok (.aload_n 0, 1) := by decide +kernel
theorem dX11_still_15 : decode cX11_still 15 = .ok (.getfield 83, 3) := by decide +kernel
theorem dX11_still_18 : decode cX11_still 18 = .ok (.getfield 158, 3) := by decide +kernel
theorem dX11_still_21 : decode cX11_still 21 = .ok (.iload_n 2, 1) := by decide +kernel
theorem dX11_still_22 : decode cX11_still 22 = .ok (.invokestatic 123, 3) := by decide +kernel
theorem dX11_still_25 : decode cX11_still 25 = .ok (.ifCond .eq 12, 3) := by decide +kernel
theorem dX11_still_28 : decode cX11_still 28 = .ok (.iload_n 3, 1) := by decide +kernel
theorem dX11_still_29 : decode cX11_still 29 = .ok (.iconst 0, 1) := by decide +kernel
theorem dX11_still_30 : decode cX11_still 30 = .ok (.iconst 1, 1) := by decide +kernel
theorem dX11_still_31 : decode cX11_still 31 = .ok (.invokestatic 112, 3) := by decide +kernel
theorem dX11_still_34 : decode cX11_still 34 = .ok (.ifCond .ne 5, 3) := by decide +kernel
theorem dX11_still_37 : decode cX11_still 37 = .ok (.iconst (-1), 1) := by decide +kernel
theorem dX11_still_38 : decode cX11_still 38 = .ok (.ireturn, 1) := by decide +kernel
theorem dX11_still_39 : decode cX11_still 39 = .ok (.aload_n 0, 1) := by decide +kernel
theorem dX11_still_40 : decode cX11_still 40 = .ok (.aload_n 0, 1) := by decide +kernel
theorem dX11_still_41 : decode cX11_still 41 = .ok (.getfield 39, 3) := by decide +kernel
theorem dX11_still_44 : decode cX11_still 44 = .ok (.invokevirtual 186, 3) := by decide +kernel
theorem dX11_still_47 : decode cX11_still 47 = .ok (.aload_n 0, 1) := by decide +kernel
theorem dX11_still_48 : decode cX11_still 48 = .ok (.getfield 83, 3) := by decide +kernel
theorem dX11_still_51 : decode cX11_still 51 = .ok (.iload_n 1, 1) := by decide +kernel
theorem dX11_still_52 : decode cX11_still 52 = .ok (.aload_n 0, 1) := by decide +kernel
theorem dX11_still_53 : decode cX11_still 53 = .ok (.getfield 83, 3) := by decide +kernel
theorem dX11_still_56 : decode cX11_still 56 = .ok (.getfield 150, 3) := by decide +kernel
theorem dX11_still_59 : decode cX11_still 59 = .ok (.iload_n 2, 1) := by decide +kernel
theorem dX11_still_60 : decode cX11_still 60 = .ok (.aaload, 1) := by decide +kernel
theorem dX11_still_61 : decode cX11_still 61 = .ok (.invokevirtual 237, 3) := by decide +kernel
theorem dX11_still_64 : decode cX11_still 64 = .ok (.istore 4, 2) := by decide +kernel
theorem dX11_still_66 : decode cX11_still 66 = .ok (.iload 4, 2) := by decide +kernel
theorem dX11_still_68 : decode cX11_still 68 = .ok (.sipush 200, 3) := by decide +kernel
theorem dX11_still_71 : decode cX11_still 71 = .ok (.if_icmp .le 6, 3) := by decide +kernel
theorem dX11_still_74 : decode cX11_still 74 = .ok (.bipush (-2), 2) := by decide +kernel
theorem dX11_still_76 : decode cX11_still 76 = .ok (.ireturn, 1) := by decide +kernel
theorem dX11_still_77 : decode cX11_still 77 = .ok (.iload_n 3, 1) := by decide +kernel
theorem dX11_still_78 : decode cX11_still 78 = .ok (.ifCond .ne 8, 3) := by decide +kernel
theorem dX11_still_81 : decode cX11_still 81 = .ok (.iload 4, 2) := by decide +kernel
theorem dX11_still_83 : decode cX11_still 83 = .ok (.goto 14, 3) := by decide +kernel
theorem dX11_still_86 : decode cX11_still 86 = .ok (.aload_n 0, 1) := by decide +kernel
theorem dX11_still_87 : decode cX11_still 87 = .ok (.getfield 33, 3) := by decide +kernel
theorem dX11_still_90 : decode cX11_still 90 = .ok (.iload_n 1, 1) := by decide +kernel
theorem dX11_still_91 : decode cX11_still 91 = .ok (.invokevirtual 203, 3) := by decide +kernel
theorem dX11_still_94 : decode cX11_still 94 = .ok (.invokestatic 206, 3) := by decide +kernel
theorem dX11_still_97 : decode cX11_still 97 = .ok (.ireturn, 1) := by decide +kernel
theorem myX2_timesTillRest : MI yX2_timesTillRest cX2_timesTillRest 9 (some FieldType.int) 2 := ⟨kAW (v_3_6 (List.mem_of_getElem? (i := 15) rfl)) rfl, kAW (v_0_0 (List.mem_of_getElem? (i := 9) rfl)) rfl, kAW (v_3_6 (List.mem_of_getElem? (i := 13) rfl)) rfl, kAW (v_3_6 (List.mem_of_getElem? (i := 14) rfl)) rfl, by decide, by decide, by decide +kernel⟩
set_option maxRecDepth 100000 in
set_option maxHeartbeats 4000000 in
theorem p_X11_still (l : Launch) (D : va_G) (cA : Nat → ClassId) (ad : Nat → Nat) (g0 : Nat → va_E) (a : Int32) (b : Int32) (c : Int32)  (lw : Nat) (hSh : Shp ad cA g0) (hG : Rng g0) (hlw : isLw lw) (h_r13 : fld g0 0 13 = .ref (ad lw)) : CT l NN ad cA D yX11_still cX11_still 5 (some FieldType.int) (7, 171) [.ref (ad 0), .int a, .int b, .int c] g0 (fun v g' => ∃ (r : Int32), v = some (.int r) ∧ Shp ad cA g' ∧ Rng g' ∧ FR (fun i k => i = 43 ∨ i = 44 ∨ (46 ≤ i ∧ i < 54) ∨ (i = 42 ∧ (k = 3 ∨ k = 4 ∨ k = 5 ∨ k = 6 ∨ k = 7)) ∨ (i = 80 ∧ (k = 7 ∨ k = 8 ∨ k = 9 ∨ k = 10)) ∨ (46 ≤ i ∧ i < 54) ∨ i = 83 ∨ i = (lw + 6) ∨ (i = 42 ∧ (k = 4 ∨ k = 5 ∨ k = 6 ∨ k = 7)) ∨ (i = 80 ∧ (k = 7 ∨ k = 8)) ∨ i = 43) g0 g') := by
  refine q_enterI (by decide) (Nat.le_of_ble_eq_true rfl) rfl (fun K H locs ls _ _ hM hW0 hR hC hE hl => ?_)
  have hl : lv_has ls 5 [(0, .ref (ad 0)), (1, .int a), (2, .int b), (3, .int c)] := hl
  have hW : WS ad cA (fun i k => i = 43 ∨ i = 44 ∨ (46 ≤ i ∧ i < 54) ∨ (i = 42 ∧ (k = 3 ∨ k = 4 ∨ k = 5 ∨ k = 6 ∨ k = 7)) ∨ (i = 80 ∧ (k = 7 ∨ k = 8 ∨ k = 9 ∨ k = 10)) ∨ (46 ≤ i ∧ i < 54) ∨ i = 83 ∨ i = (lw + 6) ∨ (i = 42 ∧ (k = 4 ∨ k = 5 ∨ k = 6 ∨ k = 7)) ∨ (i = 80 ∧ (k = 7 ∨ k = 8)) ∨ i = 43) g0 K g0 H locs := ⟨hW0, hSh, FR.rf⟩
  have ulw := hlw
  unfold isLw at ulw
  have := kc_0
  have := kc_1
  have := kc_m1
  have := kc_m2
  refine q_aload_n hM dX11_still_0 (lv_at hl 0 rfl) ?_
  refine w_get (v := .ref (ad 18)) hM hW FG_X11_26 lb_0 (rf_0_10 hW.2.1) dX11_still_1 ?_
  refine w_getI hM hW FG_X11_135 lb_18 (by decide) (by decide) dX11_still_4 (fun x4932 fx4932 => ?_)
  have bx4932 := hG.f fx4932 rF_18_3 (by decide)
  refine q_iload_n hM dX11_still_7 (lv_at hl 1 rfl) ?_
  refine q_callS (As := [.int x4932, .int a]) (rest := []) hM hW.1 hR hC myX11_has (kAW (v_1_10 (List.mem_of_getElem? (i := 8) rfl)) rfl) (c_X11_has _ _ cA ad g0 x4932 a hW.2.1) ⟨by decide, by decide⟩ rfl rfl hl.1 (Nat.le_of_ble_eq_true rfl) dX11_still_8 (fun v g4934 H locs hp hW1 => ?_)
  obtain ⟨r4933, rfl, hr4933, rfl⟩ := hp
  have hW : WS ad cA (fun i k => i = 43 ∨ i = 44 ∨ (46 ≤ i ∧ i < 54) ∨ (i = 42 ∧ (k = 3 ∨ k = 4 ∨ k = 5 ∨ k = 6 ∨ k = 7)) ∨ (i = 80 ∧ (k = 7 ∨ k = 8 ∨ k = 9 ∨ k = 10)) ∨ (46 ≤ i ∧ i < 54) ∨ i = 83 ∨ i = (lw + 6) ∨ (i = 42 ∧ (k = 4 ∨ k = 5 ∨ k = 6 ∨ k = 7)) ∨ (i = 80 ∧ (k = 7 ∨ k = 8)) ∨ i = 43) g0 K g0 H locs := ⟨hW1, hW.2.1, hW.2.2⟩
  first | have ltr4933 := has_lt 5 hr4933 (by omega) (by omega) | have ltr4933 := has_lt 6 hr4933 (by omega) (by omega) | have ltr4933 := has_lt 8 hr4933 (by omega) (by omega) | have ltr4933 := has_lt 12 hr4933 (by omega) (by omega) | skip
  refine q_if_eq (tgt := 37) hM dX11_still_11 (by decide) (rfl : r4933.toInt = r4933.toInt) (fun h11 => ?_) (fun h11 => ?_)
  · refine q_iconst (v := ((-1) : Int32)) hM dX11_still_37 (by decide) ?_
    exact hE _ _ _ _ _ _ hW.1 ⟨_, rfl, hW.2.1, hG, hW.2.2⟩ dX11_still_38
  · refine q_aload_n hM dX11_still_14 (lv_at hl 0 rfl) ?_
    refine w_get (v := .ref (ad 80)) hM hW FG_X11_83 lb_0 (rf_0_2 hW.2.1) dX11_still_15 ?_
    refine w_getI hM hW FG_X11_158 lb_80 (by decide) (by decide) dX11_still_18 (fun x4937 fx4937 => ?_)
    have bx4937 := hG.f fx4937 rF_80_4 (by decide)
    refine q_iload_n hM dX11_still_21 (lv_at hl 2 rfl) ?_
    refine q_callS (As := [.int x4937, .int b]) (rest := []) hM hW.1 hR hC myX11_has (kAW (v_1_10 (List.mem_of_getElem? (i := 8) rfl)) rfl) (c_X11_has _ _ cA ad g0 x4937 b hW.2.1) ⟨by decide, by decide⟩ rfl rfl hl.1 (Nat.le_of_ble_eq_true rfl) dX11_still_22 (fun v g4939 H locs hp hW1 => ?_)
    obtain ⟨r4938, rfl, hr4938, rfl⟩ := hp
    have hW : WS ad cA (fun i k => i = 43 ∨ i = 44 ∨ (46 ≤ i ∧ i < 54) ∨ (i = 42 ∧ (k = 3 ∨ k = 4 ∨ k = 5 ∨ k = 6 ∨ k = 7)) ∨ (i = 80 ∧ (k = 7 ∨ k = 8 ∨ k = 9 ∨ k = 10)) ∨ (46 ≤ i ∧ i < 54) ∨ i = 83 ∨ i = (lw + 6) ∨ (i = 42 ∧ (k = 4 ∨ k = 5 ∨ k = 6 ∨ k = 7)) ∨ (i = 80 ∧ (k = 7 ∨ k = 8)) ∨ i = 43) g0 K g0 H locs := ⟨hW1, hW.2.1, hW.2.2⟩
    first | have ltr4938 := has_lt 5 hr4938 (by omega) (by omega) | have ltr4938 := has_lt 6 hr4938 (by omega) (by omega) | have ltr4938 := has_lt 8 hr4938 (by omega) (by omega) | have ltr4938 := has_lt 12 hr4938 (by omega) (by omega) | skip
    refine q_if_eq (tgt := 37) hM dX11_still_25 (by decide) (rfl : r4938.toInt = r4938.toInt) (fun h25 => ?_) (fun h25 => ?_)
    · refine q_iconst (v := ((-1) : Int32)) hM dX11_still_37 (by decide) ?_
      exact hE _ _ _ _ _ _ hW.1 ⟨_, rfl, hW.2.1, hG, hW.2.2⟩ dX11_still_38
    · refine q_iload_n hM dX11_still_28 (lv_at hl 3 rfl) ?_
      refine q_iconst (v := (0 : Int32)) hM dX11_still_29 (by decide) ?_
      refine q_iconst (v := (1 : Int32)) hM dX11_still_30 (by decide) ?_
      refine q_callS (As := [.int c, .int (0 : Int32), .int (1 : Int32)]) (rest := []) hM hW.1 hR hC myX11_within (kAW (v_1_10 (List.mem_of_getElem? (i := 1) rfl)) rfl) (c_X11_within _ _ cA ad g0 c (0 : Int32) (1 : Int32) hW.2.1) ⟨by decide, by decide⟩ rfl rfl hl.1 (Nat.le_of_ble_eq_true rfl) dX11_still_31 (fun v g4943 H locs hp hW1 => ?_)
      obtain ⟨r4942, rfl, hr4942, rfl⟩ := hp
      have hW : WS ad cA (fun i k => i = 43 ∨ i = 44 ∨ (46 ≤ i ∧ i < 54) ∨ (i = 42 ∧ (k = 3 ∨ k = 4 ∨ k = 5 ∨ k = 6 ∨ k = 7)) ∨ (i = 80 ∧ (k = 7 ∨ k = 8 ∨ k = 9 ∨ k = 10)) ∨ (46 ≤ i ∧ i < 54) ∨ i = 83 ∨ i = (lw + 6) ∨ (i = 42 ∧ (k = 4 ∨ k = 5 ∨ k = 6 ∨ k = 7)) ∨ (i = 80 ∧ (k = 7 ∨ k = 8)) ∨ i = 43) g0 K g0 H locs := ⟨hW1, hW.2.1, hW.2.2⟩
      have := kc_0
      have := kc_1
      refine q_if_ne (tgt := 39) hM dX11_still_34 (by decide) (rfl : r4942.toInt = r4942.toInt) (fun h34 => ?_) (fun h34 => ?_)
      · refine q_aload_n hM dX11_still_39 (lv_at hl 0 rfl) ?_
        refine q_aload_n hM dX11_still_40 (lv_at hl 0 rfl) ?_
        refine w_get (v := .ref (ad lw)) hM hW FG_X11_39 lb_0 ((hW.2.2.1 0 13 (by omega)).trans h_r13) dX11_still_41 ?_
        refine q_callV (As := [.ref (ad lw)]) (rest := []) hM hW.1 hR hC myX11_beginTrial (kAW (v_3_0 (List.mem_of_getElem? (i := 5) rfl)) rfl) (rfl : vwCl[11]? = some (RX11, TX11, 16)) rfl lb_0.1 (shO hW.2.1 lb_0) (a_X11_beginTrial _ _ cA ad g0 lw hW.2.1 hG hlw) ⟨by decide, by decide⟩ rfl rfl hl.1 (Nat.le_of_ble_eq_true rfl) dX11_still_44 (fun v g4947 H locs hp hW1 => ?_)
        obtain ⟨rfl, hs1, hG, hf1, q4945, q4946⟩ := hp
        have f4948 : fld g4947 18 3 = .int x4932 := (hf1.1 18 3 (by omega)).trans fx4932
        have f4949 : fld g4947 80 4 = .int x4937 := (hf1.1 80 4 (by omega)).trans fx4937
        have hW : WS ad cA (fun i k => i = 43 ∨ i = 44 ∨ (46 ≤ i ∧ i < 54) ∨ (i = 42 ∧ (k = 3 ∨ k = 4 ∨ k = 5 ∨ k = 6 ∨ k = 7)) ∨ (i = 80 ∧ (k = 7 ∨ k = 8 ∨ k = 9 ∨ k = 10)) ∨ (46 ≤ i ∧ i < 54) ∨ i = 83 ∨ i = (lw + 6) ∨ (i = 42 ∧ (k = 4 ∨ k = 5 ∨ k = 6 ∨ k = 7)) ∨ (i = 80 ∧ (k = 7 ∨ k = 8)) ∨ i = 43) g0 K g4947 H locs := ⟨hW1, hs1, hW.2.2.tr hf1 (fun i k h => h.elim (fun h => (Or.inl h)) (fun h => h.elim (fun h => (Or.inr (Or.inl h))) (fun h => h.elim (fun h => (Or.inr (Or.inr (Or.inl h)))) (fun h => h.elim (fun h => (Or.inr (Or.inr (Or.inr (Or.inl h))))) (fun h => (Or.inr (Or.inr (Or.inr (Or.inr (Or.inl h))))))))))⟩
        refine q_aload_n hM dX11_still_47 (lv_at hl 0 rfl) ?_
        refine w_get (v := .ref (ad 80)) hM hW FG_X11_83 lb_0 (rf_0_2 hW.2.1) dX11_still_48 ?_
        refine q_iload_n hM dX11_still_51 (lv_at hl 1 rfl) ?_
        refine q_aload_n hM dX11_still_52 (lv_at hl 0 rfl) ?_
        refine w_get (v := .ref (ad 80)) hM hW FG_X11_83 lb_0 (rf_0_2 hW.2.1) dX11_still_53 ?_
        refine w_get (v := .ref (ad 81)) hM hW FG_X11_150 lb_80 (rf_80_1 hW.2.1) dX11_still_56 ?_
        refine q_iload_n hM dX11_still_59 (lv_at hl 2 rfl) ?_
        refine w_aald hM hW lb_81 (Or.inr rfl) (i_in (by omega) (by omega)) (aq (aq_81 hW.2.1) (by omega) (by omega)) dX11_still_60 ?_
        refine q_callV (As := [.int a, .ref (ad (84 + 3 * b.toInt.toNat))]) (rest := []) hM hW.1 hR hC myX2_timesTillRest (kAW (v_3_6 (List.mem_of_getElem? (i := 12) rfl)) rfl) (rfl : vwCl[2]? = some (RX2, TX2, 11)) rfl lb_80.1 (shO hW.2.1 lb_80) (a_X2_timesTillRest_42 _ _ cA ad g4947 a (84 + 3 * b.toInt.toNat) lw hW.2.1 hG (isAt_art (by omega) : isAt (84 + 3 * b.toInt.toNat)) hlw q4945 q4946 (by  omega) (by  omega)) ⟨by decide, by decide⟩ rfl rfl hl.1 (Nat.le_of_ble_eq_true rfl) dX11_still_61 (fun v g4951 H locs hp hW1 => ?_)
        obtain ⟨r4950, rfl, hs1, hG, hf1⟩ := hp
        have f4952 : fld g4951 18 3 = .int x4932 := (hf1.1 18 3 (by omega)).trans f4948
        have f4953 : fld g4951 80 4 = .int x4937 := (hf1.1 80 4 (by omega)).trans f4949
        have f4954 : fld g4951 80 9 = .ref (ad lw) := (hf1.1 80 9 (by omega)).trans q4945
        have f4955 : fld g4951 80 10 = .ref (ad 42) := (hf1.1 80 10 (by omega)).trans q4946
        have hW : WS ad cA (fun i k => i = 43 ∨ i = 44 ∨ (46 ≤ i ∧ i < 54) ∨ (i = 42 ∧ (k = 3 ∨ k = 4 ∨ k = 5 ∨ k = 6 ∨ k = 7)) ∨ (i = 80 ∧ (k = 7 ∨ k = 8 ∨ k = 9 ∨ k = 10)) ∨ (46 ≤ i ∧ i < 54) ∨ i = 83 ∨ i = (lw + 6) ∨ (i = 42 ∧ (k = 4 ∨ k = 5 ∨ k = 6 ∨ k = 7)) ∨ (i = 80 ∧ (k = 7 ∨ k = 8)) ∨ i = 43) g0 K g4951 H locs := ⟨hW1, hs1, hW.2.2.tr hf1 (fun i k h => h.elim (fun h => (Or.inr (Or.inr (Or.inl h)))) (fun h => h.elim (fun h => (Or.inr (Or.inr (Or.inr (Or.inr (Or.inr (Or.inr (Or.inl h)))))))) (fun h => h.elim (fun h => (Or.inr (Or.inr (Or.inr (Or.inr (Or.inr (Or.inr (Or.inr (Or.inl h))))))))) (fun h => (Or.inr (Or.inr (Or.inr (Or.inl (by omega)))))))))⟩
        refine q_istore (lv9 := [(4, .int r4950), (0, .ref (ad 0)), (1, .int a), (2, .int b), (3, .int c)]) hM dX11_still_64 hl (by decide) rfl (fun ls hl => ?_)
        refine q_iload hM dX11_still_66 (lv_at hl 0 rfl) ?_
        refine q_sipush (v := (200 : Int32)) hM dX11_still_68 (by decide) ?_
        refine q_icmp_le (tgt := 77) hM dX11_still_71 (by decide) (rfl : r4950.toInt = r4950.toInt) (kc_200 : (200 : Int32).toInt = 200) (fun h71 => ?_) (fun h71 => ?_)
        · refine q_iload_n hM dX11_still_77 (lv_at hl 4 rfl) ?_
          refine q_if_ne (tgt := 86) hM dX11_still_78 (by decide) (rfl : c.toInt = c.toInt) (fun h78 => ?_) (fun h78 => ?_)
          · refine q_aload_n hM dX11_still_86 (lv_at hl 1 rfl) ?_
            refine w_get (v := .ref (ad 42)) hM hW FG_X11_33 lb_0 (rf_0_12 hW.2.1) dX11_still_87 ?_
            refine q_iload_n hM dX11_still_90 (lv_at hl 2 rfl) ?_
            refine q_callV (As := [.int a]) (rest := []) hM hW.1 hR hC myX7_known (kAW (v_3_1 (List.mem_of_getElem? (i := 1) rfl)) rfl) (rfl : vwCl[7]? = some (RX7, TX7, 8)) rfl lb_42.1 (shO hW.2.1 lb_42) (a_X7_known _ _ cA ad g4951 42 a hW.2.1 hG (Or.inr rfl : isPb 42) (by  omega) (by  omega)) ⟨by decide, by decide⟩ rfl rfl hl.1 (Nat.le_of_ble_eq_true rfl) dX11_still_91 (fun v g4959 H locs hp hW1 => ?_)
            obtain ⟨r4958, rfl, hr4958, rfl⟩ := hp
            have hW : WS ad cA (fun i k => i = 43 ∨ i = 44 ∨ (46 ≤ i ∧ i < 54) ∨ (i = 42 ∧ (k = 3 ∨ k = 4 ∨ k = 5 ∨ k = 6 ∨ k = 7)) ∨ (i = 80 ∧ (k = 7 ∨ k = 8 ∨ k = 9 ∨ k = 10)) ∨ (46 ≤ i ∧ i < 54) ∨ i = 83 ∨ i = (lw + 6) ∨ (i = 42 ∧ (k = 4 ∨ k = 5 ∨ k = 6 ∨ k = 7)) ∨ (i = 80 ∧ (k = 7 ∨ k = 8)) ∨ i = 43) g0 K g4951 H locs := ⟨hW1, hW.2.1, hW.2.2⟩
            refine q_callS (As := [.int r4958]) (rest := []) hM hW.1 hR hC myJ6_bitCount_0f7a4 (kAW (v_3_1 (List.mem_of_getElem? (i := 2) rfl)) rfl) (c_J6_bitCount_0f7a4 _ _ cA ad g4951 r4958 hW.2.1) ⟨by decide, by decide⟩ rfl rfl hl.1 (Nat.le_of_ble_eq_true rfl) dX11_still_94 (fun v g4961 H locs hp hW1 => ?_)
            obtain ⟨r4960, rfl, hr4960, rfl⟩ := hp
            have hW : WS ad cA (fun i k => i = 43 ∨ i = 44 ∨ (46 ≤ i ∧ i < 54) ∨ (i = 42 ∧ (k = 3 ∨ k = 4 ∨ k = 5 ∨ k = 6 ∨ k = 7)) ∨ (i = 80 ∧ (k = 7 ∨ k = 8 ∨ k = 9 ∨ k = 10)) ∨ (46 ≤ i ∧ i < 54) ∨ i = 83 ∨ i = (lw + 6) ∨ (i = 42 ∧ (k = 4 ∨ k = 5 ∨ k = 6 ∨ k = 7)) ∨ (i = 80 ∧ (k = 7 ∨ k = 8)) ∨ i = 43) g0 K g4951 H locs := ⟨hW1, hW.2.1, hW.2.2⟩
            exact hE _ _ _ _ _ _ hW.1 ⟨_, rfl, hW.2.1, hG, hW.2.2⟩ dX11_still_97
          · refine q_iload hM dX11_still_81 (lv_at hl 0 rfl) ?_
            refine q_goto (tgt := 97) hM dX11_still_83 (by decide) ?_
            exact hE _ _ _ _ _ _ hW.1 ⟨_, rfl, hW.2.1, hG, hW.2.2⟩ dX11_still_97
        · refine q_bipush (v := ((-2) : Int32)) hM dX11_still_74 (by decide) ?_
          exact hE _ _ _ _ _ _ hW.1 ⟨_, rfl, hW.2.1, hG, hW.2.2⟩ dX11_still_76
      · refine q_iconst (v := ((-1) : Int32)) hM dX11_still_37 (by decide) ?_
        exact hE _ _ _ _ _ _ hW.1 ⟨_, rfl, hW.2.1, hG, hW.2.2⟩ dX11_still_38

theorem dX11_cut_0 : decode cX11_cut 0 = .ok (.aload_n 0, 1) := by decide +kernel
theorem dX11_cut_1 : decode cX11_cut 1 = .ok (.getfield 19, 3) := by decide +kernel
theorem dX11_cut_4 : decode cX11_cut 4 = .ok (.getfield 116, 3) := by decide +kernel
theorem dX11_cut_7 : decode cX11_cut 7 = .ok (.iload_n 1, 1) := by decide +kernel
theorem dX11_cut_8 : decode cX11_cut 8 = .ok (.invokestatic 123, 3) := by decide +kernel
theorem dX11_cut_11 : decode cX11_cut 11 = .ok (.ifCond .eq 31, 3) := by decide +kernel
theorem dX11_cut_14 : decode cX11_cut 14 = .ok (.aload_n 0, 1) := by decide +kernel
theorem dX11_cut_15 : decode cX11_cut 15 = .ok (.getfield 19, 3) := by decide +kernel
theorem dX11_cut_18 : decode cX11_cut 18 = .ok (.getfield 116, 3) := by decide +kernel
theorem dX11_cut_21 : decode cX11_cut 21 = .ok (.iload_n 2, 1) := by decide +kernel
theorem dX11_cut_22 : decode cX11_cut 22 = .ok (.invokestatic 123, 3) := by decide +kernel
theorem dX11_cut_25 : decode cX11_cut 25 = .ok (.ifCond .eq 17, 3) := by decide +kernel
theorem dX11_cut_28 : decode cX11_cut 28 = .ok (.iload_n 1, 1) := by decide +kernel
theorem dX11_cut_29 : decode cX11_cut 29 = .ok (.iload_n 2, 1) := by decide +kernel
theorem dX11_cut_30 : decode cX11_cut 30 = .ok (.if_icmp .eq 12, 3) := by decide +kernel
theorem dX11_cut_33 : decode cX11_cut 33 = .ok (.iload_n 3, 1) := by decide +kernel
theorem dX11_cut_34 : decode cX11_cut 34 = .ok (.iconst 0, 1) := by decide +kernel
theorem dX11_cut_35 : decode cX11_cut 35 = .ok (.iconst 1, 1) := by decide +kernel
theorem dX11_cut_36 : decode cX11_cut 36 = .ok (.invokestatic 112, 3) := by decide +kernel
theorem dX11_cut_39 : decode cX11_cut 39 = .ok (.ifCond .ne 5, 3) := by decide +kernel
theorem dX11_cut_42 : decode cX11_cut 42 = .ok (.iconst (-1), 1) := by decide +kernel
theorem dX11_cut_43 : decode cX11_cut 43 = .ok (.ireturn, 1) := by decide +kernel
theorem dX11_cut_44 : decode cX11_cut 44 = .ok (.aload_n 0, 1) := by decide +kernel
theorem dX11_cut_45 : decode cX11_cut 45 = .ok (.getfield 19, 3) := by decide +kernel
theorem dX11_cut_48 : decode cX11_cut 48 = .ok (.getfield 127, 3) := by decide +kernel
theorem dX11_cut_51 : decode cX11_cut 51 = .ok (.iload_n 1, 1) := by decide +kernel
theorem dX11_cut_52 : decode cX11_cut 52 = .ok (.aaload, 1) := by decide +kernel
theorem dX11_cut_53 : decode cX11_cut 53 = .ok (.iload_n 2, 1) := by decide +kernel
theorem dX11_cut_54 : decode cX11_cut 54 = .ok (.iaload, 1) := by decide +kernel
theorem dX11_cut_55 : decode cX11_cut 55 = .ok (.ifCond .le 6, 3) := by decide +kernel
theorem dX11_cut_58 : decode cX11_cut 58 = .ok (.bipush (-2), 2) := by decide +kernel
theorem dX11_cut_60 : decode cX11_cut 60 = .ok (.ireturn, 1) := by decide +kernel
theorem dX11_cut_61 : decode cX11_cut 61 = .ok (.aload_n 0, 1) := by decide +kernel
theorem dX11_cut_62 : decode cX11_cut 62 = .ok (.getfield 19, 3) := by decide +kernel
theorem dX11_cut_65 : decode cX11_cut 65 = .ok (.iload_n 1, 1) := by decide +kernel
theorem dX11_cut_66 : decode cX11_cut 66 = .ok (.iload_n 2, 1) := by decide +kernel
theorem dX11_cut_67 : decode cX11_cut 67 = .ok (.invokevirtual 240, 3) := by decide +kernel
theorem dX11_cut_70 : decode cX11_cut 70 = .ok (.istore 4, 2) := by decide +kernel
theorem dX11_cut_72 : decode cX11_cut 72 = .ok (.iload_n 3, 1) := by decide +kernel
theorem dX11_cut_73 : decode cX11_cut 73 = .ok (.ifCond .ne 11, 3) := by decide +kernel
theorem dX11_cut_76 : decode cX11_cut 76 = .ok (.iload 4, 2) := by decide +kernel
theorem dX11_cut_78 : decode cX11_cut 78 = .ok (.invokestatic 206, 3) := by decide +kernel
theorem dX11_cut_81 : decode cX11_cut 81 = .ok (.goto 5, 3) := by decide +kernel
theorem dX11_cut_84 : decode cX11_cut 84 = .ok (.iload 4, 2) := by decide +kernel
theorem dX11_cut_86 : decode cX11_cut 86 = .ok (.ireturn, 1) := by decide +kernel
theorem myX5_fewestBetween : MI yX5_fewestBetween cX5_fewestBetween 6 (some FieldType.int) 2 := ⟨kAW (v_3_7 (List.mem_of_getElem? (i := 9) rfl)) rfl, kAW (v_0_0 (List.mem_of_getElem? (i := 3) rfl)) rfl, kAW (v_3_7 (List.mem_of_getElem? (i := 7) rfl)) rfl, kAW (v_3_7 (List.mem_of_getElem? (i := 8) rfl)) rfl, by decide, by decide, by decide +kernel⟩
set_option maxRecDepth 100000 in
set_option maxHeartbeats 4000000 in
theorem p_X11_cut (l : Launch) (D : va_G) (cA : Nat → ClassId) (ad : Nat → Nat) (g0 : Nat → va_E) (a : Int32) (b : Int32) (c : Int32)   (hSh : Shp ad cA g0) (hG : Rng g0) : CT l NN ad cA D yX11_cut cX11_cut 5 (some FieldType.int) (3, 75) [.ref (ad 0), .int a, .int b, .int c] g0 (fun v g' => ∃ (r : Int32), v = some (.int r) ∧ Shp ad cA g' ∧ Rng g' ∧ FR (fun i k => False) g0 g') := by
  refine q_enterI (by decide) (Nat.le_of_ble_eq_true rfl) rfl (fun K H locs ls _ _ hM hW0 hR hC hE hl => ?_)
  have hl : lv_has ls 5 [(0, .ref (ad 0)), (1, .int a), (2, .int b), (3, .int c)] := hl
  have hW : WS ad cA (fun i k => False) g0 K g0 H locs := ⟨hW0, hSh, FR.rf⟩
  have := kc_0
  have := kc_1
  have := kc_m1
  have := kc_m2
  refine q_aload_n hM dX11_cut_0 (lv_at hl 0 rfl) ?_
  refine w_get (v := .ref (ad 3)) hM hW FG_X11_19 lb_0 (rf_0_1 hW.2.1) dX11_cut_1 ?_
  refine w_getI hM hW FG_X11_116 lb_3 (by decide) (by decide) dX11_cut_4 (fun x4965 fx4965 => ?_)
  have bx4965 := hG.f fx4965 rF_3_2 (by decide)
  refine q_iload_n hM dX11_cut_7 (lv_at hl 1 rfl) ?_
  refine q_callS (As := [.int x4965, .int a]) (rest := []) hM hW.1 hR hC myX11_has (kAW (v_1_10 (List.mem_of_getElem? (i := 8) rfl)) rfl) (c_X11_has _ _ cA ad g0 x4965 a hW.2.1) ⟨by decide, by decide⟩ rfl rfl hl.1 (Nat.le_of_ble_eq_true rfl) dX11_cut_8 (fun v g4967 H locs hp hW1 => ?_)
  obtain ⟨r4966, rfl, hr4966, rfl⟩ := hp
  have hW : WS ad cA (fun i k => False) g0 K g0 H locs := ⟨hW1, hW.2.1, hW.2.2⟩
  first | have ltr4966 := has_lt 5 hr4966 (by omega) (by omega) | have ltr4966 := has_lt 6 hr4966 (by omega) (by omega) | have ltr4966 := has_lt 8 hr4966 (by omega) (by omega) | have ltr4966 := has_lt 12 hr4966 (by omega) (by omega) | skip
  refine q_if_eq (tgt := 42) hM dX11_cut_11 (by decide) (rfl : r4966.toInt = r4966.toInt) (fun h11 => ?_) (fun h11 => ?_)
  · refine q_iconst (v := ((-1) : Int32)) hM dX11_cut_42 (by decide) ?_
    exact hE _ _ _ _ _ _ hW.1 ⟨_, rfl, hW.2.1, hG, hW.2.2⟩ dX11_cut_43
  · refine q_aload_n hM dX11_cut_14 (lv_at hl 0 rfl) ?_
    refine w_get (v := .ref (ad 3)) hM hW FG_X11_19 lb_0 (rf_0_1 hW.2.1) dX11_cut_15 ?_
    refine w_get (v := .int x4965) hM hW FG_X11_116 lb_3 fx4965 dX11_cut_18 ?_
    have bx4965 := hG.f fx4965 rF_3_2 (by decide)
    refine q_iload_n hM dX11_cut_21 (lv_at hl 2 rfl) ?_
    refine q_callS (As := [.int x4965, .int b]) (rest := []) hM hW.1 hR hC myX11_has (kAW (v_1_10 (List.mem_of_getElem? (i := 8) rfl)) rfl) (c_X11_has _ _ cA ad g0 x4965 b hW.2.1) ⟨by decide, by decide⟩ rfl rfl hl.1 (Nat.le_of_ble_eq_true rfl) dX11_cut_22 (fun v g4971 H locs hp hW1 => ?_)
    obtain ⟨r4970, rfl, hr4970, rfl⟩ := hp
    have hW : WS ad cA (fun i k => False) g0 K g0 H locs := ⟨hW1, hW.2.1, hW.2.2⟩
    first | have ltr4970 := has_lt 5 hr4970 (by omega) (by omega) | have ltr4970 := has_lt 6 hr4970 (by omega) (by omega) | have ltr4970 := has_lt 8 hr4970 (by omega) (by omega) | have ltr4970 := has_lt 12 hr4970 (by omega) (by omega) | skip
    refine q_if_eq (tgt := 42) hM dX11_cut_25 (by decide) (rfl : r4970.toInt = r4970.toInt) (fun h25 => ?_) (fun h25 => ?_)
    · refine q_iconst (v := ((-1) : Int32)) hM dX11_cut_42 (by decide) ?_
      exact hE _ _ _ _ _ _ hW.1 ⟨_, rfl, hW.2.1, hG, hW.2.2⟩ dX11_cut_43
    · refine q_iload_n hM dX11_cut_28 (lv_at hl 1 rfl) ?_
      refine q_iload_n hM dX11_cut_29 (lv_at hl 2 rfl) ?_
      refine q_icmp_eq (tgt := 42) hM dX11_cut_30 (by decide) (rfl : a.toInt = a.toInt) (rfl : b.toInt = b.toInt) (fun h30 => ?_) (fun h30 => ?_)
      · refine q_iconst (v := ((-1) : Int32)) hM dX11_cut_42 (by decide) ?_
        exact hE _ _ _ _ _ _ hW.1 ⟨_, rfl, hW.2.1, hG, hW.2.2⟩ dX11_cut_43
      · refine q_iload_n hM dX11_cut_33 (lv_at hl 3 rfl) ?_
        refine q_iconst (v := (0 : Int32)) hM dX11_cut_34 (by decide) ?_
        refine q_iconst (v := (1 : Int32)) hM dX11_cut_35 (by decide) ?_
        refine q_callS (As := [.int c, .int (0 : Int32), .int (1 : Int32)]) (rest := []) hM hW.1 hR hC myX11_within (kAW (v_1_10 (List.mem_of_getElem? (i := 1) rfl)) rfl) (c_X11_within _ _ cA ad g0 c (0 : Int32) (1 : Int32) hW.2.1) ⟨by decide, by decide⟩ rfl rfl hl.1 (Nat.le_of_ble_eq_true rfl) dX11_cut_36 (fun v g4977 H locs hp hW1 => ?_)
        obtain ⟨r4976, rfl, hr4976, rfl⟩ := hp
        have hW : WS ad cA (fun i k => False) g0 K g0 H locs := ⟨hW1, hW.2.1, hW.2.2⟩
        have := kc_0
        have := kc_1
        refine q_if_ne (tgt := 44) hM dX11_cut_39 (by decide) (rfl : r4976.toInt = r4976.toInt) (fun h39 => ?_) (fun h39 => ?_)
        · refine q_aload_n hM dX11_cut_44 (lv_at hl 0 rfl) ?_
          refine w_get (v := .ref (ad 3)) hM hW FG_X11_19 lb_0 (rf_0_1 hW.2.1) dX11_cut_45 ?_
          refine w_get (v := .ref (ad 5)) hM hW FG_X11_127 lb_3 (rf_3_1 hW.2.1) dX11_cut_48 ?_
          refine q_iload_n hM dX11_cut_51 (lv_at hl 1 rfl) ?_
          refine w_aald hM hW lb_5 (Or.inl rfl) (i_in (by omega) (by omega)) (aq (aq_5 hW.2.1) (by omega) (by omega)) dX11_cut_52 ?_
          refine q_iload_n hM dX11_cut_53 (lv_at hl 2 rfl) ?_
          refine w_iald hM hW (lr_6 (by omega)) (i_in (by omega) (by omega)) dX11_cut_54 ?_
          refine q_top (fun y4979 hy4979 => ?_)
          refine q_if_le (tgt := 61) hM dX11_cut_55 (by decide) (rfl : y4979.toInt = y4979.toInt) (fun h55 => ?_) (fun h55 => ?_)
          · refine q_aload_n hM dX11_cut_61 (lv_at hl 0 rfl) ?_
            refine w_get (v := .ref (ad 3)) hM hW FG_X11_19 lb_0 (rf_0_1 hW.2.1) dX11_cut_62 ?_
            refine q_iload_n hM dX11_cut_65 (lv_at hl 1 rfl) ?_
            refine q_iload_n hM dX11_cut_66 (lv_at hl 2 rfl) ?_
            refine q_callV (As := [.int a, .int b]) (rest := []) hM hW.1 hR hC myX5_fewestBetween (kAW (v_3_7 (List.mem_of_getElem? (i := 6) rfl)) rfl) (rfl : vwCl[5]? = some (RX5, TX5, 3)) rfl lb_3.1 (shO hW.2.1 lb_3) (a_X5_fewestBetween _ _ cA ad g0 a b hW.2.1 hG (by  omega) (by  omega)) ⟨by decide, by decide⟩ rfl rfl hl.1 (Nat.le_of_ble_eq_true rfl) dX11_cut_67 (fun v g4982 H locs hp hW1 => ?_)
            obtain ⟨r4981, rfl, hr4981, rfl⟩ := hp
            have hW : WS ad cA (fun i k => False) g0 K g0 H locs := ⟨hW1, hW.2.1, hW.2.2⟩
            refine q_istore (lv9 := [(4, .int r4981), (0, .ref (ad 0)), (1, .int a), (2, .int b), (3, .int c)]) hM dX11_cut_70 hl (by decide) rfl (fun ls hl => ?_)
            refine q_iload_n hM dX11_cut_72 (lv_at hl 4 rfl) ?_
            refine q_if_ne (tgt := 84) hM dX11_cut_73 (by decide) (rfl : c.toInt = c.toInt) (fun h73 => ?_) (fun h73 => ?_)
            · refine q_iload hM dX11_cut_84 (lv_at hl 0 rfl) ?_
              exact hE _ _ _ _ _ _ hW.1 ⟨_, rfl, hW.2.1, hG, hW.2.2⟩ dX11_cut_86
            · refine q_iload hM dX11_cut_76 (lv_at hl 0 rfl) ?_
              refine q_callS (As := [.int r4981]) (rest := []) hM hW.1 hR hC myJ6_bitCount_0f7a4 (kAW (v_3_1 (List.mem_of_getElem? (i := 2) rfl)) rfl) (c_J6_bitCount_0f7a4 _ _ cA ad g0 r4981 hW.2.1) ⟨by decide, by decide⟩ rfl rfl hl.1 (Nat.le_of_ble_eq_true rfl) dX11_cut_78 (fun v g4986 H locs hp hW1 => ?_)
              obtain ⟨r4985, rfl, hr4985, rfl⟩ := hp
              have hW : WS ad cA (fun i k => False) g0 K g0 H locs := ⟨hW1, hW.2.1, hW.2.2⟩
              refine q_goto (tgt := 86) hM dX11_cut_81 (by decide) ?_
              exact hE _ _ _ _ _ _ hW.1 ⟨_, rfl, hW.2.1, hG, hW.2.2⟩ dX11_cut_86
          · refine q_bipush (v := ((-2) : Int32)) hM dX11_cut_58 (by decide) ?_
            exact hE _ _ _ _ _ _ hW.1 ⟨_, rfl, hW.2.1, hG, hW.2.2⟩ dX11_cut_60
        · refine q_iconst (v := ((-1) : Int32)) hM dX11_cut_42 (by decide) ?_
          exact hE _ _ _ _ _ _ hW.1 ⟨_, rfl, hW.2.1, hG, hW.2.2⟩ dX11_cut_43

theorem dX11_recalls_0 : decode cX11_recalls 0 = .ok (.aload_n 0, 1) := by decide +kernel
theorem dX11_recalls_1 : decode cX11_recalls 1 = .ok (.getfield 19, 3) := by decide +kernel
theorem dX11_recalls_4 : decode cX11_recalls 4 = .ok (.getfield 116, 3) := by decide +kernel
theorem dX11_recalls_7 : decode cX11_recalls 7 = .ok (.iload_n 1, 1) := by decide +kernel
theorem dX11_recalls_8 : decode cX11_recalls 8 = .ok (.invokestatic 123, 3) := by decide +kernel
theorem dX11_recalls_11 : decode cX11_recalls 11 = .ok (.ifCond .eq 15, 3) := by decide +kernel
theorem dX11_recalls_14 : decode cX11_recalls 14 = .ok (.aload_n 0, 1) := by decide +kernel
theorem dX11_recalls_15 : decode cX11_recalls 15 = .ok (.getfield 19, 3) := by decide +kernel
theorem dX11_recalls_18 : decode cX11_recalls 18 = .ok (.iload_n 1, 1) := by decide +kernel
theorem dX11_recalls_19 : decode cX11_recalls 19 = .ok (.iconst 0, 1) := by decide +kernel
theorem dX11_recalls_20 : decode cX11_recalls 20 = .ok (.invokevirtual 244, 3) := by decide +kernel
theorem dX11_recalls_23 : decode cX11_recalls 23 = .ok (.goto 4, 3) := by decide +kernel
theorem dX11_recalls_26 : decode cX11_recalls 26 = .ok (.iconst (-1), 1) := by decide +kernel
theorem dX11_recalls_27 : decode cX11_recalls 27 = .ok (.ireturn, 1) := by decide +kernel
set_option maxRecDepth 100000 in
set_option maxHeartbeats 4000000 in
theorem p_X11_recalls (l : Launch) (D : va_G) (cA : Nat → ClassId) (ad : Nat → Nat) (g0 : Nat → va_E) (a : Int32)   (hSh : Shp ad cA g0) (hG : Rng g0) : CT l NN ad cA D yX11_recalls cX11_recalls 2 (some FieldType.int) (2, 50) [.ref (ad 0), .int a] g0 (fun v g' => ∃ (r : Int32), v = some (.int r) ∧ Shp ad cA g' ∧ Rng g' ∧ FR (fun i k => False) g0 g') := by
  refine q_enterI (by decide) (Nat.le_of_ble_eq_true rfl) rfl (fun K H locs ls _ _ hM hW0 hR hC hE hl => ?_)
  have hl : lv_has ls 2 [(0, .ref (ad 0)), (1, .int a)] := hl
  have hW : WS ad cA (fun i k => False) g0 K g0 H locs := ⟨hW0, hSh, FR.rf⟩
  have := kc_0
  have := kc_1
  have := kc_m1
  have := kc_m2
  refine q_aload_n hM dX11_recalls_0 (lv_at hl 0 rfl) ?_
  refine w_get (v := .ref (ad 3)) hM hW FG_X11_19 lb_0 (rf_0_1 hW.2.1) dX11_recalls_1 ?_
  refine w_getI hM hW FG_X11_116 lb_3 (by decide) (by decide) dX11_recalls_4 (fun x4989 fx4989 => ?_)
  have bx4989 := hG.f fx4989 rF_3_2 (by decide)
  refine q_iload_n hM dX11_recalls_7 (lv_at hl 1 rfl) ?_
  refine q_callS (As := [.int x4989, .int a]) (rest := []) hM hW.1 hR hC myX11_has (kAW (v_1_10 (List.mem_of_getElem? (i := 8) rfl)) rfl) (c_X11_has _ _ cA ad g0 x4989 a hW.2.1) ⟨by decide, by decide⟩ rfl rfl hl.1 (Nat.le_of_ble_eq_true rfl) dX11_recalls_8 (fun v g4991 H locs hp hW1 => ?_)
  obtain ⟨r4990, rfl, hr4990, rfl⟩ := hp
  have hW : WS ad cA (fun i k => False) g0 K g0 H locs := ⟨hW1, hW.2.1, hW.2.2⟩
  first | have ltr4990 := has_lt 5 hr4990 (by omega) (by omega) | have ltr4990 := has_lt 6 hr4990 (by omega) (by omega) | have ltr4990 := has_lt 8 hr4990 (by omega) (by omega) | have ltr4990 := has_lt 12 hr4990 (by omega) (by omega) | skip
  refine q_if_eq (tgt := 26) hM dX11_recalls_11 (by decide) (rfl : r4990.toInt = r4990.toInt) (fun h11 => ?_) (fun h11 => ?_)
  · refine q_iconst (v := ((-1) : Int32)) hM dX11_recalls_26 (by decide) ?_
    exact hE _ _ _ _ _ _ hW.1 ⟨_, rfl, hW.2.1, hG, hW.2.2⟩ dX11_recalls_27
  · refine q_aload_n hM dX11_recalls_14 (lv_at hl 0 rfl) ?_
    refine w_get (v := .ref (ad 3)) hM hW FG_X11_19 lb_0 (rf_0_1 hW.2.1) dX11_recalls_15 ?_
    refine q_iload_n hM dX11_recalls_18 (lv_at hl 1 rfl) ?_
    refine q_iconst (v := (0 : Int32)) hM dX11_recalls_19 (by decide) ?_
    refine q_callV (As := [.int a, .int (0 : Int32)]) (rest := []) hM hW.1 hR hC myX5_reached (kAW (v_3_8 (List.mem_of_getElem? (i := 9) rfl)) rfl) (rfl : vwCl[5]? = some (RX5, TX5, 3)) rfl lb_3.1 (shO hW.2.1 lb_3) (a_X5_reached _ _ cA ad g0 a (0 : Int32) hW.2.1 hG (by have := kc_0; omega) (by have := kc_0; omega)) ⟨by decide, by decide⟩ rfl rfl hl.1 (Nat.le_of_ble_eq_true rfl) dX11_recalls_20 (fun v g4995 H locs hp hW1 => ?_)
    obtain ⟨r4994, rfl, hr4994, rfl⟩ := hp
    have hW : WS ad cA (fun i k => False) g0 K g0 H locs := ⟨hW1, hW.2.1, hW.2.2⟩
    refine q_goto (tgt := 27) hM dX11_recalls_23 (by decide) ?_
    exact hE _ _ _ _ _ _ hW.1 ⟨_, rfl, hW.2.1, hG, hW.2.2⟩ dX11_recalls_27

theorem dX11_root_0 : decode cX11_root 0 = .ok (.bipush (-2), 2) := by decide +kernel
theorem dX11_root_2 : decode cX11_root 2 = .ok (.istore_n 1, 1) := by decide +kernel
theorem dX11_root_3 : decode cX11_root 3 = .ok (.iconst (-1), 1) := by decide +kernel
theorem dX11_root_4 : decode cX11_root 4 = .ok (.istore_n 2, 1) := by decide +kernel
theorem dX11_root_5 : decode cX11_root 5 = .ok (.iconst 0, 1) := by decide +kernel
theorem dX11_root_6 : decode cX11_root 6 = .ok (.istore_n 3, 1) := by decide +kernel
theorem dX11_root_7 : decode cX11_root 7 = .ok (.iload_n 3, 1) := by decide +kernel
theorem dX11_root_8 : decode cX11_root 8 = .ok (.bipush 12, 2) := by decide +kernel
theorem dX11_root_10 : decode cX11_root 10 = .ok (.if_icmp .ge 48, 3) := by decide +kernel
theorem dX11_root_13 : decode cX11_root 13 = .ok (.aload_n 0, 1) := by decide +kernel
theorem dX11_root_14 : decode cX11_root 14 = .ok (.getfield 19, 3) := by decide +kernel
theorem dX11_root_17 : decode cX11_root 17 = .ok (.iload_n 3, 1) := by decide +kernel
theorem dX11_root_18 : decode cX11_root 18 = .ok (.iconst 0, 1) := by decide +kernel
theorem dX11_root_19 : decode cX11_root 19 = .ok (.invokevirtual 244, 3) := by decide +kernel
theorem dX11_root_22 : decode cX11_root 22 = .ok (.invokestatic 206, 3) := by decide +kernel
theorem dX11_root_25 : decode cX11_root 25 = .ok (.istore 4, 2) := by decide +kernel
theorem dX11_root_27 : decode cX11_root 27 = .ok (.aload_n 0, 1) := by decide +kernel
theorem dX11_root_28 : decode cX11_root 28 = .ok (.getfield 19, 3) := by decide +kernel
theorem dX11_root_31 : decode cX11_root 31 = .ok (.getfield 116, 3) := by decide +kernel
theorem dX11_root_34 : decode cX11_root 34 = .ok (.iload_n 3, 1) := by decide +kernel
theorem dX11_root_35 : decode cX11_root 35 = .ok (.invokestatic 123, 3) := by decide +kernel
theorem dX11_root_38 : decode cX11_root 38 = .ok (.ifCond .eq 14, 3) := by decide +kernel
theorem dX11_root_41 : decode cX11_root 41 = .ok (.iload 4, 2) := by decide +kernel
theorem dX11_root_43 : decode cX11_root 43 = .ok (.iload_n 2, 1) := by decide +kernel
theorem dX11_root_44 : decode cX11_root 44 = .ok (.if_icmp .le 8, 3) := by decide +kernel
theorem dX11_root_47 : decode cX11_root 47 = .ok (.iload 4, 2) := by decide +kernel
theorem dX11_root_49 : decode cX11_root 49 = .ok (.istore_n 2, 1) := by decide +kernel
theorem dX11_root_50 : decode cX11_root 50 = .ok (.iload_n 3, 1) := by decide +kernel
theorem dX11_root_51 : decode cX11_root 51 = .ok (.istore_n 1, 1) := by decide +kernel
theorem dX11_root_52 : decode cX11_root 52 = .ok (.iinc 3 1, 3) := by decide +kernel
theorem dX11_root_55 : decode cX11_root 55 = .ok (.goto (-48), 3) := by decide +kernel
theorem dX11_root_58 : decode cX11_root 58 = .ok (.iload_n 1, 1) := by decide +kernel
theorem dX11_root_59 : decode cX11_root 59 = .ok (.ireturn, 1) := by decide +kernel
set_option maxRecDepth 100000 in
set_option maxHeartbeats 4000000 in
theorem p_X11_root (l : Launch) (D : va_G) (cA : Nat → ClassId) (ad : Nat → Nat) (g0 : Nat → va_E)    (hSh : Shp ad cA g0) (hG : Rng g0) : CT l NN ad cA D yX11_root cX11_root 5 (some FieldType.int) (2, 50) [.ref (ad 0)] g0 (fun v g' => ∃ (r : Int32), v = some (.int r) ∧ Shp ad cA g' ∧ Rng g' ∧ FR (fun i k => False) g0 g') := by
  refine q_enterI (by decide) (Nat.le_of_ble_eq_true rfl) rfl (fun K H locs ls _ _ hM hW0 hR hC hE hl => ?_)
  have hl : lv_has ls 5 [(0, .ref (ad 0))] := hl
  have hW : WS ad cA (fun i k => False) g0 K g0 H locs := ⟨hW0, hSh, FR.rf⟩
  have := kc_0
  have := kc_1
  have := kc_m1
  have := kc_m2
  refine q_bipush (v := ((-2) : Int32)) hM dX11_root_0 (by decide) ?_
  refine q_istore_n (lv9 := [(1, .int ((-2) : Int32)), (0, .ref (ad 0))]) hM dX11_root_2 hl (by decide) rfl (fun ls hl => ?_)
  refine q_iconst (v := ((-1) : Int32)) hM dX11_root_3 (by decide) ?_
  refine q_istore_n (lv9 := [(2, .int ((-1) : Int32)), (1, .int ((-2) : Int32)), (0, .ref (ad 0))]) hM dX11_root_4 hl (by decide) rfl (fun ls hl => ?_)
  refine q_iconst (v := (0 : Int32)) hM dX11_root_5 (by decide) ?_
  refine q_istore_n (lv9 := [(3, .int (0 : Int32)), (2, .int ((-1) : Int32)), (1, .int ((-2) : Int32)), (0, .ref (ad 0))]) hM dX11_root_6 hl (by decide) rfl (fun ls hl => ?_)
  have L7 : ∀ (fu7 : Nat) (w7_2 : Int32) (w7_1 : Int32) (w7_3 : Int32) (g9 : Nat → va_E) (H : Heap) (locs : List Loc) (ls : Array Slot), (12 - w7_3.toInt).toNat < fu7 → (Rng g9) → (0 ≤ w7_3.toInt) → (w7_3.toInt ≤ 12) → lv_has ls 5 [(0, .ref (ad 0)), (1, .int w7_1), (2, .int w7_2), (3, .int w7_3)] → WS ad cA (fun i k => False) g0 K g9 H locs → XX K 0 0 H locs 7 ls [] := by
    intro fu7
    induction fu7 with
    | zero => intro w7_2 w7_1 w7_3 g9 H locs ls h0; omega
    | succ fu7 ih7 =>
      intro w7_2 w7_1 w7_3 g9 H locs ls hm7 i7_0 i7_1 i7_2 hl hW
      have hG := i7_0
      refine q_iload_n hM dX11_root_7 (lv_at hl 3 rfl) ?_
      refine q_bipush (v := (12 : Int32)) hM dX11_root_8 (by decide) ?_
      refine q_icmp_ge (tgt := 58) hM dX11_root_10 (by decide) (rfl : w7_3.toInt = w7_3.toInt) (kc_12 : (12 : Int32).toInt = 12) (fun h10 => ?_) (fun h10 => ?_)
      · refine q_iload_n hM dX11_root_58 (lv_at hl 1 rfl) ?_
        exact hE _ _ _ _ _ _ hW.1 ⟨_, rfl, hW.2.1, hG, hW.2.2⟩ dX11_root_59
      · refine q_aload_n hM dX11_root_13 (lv_at hl 0 rfl) ?_
        refine w_get (v := .ref (ad 3)) hM hW FG_X11_19 lb_0 (rf_0_1 hW.2.1) dX11_root_14 ?_
        refine q_iload_n hM dX11_root_17 (lv_at hl 3 rfl) ?_
        refine q_iconst (v := (0 : Int32)) hM dX11_root_18 (by decide) ?_
        refine q_callV (As := [.int w7_3, .int (0 : Int32)]) (rest := []) hM hW.1 hR hC myX5_reached (kAW (v_3_8 (List.mem_of_getElem? (i := 9) rfl)) rfl) (rfl : vwCl[5]? = some (RX5, TX5, 3)) rfl lb_3.1 (shO hW.2.1 lb_3) (a_X5_reached _ _ cA ad g9 w7_3 (0 : Int32) hW.2.1 hG (by have := kc_0; omega) (by have := kc_0; omega)) ⟨by decide, by decide⟩ rfl rfl hl.1 (Nat.le_of_ble_eq_true rfl) dX11_root_19 (fun v g5000 H locs hp hW1 => ?_)
        obtain ⟨r4999, rfl, hr4999, rfl⟩ := hp
        have hW : WS ad cA (fun i k => False) g0 K g9 H locs := ⟨hW1, hW.2.1, hW.2.2⟩
        refine q_callS (As := [.int r4999]) (rest := []) hM hW.1 hR hC myJ6_bitCount_0f7a4 (kAW (v_3_1 (List.mem_of_getElem? (i := 2) rfl)) rfl) (c_J6_bitCount_0f7a4 _ _ cA ad g9 r4999 hW.2.1) ⟨by decide, by decide⟩ rfl rfl hl.1 (Nat.le_of_ble_eq_true rfl) dX11_root_22 (fun v g5002 H locs hp hW1 => ?_)
        obtain ⟨r5001, rfl, hr5001, rfl⟩ := hp
        have hW : WS ad cA (fun i k => False) g0 K g9 H locs := ⟨hW1, hW.2.1, hW.2.2⟩
        refine q_istore (lv9 := [(4, .int r5001), (0, .ref (ad 0)), (1, .int w7_1), (2, .int w7_2), (3, .int w7_3)]) hM dX11_root_25 hl (by decide) rfl (fun ls hl => ?_)
        refine q_aload_n hM dX11_root_27 (lv_at hl 1 rfl) ?_
        refine w_get (v := .ref (ad 3)) hM hW FG_X11_19 lb_0 (rf_0_1 hW.2.1) dX11_root_28 ?_
        refine w_getI hM hW FG_X11_116 lb_3 (by decide) (by decide) dX11_root_31 (fun x5003 fx5003 => ?_)
        have bx5003 := hG.f fx5003 rF_3_2 (by decide)
        refine q_iload_n hM dX11_root_34 (lv_at hl 4 rfl) ?_
        refine q_callS (As := [.int x5003, .int w7_3]) (rest := []) hM hW.1 hR hC myX11_has (kAW (v_1_10 (List.mem_of_getElem? (i := 8) rfl)) rfl) (c_X11_has _ _ cA ad g9 x5003 w7_3 hW.2.1) ⟨by decide, by decide⟩ rfl rfl hl.1 (Nat.le_of_ble_eq_true rfl) dX11_root_35 (fun v g5005 H locs hp hW1 => ?_)
        obtain ⟨r5004, rfl, hr5004, rfl⟩ := hp
        have hW : WS ad cA (fun i k => False) g0 K g9 H locs := ⟨hW1, hW.2.1, hW.2.2⟩
        first | have ltr5004 := has_lt 5 hr5004 (by omega) (by omega) | have ltr5004 := has_lt 6 hr5004 (by omega) (by omega) | have ltr5004 := has_lt 8 hr5004 (by omega) (by omega) | have ltr5004 := has_lt 12 hr5004 (by omega) (by omega) | skip
        refine q_if_eq (tgt := 52) hM dX11_root_38 (by decide) (rfl : r5004.toInt = r5004.toInt) (fun h38 => ?_) (fun h38 => ?_)
        · refine q_iinc (lv9 := fun z5007 => [(3, .int z5007), (4, .int r5001), (0, .ref (ad 0)), (1, .int w7_1), (2, .int w7_2)]) hM dX11_root_52 hl (kq := 4) rfl (by decide) (fun _ => rfl) (fun z5007 ls hz5007 hl => ?_)
          first | have tz5007 := i_addT hz5007 (rfl : w7_3.toInt = w7_3.toInt) (kc_1 : (Int32.ofInt 1).toInt = 1) (by omega) (by omega) | skip
          refine q_goto (tgt := 7) hM dX11_root_55 (by decide) ?_
          exact ih7 w7_2 w7_1 z5007 _ _ _ _ (by omega) hG (by omega) (by omega) (lv_sub hl [2, 3, 4, 0] rfl) hW
        · refine q_iload hM dX11_root_41 (lv_at hl 0 rfl) ?_
          refine q_iload_n hM dX11_root_43 (lv_at hl 3 rfl) ?_
          refine q_icmp_le (tgt := 52) hM dX11_root_44 (by decide) (rfl : r5001.toInt = r5001.toInt) (rfl : w7_2.toInt = w7_2.toInt) (fun h44 => ?_) (fun h44 => ?_)
          · refine q_iinc (lv9 := fun z5010 => [(3, .int z5010), (4, .int r5001), (0, .ref (ad 0)), (1, .int w7_1), (2, .int w7_2)]) hM dX11_root_52 hl (kq := 4) rfl (by decide) (fun _ => rfl) (fun z5010 ls hz5010 hl => ?_)
            first | have tz5010 := i_addT hz5010 (rfl : w7_3.toInt = w7_3.toInt) (kc_1 : (Int32.ofInt 1).toInt = 1) (by omega) (by omega) | skip
            refine q_goto (tgt := 7) hM dX11_root_55 (by decide) ?_
            exact ih7 w7_2 w7_1 z5010 _ _ _ _ (by omega) hG (by omega) (by omega) (lv_sub hl [2, 3, 4, 0] rfl) hW
          · refine q_iload hM dX11_root_47 (lv_at hl 0 rfl) ?_
            refine q_istore_n (lv9 := [(2, .int r5001), (4, .int r5001), (0, .ref (ad 0)), (1, .int w7_1), (3, .int w7_3)]) hM dX11_root_49 hl (by decide) rfl (fun ls hl => ?_)
            refine q_iload_n hM dX11_root_50 (lv_at hl 4 rfl) ?_
            refine q_istore_n (lv9 := [(1, .int w7_3), (2, .int r5001), (4, .int r5001), (0, .ref (ad 0)), (3, .int w7_3)]) hM dX11_root_51 hl (by decide) rfl (fun ls hl => ?_)
            refine q_iinc (lv9 := fun z5012 => [(3, .int z5012), (1, .int w7_3), (2, .int r5001), (4, .int r5001), (0, .ref (ad 0))]) hM dX11_root_52 hl (kq := 4) rfl (by decide) (fun _ => rfl) (fun z5012 ls hz5012 hl => ?_)
            first | have tz5012 := i_addT hz5012 (rfl : w7_3.toInt = w7_3.toInt) (kc_1 : (Int32.ofInt 1).toInt = 1) (by omega) (by omega) | skip
            refine q_goto (tgt := 7) hM dX11_root_55 (by decide) ?_
            exact ih7 r5001 w7_3 z5012 _ _ _ _ (by omega) hG (by omega) (by omega) (lv_sub hl [4, 1, 2, 0] rfl) hW
  have := kc_m1
  have := kc_m2
  have := kc_0
  exact L7 _ ((-1) : Int32) ((-2) : Int32) (0 : Int32) _ _ _ _ (Nat.lt_succ_self _) hG (by omega) (by omega) (lv_sub hl [3, 2, 1, 0] rfl) hW

theorem dX11_kin_0 : decode cX11_kin 0 = .ok (.iload_n 1, 1) := by decide +kernel
theorem dX11_kin_1 : decode cX11_kin 1 = .ok (.bipush 100, 2) := by decide +kernel
theorem dX11_kin_3 : decode cX11_kin 3 = .ok (.if_icmp .ne 11, 3) := by decide +kernel
theorem dX11_kin_6 : decode cX11_kin 6 = .ok (.aload_n 0, 1) := by decide +kernel
theorem dX11_kin_7 : decode cX11_kin 7 = .ok (.getfield 19, 3) := by decide +kernel
theorem dX11_kin_10 : decode cX11_kin 10 = .ok (.invokevirtual 247, 3) := by decide +kernel
theorem dX11_kin_13 : decode cX11_kin 13 = .ok (.ireturn, 1) := by decide +kernel
theorem dX11_kin_14 : decode cX11_kin 14 = .ok (.aload_n 0, 1) := by decide +kernel
theorem dX11_kin_15 : decode cX11_kin 15 = .ok (.getfield 19, 3) := by decide +kernel
theorem dX11_kin_18 : decode cX11_kin 18 = .ok (.getfield 116, 3) := by decide +kernel
theorem dX11_kin_21 : decode cX11_kin 21 = .ok (.iload_n 1, 1) := by decide +kernel
theorem dX11_kin_22 : decode cX11_kin 22 = .ok (.invokestatic 123, 3) := by decide +kernel
theorem dX11_kin_25 : decode cX11_kin 25 = .ok (.ifCond .eq 14, 3) := by decide +kernel
theorem dX11_kin_28 : decode cX11_kin 28 = .ok (.aload_n 0, 1) := by decide +kernel
theorem dX11_kin_29 : decode cX11_kin 29 = .ok (.getfield 19, 3) := by decide +kernel
theorem dX11_kin_32 : decode cX11_kin 32 = .ok (.iload_n 1, 1) := by decide +kernel
theorem dX11_kin_33 : decode cX11_kin 33 = .ok (.invokevirtual 251, 3) := by decide +kernel
theorem dX11_kin_36 : decode cX11_kin 36 = .ok (.goto 4, 3) := by decide +kernel
theorem dX11_kin_39 : decode cX11_kin 39 = .ok (.iconst (-1), 1) := by decide +kernel
theorem dX11_kin_40 : decode cX11_kin 40 = .ok (.ireturn, 1) := by decide +kernel
theorem myX5_groups : MI yX5_groups cX5_groups 3 (some FieldType.int) 0 := ⟨kAW (v_3_9 (List.mem_of_getElem? (i := 5) rfl)) rfl, kAW (v_0_0 (List.mem_of_getElem? (i := 3) rfl)) rfl, kAW (v_3_9 (List.mem_of_getElem? (i := 3) rfl)) rfl, kAW (v_3_9 (List.mem_of_getElem? (i := 4) rfl)) rfl, by decide, by decide, by decide +kernel⟩
set_option maxRecDepth 100000 in
set_option maxHeartbeats 4000000 in
theorem p_X11_kin (l : Launch) (D : va_G) (cA : Nat → ClassId) (ad : Nat → Nat) (g0 : Nat → va_E) (a : Int32)   (hSh : Shp ad cA g0) (hG : Rng g0) : CT l NN ad cA D yX11_kin cX11_kin 2 (some FieldType.int) (4, 96) [.ref (ad 0), .int a] g0 (fun v g' => ∃ (r : Int32), v = some (.int r) ∧ Shp ad cA g' ∧ Rng g' ∧ FR (fun i k => False) g0 g') := by
  refine q_enterI (by decide) (Nat.le_of_ble_eq_true rfl) rfl (fun K H locs ls _ _ hM hW0 hR hC hE hl => ?_)
  have hl : lv_has ls 2 [(0, .ref (ad 0)), (1, .int a)] := hl
  have hW : WS ad cA (fun i k => False) g0 K g0 H locs := ⟨hW0, hSh, FR.rf⟩
  have := kc_0
  have := kc_1
  have := kc_m1
  have := kc_m2
  refine q_iload_n hM dX11_kin_0 (lv_at hl 1 rfl) ?_
  refine q_bipush (v := (100 : Int32)) hM dX11_kin_1 (by decide) ?_
  refine q_icmp_ne (tgt := 14) hM dX11_kin_3 (by decide) (rfl : a.toInt = a.toInt) (kc_100 : (100 : Int32).toInt = 100) (fun h3 => ?_) (fun h3 => ?_)
  · refine q_aload_n hM dX11_kin_14 (lv_at hl 0 rfl) ?_
    refine w_get (v := .ref (ad 3)) hM hW FG_X11_19 lb_0 (rf_0_1 hW.2.1) dX11_kin_15 ?_
    refine w_getI hM hW FG_X11_116 lb_3 (by decide) (by decide) dX11_kin_18 (fun x5014 fx5014 => ?_)
    have bx5014 := hG.f fx5014 rF_3_2 (by decide)
    refine q_iload_n hM dX11_kin_21 (lv_at hl 1 rfl) ?_
    refine q_callS (As := [.int x5014, .int a]) (rest := []) hM hW.1 hR hC myX11_has (kAW (v_1_10 (List.mem_of_getElem? (i := 8) rfl)) rfl) (c_X11_has _ _ cA ad g0 x5014 a hW.2.1) ⟨by decide, by decide⟩ rfl rfl hl.1 (Nat.le_of_ble_eq_true rfl) dX11_kin_22 (fun v g5016 H locs hp hW1 => ?_)
    obtain ⟨r5015, rfl, hr5015, rfl⟩ := hp
    have hW : WS ad cA (fun i k => False) g0 K g0 H locs := ⟨hW1, hW.2.1, hW.2.2⟩
    first | have ltr5015 := has_lt 5 hr5015 (by omega) (by omega) | have ltr5015 := has_lt 6 hr5015 (by omega) (by omega) | have ltr5015 := has_lt 8 hr5015 (by omega) (by omega) | have ltr5015 := has_lt 12 hr5015 (by omega) (by omega) | skip
    refine q_if_eq (tgt := 39) hM dX11_kin_25 (by decide) (rfl : r5015.toInt = r5015.toInt) (fun h25 => ?_) (fun h25 => ?_)
    · refine q_iconst (v := ((-1) : Int32)) hM dX11_kin_39 (by decide) ?_
      exact hE _ _ _ _ _ _ hW.1 ⟨_, rfl, hW.2.1, hG, hW.2.2⟩ dX11_kin_40
    · refine q_aload_n hM dX11_kin_28 (lv_at hl 0 rfl) ?_
      refine w_get (v := .ref (ad 3)) hM hW FG_X11_19 lb_0 (rf_0_1 hW.2.1) dX11_kin_29 ?_
      refine q_iload_n hM dX11_kin_32 (lv_at hl 1 rfl) ?_
      refine q_callV (As := [.int a]) (rest := []) hM hW.1 hR hC myX5_group (kAW (v_3_9 (List.mem_of_getElem? (i := 13) rfl)) rfl) (rfl : vwCl[5]? = some (RX5, TX5, 3)) rfl lb_3.1 (shO hW.2.1 lb_3) (a_X5_group _ _ cA ad g0 a hW.2.1 hG (by  omega) (by  omega)) ⟨by decide, by decide⟩ rfl rfl hl.1 (Nat.le_of_ble_eq_true rfl) dX11_kin_33 (fun v g5020 H locs hp hW1 => ?_)
      obtain ⟨r5019, rfl, hr5019, rfl⟩ := hp
      have hW : WS ad cA (fun i k => False) g0 K g0 H locs := ⟨hW1, hW.2.1, hW.2.2⟩
      refine q_goto (tgt := 40) hM dX11_kin_36 (by decide) ?_
      exact hE _ _ _ _ _ _ hW.1 ⟨_, rfl, hW.2.1, hG, hW.2.2⟩ dX11_kin_40
  · refine q_aload_n hM dX11_kin_6 (lv_at hl 0 rfl) ?_
    refine w_get (v := .ref (ad 3)) hM hW FG_X11_19 lb_0 (rf_0_1 hW.2.1) dX11_kin_7 ?_
    refine q_callV (As := []) (rest := []) hM hW.1 hR hC myX5_groups (kAW (v_3_9 (List.mem_of_getElem? (i := 2) rfl)) rfl) (rfl : vwCl[5]? = some (RX5, TX5, 3)) rfl lb_3.1 (shO hW.2.1 lb_3) (a_X5_groups _ _ cA ad g0  hW.2.1 hG) ⟨by decide, by decide⟩ rfl rfl hl.1 (Nat.le_of_ble_eq_true rfl) dX11_kin_10 (fun v g5023 H locs hp hW1 => ?_)
    obtain ⟨r5022, rfl, hr5022, rfl⟩ := hp
    have hW : WS ad cA (fun i k => False) g0 K g0 H locs := ⟨hW1, hW.2.1, hW.2.2⟩
    exact hE _ _ _ _ _ _ hW.1 ⟨_, rfl, hW.2.1, hG, hW.2.2⟩ dX11_kin_13

theorem dX11_questions_0 : decode cX11_questions 0 = .ok (.aload_n 0, 1) := by decide +kernel
theorem dX11_questions_1 : decode cX11_questions 1 = .ok (.iload_n 1, 1) := by decide +kernel
theorem dX11_questions_2 : decode cX11_questions 2 = .ok (.invokevirtual 254, 3) := by decide +kernel
theorem dX11_questions_5 : decode cX11_questions 5 = .ok (.ifCond .eq 12, 3) := by decide +kernel
theorem dX11_questions_8 : decode cX11_questions 8 = .ok (.iload_n 2, 1) := by decide +kernel
theorem dX11_questions_9 : decode cX11_questions 9 = .ok (.iconst 0, 1) := by decide +kernel
theorem dX11_questions_10 : decode cX11_questions 10 = .ok (.iconst 1, 1) := by decide +kernel
theorem dX11_questions_11 : decode cX11_questions 11 = .ok (.invokestatic 112, 3) := by decide +kernel
theorem dX11_questions_14 : decode cX11_questions 14 = .ok (.ifCond .ne 5, 3) := by decide +kernel
theorem dX11_questions_17 : decode cX11_questions 17 = .ok (.iconst (-1), 1) := by decide +kernel
theorem dX11_questions_18 : decode cX11_questions 18 = .ok (.ireturn, 1) := by decide +kernel
theorem dX11_questions_19 : decode cX11_questions 19 = .ok (.aload_n 0, 1) := by decide +kernel
theorem dX11_questions_20 : decode cX11_questions 20 = .ok (.getfield 26, 3) := by decide +kernel
theorem dX11_questions_23 : decode cX11_questions 23 = .ok (.iload_n 1, 1) := by decide +kernel
theorem dX11_questions_24 : decode cX11_questions 24 = .ok (.aload_n 0, 1) := by decide +kernel
theorem dX11_questions_25 : decode cX11_questions 25 = .ok (.getfield 19, 3) := by decide +kernel
theorem dX11_questions_28 : decode cX11_questions 28 = .ok (.getfield 116, 3) := by decide +kernel
theorem dX11_questions_31 : decode cX11_questions 31 = .ok (.invokevirtual 258, 3) := by decide +kernel
theorem dX11_questions_34 : decode cX11_questions 34 = .ok (.ifCond .ne 6, 3) := by decide +kernel
theorem dX11_questions_37 : decode cX11_questions 37 = .ok (.bipush (-2), 2) := by decide +kernel
theorem dX11_questions_39 : decode cX11_questions 39 = .ok (.ireturn, 1) := by decide +kernel
theorem dX11_questions_40 : decode cX11_questions 40 = .ok (.aload_n 0, 1) := by decide +kernel
theorem dX11_questions_41 : decode cX11_questions 41 = .ok (.iload_n 1, 1) := by decide +kernel
theorem dX11_questions_42 : decode cX11_questions 42 = .ok (.invokevirtual 261, 3) := by decide +kernel
theorem dX11_questions_45 : decode cX11_questions 45 = .ok (.istore_n 3, 1) := by decide +kernel
theorem dX11_questions_46 : decode cX11_questions 46 = .ok (.iload_n 2, 1) := by decide +kernel
theorem dX11_questions_47 : decode cX11_questions 47 = .ok (.ifCond .ne 10, 3) := by decide +kernel
theorem dX11_questions_50 : decode cX11_questions 50 = .ok (.iload_n 3, 1) := by decide +kernel
theorem dX11_questions_51 : decode cX11_questions 51 = .ok (.invokestatic 206, 3) := by decide +kernel
theorem dX11_questions_54 : decode cX11_questions 54 = .ok (.goto 4, 3) := by decide +kernel
theorem dX11_questions_57 : decode cX11_questions 57 = .ok (.iload_n 3, 1) := by decide +kernel
theorem dX11_questions_58 : decode cX11_questions 58 = .ok (.ireturn, 1) := by decide +kernel
theorem myX11_areSome : MI yX11_areSome cX11_areSome 2 (some FieldType.boolean) 1 := ⟨kAW (v_3_10 (List.mem_of_getElem? (i := 5) rfl)) rfl, kAW (v_0_0 (List.mem_of_getElem? (i := 1) rfl)) rfl, kAW (v_3_10 (List.mem_of_getElem? (i := 4) rfl)) rfl, kAW (tp_t1 (List.mem_of_getElem? (i := 12) rfl)) rfl, by decide, by decide, by decide +kernel⟩
theorem myX11_fewestQuestions : MI yX11_fewestQuestions cX11_fewestQuestions 4 (some FieldType.int) 1 := ⟨kAW (v_3_10 (List.mem_of_getElem? (i := 14) rfl)) rfl, kAW (v_0_0 (List.mem_of_getElem? (i := 1) rfl)) rfl, kAW (v_3_10 (List.mem_of_getElem? (i := 13) rfl)) rfl, kAW (tp_t1 (List.mem_of_getElem? (i := 13) rfl)) rfl, by decide, by decide, by decide +kernel⟩
set_option maxRecDepth 100000 in
set_option maxHeartbeats 4000000 in
theorem p_X11_questions (l : Launch) (D : va_G) (cA : Nat → ClassId) (ad : Nat → Nat) (g0 : Nat → va_E) (a : Int32) (b : Int32)   (hSh : Shp ad cA g0) (hG : Rng g0) : CT l NN ad cA D yX11_questions cX11_questions 4 (some FieldType.int) (3, 70) [.ref (ad 0), .int a, .int b] g0 (fun v g' => ∃ (r : Int32), v = some (.int r) ∧ Shp ad cA g' ∧ Rng g' ∧ FR (fun i k => False) g0 g') := by
  refine q_enterI (by decide) (Nat.le_of_ble_eq_true rfl) rfl (fun K H locs ls _ _ hM hW0 hR hC hE hl => ?_)
  have hl : lv_has ls 4 [(0, .ref (ad 0)), (1, .int a), (2, .int b)] := hl
  have hW : WS ad cA (fun i k => False) g0 K g0 H locs := ⟨hW0, hSh, FR.rf⟩
  have := kc_0
  have := kc_1
  have := kc_m1
  have := kc_m2
  refine q_aload_n hM dX11_questions_0 (lv_at hl 0 rfl) ?_
  refine q_iload_n hM dX11_questions_1 (lv_at hl 1 rfl) ?_
  refine q_callV (As := [.int a]) (rest := []) hM hW.1 hR hC myX11_areSome (kAW (v_3_10 (List.mem_of_getElem? (i := 2) rfl)) rfl) (rfl : vwCl[11]? = some (RX11, TX11, 16)) rfl lb_0.1 (shO hW.2.1 lb_0) (a_X11_areSome _ _ cA ad g0 a hW.2.1 hG) ⟨by decide, by decide⟩ rfl rfl hl.1 (Nat.le_of_ble_eq_true rfl) dX11_questions_2 (fun v g5025 H locs hp hW1 => ?_)
  obtain ⟨r5024, rfl, hr5024, rfl⟩ := hp
  have hW : WS ad cA (fun i k => False) g0 K g0 H locs := ⟨hW1, hW.2.1, hW.2.2⟩
  refine q_if_eq (tgt := 17) hM dX11_questions_5 (by decide) (rfl : r5024.toInt = r5024.toInt) (fun h5 => ?_) (fun h5 => ?_)
  · refine q_iconst (v := ((-1) : Int32)) hM dX11_questions_17 (by decide) ?_
    exact hE _ _ _ _ _ _ hW.1 ⟨_, rfl, hW.2.1, hG, hW.2.2⟩ dX11_questions_18
  · refine q_iload_n hM dX11_questions_8 (lv_at hl 2 rfl) ?_
    refine q_iconst (v := (0 : Int32)) hM dX11_questions_9 (by decide) ?_
    refine q_iconst (v := (1 : Int32)) hM dX11_questions_10 (by decide) ?_
    refine q_callS (As := [.int b, .int (0 : Int32), .int (1 : Int32)]) (rest := []) hM hW.1 hR hC myX11_within (kAW (v_1_10 (List.mem_of_getElem? (i := 1) rfl)) rfl) (c_X11_within _ _ cA ad g0 b (0 : Int32) (1 : Int32) hW.2.1) ⟨by decide, by decide⟩ rfl rfl hl.1 (Nat.le_of_ble_eq_true rfl) dX11_questions_11 (fun v g5029 H locs hp hW1 => ?_)
    obtain ⟨r5028, rfl, hr5028, rfl⟩ := hp
    have hW : WS ad cA (fun i k => False) g0 K g0 H locs := ⟨hW1, hW.2.1, hW.2.2⟩
    have := kc_0
    have := kc_1
    refine q_if_ne (tgt := 19) hM dX11_questions_14 (by decide) (rfl : r5028.toInt = r5028.toInt) (fun h14 => ?_) (fun h14 => ?_)
    · refine q_aload_n hM dX11_questions_19 (lv_at hl 0 rfl) ?_
      refine w_get (v := .ref (ad 18)) hM hW FG_X11_26 lb_0 (rf_0_10 hW.2.1) dX11_questions_20 ?_
      refine q_iload_n hM dX11_questions_23 (lv_at hl 1 rfl) ?_
      refine q_aload_n hM dX11_questions_24 (lv_at hl 0 rfl) ?_
      refine w_get (v := .ref (ad 3)) hM hW FG_X11_19 lb_0 (rf_0_1 hW.2.1) dX11_questions_25 ?_
      refine w_getI hM hW FG_X11_116 lb_3 (by decide) (by decide) dX11_questions_28 (fun x5031 fx5031 => ?_)
      have bx5031 := hG.f fx5031 rF_3_2 (by decide)
      refine q_callV (As := [.int a, .int x5031]) (rest := []) hM hW.1 hR hC myX7_apart (kAW (v_3_10 (List.mem_of_getElem? (i := 6) rfl)) rfl) (rfl : vwCl[7]? = some (RX7, TX7, 8)) rfl lb_18.1 (shO hW.2.1 lb_18) (a_X7_apart _ _ cA ad g0 18 a x5031 hW.2.1 hG (Or.inl rfl : isPb 18)) ⟨by decide, by decide⟩ rfl rfl hl.1 (Nat.le_of_ble_eq_true rfl) dX11_questions_31 (fun v g5033 H locs hp hW1 => ?_)
      obtain ⟨r5032, rfl, hr5032, rfl⟩ := hp
      have hW : WS ad cA (fun i k => False) g0 K g0 H locs := ⟨hW1, hW.2.1, hW.2.2⟩
      refine q_if_ne (tgt := 40) hM dX11_questions_34 (by decide) (rfl : r5032.toInt = r5032.toInt) (fun h34 => ?_) (fun h34 => ?_)
      · refine q_aload_n hM dX11_questions_40 (lv_at hl 0 rfl) ?_
        refine q_iload_n hM dX11_questions_41 (lv_at hl 1 rfl) ?_
        refine q_callV (As := [.int a]) (rest := []) hM hW.1 hR hC myX11_fewestQuestions (kAW (v_3_10 (List.mem_of_getElem? (i := 11) rfl)) rfl) (rfl : vwCl[11]? = some (RX11, TX11, 16)) rfl lb_0.1 (shO hW.2.1 lb_0) (a_X11_fewestQuestions _ _ cA ad g0 a hW.2.1 hG) ⟨by decide, by decide⟩ rfl rfl hl.1 (Nat.le_of_ble_eq_true rfl) dX11_questions_42 (fun v g5036 H locs hp hW1 => ?_)
        obtain ⟨r5035, rfl, hr5035, rfl⟩ := hp
        have hW : WS ad cA (fun i k => False) g0 K g0 H locs := ⟨hW1, hW.2.1, hW.2.2⟩
        refine q_istore_n (lv9 := [(3, .int r5035), (0, .ref (ad 0)), (1, .int a), (2, .int b)]) hM dX11_questions_45 hl (by decide) rfl (fun ls hl => ?_)
        refine q_iload_n hM dX11_questions_46 (lv_at hl 3 rfl) ?_
        refine q_if_ne (tgt := 57) hM dX11_questions_47 (by decide) (rfl : b.toInt = b.toInt) (fun h47 => ?_) (fun h47 => ?_)
        · refine q_iload_n hM dX11_questions_57 (lv_at hl 0 rfl) ?_
          exact hE _ _ _ _ _ _ hW.1 ⟨_, rfl, hW.2.1, hG, hW.2.2⟩ dX11_questions_58
        · refine q_iload_n hM dX11_questions_50 (lv_at hl 0 rfl) ?_
          refine q_callS (As := [.int r5035]) (rest := []) hM hW.1 hR hC myJ6_bitCount_0f7a4 (kAW (v_3_1 (List.mem_of_getElem? (i := 2) rfl)) rfl) (c_J6_bitCount_0f7a4 _ _ cA ad g0 r5035 hW.2.1) ⟨by decide, by decide⟩ rfl rfl hl.1 (Nat.le_of_ble_eq_true rfl) dX11_questions_51 (fun v g5040 H locs hp hW1 => ?_)
          obtain ⟨r5039, rfl, hr5039, rfl⟩ := hp
          have hW : WS ad cA (fun i k => False) g0 K g0 H locs := ⟨hW1, hW.2.1, hW.2.2⟩
          refine q_goto (tgt := 58) hM dX11_questions_54 (by decide) ?_
          exact hE _ _ _ _ _ _ hW.1 ⟨_, rfl, hW.2.1, hG, hW.2.2⟩ dX11_questions_58
      · refine q_bipush (v := ((-2) : Int32)) hM dX11_questions_37 (by decide) ?_
        exact hE _ _ _ _ _ _ hW.1 ⟨_, rfl, hW.2.1, hG, hW.2.2⟩ dX11_questions_39
    · refine q_iconst (v := ((-1) : Int32)) hM dX11_questions_17 (by decide) ?_
      exact hE _ _ _ _ _ _ hW.1 ⟨_, rfl, hW.2.1, hG, hW.2.2⟩ dX11_questions_18

theorem dX11_parted_0 : decode cX11_parted 0 = .ok (.aload_n 0, 1) := by decide +kernel
theorem dX11_parted_1 : decode cX11_parted 1 = .ok (.iload_n 1, 1) := by decide +kernel
theorem dX11_parted_2 : decode cX11_parted 2 = .ok (.invokevirtual 254, 3) := by decide +kernel
theorem dX11_parted_5 : decode cX11_parted 5 = .ok (.ifCond .eq 12, 3) := by decide +kernel
theorem dX11_parted_8 : decode cX11_parted 8 = .ok (.iload_n 2, 1) := by decide +kernel
theorem dX11_parted_9 : decode cX11_parted 9 = .ok (.iconst 0, 1) := by decide +kernel
theorem dX11_parted_10 : decode cX11_parted 10 = .ok (.iconst 1, 1) := by decide +kernel
theorem dX11_parted_11 : decode cX11_parted 11 = .ok (.invokestatic 112, 3) := by decide +kernel
theorem dX11_parted_14 : decode cX11_parted 14 = .ok (.ifCond .ne 5, 3) := by decide +kernel
theorem dX11_parted_17 : decode cX11_parted 17 = .ok (.iconst (-1), 1) := by decide +kernel
theorem dX11_parted_18 : decode cX11_parted 18 = .ok (.ireturn, 1) := by decide +kernel
theorem dX11_parted_19 : decode cX11_parted 19 = .ok (.aload_n 0, 1) := by decide +kernel
theorem dX11_parted_20 : decode cX11_parted 20 = .ok (.getfield 90, 3) := by decide +kernel
theorem dX11_parted_23 : decode cX11_parted 23 = .ok (.iload_n 1, 1) := by decide +kernel
theorem dX11_parted_24 : decode cX11_parted 24 = .ok (.invokevirtual 267, 3) := by decide +kernel
theorem dX11_parted_27 : decode cX11_parted 27 = .ok (.istore_n 3, 1) := by decide +kernel
theorem dX11_parted_28 : decode cX11_parted 28 = .ok (.iload_n 2, 1) := by decide +kernel
theorem dX11_parted_29 : decode cX11_parted 29 = .ok (.iconst 1, 1) := by decide +kernel
theorem dX11_parted_30 : decode cX11_parted 30 = .ok (.if_icmp .ne 7, 3) := by decide +kernel
theorem dX11_parted_33 : decode cX11_parted 33 = .ok (.iload_n 3, 1) := by decide +kernel
theorem dX11_parted_34 : decode cX11_parted 34 = .ok (.goto 24, 3) := by decide +kernel
theorem dX11_parted_37 : decode cX11_parted 37 = .ok (.aload_n 0, 1) := by decide +kernel
theorem dX11_parted_38 : decode cX11_parted 38 = .ok (.getfield 90, 3) := by decide +kernel
theorem dX11_parted_41 : decode cX11_parted 41 = .ok (.iload_n 3, 1) := by decide +kernel
theorem dX11_parted_42 : decode cX11_parted 42 = .ok (.invokevirtual 270, 3) := by decide +kernel
theorem dX11_parted_45 : decode cX11_parted 45 = .ok (.aload_n 0, 1) := by decide +kernel
theorem dX11_parted_46 : decode cX11_parted 46 = .ok (.getfield 90, 3) := by decide +kernel
theorem dX11_parted_49 : decode cX11_parted 49 = .ok (.iload_n 1, 1) := by decide +kernel
theorem dX11_parted_50 : decode cX11_parted 50 = .ok (.iload_n 3, 1) := by decide +kernel
theorem dX11_parted_51 : decode cX11_parted 51 = .ok (.iconst (-1), 1) := by decide +kernel
theorem dX11_parted_52 : decode cX11_parted 52 = .ok (.ixor, 1) := by decide +kernel
theorem dX11_parted_53 : decode cX11_parted 53 = .ok (.iand, 1) := by decide +kernel
theorem dX11_parted_54 : decode cX11_parted 54 = .ok (.invokevirtual 270, 3) := by decide +kernel
theorem dX11_parted_57 : decode cX11_parted 57 = .ok (.iadd, 1) := by decide +kernel
theorem dX11_parted_58 : decode cX11_parted 58 = .ok (.ireturn, 1) := by decide +kernel
theorem FG_X11_90 : FG RX11 90 11 16 3 := ⟨RX11, TX11, rfl, wX11, by decide, kAW (v_1_6 (List.mem_of_getElem? (i := 15) rfl)) rfl, rfl⟩
theorem myX9_calmestRoom : MI yX9_calmestRoom cX9_calmestRoom 7 (some FieldType.int) 1 := ⟨kAW (v_3_11 (List.mem_of_getElem? (i := 10) rfl)) rfl, kAW (v_0_0 (List.mem_of_getElem? (i := 10) rfl)) rfl, kAW (v_3_11 (List.mem_of_getElem? (i := 8) rfl)) rfl, kAW (v_3_11 (List.mem_of_getElem? (i := 9) rfl)) rfl, by decide, by decide, by decide +kernel⟩
set_option maxRecDepth 100000 in
set_option maxHeartbeats 4000000 in
theorem p_X11_parted (l : Launch) (D : va_G) (cA : Nat → ClassId) (ad : Nat → Nat) (g0 : Nat → va_E) (a : Int32) (b : Int32)   (hSh : Shp ad cA g0) (hG : Rng g0) : CT l NN ad cA D yX11_parted cX11_parted 4 (some FieldType.int) (3, 71) [.ref (ad 0), .int a, .int b] g0 (fun v g' => ∃ (r : Int32), v = some (.int r) ∧ Shp ad cA g' ∧ Rng g' ∧ FR (fun i k => False) g0 g') := by
  refine q_enterI (by decide) (Nat.le_of_ble_eq_true rfl) rfl (fun K H locs ls _ _ hM hW0 hR hC hE hl => ?_)
  have hl : lv_has ls 4 [(0, .ref (ad 0)), (1, .int a), (2, .int b)] := hl
  have hW : WS ad cA (fun i k => False) g0 K g0 H locs := ⟨hW0, hSh, FR.rf⟩
  have := kc_0
  have := kc_1
  have := kc_m1
  have := kc_m2
  refine q_aload_n hM dX11_parted_0 (lv_at hl 0 rfl) ?_
  refine q_iload_n hM dX11_parted_1 (lv_at hl 1 rfl) ?_
  refine q_callV (As := [.int a]) (rest := []) hM hW.1 hR hC myX11_areSome (kAW (v_3_10 (List.mem_of_getElem? (i := 2) rfl)) rfl) (rfl : vwCl[11]? = some (RX11, TX11, 16)) rfl lb_0.1 (shO hW.2.1 lb_0) (a_X11_areSome _ _ cA ad g0 a hW.2.1 hG) ⟨by decide, by decide⟩ rfl rfl hl.1 (Nat.le_of_ble_eq_true rfl) dX11_parted_2 (fun v g5044 H locs hp hW1 => ?_)
  obtain ⟨r5043, rfl, hr5043, rfl⟩ := hp
  have hW : WS ad cA (fun i k => False) g0 K g0 H locs := ⟨hW1, hW.2.1, hW.2.2⟩
  refine q_if_eq (tgt := 17) hM dX11_parted_5 (by decide) (rfl : r5043.toInt = r5043.toInt) (fun h5 => ?_) (fun h5 => ?_)
  · refine q_iconst (v := ((-1) : Int32)) hM dX11_parted_17 (by decide) ?_
    exact hE _ _ _ _ _ _ hW.1 ⟨_, rfl, hW.2.1, hG, hW.2.2⟩ dX11_parted_18
  · refine q_iload_n hM dX11_parted_8 (lv_at hl 2 rfl) ?_
    refine q_iconst (v := (0 : Int32)) hM dX11_parted_9 (by decide) ?_
    refine q_iconst (v := (1 : Int32)) hM dX11_parted_10 (by decide) ?_
    refine q_callS (As := [.int b, .int (0 : Int32), .int (1 : Int32)]) (rest := []) hM hW.1 hR hC myX11_within (kAW (v_1_10 (List.mem_of_getElem? (i := 1) rfl)) rfl) (c_X11_within _ _ cA ad g0 b (0 : Int32) (1 : Int32) hW.2.1) ⟨by decide, by decide⟩ rfl rfl hl.1 (Nat.le_of_ble_eq_true rfl) dX11_parted_11 (fun v g5048 H locs hp hW1 => ?_)
    obtain ⟨r5047, rfl, hr5047, rfl⟩ := hp
    have hW : WS ad cA (fun i k => False) g0 K g0 H locs := ⟨hW1, hW.2.1, hW.2.2⟩
    have := kc_0
    have := kc_1
    refine q_if_ne (tgt := 19) hM dX11_parted_14 (by decide) (rfl : r5047.toInt = r5047.toInt) (fun h14 => ?_) (fun h14 => ?_)
    · refine q_aload_n hM dX11_parted_19 (lv_at hl 0 rfl) ?_
      refine w_get (v := .ref (ad 102)) hM hW FG_X11_90 lb_0 (rf_0_3 hW.2.1) dX11_parted_20 ?_
      refine q_iload_n hM dX11_parted_23 (lv_at hl 1 rfl) ?_
      refine q_callV (As := [.int a]) (rest := []) hM hW.1 hR hC myX9_calmestRoom (kAW (v_3_11 (List.mem_of_getElem? (i := 7) rfl)) rfl) (rfl : vwCl[9]? = some (RX9, TX9, 5)) rfl lb_102.1 (shO hW.2.1 lb_102) (a_X9_calmestRoom _ _ cA ad g0 a hW.2.1 hG) ⟨by decide, by decide⟩ rfl rfl hl.1 (Nat.le_of_ble_eq_true rfl) dX11_parted_24 (fun v g5051 H locs hp hW1 => ?_)
      obtain ⟨r5050, rfl, hr5050, rfl⟩ := hp
      have hW : WS ad cA (fun i k => False) g0 K g0 H locs := ⟨hW1, hW.2.1, hW.2.2⟩
      refine q_istore_n (lv9 := [(3, .int r5050), (0, .ref (ad 0)), (1, .int a), (2, .int b)]) hM dX11_parted_27 hl (by decide) rfl (fun ls hl => ?_)
      refine q_iload_n hM dX11_parted_28 (lv_at hl 3 rfl) ?_
      refine q_iconst (v := (1 : Int32)) hM dX11_parted_29 (by decide) ?_
      refine q_icmp_ne (tgt := 37) hM dX11_parted_30 (by decide) (rfl : b.toInt = b.toInt) (kc_1 : (1 : Int32).toInt = 1) (fun h30 => ?_) (fun h30 => ?_)
      · refine q_aload_n hM dX11_parted_37 (lv_at hl 1 rfl) ?_
        refine w_get (v := .ref (ad 102)) hM hW FG_X11_90 lb_0 (rf_0_3 hW.2.1) dX11_parted_38 ?_
        refine q_iload_n hM dX11_parted_41 (lv_at hl 0 rfl) ?_
        refine q_callV (As := [.int r5050]) (rest := []) hM hW.1 hR hC myX9_noise (kAW (v_3_12 (List.mem_of_getElem? (i := 2) rfl)) rfl) (rfl : vwCl[9]? = some (RX9, TX9, 5)) rfl lb_102.1 (shO hW.2.1 lb_102) (a_X9_noise _ _ cA ad g0 r5050 hW.2.1 hG) ⟨by decide, by decide⟩ rfl rfl hl.1 (Nat.le_of_ble_eq_true rfl) dX11_parted_42 (fun v g5054 H locs hp hW1 => ?_)
        obtain ⟨r5053, rfl, hr5053, rfl⟩ := hp
        have hW : WS ad cA (fun i k => False) g0 K g0 H locs := ⟨hW1, hW.2.1, hW.2.2⟩
        refine q_aload_n hM dX11_parted_45 (lv_at hl 1 rfl) ?_
        refine w_get (v := .ref (ad 102)) hM hW FG_X11_90 lb_0 (rf_0_3 hW.2.1) dX11_parted_46 ?_
        refine q_iload_n hM dX11_parted_49 (lv_at hl 2 rfl) ?_
        refine q_iload_n hM dX11_parted_50 (lv_at hl 0 rfl) ?_
        refine q_iconst (v := ((-1) : Int32)) hM dX11_parted_51 (by decide) ?_
        refine q_ixor hM dX11_parted_52 (fun z5055 hz5055 => ?_)
        refine q_iand hM dX11_parted_53 (fun z5056 hz5056 => ?_)
        refine q_callV (As := [.int z5056]) (rest := [.int r5053]) hM hW.1 hR hC myX9_noise (kAW (v_3_12 (List.mem_of_getElem? (i := 2) rfl)) rfl) (rfl : vwCl[9]? = some (RX9, TX9, 5)) rfl lb_102.1 (shO hW.2.1 lb_102) (a_X9_noise _ _ cA ad g0 z5056 hW.2.1 hG) ⟨by decide, by decide⟩ rfl rfl hl.1 (Nat.le_of_ble_eq_true rfl) dX11_parted_54 (fun v g5058 H locs hp hW1 => ?_)
        obtain ⟨r5057, rfl, hr5057, rfl⟩ := hp
        have hW : WS ad cA (fun i k => False) g0 K g0 H locs := ⟨hW1, hW.2.1, hW.2.2⟩
        refine q_iadd hM dX11_parted_57 (fun z5059 hz5059 => ?_)
        first | have tz5059 := i_addT hz5059 (rfl : r5053.toInt = r5053.toInt) (rfl : r5057.toInt = r5057.toInt) (by omega) (by omega) | skip
        exact hE _ _ _ _ _ _ hW.1 ⟨_, rfl, hW.2.1, hG, hW.2.2⟩ dX11_parted_58
      · refine q_iload_n hM dX11_parted_33 (lv_at hl 0 rfl) ?_
        refine q_goto (tgt := 58) hM dX11_parted_34 (by decide) ?_
        exact hE _ _ _ _ _ _ hW.1 ⟨_, rfl, hW.2.1, hG, hW.2.2⟩ dX11_parted_58
    · refine q_iconst (v := ((-1) : Int32)) hM dX11_parted_17 (by decide) ?_
      exact hE _ _ _ _ _ _ hW.1 ⟨_, rfl, hW.2.1, hG, hW.2.2⟩ dX11_parted_18

theorem dX11_reminds_0 : decode cX11_reminds 0 = .ok (.aload_n 0, 1) := by decide +kernel
theorem dX11_reminds_1 : decode cX11_reminds 1 = .ok (.getfield 26, 3) := by decide +kernel
theorem dX11_reminds_4 : decode cX11_reminds 4 = .ok (.getfield 135, 3) := by decide +kernel
theorem dX11_reminds_7 : decode cX11_reminds 7 = .ok (.iload_n 1, 1) := by decide +kernel
theorem dX11_reminds_8 : decode cX11_reminds 8 = .ok (.invokestatic 123, 3) := by decide +kernel
theorem dX11_reminds_11 : decode cX11_reminds 11 = .ok (.ifCond .eq 32, 3) := by decide +kernel
theorem dX11_reminds_14 : decode cX11_reminds 14 = .ok (.aload_n 0, 1) := by decide +kernel
theorem dX11_reminds_15 : decode cX11_reminds 15 = .ok (.getfield 26, 3) := by decide +kernel
theorem dX11_reminds_18 : decode cX11_reminds 18 = .ok (.getfield 135, 3) := by decide +kernel
theorem dX11_reminds_21 : decode cX11_reminds 21 = .ok (.iload_n 2, 1) := by decide +kernel
theorem dX11_reminds_22 : decode cX11_reminds 22 = .ok (.invokestatic 123, 3) := by decide +kernel
theorem dX11_reminds_25 : decode cX11_reminds 25 = .ok (.ifCond .eq 18, 3) := by decide +kernel
theorem dX11_reminds_28 : decode cX11_reminds 28 = .ok (.iload_n 1, 1) := by decide +kernel
theorem dX11_reminds_29 : decode cX11_reminds 29 = .ok (.iload_n 2, 1) := by decide +kernel
theorem dX11_reminds_30 : decode cX11_reminds 30 = .ok (.if_icmp .eq 13, 3) := by decide +kernel
theorem dX11_reminds_33 : decode cX11_reminds 33 = .ok (.iload_n 3, 1) := by decide +kernel
theorem dX11_reminds_34 : decode cX11_reminds 34 = .ok (.iconst 0, 1) := by decide +kernel
theorem dX11_reminds_35 : decode cX11_reminds 35 = .ok (.bipush 99, 2) := by decide +kernel
theorem dX11_reminds_37 : decode cX11_reminds 37 = .ok (.invokestatic 112, 3) := by decide +kernel
theorem dX11_reminds_40 : decode cX11_reminds 40 = .ok (.ifCond .ne 5, 3) := by decide +kernel
theorem dX11_reminds_43 : decode cX11_reminds 43 = .ok (.iconst 0, 1) := by decide +kernel
theorem dX11_reminds_44 : decode cX11_reminds 44 = .ok (.ireturn, 1) := by decide +kernel
theorem dX11_reminds_45 : decode cX11_reminds 45 = .ok (.aload_n 0, 1) := by decide +kernel
theorem dX11_reminds_46 : decode cX11_reminds 46 = .ok (.getfield 90, 3) := by decide +kernel
theorem dX11_reminds_49 : decode cX11_reminds 49 = .ok (.getfield 264, 3) := by decide +kernel
theorem dX11_reminds_52 : decode cX11_reminds 52 = .ok (.iload_n 1, 1) := by decide +kernel
theorem dX11_reminds_53 : decode cX11_reminds 53 = .ok (.aaload, 1) := by decide +kernel
theorem dX11_reminds_54 : decode cX11_reminds 54 = .ok (.iload_n 2, 1) := by decide +kernel
theorem dX11_reminds_55 : decode cX11_reminds 55 = .ok (.iload_n 3, 1) := by decide +kernel
theorem dX11_reminds_56 : decode cX11_reminds 56 = .ok (.iastore, 1) := by decide +kernel
theorem dX11_reminds_57 : decode cX11_reminds 57 = .ok (.aload_n 0, 1) := by decide +kernel
theorem dX11_reminds_58 : decode cX11_reminds 58 = .ok (.getfield 90, 3) := by decide +kernel
theorem dX11_reminds_61 : decode cX11_reminds 61 = .ok (.getfield 264, 3) := by decide +kernel
theorem dX11_reminds_64 : decode cX11_reminds 64 = .ok (.iload_n 2, 1) := by decide +kernel
theorem dX11_reminds_65 : decode cX11_reminds 65 = .ok (.aaload, 1) := by decide +kernel
theorem dX11_reminds_66 : decode cX11_reminds 66 = .ok (.iload_n 1, 1) := by decide +kernel
theorem dX11_reminds_67 : decode cX11_reminds 67 = .ok (.iload_n 3, 1) := by decide +kernel
theorem dX11_reminds_68 : decode cX11_reminds 68 = .ok (.iastore, 1) := by decide +kernel
theorem dX11_reminds_69 : decode cX11_reminds 69 = .ok (.iconst 1, 1) := by decide +kernel
theorem dX11_reminds_70 : decode cX11_reminds 70 = .ok (.ireturn, 1) := by decide +kernel
theorem FG_X11_264 : FG RX11 264 9 5 0 := ⟨RX9, TX9, rfl, wX9, by decide, kAW (v_1_2 (List.mem_of_getElem? (i := 6) rfl)) rfl, rfl⟩
set_option maxRecDepth 100000 in
set_option maxHeartbeats 4000000 in
theorem p_X11_reminds (l : Launch) (D : va_G) (cA : Nat → ClassId) (ad : Nat → Nat) (g0 : Nat → va_E) (a : Int32) (b : Int32) (c : Int32)   (hSh : Shp ad cA g0) (hG : Rng g0) : CT l NN ad cA D yX11_reminds cX11_reminds 4 (some FieldType.boolean) (1, 22) [.ref (ad 0), .int a, .int b, .int c] g0 (fun v g' => ∃ (r : Int32), v = some (.int r) ∧ Shp ad cA g' ∧ Rng g' ∧ FR (fun i k => (104 ≤ i ∧ i < 112)) g0 g' ∧ (r.toInt = 0 ∨ r.toInt = 1)) := by
  refine q_enterZ (by decide) (Nat.le_of_ble_eq_true rfl) (fun K H locs ls _ _ hM hW0 hR hC hE hl => ?_)
  have hl : lv_has ls 4 [(0, .ref (ad 0)), (1, .int a), (2, .int b), (3, .int c)] := hl
  have hW : WS ad cA (fun i k => (104 ≤ i ∧ i < 112)) g0 K g0 H locs := ⟨hW0, hSh, FR.rf⟩
  have := kc_0
  have := kc_1
  have := kc_m1
  have := kc_m2
  refine q_aload_n hM dX11_reminds_0 (lv_at hl 0 rfl) ?_
  refine w_get (v := .ref (ad 18)) hM hW FG_X11_26 lb_0 (rf_0_10 hW.2.1) dX11_reminds_1 ?_
  refine w_getI hM hW FG_X11_135 lb_18 (by decide) (by decide) dX11_reminds_4 (fun x5062 fx5062 => ?_)
  have bx5062 := hG.f fx5062 rF_18_3 (by decide)
  refine q_iload_n hM dX11_reminds_7 (lv_at hl 1 rfl) ?_
  refine q_callS (As := [.int x5062, .int a]) (rest := []) hM hW.1 hR hC myX11_has (kAW (v_1_10 (List.mem_of_getElem? (i := 8) rfl)) rfl) (c_X11_has _ _ cA ad g0 x5062 a hW.2.1) ⟨by decide, by decide⟩ rfl rfl hl.1 (Nat.le_of_ble_eq_true rfl) dX11_reminds_8 (fun v g5064 H locs hp hW1 => ?_)
  obtain ⟨r5063, rfl, hr5063, rfl⟩ := hp
  have hW : WS ad cA (fun i k => (104 ≤ i ∧ i < 112)) g0 K g0 H locs := ⟨hW1, hW.2.1, hW.2.2⟩
  first | have ltr5063 := has_lt 5 hr5063 (by omega) (by omega) | have ltr5063 := has_lt 6 hr5063 (by omega) (by omega) | have ltr5063 := has_lt 8 hr5063 (by omega) (by omega) | have ltr5063 := has_lt 12 hr5063 (by omega) (by omega) | skip
  refine q_if_eq (tgt := 43) hM dX11_reminds_11 (by decide) (rfl : r5063.toInt = r5063.toInt) (fun h11 => ?_) (fun h11 => ?_)
  · refine q_iconst (v := (0 : Int32)) hM dX11_reminds_43 (by decide) ?_
    exact hE _ _ _ _ _ _ hW.1 nz_0 ⟨_, rfl, hW.2.1, hG, hW.2.2, (by have := kc_0; omega)⟩ dX11_reminds_44
  · refine q_aload_n hM dX11_reminds_14 (lv_at hl 0 rfl) ?_
    refine w_get (v := .ref (ad 18)) hM hW FG_X11_26 lb_0 (rf_0_10 hW.2.1) dX11_reminds_15 ?_
    refine w_get (v := .int x5062) hM hW FG_X11_135 lb_18 fx5062 dX11_reminds_18 ?_
    have bx5062 := hG.f fx5062 rF_18_3 (by decide)
    refine q_iload_n hM dX11_reminds_21 (lv_at hl 2 rfl) ?_
    refine q_callS (As := [.int x5062, .int b]) (rest := []) hM hW.1 hR hC myX11_has (kAW (v_1_10 (List.mem_of_getElem? (i := 8) rfl)) rfl) (c_X11_has _ _ cA ad g0 x5062 b hW.2.1) ⟨by decide, by decide⟩ rfl rfl hl.1 (Nat.le_of_ble_eq_true rfl) dX11_reminds_22 (fun v g5068 H locs hp hW1 => ?_)
    obtain ⟨r5067, rfl, hr5067, rfl⟩ := hp
    have hW : WS ad cA (fun i k => (104 ≤ i ∧ i < 112)) g0 K g0 H locs := ⟨hW1, hW.2.1, hW.2.2⟩
    first | have ltr5067 := has_lt 5 hr5067 (by omega) (by omega) | have ltr5067 := has_lt 6 hr5067 (by omega) (by omega) | have ltr5067 := has_lt 8 hr5067 (by omega) (by omega) | have ltr5067 := has_lt 12 hr5067 (by omega) (by omega) | skip
    refine q_if_eq (tgt := 43) hM dX11_reminds_25 (by decide) (rfl : r5067.toInt = r5067.toInt) (fun h25 => ?_) (fun h25 => ?_)
    · refine q_iconst (v := (0 : Int32)) hM dX11_reminds_43 (by decide) ?_
      exact hE _ _ _ _ _ _ hW.1 nz_0 ⟨_, rfl, hW.2.1, hG, hW.2.2, (by have := kc_0; omega)⟩ dX11_reminds_44
    · refine q_iload_n hM dX11_reminds_28 (lv_at hl 1 rfl) ?_
      refine q_iload_n hM dX11_reminds_29 (lv_at hl 2 rfl) ?_
      refine q_icmp_eq (tgt := 43) hM dX11_reminds_30 (by decide) (rfl : a.toInt = a.toInt) (rfl : b.toInt = b.toInt) (fun h30 => ?_) (fun h30 => ?_)
      · refine q_iconst (v := (0 : Int32)) hM dX11_reminds_43 (by decide) ?_
        exact hE _ _ _ _ _ _ hW.1 nz_0 ⟨_, rfl, hW.2.1, hG, hW.2.2, (by have := kc_0; omega)⟩ dX11_reminds_44
      · refine q_iload_n hM dX11_reminds_33 (lv_at hl 3 rfl) ?_
        refine q_iconst (v := (0 : Int32)) hM dX11_reminds_34 (by decide) ?_
        refine q_bipush (v := (99 : Int32)) hM dX11_reminds_35 (by decide) ?_
        refine q_callS (As := [.int c, .int (0 : Int32), .int (99 : Int32)]) (rest := []) hM hW.1 hR hC myX11_within (kAW (v_1_10 (List.mem_of_getElem? (i := 1) rfl)) rfl) (c_X11_within _ _ cA ad g0 c (0 : Int32) (99 : Int32) hW.2.1) ⟨by decide, by decide⟩ rfl rfl hl.1 (Nat.le_of_ble_eq_true rfl) dX11_reminds_37 (fun v g5074 H locs hp hW1 => ?_)
        obtain ⟨r5073, rfl, hr5073, rfl⟩ := hp
        have hW : WS ad cA (fun i k => (104 ≤ i ∧ i < 112)) g0 K g0 H locs := ⟨hW1, hW.2.1, hW.2.2⟩
        have := kc_0
        have := kc_99
        refine q_if_ne (tgt := 45) hM dX11_reminds_40 (by decide) (rfl : r5073.toInt = r5073.toInt) (fun h40 => ?_) (fun h40 => ?_)
        · refine q_aload_n hM dX11_reminds_45 (lv_at hl 0 rfl) ?_
          refine w_get (v := .ref (ad 102)) hM hW FG_X11_90 lb_0 (rf_0_3 hW.2.1) dX11_reminds_46 ?_
          refine w_get (v := .ref (ad 103)) hM hW FG_X11_264 lb_102 (rf_102_0 hW.2.1) dX11_reminds_49 ?_
          refine q_iload_n hM dX11_reminds_52 (lv_at hl 1 rfl) ?_
          refine w_aald hM hW lb_103 (Or.inl rfl) (i_in (by omega) (by omega)) (aq (aq_103 hW.2.1) (by omega) (by omega)) dX11_reminds_53 ?_
          refine q_iload_n hM dX11_reminds_54 (lv_at hl 2 rfl) ?_
          refine q_iload_n hM dX11_reminds_55 (lv_at hl 3 rfl) ?_
          refine w_iast hM hW (lr_104 (by omega)) (by omega) (i_in (by omega) (by omega)) dX11_reminds_56 (fun g5076 H locs hW e1 e2 => ?_)
          have f5077 : fld g5076 18 3 = .int x5062 := (e2.1 18 3 (by unfold Only; omega)).trans fx5062
          have hG := hG.st e1 e2 (rA_row_104 (by omega)) (by have := i_rng c; omega) (by have := i_rng c; omega)
          refine q_aload_n hM dX11_reminds_57 (lv_at hl 0 rfl) ?_
          refine w_get (v := .ref (ad 102)) hM hW FG_X11_90 lb_0 (rf_0_3 hW.2.1) dX11_reminds_58 ?_
          refine w_get (v := .ref (ad 103)) hM hW FG_X11_264 lb_102 (rf_102_0 hW.2.1) dX11_reminds_61 ?_
          refine q_iload_n hM dX11_reminds_64 (lv_at hl 2 rfl) ?_
          refine w_aald hM hW lb_103 (Or.inl rfl) (i_in (by omega) (by omega)) (aq (aq_103 hW.2.1) (by omega) (by omega)) dX11_reminds_65 ?_
          refine q_iload_n hM dX11_reminds_66 (lv_at hl 1 rfl) ?_
          refine q_iload_n hM dX11_reminds_67 (lv_at hl 3 rfl) ?_
          refine w_iast hM hW (lr_104 (by omega)) (by omega) (i_in (by omega) (by omega)) dX11_reminds_68 (fun g5078 H locs hW e1 e2 => ?_)
          have f5079 : fld g5078 18 3 = .int x5062 := (e2.1 18 3 (by unfold Only; omega)).trans f5077
          have hG := hG.st e1 e2 (rA_row_104 (by omega)) (by have := i_rng c; omega) (by have := i_rng c; omega)
          refine q_iconst (v := (1 : Int32)) hM dX11_reminds_69 (by decide) ?_
          exact hE _ _ _ _ _ _ hW.1 nz_1 ⟨_, rfl, hW.2.1, hG, hW.2.2, (by have := kc_1; omega)⟩ dX11_reminds_70
        · refine q_iconst (v := (0 : Int32)) hM dX11_reminds_43 (by decide) ?_
          exact hE _ _ _ _ _ _ hW.1 nz_0 ⟨_, rfl, hW.2.1, hG, hW.2.2, (by have := kc_0; omega)⟩ dX11_reminds_44

theorem dX11_skill_0 : decode cX11_skill 0 = .ok (.iload_n 1, 1) := by decide +kernel
theorem dX11_skill_1 : decode cX11_skill 1 = .ok (.iconst 0, 1) := by decide +kernel
theorem dX11_skill_2 : decode cX11_skill 2 = .ok (.iconst 4, 1) := by decide +kernel
theorem dX11_skill_3 : decode cX11_skill 3 = .ok (.invokestatic 112, 3) := by decide +kernel
theorem dX11_skill_6 : decode cX11_skill 6 = .ok (.ifCond .eq 22, 3) := by decide +kernel
theorem dX11_skill_9 : decode cX11_skill 9 = .ok (.iload_n 2, 1) := by decide +kernel
theorem dX11_skill_10 : decode cX11_skill 10 = .ok (.iconst 0, 1) := by decide +kernel
theorem dX11_skill_11 : decode cX11_skill 11 = .ok (.iconst 5, 1) := by decide +kernel
theorem dX11_skill_12 : decode cX11_skill 12 = .ok (.invokestatic 112, 3) := by decide +kernel
theorem dX11_skill_15 : decode cX11_skill 15 = .ok (.ifCond .eq 13, 3) := by decide +kernel
theorem dX11_skill_18 : decode cX11_skill 18 = .ok (.iload_n 3, 1) := by decide +kernel
theorem dX11_skill_19 : decode cX11_skill 19 = .ok (.iconst 0, 1) := by decide +kernel
theorem dX11_skill_20 : decode cX11_skill 20 = .ok (.bipush 99, 2) := by decide +kernel
theorem dX11_skill_22 : decode cX11_skill 22 = .ok (.invokestatic 112, 3) := by decide +kernel
theorem dX11_skill_25 : decode cX11_skill 25 = .ok (.ifCond .ne 5, 3) := by decide +kernel
theorem dX11_skill_28 : decode cX11_skill 28 = .ok (.iconst 0, 1) := by decide +kernel
theorem dX11_skill_29 : decode cX11_skill 29 = .ok (.ireturn, 1) := by decide +kernel
theorem dX11_skill_30 : decode cX11_skill 30 = .ok (.aload_n 0, 1) := by decide +kernel
theorem dX11_skill_31 : decode cX11_skill 31 = .ok (.getfield 90, 3) := by decide +kernel
theorem dX11_skill_34 : decode cX11_skill 34 = .ok (.dup, 1) := by decide +kernel
theorem dX11_skill_35 : decode cX11_skill 35 = .ok (.getfield 273, 3) := by decide +kernel
theorem dX11_skill_38 : decode cX11_skill 38 = .ok (.iconst 1, 1) := by decide +kernel
theorem dX11_skill_39 : decode cX11_skill 39 = .ok (.iload_n 1, 1) := by decide +kernel
theorem dX11_skill_40 : decode cX11_skill 40 = .ok (.ishl, 1) := by decide +kernel
theorem dX11_skill_41 : decode cX11_skill 41 = .ok (.ior, 1) := by decide +kernel
theorem dX11_skill_42 : decode cX11_skill 42 = .ok (.putfield 273, 3) := by decide +kernel
theorem dX11_skill_45 : decode cX11_skill 45 = .ok (.aload_n 0, 1) := by decide +kernel
theorem dX11_skill_46 : decode cX11_skill 46 = .ok (.getfield 90, 3) := by decide +kernel
theorem dX11_skill_49 : decode cX11_skill 49 = .ok (.getfield 276, 3) := by decide +kernel
theorem dX11_skill_52 : decode cX11_skill 52 = .ok (.iload_n 1, 1) := by decide +kernel
theorem dX11_skill_53 : decode cX11_skill 53 = .ok (.aaload, 1) := by decide +kernel
theorem dX11_skill_54 : decode cX11_skill 54 = .ok (.iload_n 2, 1) := by decide +kernel
theorem dX11_skill_55 : decode cX11_skill 55 = .ok (.iload_n 3, 1) := by decide +kernel
theorem dX11_skill_56 : decode cX11_skill 56 = .ok (.iastore, 1) := by decide +kernel
theorem dX11_skill_57 : decode cX11_skill 57 = .ok (.iconst 1, 1) := by decide +kernel
theorem dX11_skill_58 : decode cX11_skill 58 = .ok (.ireturn, 1) := by decide +kernel
theorem FG_X11_273 : FG RX11 273 9 5 4 := ⟨RX9, TX9, rfl, wX9, by decide, kAW (v_1_2 (List.mem_of_getElem? (i := 13) rfl)) rfl, rfl⟩
theorem FP_X11_273 : FPX RX11 273 9 5 4 .int := ⟨⟨RX9, TX9, tyX9, rfl, wX9, by decide, kAW (v_1_2 (List.mem_of_getElem? (i := 13) rfl)) rfl, rfl, tyX9_ok, nmX9, by decide +kernel, rfl⟩, by decide +kernel⟩
theorem FG_X11_276 : FG RX11 276 9 5 1 := ⟨RX9, TX9, rfl, wX9, by decide, kAW (v_1_2 (List.mem_of_getElem? (i := 8) rfl)) rfl, rfl⟩
set_option maxRecDepth 100000 in
set_option maxHeartbeats 4000000 in
theorem p_X11_skill (l : Launch) (D : va_G) (cA : Nat → ClassId) (ad : Nat → Nat) (g0 : Nat → va_E) (a : Int32) (b : Int32) (c : Int32)   (hSh : Shp ad cA g0) (hG : Rng g0) : CT l NN ad cA D yX11_skill cX11_skill 4 (some FieldType.boolean) (1, 22) [.ref (ad 0), .int a, .int b, .int c] g0 (fun v g' => ∃ (r : Int32), v = some (.int r) ∧ Shp ad cA g' ∧ Rng g' ∧ FR (fun i k => (i = 102 ∧ (k = 4)) ∨ (113 ≤ i ∧ i < 118)) g0 g' ∧ ((r.toInt = 1 ∧ 0 ≤ a.toInt ∧ a.toInt ≤ 4 ∧ 0 ≤ b.toInt ∧ b.toInt ≤ 5 ∧ 0 ≤ c.toInt ∧ c.toInt ≤ 99) ∨ (r.toInt = 0 ∧ ¬ (0 ≤ a.toInt ∧ a.toInt ≤ 4 ∧ 0 ≤ b.toInt ∧ b.toInt ≤ 5 ∧ 0 ≤ c.toInt ∧ c.toInt ≤ 99)))) := by
  refine q_enterZ (by decide) (Nat.le_of_ble_eq_true rfl) (fun K H locs ls _ _ hM hW0 hR hC hE hl => ?_)
  have hl : lv_has ls 4 [(0, .ref (ad 0)), (1, .int a), (2, .int b), (3, .int c)] := hl
  have hW : WS ad cA (fun i k => (i = 102 ∧ (k = 4)) ∨ (113 ≤ i ∧ i < 118)) g0 K g0 H locs := ⟨hW0, hSh, FR.rf⟩
  have := kc_0
  have := kc_1
  have := kc_m1
  have := kc_m2
  refine q_iload_n hM dX11_skill_0 (lv_at hl 1 rfl) ?_
  refine q_iconst (v := (0 : Int32)) hM dX11_skill_1 (by decide) ?_
  refine q_iconst (v := (4 : Int32)) hM dX11_skill_2 (by decide) ?_
  refine q_callS (As := [.int a, .int (0 : Int32), .int (4 : Int32)]) (rest := []) hM hW.1 hR hC myX11_within (kAW (v_1_10 (List.mem_of_getElem? (i := 1) rfl)) rfl) (c_X11_within _ _ cA ad g0 a (0 : Int32) (4 : Int32) hW.2.1) ⟨by decide, by decide⟩ rfl rfl hl.1 (Nat.le_of_ble_eq_true rfl) dX11_skill_3 (fun v g5082 H locs hp hW1 => ?_)
  obtain ⟨r5081, rfl, hr5081, rfl⟩ := hp
  have hW : WS ad cA (fun i k => (i = 102 ∧ (k = 4)) ∨ (113 ≤ i ∧ i < 118)) g0 K g0 H locs := ⟨hW1, hW.2.1, hW.2.2⟩
  have := kc_0
  have := kc_4
  refine q_if_eq (tgt := 28) hM dX11_skill_6 (by decide) (rfl : r5081.toInt = r5081.toInt) (fun h6 => ?_) (fun h6 => ?_)
  · refine q_iconst (v := (0 : Int32)) hM dX11_skill_28 (by decide) ?_
    exact hE _ _ _ _ _ _ hW.1 nz_0 ⟨_, rfl, hW.2.1, hG, hW.2.2, (by have := kc_0; omega)⟩ dX11_skill_29
  · refine q_iload_n hM dX11_skill_9 (lv_at hl 2 rfl) ?_
    refine q_iconst (v := (0 : Int32)) hM dX11_skill_10 (by decide) ?_
    refine q_iconst (v := (5 : Int32)) hM dX11_skill_11 (by decide) ?_
    refine q_callS (As := [.int b, .int (0 : Int32), .int (5 : Int32)]) (rest := []) hM hW.1 hR hC myX11_within (kAW (v_1_10 (List.mem_of_getElem? (i := 1) rfl)) rfl) (c_X11_within _ _ cA ad g0 b (0 : Int32) (5 : Int32) hW.2.1) ⟨by decide, by decide⟩ rfl rfl hl.1 (Nat.le_of_ble_eq_true rfl) dX11_skill_12 (fun v g5086 H locs hp hW1 => ?_)
    obtain ⟨r5085, rfl, hr5085, rfl⟩ := hp
    have hW : WS ad cA (fun i k => (i = 102 ∧ (k = 4)) ∨ (113 ≤ i ∧ i < 118)) g0 K g0 H locs := ⟨hW1, hW.2.1, hW.2.2⟩
    have := kc_0
    have := kc_5
    refine q_if_eq (tgt := 28) hM dX11_skill_15 (by decide) (rfl : r5085.toInt = r5085.toInt) (fun h15 => ?_) (fun h15 => ?_)
    · refine q_iconst (v := (0 : Int32)) hM dX11_skill_28 (by decide) ?_
      exact hE _ _ _ _ _ _ hW.1 nz_0 ⟨_, rfl, hW.2.1, hG, hW.2.2, (by have := kc_0; omega)⟩ dX11_skill_29
    · refine q_iload_n hM dX11_skill_18 (lv_at hl 3 rfl) ?_
      refine q_iconst (v := (0 : Int32)) hM dX11_skill_19 (by decide) ?_
      refine q_bipush (v := (99 : Int32)) hM dX11_skill_20 (by decide) ?_
      refine q_callS (As := [.int c, .int (0 : Int32), .int (99 : Int32)]) (rest := []) hM hW.1 hR hC myX11_within (kAW (v_1_10 (List.mem_of_getElem? (i := 1) rfl)) rfl) (c_X11_within _ _ cA ad g0 c (0 : Int32) (99 : Int32) hW.2.1) ⟨by decide, by decide⟩ rfl rfl hl.1 (Nat.le_of_ble_eq_true rfl) dX11_skill_22 (fun v g5090 H locs hp hW1 => ?_)
      obtain ⟨r5089, rfl, hr5089, rfl⟩ := hp
      have hW : WS ad cA (fun i k => (i = 102 ∧ (k = 4)) ∨ (113 ≤ i ∧ i < 118)) g0 K g0 H locs := ⟨hW1, hW.2.1, hW.2.2⟩
      have := kc_0
      have := kc_99
      refine q_if_ne (tgt := 30) hM dX11_skill_25 (by decide) (rfl : r5089.toInt = r5089.toInt) (fun h25 => ?_) (fun h25 => ?_)
      · refine q_aload_n hM dX11_skill_30 (lv_at hl 0 rfl) ?_
        refine w_get (v := .ref (ad 102)) hM hW FG_X11_90 lb_0 (rf_0_3 hW.2.1) dX11_skill_31 ?_
        refine q_dup hM dX11_skill_34 rfl ?_
        refine w_getI hM hW FG_X11_273 lb_102 (by decide) (by decide) dX11_skill_35 (fun x5092 fx5092 => ?_)
        have bx5092 := hG.f fx5092 rF_102_4 (by decide)
        refine q_iconst (v := (1 : Int32)) hM dX11_skill_38 (by decide) ?_
        refine q_iload_n hM dX11_skill_39 (lv_at hl 1 rfl) ?_
        refine q_ishl hM dX11_skill_40 (fun z5093 hz5093 => ?_)
        have sz5093 := i_shl1 5 (by decide) hz5093 (by omega) (by omega)
        refine q_ior hM dX11_skill_41 (fun z5094 hz5094 => ?_)
        have oz5094 := i_ork 5 (by decide) hz5094 (by omega) (by omega) (by omega) (by omega)
        refine w_put hM hW FP_X11_273 lb_102 (by omega) (Or.inl ⟨_, rfl⟩) rfl rfl dX11_skill_42 (fun g5095 H locs hW e1 e2 => ?_)
        have f5096 : fld g5095 102 4 = .int z5094 := e1
        have hG := hG.put e1 e2 rF_102_4 (by decide) (by have := i_rng z5094; omega) (by have := i_rng z5094; omega)
        refine q_aload_n hM dX11_skill_45 (lv_at hl 0 rfl) ?_
        refine w_get (v := .ref (ad 102)) hM hW FG_X11_90 lb_0 (rf_0_3 hW.2.1) dX11_skill_46 ?_
        refine w_get (v := .ref (ad 112)) hM hW FG_X11_276 lb_102 (rf_102_1 hW.2.1) dX11_skill_49 ?_
        refine q_iload_n hM dX11_skill_52 (lv_at hl 1 rfl) ?_
        refine w_aald hM hW lb_112 (Or.inl rfl) (i_in (by omega) (by omega)) (aq (aq_112 hW.2.1) (by omega) (by omega)) dX11_skill_53 ?_
        refine q_iload_n hM dX11_skill_54 (lv_at hl 2 rfl) ?_
        refine q_iload_n hM dX11_skill_55 (lv_at hl 3 rfl) ?_
        refine w_iast hM hW (lr_113 (by omega)) (by omega) (i_in (by omega) (by omega)) dX11_skill_56 (fun g5097 H locs hW e1 e2 => ?_)
        have f5098 : fld g5097 102 4 = .int z5094 := (e2.1 102 4 (by unfold Only; omega)).trans f5096
        have hG := hG.st e1 e2 (rA_row_113 (by omega)) (by have := i_rng c; omega) (by have := i_rng c; omega)
        refine q_iconst (v := (1 : Int32)) hM dX11_skill_57 (by decide) ?_
        exact hE _ _ _ _ _ _ hW.1 nz_1 ⟨_, rfl, hW.2.1, hG, hW.2.2, (by have := kc_1; omega)⟩ dX11_skill_58
      · refine q_iconst (v := (0 : Int32)) hM dX11_skill_28 (by decide) ?_
        exact hE _ _ _ _ _ _ hW.1 nz_0 ⟨_, rfl, hW.2.1, hG, hW.2.2, (by have := kc_0; omega)⟩ dX11_skill_29

theorem dX11_taught_0 : decode cX11_taught 0 = .ok (.iload_n 1, 1) := by decide +kernel
theorem dX11_taught_1 : decode cX11_taught 1 = .ok (.aload_n 0, 1) := by decide +kernel
theorem dX11_taught_2 : decode cX11_taught 2 = .ok (.getfield 90, 3) := by decide +kernel
theorem dX11_taught_5 : decode cX11_taught 5 = .ok (.getfield 273, 3) := by decide +kernel
theorem dX11_taught_8 : decode cX11_taught 8 = .ok (.invokestatic 227, 3) := by decide +kernel
theorem dX11_taught_11 : decode cX11_taught 11 = .ok (.ifCond .eq 24, 3) := by decide +kernel
theorem dX11_taught_14 : decode cX11_taught 14 = .ok (.iload_n 2, 1) := by decide +kernel
theorem dX11_taught_15 : decode cX11_taught 15 = .ok (.iconst 1, 1) := by decide +kernel
theorem dX11_taught_16 : decode cX11_taught 16 = .ok (.bipush 63, 2) := by decide +kernel
theorem dX11_taught_18 : decode cX11_taught 18 = .ok (.invokestatic 112, 3) := by decide +kernel
theorem dX11_taught_21 : decode cX11_taught 21 = .ok (.ifCond .eq 14, 3) := by decide +kernel
theorem dX11_taught_24 : decode cX11_taught 24 = .ok (.iload_n 1, 1) := by decide +kernel
theorem dX11_taught_25 : decode cX11_taught 25 = .ok (.invokestatic 206, 3) := by decide +kernel
theorem dX11_taught_28 : decode cX11_taught 28 = .ok (.iload_n 2, 1) := by decide +kernel
theorem dX11_taught_29 : decode cX11_taught 29 = .ok (.invokestatic 206, 3) := by decide +kernel
theorem dX11_taught_32 : decode cX11_taught 32 = .ok (.if_icmp .eq 5, 3) := by decide +kernel
theorem dX11_taught_35 : decode cX11_taught 35 = .ok (.iconst (-1), 1) := by decide +kernel
theorem dX11_taught_36 : decode cX11_taught 36 = .ok (.ireturn, 1) := by decide +kernel
theorem dX11_taught_37 : decode cX11_taught 37 = .ok (.iload_n 3, 1) := by decide +kernel
theorem dX11_taught_38 : decode cX11_taught 38 = .ok (.bipush 20, 2) := by decide +kernel
theorem dX11_taught_40 : decode cX11_taught 40 = .ok (.if_icmp .eq 13, 3) := by decide +kernel
theorem dX11_taught_43 : decode cX11_taught 43 = .ok (.iload_n 2, 1) := by decide +kernel
theorem dX11_taught_44 : decode cX11_taught 44 = .ok (.iload_n 3, 1) := by decide +kernel
theorem dX11_taught_45 : decode cX11_taught 45 = .ok (.invokestatic 123, 3) := by decide +kernel
theorem dX11_taught_48 : decode cX11_taught 48 = .ok (.ifCond .ne 5, 3) := by decide +kernel
theorem dX11_taught_51 : decode cX11_taught 51 = .ok (.iconst (-1), 1) := by decide +kernel
theorem dX11_taught_52 : decode cX11_taught 52 = .ok (.ireturn, 1) := by decide +kernel
theorem dX11_taught_53 : decode cX11_taught 53 = .ok (.aload_n 0, 1) := by decide +kernel
theorem dX11_taught_54 : decode cX11_taught 54 = .ok (.getfield 90, 3) := by decide +kernel
theorem dX11_taught_57 : decode cX11_taught 57 = .ok (.iload_n 1, 1) := by decide +kernel
theorem dX11_taught_58 : decode cX11_taught 58 = .ok (.iload_n 2, 1) := by decide +kernel
theorem dX11_taught_59 : decode cX11_taught 59 = .ok (.invokevirtual 279, 3) := by decide +kernel
theorem dX11_taught_62 : decode cX11_taught 62 = .ok (.istore 4, 2) := by decide +kernel
theorem dX11_taught_64 : decode cX11_taught 64 = .ok (.iload_n 3, 1) := by decide +kernel
theorem dX11_taught_65 : decode cX11_taught 65 = .ok (.bipush 20, 2) := by decide +kernel
theorem dX11_taught_67 : decode cX11_taught 67 = .ok (.if_icmp .ne 8, 3) := by decide +kernel
theorem dX11_taught_70 : decode cX11_taught 70 = .ok (.iload 4, 2) := by decide +kernel
theorem dX11_taught_72 : decode cX11_taught 72 = .ok (.goto 12, 3) := by decide +kernel
theorem dX11_taught_75 : decode cX11_taught 75 = .ok (.aload_n 0, 1) := by decide +kernel
theorem dX11_taught_76 : decode cX11_taught 76 = .ok (.getfield 90, 3) := by decide +kernel
theorem dX11_taught_79 : decode cX11_taught 79 = .ok (.getfield 282, 3) := by decide +kernel
theorem dX11_taught_82 : decode cX11_taught 82 = .ok (.iload_n 3, 1) := by decide +kernel
theorem dX11_taught_83 : decode cX11_taught 83 = .ok (.iaload, 1) := by decide +kernel
theorem dX11_taught_84 : decode cX11_taught 84 = .ok (.ireturn, 1) := by decide +kernel
theorem myX9_assign : MI yX9_assign cX9_assign 8 (some FieldType.int) 2 := ⟨kAW (v_3_12 (List.mem_of_getElem? (i := 14) rfl)) rfl, kAW (v_0_0 (List.mem_of_getElem? (i := 10) rfl)) rfl, kAW (v_3_12 (List.mem_of_getElem? (i := 12) rfl)) rfl, kAW (v_3_12 (List.mem_of_getElem? (i := 13) rfl)) rfl, by decide, by decide, by decide +kernel⟩
theorem FG_X11_282 : FG RX11 282 9 5 2 := ⟨RX9, TX9, rfl, wX9, by decide, kAW (v_1_2 (List.mem_of_getElem? (i := 10) rfl)) rfl, rfl⟩
set_option maxRecDepth 100000 in
set_option maxHeartbeats 4000000 in
theorem p_X11_taught (l : Launch) (D : va_G) (cA : Nat → ClassId) (ad : Nat → Nat) (g0 : Nat → va_E) (a : Int32) (b : Int32) (c : Int32)   (hSh : Shp ad cA g0) (hG : Rng g0) : CT l NN ad cA D yX11_taught cX11_taught 5 (some FieldType.int) (3, 77) [.ref (ad 0), .int a, .int b, .int c] g0 (fun v g' => ∃ (r : Int32), v = some (.int r) ∧ Shp ad cA g' ∧ Rng g' ∧ FR (fun i k => i = 118 ∨ i = 119) g0 g') := by
  refine q_enterI (by decide) (Nat.le_of_ble_eq_true rfl) rfl (fun K H locs ls _ _ hM hW0 hR hC hE hl => ?_)
  have hl : lv_has ls 5 [(0, .ref (ad 0)), (1, .int a), (2, .int b), (3, .int c)] := hl
  have hW : WS ad cA (fun i k => i = 118 ∨ i = 119) g0 K g0 H locs := ⟨hW0, hSh, FR.rf⟩
  have := kc_0
  have := kc_1
  have := kc_m1
  have := kc_m2
  refine q_iload_n hM dX11_taught_0 (lv_at hl 1 rfl) ?_
  refine q_aload_n hM dX11_taught_1 (lv_at hl 0 rfl) ?_
  refine w_get (v := .ref (ad 102)) hM hW FG_X11_90 lb_0 (rf_0_3 hW.2.1) dX11_taught_2 ?_
  refine w_getI hM hW FG_X11_273 lb_102 (by decide) (by decide) dX11_taught_5 (fun x5100 fx5100 => ?_)
  have bx5100 := hG.f fx5100 rF_102_4 (by decide)
  refine q_callS (As := [.int a, .int x5100]) (rest := []) hM hW.1 hR hC myX11_areOf (kAW (v_3_4 (List.mem_of_getElem? (i := 6) rfl)) rfl) (c_X11_areOf _ _ cA ad g0 a x5100 hW.2.1) ⟨by decide, by decide⟩ rfl rfl hl.1 (Nat.le_of_ble_eq_true rfl) dX11_taught_8 (fun v g5102 H locs hp hW1 => ?_)
  obtain ⟨r5101, rfl, hr5101, rfl⟩ := hp
  have hW : WS ad cA (fun i k => i = 118 ∨ i = 119) g0 K g0 H locs := ⟨hW1, hW.2.1, hW.2.2⟩
  refine q_if_eq (tgt := 35) hM dX11_taught_11 (by decide) (rfl : r5101.toInt = r5101.toInt) (fun h11 => ?_) (fun h11 => ?_)
  · refine q_iconst (v := ((-1) : Int32)) hM dX11_taught_35 (by decide) ?_
    exact hE _ _ _ _ _ _ hW.1 ⟨_, rfl, hW.2.1, hG, hW.2.2⟩ dX11_taught_36
  · refine q_iload_n hM dX11_taught_14 (lv_at hl 2 rfl) ?_
    refine q_iconst (v := (1 : Int32)) hM dX11_taught_15 (by decide) ?_
    refine q_bipush (v := (63 : Int32)) hM dX11_taught_16 (by decide) ?_
    refine q_callS (As := [.int b, .int (1 : Int32), .int (63 : Int32)]) (rest := []) hM hW.1 hR hC myX11_within (kAW (v_1_10 (List.mem_of_getElem? (i := 1) rfl)) rfl) (c_X11_within _ _ cA ad g0 b (1 : Int32) (63 : Int32) hW.2.1) ⟨by decide, by decide⟩ rfl rfl hl.1 (Nat.le_of_ble_eq_true rfl) dX11_taught_18 (fun v g5106 H locs hp hW1 => ?_)
    obtain ⟨r5105, rfl, hr5105, rfl⟩ := hp
    have hW : WS ad cA (fun i k => i = 118 ∨ i = 119) g0 K g0 H locs := ⟨hW1, hW.2.1, hW.2.2⟩
    have := kc_1
    have := kc_63
    refine q_if_eq (tgt := 35) hM dX11_taught_21 (by decide) (rfl : r5105.toInt = r5105.toInt) (fun h21 => ?_) (fun h21 => ?_)
    · refine q_iconst (v := ((-1) : Int32)) hM dX11_taught_35 (by decide) ?_
      exact hE _ _ _ _ _ _ hW.1 ⟨_, rfl, hW.2.1, hG, hW.2.2⟩ dX11_taught_36
    · refine q_iload_n hM dX11_taught_24 (lv_at hl 1 rfl) ?_
      refine q_callS (As := [.int a]) (rest := []) hM hW.1 hR hC myJ6_bitCount_0f7a4 (kAW (v_3_1 (List.mem_of_getElem? (i := 2) rfl)) rfl) (c_J6_bitCount_0f7a4 _ _ cA ad g0 a hW.2.1) ⟨by decide, by decide⟩ rfl rfl hl.1 (Nat.le_of_ble_eq_true rfl) dX11_taught_25 (fun v g5110 H locs hp hW1 => ?_)
      obtain ⟨r5109, rfl, hr5109, rfl⟩ := hp
      have hW : WS ad cA (fun i k => i = 118 ∨ i = 119) g0 K g0 H locs := ⟨hW1, hW.2.1, hW.2.2⟩
      refine q_iload_n hM dX11_taught_28 (lv_at hl 2 rfl) ?_
      refine q_callS (As := [.int b]) (rest := [.int r5109]) hM hW.1 hR hC myJ6_bitCount_0f7a4 (kAW (v_3_1 (List.mem_of_getElem? (i := 2) rfl)) rfl) (c_J6_bitCount_0f7a4 _ _ cA ad g0 b hW.2.1) ⟨by decide, by decide⟩ rfl rfl hl.1 (Nat.le_of_ble_eq_true rfl) dX11_taught_29 (fun v g5112 H locs hp hW1 => ?_)
      obtain ⟨r5111, rfl, hr5111, rfl⟩ := hp
      have hW : WS ad cA (fun i k => i = 118 ∨ i = 119) g0 K g0 H locs := ⟨hW1, hW.2.1, hW.2.2⟩
      refine q_icmp_eq (tgt := 37) hM dX11_taught_32 (by decide) (rfl : r5109.toInt = r5109.toInt) (rfl : r5111.toInt = r5111.toInt) (fun h32 => ?_) (fun h32 => ?_)
      · refine q_iload_n hM dX11_taught_37 (lv_at hl 3 rfl) ?_
        refine q_bipush (v := (20 : Int32)) hM dX11_taught_38 (by decide) ?_
        refine q_icmp_eq (tgt := 53) hM dX11_taught_40 (by decide) (rfl : c.toInt = c.toInt) (kc_20 : (20 : Int32).toInt = 20) (fun h40 => ?_) (fun h40 => ?_)
        · refine q_aload_n hM dX11_taught_53 (lv_at hl 0 rfl) ?_
          refine w_get (v := .ref (ad 102)) hM hW FG_X11_90 lb_0 (rf_0_3 hW.2.1) dX11_taught_54 ?_
          refine q_iload_n hM dX11_taught_57 (lv_at hl 1 rfl) ?_
          refine q_iload_n hM dX11_taught_58 (lv_at hl 2 rfl) ?_
          refine q_callV (As := [.int a, .int b]) (rest := []) hM hW.1 hR hC myX9_assign (kAW (v_3_12 (List.mem_of_getElem? (i := 11) rfl)) rfl) (rfl : vwCl[9]? = some (RX9, TX9, 5)) rfl lb_102.1 (shO hW.2.1 lb_102) (a_X9_assign _ _ cA ad g0 a b hW.2.1 hG) ⟨by decide, by decide⟩ rfl rfl hl.1 (Nat.le_of_ble_eq_true rfl) dX11_taught_59 (fun v g5116 H locs hp hW1 => ?_)
          obtain ⟨r5115, rfl, hs1, hG, hf1⟩ := hp
          have f5117 : fld g5116 102 4 = .int x5100 := (hf1.1 102 4 (by omega)).trans fx5100
          have hW : WS ad cA (fun i k => i = 118 ∨ i = 119) g0 K g5116 H locs := ⟨hW1, hs1, hW.2.2.tr hf1 (fun i k h => h.elim (fun h => (Or.inl h)) (fun h => (Or.inr h)))⟩
          refine q_istore (lv9 := [(4, .int r5115), (0, .ref (ad 0)), (1, .int a), (2, .int b), (3, .int c)]) hM dX11_taught_62 hl (by decide) rfl (fun ls hl => ?_)
          refine q_iload_n hM dX11_taught_64 (lv_at hl 4 rfl) ?_
          refine q_bipush (v := (20 : Int32)) hM dX11_taught_65 (by decide) ?_
          refine q_icmp_ne (tgt := 75) hM dX11_taught_67 (by decide) (rfl : c.toInt = c.toInt) (kc_20 : (20 : Int32).toInt = 20) (fun h67 => ?_) (fun h67 => ?_)
          · refine q_aload_n hM dX11_taught_75 (lv_at hl 1 rfl) ?_
            refine w_get (v := .ref (ad 102)) hM hW FG_X11_90 lb_0 (rf_0_3 hW.2.1) dX11_taught_76 ?_
            refine w_get (v := .ref (ad 118)) hM hW FG_X11_282 lb_102 (rf_102_2 hW.2.1) dX11_taught_79 ?_
            refine q_iload_n hM dX11_taught_82 (lv_at hl 4 rfl) ?_
            refine w_iald hM hW lb_118 (i_in (by omega) (by omega)) dX11_taught_83 ?_
            refine q_top (fun y5119 hy5119 => ?_)
            exact hE _ _ _ _ _ _ hW.1 ⟨_, rfl, hW.2.1, hG, hW.2.2⟩ dX11_taught_84
          · refine q_iload hM dX11_taught_70 (lv_at hl 0 rfl) ?_
            refine q_goto (tgt := 84) hM dX11_taught_72 (by decide) ?_
            exact hE _ _ _ _ _ _ hW.1 ⟨_, rfl, hW.2.1, hG, hW.2.2⟩ dX11_taught_84
        · refine q_iload_n hM dX11_taught_43 (lv_at hl 2 rfl) ?_
          refine q_iload_n hM dX11_taught_44 (lv_at hl 3 rfl) ?_
          refine q_callS (As := [.int b, .int c]) (rest := []) hM hW.1 hR hC myX11_has (kAW (v_1_10 (List.mem_of_getElem? (i := 8) rfl)) rfl) (c_X11_has _ _ cA ad g0 b c hW.2.1) ⟨by decide, by decide⟩ rfl rfl hl.1 (Nat.le_of_ble_eq_true rfl) dX11_taught_45 (fun v g5123 H locs hp hW1 => ?_)
          obtain ⟨r5122, rfl, hr5122, rfl⟩ := hp
          have hW : WS ad cA (fun i k => i = 118 ∨ i = 119) g0 K g0 H locs := ⟨hW1, hW.2.1, hW.2.2⟩
          first | have ltr5122 := has_lt 5 hr5122 (by omega) (by omega) | have ltr5122 := has_lt 6 hr5122 (by omega) (by omega) | have ltr5122 := has_lt 8 hr5122 (by omega) (by omega) | have ltr5122 := has_lt 12 hr5122 (by omega) (by omega) | skip
          refine q_if_ne (tgt := 53) hM dX11_taught_48 (by decide) (rfl : r5122.toInt = r5122.toInt) (fun h48 => ?_) (fun h48 => ?_)
          · refine q_aload_n hM dX11_taught_53 (lv_at hl 0 rfl) ?_
            refine w_get (v := .ref (ad 102)) hM hW FG_X11_90 lb_0 (rf_0_3 hW.2.1) dX11_taught_54 ?_
            refine q_iload_n hM dX11_taught_57 (lv_at hl 1 rfl) ?_
            refine q_iload_n hM dX11_taught_58 (lv_at hl 2 rfl) ?_
            refine q_callV (As := [.int a, .int b]) (rest := []) hM hW.1 hR hC myX9_assign (kAW (v_3_12 (List.mem_of_getElem? (i := 11) rfl)) rfl) (rfl : vwCl[9]? = some (RX9, TX9, 5)) rfl lb_102.1 (shO hW.2.1 lb_102) (a_X9_assign _ _ cA ad g0 a b hW.2.1 hG) ⟨by decide, by decide⟩ rfl rfl hl.1 (Nat.le_of_ble_eq_true rfl) dX11_taught_59 (fun v g5126 H locs hp hW1 => ?_)
            obtain ⟨r5125, rfl, hs1, hG, hf1⟩ := hp
            have f5127 : fld g5126 102 4 = .int x5100 := (hf1.1 102 4 (by omega)).trans fx5100
            have hW : WS ad cA (fun i k => i = 118 ∨ i = 119) g0 K g5126 H locs := ⟨hW1, hs1, hW.2.2.tr hf1 (fun i k h => h.elim (fun h => (Or.inl h)) (fun h => (Or.inr h)))⟩
            refine q_istore (lv9 := [(4, .int r5125), (0, .ref (ad 0)), (1, .int a), (2, .int b), (3, .int c)]) hM dX11_taught_62 hl (by decide) rfl (fun ls hl => ?_)
            refine q_iload_n hM dX11_taught_64 (lv_at hl 4 rfl) ?_
            refine q_bipush (v := (20 : Int32)) hM dX11_taught_65 (by decide) ?_
            refine q_icmp_ne (tgt := 75) hM dX11_taught_67 (by decide) (rfl : c.toInt = c.toInt) (kc_20 : (20 : Int32).toInt = 20) (fun h67 => ?_) (fun h67 => ?_)
            · refine q_aload_n hM dX11_taught_75 (lv_at hl 1 rfl) ?_
              refine w_get (v := .ref (ad 102)) hM hW FG_X11_90 lb_0 (rf_0_3 hW.2.1) dX11_taught_76 ?_
              refine w_get (v := .ref (ad 118)) hM hW FG_X11_282 lb_102 (rf_102_2 hW.2.1) dX11_taught_79 ?_
              refine q_iload_n hM dX11_taught_82 (lv_at hl 4 rfl) ?_
              refine w_iald hM hW lb_118 (i_in (by omega) (by omega)) dX11_taught_83 ?_
              refine q_top (fun y5129 hy5129 => ?_)
              exact hE _ _ _ _ _ _ hW.1 ⟨_, rfl, hW.2.1, hG, hW.2.2⟩ dX11_taught_84
            · refine q_iload hM dX11_taught_70 (lv_at hl 0 rfl) ?_
              refine q_goto (tgt := 84) hM dX11_taught_72 (by decide) ?_
              exact hE _ _ _ _ _ _ hW.1 ⟨_, rfl, hW.2.1, hG, hW.2.2⟩ dX11_taught_84
          · refine q_iconst (v := ((-1) : Int32)) hM dX11_taught_51 (by decide) ?_
            exact hE _ _ _ _ _ _ hW.1 ⟨_, rfl, hW.2.1, hG, hW.2.2⟩ dX11_taught_52
      · refine q_iconst (v := ((-1) : Int32)) hM dX11_taught_35 (by decide) ?_
        exact hE _ _ _ _ _ _ hW.1 ⟨_, rfl, hW.2.1, hG, hW.2.2⟩ dX11_taught_36

theorem dX11_hummed_0 : decode cX11_hummed 0 = .ok (.iload_n 1, 1) := by decide +kernel
theorem dX11_hummed_1 : decode cX11_hummed 1 = .ok (.iconst 1, 1) := by decide +kernel
theorem dX11_hummed_2 : decode cX11_hummed 2 = .ok (.bipush 6, 2) := by decide +kernel
theorem dX11_hummed_4 : decode cX11_hummed 4 = .ok (.invokestatic 112, 3) := by decide +kernel
theorem dX11_hummed_7 : decode cX11_hummed 7 = .ok (.ifCond .eq 44, 3) := by decide +kernel
theorem dX11_hummed_10 : decode cX11_hummed 10 = .ok (.iload_n 2, 1) := by decide +kernel
theorem dX11_hummed_11 : decode cX11_hummed 11 = .ok (.iconst 1, 1) := by decide +kernel
theorem dX11_hummed_12 : decode cX11_hummed 12 = .ok (.bipush 9, 2) := by decide +kernel
theorem dX11_hummed_14 : decode cX11_hummed 14 = .ok (.invokestatic 112, 3) := by decide +kernel
theorem dX11_hummed_17 : decode cX11_hummed 17 = .ok (.ifCond .eq 34, 3) := by decide +kernel
theorem dX11_hummed_20 : decode cX11_hummed 20 = .ok (.iload_n 3, 1) := by decide +kernel
theorem dX11_hummed_21 : decode cX11_hummed 21 = .ok (.iconst 0, 1) := by decide +kernel
theorem dX11_hummed_22 : decode cX11_hummed 22 = .ok (.iconst 1, 1) := by decide +kernel
theorem dX11_hummed_23 : decode cX11_hummed 23 = .ok (.invokestatic 112, 3) := by decide +kernel
theorem dX11_hummed_26 : decode cX11_hummed 26 = .ok (.ifCond .eq 25, 3) := by decide +kernel
theorem dX11_hummed_29 : decode cX11_hummed 29 = .ok (.iload_n 1, 1) := by decide +kernel
theorem dX11_hummed_30 : decode cX11_hummed 30 = .ok (.aload_n 0, 1) := by decide +kernel
theorem dX11_hummed_31 : decode cX11_hummed 31 = .ok (.getfield 10, 3) := by decide +kernel
theorem dX11_hummed_34 : decode cX11_hummed 34 = .ok (.getfield 139, 3) := by decide +kernel
theorem dX11_hummed_37 : decode cX11_hummed 37 = .ok (.if_icmp .gt 14, 3) := by decide +kernel
theorem dX11_hummed_40 : decode cX11_hummed 40 = .ok (.aload_n 0, 1) := by decide +kernel
theorem dX11_hummed_41 : decode cX11_hummed 41 = .ok (.getfield 10, 3) := by decide +kernel
theorem dX11_hummed_44 : decode cX11_hummed 44 = .ok (.iload_n 1, 1) := by decide +kernel
theorem dX11_hummed_45 : decode cX11_hummed 45 = .ok (.invokevirtual 285, 3) := by decide +kernel
theorem dX11_hummed_48 : decode cX11_hummed 48 = .ok (.ifCond .ne 5, 3) := by decide +kernel
theorem dX11_hummed_51 : decode cX11_hummed 51 = .ok (.iconst (-1), 1) := by decide +kernel
theorem dX11_hummed_52 : decode cX11_hummed 52 = .ok (.ireturn, 1) := by decide +kernel
theorem dX11_hummed_53 : decode cX11_hummed 53 = .ok (.aload_n 0, 1) := by decide +kernel
theorem dX11_hummed_54 : decode cX11_hummed 54 = .ok (.getfield 10, 3) := by decide +kernel
theorem dX11_hummed_57 : decode cX11_hummed 57 = .ok (.iconst 0, 1) := by decide +kernel
theorem dX11_hummed_58 : decode cX11_hummed 58 = .ok (.putfield 139, 3) := by decide +kernel
theorem dX11_hummed_61 : decode cX11_hummed 61 = .ok (.aload_n 0, 1) := by decide +kernel
theorem dX11_hummed_62 : decode cX11_hummed 62 = .ok (.getfield 10, 3) := by decide +kernel
theorem dX11_hummed_65 : decode cX11_hummed 65 = .ok (.iload_n 1, 1) := by decide +kernel
theorem dX11_hummed_66 : decode cX11_hummed 66 = .ok (.invokevirtual 288, 3) := by decide +kernel
theorem dX11_hummed_69 : decode cX11_hummed 69 = .ok (.aload_n 0, 1) := by decide +kernel
theorem dX11_hummed_70 : decode cX11_hummed 70 = .ok (.getfield 19, 3) := by decide +kernel
theorem dX11_hummed_73 : decode cX11_hummed 73 = .ok (.getfield 116, 3) := by decide +kernel
theorem dX11_hummed_76 : decode cX11_hummed 76 = .ok (.invokestatic 227, 3) := by decide +kernel
theorem dX11_hummed_79 : decode cX11_hummed 79 = .ok (.ifCond .ne 6, 3) := by decide +kernel
theorem dX11_hummed_82 : decode cX11_hummed 82 = .ok (.bipush (-2), 2) := by decide +kernel
theorem dX11_hummed_84 : decode cX11_hummed 84 = .ok (.ireturn, 1) := by decide +kernel
theorem dX11_hummed_85 : decode cX11_hummed 85 = .ok (.iconst 1, 1) := by decide +kernel
theorem dX11_hummed_86 : decode cX11_hummed 86 = .ok (.istore 4, 2) := by decide +kernel
theorem dX11_hummed_88 : decode cX11_hummed 88 = .ok (.aload_n 0, 1) := by decide +kernel
theorem dX11_hummed_89 : decode cX11_hummed 89 = .ok (.getfield 10, 3) := by decide +kernel
theorem dX11_hummed_92 : decode cX11_hummed 92 = .ok (.iload_n 1, 1) := by decide +kernel
theorem dX11_hummed_93 : decode cX11_hummed 93 = .ok (.invokevirtual 288, 3) := by decide +kernel
theorem dX11_hummed_96 : decode cX11_hummed 96 = .ok (.istore 5, 2) := by decide +kernel
theorem dX11_hummed_98 : decode cX11_hummed 98 = .ok (.iconst 1, 1) := by decide +kernel
theorem dX11_hummed_99 : decode cX11_hummed 99 = .ok (.istore 6, 2) := by decide +kernel
theorem dX11_hummed_101 : decode cX11_hummed 101 = .ok (.iload 6, 2) := by decide +kernel
theorem dX11_hummed_103 : decode cX11_hummed 103 = .ok (.iload_n 1, 1) := by decide +kernel
theorem dX11_hummed_104 : decode cX11_hummed 104 = .ok (.if_icmp .ge 71, 3) := by decide +kernel
theorem dX11_hummed_107 : decode cX11_hummed 107 = .ok (.aload_n 0, 1) := by decide +kernel
theorem dX11_hummed_108 : decode cX11_hummed 108 = .ok (.getfield 19, 3) := by decide +kernel
theorem dX11_hummed_111 : decode cX11_hummed 111 = .ok (.aload_n 0, 1) := by decide +kernel
theorem dX11_hummed_112 : decode cX11_hummed 112 = .ok (.getfield 10, 3) := by decide +kernel
theorem dX11_hummed_115 : decode cX11_hummed 115 = .ok (.getfield 58, 3) := by decide +kernel
theorem dX11_hummed_118 : decode cX11_hummed 118 = .ok (.iload 6, 2) := by decide +kernel
theorem dX11_hummed_120 : decode cX11_hummed 120 = .ok (.iconst 1, 1) := by decide +kernel
theorem dX11_hummed_121 : decode cX11_hummed 121 = .ok (.isub, 1) := by decide +kernel
theorem dX11_hummed_122 : decode cX11_hummed 122 = .ok (.iaload, 1) := by decide +kernel
theorem dX11_hummed_123 : decode cX11_hummed 123 = .ok (.aload_n 0, 1) := by decide +kernel
theorem dX11_hummed_124 : decode cX11_hummed 124 = .ok (.getfield 10, 3) := by decide +kernel
theorem dX11_hummed_127 : decode cX11_hummed 127 = .ok (.getfield 58, 3) := by decide +kernel
theorem dX11_hummed_130 : decode cX11_hummed 130 = .ok (.iload 6, 2) := by decide +kernel
theorem dX11_hummed_132 : decode cX11_hummed 132 = .ok (.iaload, 1) := by decide +kernel
theorem dX11_hummed_133 : decode cX11_hummed 133 = .ok (.iload_n 2, 1) := by decide +kernel
theorem dX11_hummed_134 : decode cX11_hummed 134 = .ok (.invokevirtual 291, 3) := by decide +kernel
theorem dX11_hummed_137 : decode cX11_hummed 137 = .ok (.istore 7, 2) := by decide +kernel
theorem dX11_hummed_139 : decode cX11_hummed 139 = .ok (.iload 4, 2) := by decide +kernel
theorem dX11_hummed_141 : decode cX11_hummed 141 = .ok (.iload 7, 2) := by decide +kernel
theorem dX11_hummed_143 : decode cX11_hummed 143 = .ok (.invokestatic 206, 3) := by decide +kernel
theorem dX11_hummed_146 : decode cX11_hummed 146 = .ok (.imul, 1) := by decide +kernel
theorem dX11_hummed_147 : decode cX11_hummed 147 = .ok (.istore 4, 2) := by decide +kernel
theorem dX11_hummed_149 : decode cX11_hummed 149 = .ok (.iload 7, 2) := by decide +kernel
theorem dX11_hummed_151 : decode cX11_hummed 151 = .ok (.invokestatic 206, 3) := by decide +kernel
theorem dX11_hummed_154 : decode cX11_hummed 154 = .ok (.iconst 1, 1) := by decide +kernel
theorem dX11_hummed_155 : decode cX11_hummed 155 = .ok (.if_icmp .ne 14, 3) := by decide +kernel
theorem dX11_hummed_158 : decode cX11_hummed 158 = .ok (.iload 5, 2) := by decide +kernel
theorem dX11_hummed_160 : decode cX11_hummed 160 = .ok (.iload 7, 2) := by decide +kernel
theorem dX11_hummed_162 : decode cX11_hummed 162 = .ok (.sipush (-4097), 3) := by decide +kernel
theorem dX11_hummed_165 : decode cX11_hummed 165 = .ok (.iand, 1) := by decide +kernel
theorem dX11_hummed_166 : decode cX11_hummed 166 = .ok (.ior, 1) := by decide +kernel
theorem dX11_hummed_167 : decode cX11_hummed 167 = .ok (.istore 5, 2) := by decide +kernel
theorem dX11_hummed_169 : decode cX11_hummed 169 = .ok (.iinc 6 1, 3) := by decide +kernel
theorem dX11_hummed_172 : decode cX11_hummed 172 = .ok (.goto (-71), 3) := by decide +kernel
theorem dX11_hummed_175 : decode cX11_hummed 175 = .ok (.iload_n 3, 1) := by decide +kernel
theorem dX11_hummed_176 : decode cX11_hummed 176 = .ok (.ifCond .ne 6, 3) := by decide +kernel
theorem dX11_hummed_179 : decode cX11_hummed 179 = .ok (.iload 4, 2) := by decide +kernel
theorem dX11_hummed_181 : decode cX11_hummed 181 = .ok (.ireturn, 1) := by decide +kernel
theorem dX11_hummed_182 : decode cX11_hummed 182 = .ok (.iload 4, 2) := by decide +kernel
theorem dX11_hummed_184 : decode cX11_hummed 184 = .ok (.ifCond .ne 7, 3) := by decide +kernel
theorem dX11_hummed_187 : decode cX11_hummed 187 = .ok (.iconst 0, 1) := by decide +kernel
theorem dX11_hummed_188 : decode cX11_hummed 188 = .ok (.goto 5, 3) := by decide +kernel
theorem dX11_hummed_191 : decode cX11_hummed 191 = .ok (.iload 5, 2) := by decide +kernel
theorem dX11_hummed_193 : decode cX11_hummed 193 = .ok (.ireturn, 1) := by decide +kernel
theorem myX10_holdsFacts : MI yX10_holdsFacts cX10_holdsFacts 3 (some FieldType.boolean) 1 := ⟨kAW (v_3_13 (List.mem_of_getElem? (i := 15) rfl)) rfl, kAW (v_0_0 (List.mem_of_getElem? (i := 2) rfl)) rfl, kAW (v_3_13 (List.mem_of_getElem? (i := 13) rfl)) rfl, kAW (v_3_13 (List.mem_of_getElem? (i := 14) rfl)) rfl, by decide, by decide, by decide +kernel⟩
theorem myX10_asBits : MI yX10_asBits cX10_asBits 4 (some FieldType.int) 1 := ⟨kAW (v_3_14 (List.mem_of_getElem? (i := 3) rfl)) rfl, kAW (v_0_0 (List.mem_of_getElem? (i := 2) rfl)) rfl, kAW (v_3_14 (List.mem_of_getElem? (i := 1) rfl)) rfl, kAW (v_3_14 (List.mem_of_getElem? (i := 2) rfl)) rfl, by decide, by decide, by decide +kernel⟩
theorem FG_X11_58 : FG RX11 58 10 2 0 := ⟨RX10, TX10, rfl, wX10, by decide, kAW (v_0_2 (List.mem_of_getElem? (i := 4) rfl)) rfl, rfl⟩
theorem myX5_between : MI yX5_between cX5_between 6 (some FieldType.int) 3 := ⟨kAW (v_3_14 (List.mem_of_getElem? (i := 7) rfl)) rfl, kAW (v_0_0 (List.mem_of_getElem? (i := 3) rfl)) rfl, kAW (v_3_14 (List.mem_of_getElem? (i := 5) rfl)) rfl, kAW (v_3_14 (List.mem_of_getElem? (i := 6) rfl)) rfl, by decide, by decide, by decide +kernel⟩
set_option maxRecDepth 100000 in
set_option maxHeartbeats 4000000 in
theorem p_X11_hummed (l : Launch) (D : va_G) (cA : Nat → ClassId) (ad : Nat → Nat) (g0 : Nat → va_E) (a : Int32) (b : Int32) (c : Int32)   (hSh : Shp ad cA g0) (hG : Rng g0) : CT l NN ad cA D yX11_hummed cX11_hummed 8 (some FieldType.int) (1, 25) [.ref (ad 0), .int a, .int b, .int c] g0 (fun v g' => ∃ (r : Int32), v = some (.int r) ∧ Shp ad cA g' ∧ Rng g' ∧ FR (fun i k => (i = 1 ∧ (k = 1))) g0 g') := by
  refine q_enterI (by decide) (Nat.le_of_ble_eq_true rfl) rfl (fun K H locs ls _ _ hM hW0 hR hC hE hl => ?_)
  have hl : lv_has ls 8 [(0, .ref (ad 0)), (1, .int a), (2, .int b), (3, .int c)] := hl
  have hW : WS ad cA (fun i k => (i = 1 ∧ (k = 1))) g0 K g0 H locs := ⟨hW0, hSh, FR.rf⟩
  have := kc_0
  have := kc_1
  have := kc_m1
  have := kc_m2
  have := i_rng a
  refine q_iload_n hM dX11_hummed_0 (lv_at hl 1 rfl) ?_
  refine q_iconst (v := (1 : Int32)) hM dX11_hummed_1 (by decide) ?_
  refine q_bipush (v := (6 : Int32)) hM dX11_hummed_2 (by decide) ?_
  refine q_callS (As := [.int a, .int (1 : Int32), .int (6 : Int32)]) (rest := []) hM hW.1 hR hC myX11_within (kAW (v_1_10 (List.mem_of_getElem? (i := 1) rfl)) rfl) (c_X11_within _ _ cA ad g0 a (1 : Int32) (6 : Int32) hW.2.1) ⟨by decide, by decide⟩ rfl rfl hl.1 (Nat.le_of_ble_eq_true rfl) dX11_hummed_4 (fun v g5134 H locs hp hW1 => ?_)
  obtain ⟨r5133, rfl, hr5133, rfl⟩ := hp
  have hW : WS ad cA (fun i k => (i = 1 ∧ (k = 1))) g0 K g0 H locs := ⟨hW1, hW.2.1, hW.2.2⟩
  have := kc_1
  have := kc_6
  refine q_if_eq (tgt := 51) hM dX11_hummed_7 (by decide) (rfl : r5133.toInt = r5133.toInt) (fun h7 => ?_) (fun h7 => ?_)
  · refine q_iconst (v := ((-1) : Int32)) hM dX11_hummed_51 (by decide) ?_
    exact hE _ _ _ _ _ _ hW.1 ⟨_, rfl, hW.2.1, hG, hW.2.2⟩ dX11_hummed_52
  · refine q_iload_n hM dX11_hummed_10 (lv_at hl 2 rfl) ?_
    refine q_iconst (v := (1 : Int32)) hM dX11_hummed_11 (by decide) ?_
    refine q_bipush (v := (9 : Int32)) hM dX11_hummed_12 (by decide) ?_
    refine q_callS (As := [.int b, .int (1 : Int32), .int (9 : Int32)]) (rest := []) hM hW.1 hR hC myX11_within (kAW (v_1_10 (List.mem_of_getElem? (i := 1) rfl)) rfl) (c_X11_within _ _ cA ad g0 b (1 : Int32) (9 : Int32) hW.2.1) ⟨by decide, by decide⟩ rfl rfl hl.1 (Nat.le_of_ble_eq_true rfl) dX11_hummed_14 (fun v g5138 H locs hp hW1 => ?_)
    obtain ⟨r5137, rfl, hr5137, rfl⟩ := hp
    have hW : WS ad cA (fun i k => (i = 1 ∧ (k = 1))) g0 K g0 H locs := ⟨hW1, hW.2.1, hW.2.2⟩
    have := kc_1
    have := kc_9
    refine q_if_eq (tgt := 51) hM dX11_hummed_17 (by decide) (rfl : r5137.toInt = r5137.toInt) (fun h17 => ?_) (fun h17 => ?_)
    · refine q_iconst (v := ((-1) : Int32)) hM dX11_hummed_51 (by decide) ?_
      exact hE _ _ _ _ _ _ hW.1 ⟨_, rfl, hW.2.1, hG, hW.2.2⟩ dX11_hummed_52
    · refine q_iload_n hM dX11_hummed_20 (lv_at hl 3 rfl) ?_
      refine q_iconst (v := (0 : Int32)) hM dX11_hummed_21 (by decide) ?_
      refine q_iconst (v := (1 : Int32)) hM dX11_hummed_22 (by decide) ?_
      refine q_callS (As := [.int c, .int (0 : Int32), .int (1 : Int32)]) (rest := []) hM hW.1 hR hC myX11_within (kAW (v_1_10 (List.mem_of_getElem? (i := 1) rfl)) rfl) (c_X11_within _ _ cA ad g0 c (0 : Int32) (1 : Int32) hW.2.1) ⟨by decide, by decide⟩ rfl rfl hl.1 (Nat.le_of_ble_eq_true rfl) dX11_hummed_23 (fun v g5142 H locs hp hW1 => ?_)
      obtain ⟨r5141, rfl, hr5141, rfl⟩ := hp
      have hW : WS ad cA (fun i k => (i = 1 ∧ (k = 1))) g0 K g0 H locs := ⟨hW1, hW.2.1, hW.2.2⟩
      have := kc_0
      have := kc_1
      refine q_if_eq (tgt := 51) hM dX11_hummed_26 (by decide) (rfl : r5141.toInt = r5141.toInt) (fun h26 => ?_) (fun h26 => ?_)
      · refine q_iconst (v := ((-1) : Int32)) hM dX11_hummed_51 (by decide) ?_
        exact hE _ _ _ _ _ _ hW.1 ⟨_, rfl, hW.2.1, hG, hW.2.2⟩ dX11_hummed_52
      · refine q_iload_n hM dX11_hummed_29 (lv_at hl 1 rfl) ?_
        refine q_aload_n hM dX11_hummed_30 (lv_at hl 0 rfl) ?_
        refine w_get (v := .ref (ad 1)) hM hW FG_X11_10 lb_0 (rf_0_0 hW.2.1) dX11_hummed_31 ?_
        refine w_getI hM hW FG_X11_139 lb_1 (by decide) (by decide) dX11_hummed_34 (fun x5145 fx5145 => ?_)
        have bx5145 := hG.f fx5145 rF_1_1 (by decide)
        refine q_icmp_gt (tgt := 51) hM dX11_hummed_37 (by decide) (rfl : a.toInt = a.toInt) (rfl : x5145.toInt = x5145.toInt) (fun h37 => ?_) (fun h37 => ?_)
        · refine q_iconst (v := ((-1) : Int32)) hM dX11_hummed_51 (by decide) ?_
          exact hE _ _ _ _ _ _ hW.1 ⟨_, rfl, hW.2.1, hG, hW.2.2⟩ dX11_hummed_52
        · refine q_aload_n hM dX11_hummed_40 (lv_at hl 0 rfl) ?_
          refine w_get (v := .ref (ad 1)) hM hW FG_X11_10 lb_0 (rf_0_0 hW.2.1) dX11_hummed_41 ?_
          refine q_iload_n hM dX11_hummed_44 (lv_at hl 1 rfl) ?_
          refine q_callV (As := [.int a]) (rest := []) hM hW.1 hR hC myX10_holdsFacts (kAW (v_3_13 (List.mem_of_getElem? (i := 12) rfl)) rfl) (rfl : vwCl[10]? = some (RX10, TX10, 2)) rfl lb_1.1 (shO hW.2.1 lb_1) (a_X10_holdsFacts _ _ cA ad g0 a hW.2.1 hG) ⟨by decide, by decide⟩ rfl rfl hl.1 (Nat.le_of_ble_eq_true rfl) dX11_hummed_45 (fun v g5149 H locs hp hW1 => ?_)
          obtain ⟨r5148, rfl, hr5148, rfl⟩ := hp
          have hW : WS ad cA (fun i k => (i = 1 ∧ (k = 1))) g0 K g0 H locs := ⟨hW1, hW.2.1, hW.2.2⟩
          refine q_if_ne (tgt := 53) hM dX11_hummed_48 (by decide) (rfl : r5148.toInt = r5148.toInt) (fun h48 => ?_) (fun h48 => ?_)
          · refine q_aload_n hM dX11_hummed_53 (lv_at hl 0 rfl) ?_
            refine w_get (v := .ref (ad 1)) hM hW FG_X11_10 lb_0 (rf_0_0 hW.2.1) dX11_hummed_54 ?_
            refine q_iconst (v := (0 : Int32)) hM dX11_hummed_57 (by decide) ?_
            refine w_put hM hW FP_X11_139 lb_1 (by omega) (Or.inl ⟨_, rfl⟩) rfl rfl dX11_hummed_58 (fun g5151 H locs hW e1 e2 => ?_)
            have f5152 : arI g5151 2 = arI g0 2 := (e2.2.1 2 (by unfold Only; omega)).trans (rfl : arI g0 2 = arI g0 2)
            have f5153 : fld g5151 1 1 = .int (0 : Int32) := e1
            have hG := hG.put e1 e2 rF_1_1 (by decide) (by have := kc_0; have := i_rng (0 : Int32); omega) (by have := kc_0; have := i_rng (0 : Int32); omega)
            refine q_aload_n hM dX11_hummed_61 (lv_at hl 0 rfl) ?_
            refine w_get (v := .ref (ad 1)) hM hW FG_X11_10 lb_0 (rf_0_0 hW.2.1) dX11_hummed_62 ?_
            refine q_iload_n hM dX11_hummed_65 (lv_at hl 1 rfl) ?_
            refine q_callV (As := [.int a]) (rest := []) hM hW.1 hR hC myX10_asBits (kAW (v_3_14 (List.mem_of_getElem? (i := 0) rfl)) rfl) (rfl : vwCl[10]? = some (RX10, TX10, 2)) rfl lb_1.1 (shO hW.2.1 lb_1) (a_X10_asBits _ _ cA ad g5151 a hW.2.1 hG) ⟨by decide, by decide⟩ rfl rfl hl.1 (Nat.le_of_ble_eq_true rfl) dX11_hummed_66 (fun v g5155 H locs hp hW1 => ?_)
            obtain ⟨r5154, rfl, hr5154, rfl⟩ := hp
            have hW : WS ad cA (fun i k => (i = 1 ∧ (k = 1))) g0 K g5151 H locs := ⟨hW1, hW.2.1, hW.2.2⟩
            refine q_aload_n hM dX11_hummed_69 (lv_at hl 0 rfl) ?_
            refine w_get (v := .ref (ad 3)) hM hW FG_X11_19 lb_0 (rf_0_1 hW.2.1) dX11_hummed_70 ?_
            refine w_getI hM hW FG_X11_116 lb_3 (by decide) (by decide) dX11_hummed_73 (fun x5156 fx5156 => ?_)
            have bx5156 := hG.f fx5156 rF_3_2 (by decide)
            refine q_callS (As := [.int r5154, .int x5156]) (rest := []) hM hW.1 hR hC myX11_areOf (kAW (v_3_4 (List.mem_of_getElem? (i := 6) rfl)) rfl) (c_X11_areOf _ _ cA ad g5151 r5154 x5156 hW.2.1) ⟨by decide, by decide⟩ rfl rfl hl.1 (Nat.le_of_ble_eq_true rfl) dX11_hummed_76 (fun v g5158 H locs hp hW1 => ?_)
            obtain ⟨r5157, rfl, hr5157, rfl⟩ := hp
            have hW : WS ad cA (fun i k => (i = 1 ∧ (k = 1))) g0 K g5151 H locs := ⟨hW1, hW.2.1, hW.2.2⟩
            refine q_if_ne (tgt := 85) hM dX11_hummed_79 (by decide) (rfl : r5157.toInt = r5157.toInt) (fun h79 => ?_) (fun h79 => ?_)
            · refine q_iconst (v := (1 : Int32)) hM dX11_hummed_85 (by decide) ?_
              refine q_istore (lv9 := [(4, .int (1 : Int32)), (0, .ref (ad 0)), (1, .int a), (2, .int b), (3, .int c)]) hM dX11_hummed_86 hl (by decide) rfl (fun ls hl => ?_)
              refine q_aload_n hM dX11_hummed_88 (lv_at hl 1 rfl) ?_
              refine w_get (v := .ref (ad 1)) hM hW FG_X11_10 lb_0 (rf_0_0 hW.2.1) dX11_hummed_89 ?_
              refine q_iload_n hM dX11_hummed_92 (lv_at hl 2 rfl) ?_
              refine q_callV (As := [.int a]) (rest := []) hM hW.1 hR hC myX10_asBits (kAW (v_3_14 (List.mem_of_getElem? (i := 0) rfl)) rfl) (rfl : vwCl[10]? = some (RX10, TX10, 2)) rfl lb_1.1 (shO hW.2.1 lb_1) (a_X10_asBits _ _ cA ad g5151 a hW.2.1 hG) ⟨by decide, by decide⟩ rfl rfl hl.1 (Nat.le_of_ble_eq_true rfl) dX11_hummed_93 (fun v g5161 H locs hp hW1 => ?_)
              obtain ⟨r5160, rfl, hr5160, rfl⟩ := hp
              have hW : WS ad cA (fun i k => (i = 1 ∧ (k = 1))) g0 K g5151 H locs := ⟨hW1, hW.2.1, hW.2.2⟩
              refine q_istore (lv9 := [(5, .int r5160), (4, .int (1 : Int32)), (0, .ref (ad 0)), (1, .int a), (2, .int b), (3, .int c)]) hM dX11_hummed_96 hl (by decide) rfl (fun ls hl => ?_)
              refine q_iconst (v := (1 : Int32)) hM dX11_hummed_98 (by decide) ?_
              refine q_istore (lv9 := [(6, .int (1 : Int32)), (5, .int r5160), (4, .int (1 : Int32)), (0, .ref (ad 0)), (1, .int a), (2, .int b), (3, .int c)]) hM dX11_hummed_99 hl (by decide) rfl (fun ls hl => ?_)
              have L101 : ∀ (fu101 : Nat) (w101_4 : Int32) (w101_5 : Int32) (w101_6 : Int32) (H : Heap) (locs : List Loc) (ls : Array Slot), (a.toInt - w101_6.toInt + 1).toNat < fu101 → (Rng g5151) → (1 ≤ w101_6.toInt) → lv_has ls 8 [(0, .ref (ad 0)), (1, .int a), (2, .int b), (3, .int c), (4, .int w101_4), (5, .int w101_5), (6, .int w101_6)] → WS ad cA (fun i k => (i = 1 ∧ (k = 1))) g0 K g5151 H locs → XX K 0 0 H locs 101 ls [] := by
                intro fu101
                induction fu101 with
                | zero => intro w101_4 w101_5 w101_6 H locs ls h0; omega
                | succ fu101 ih101 =>
                  intro w101_4 w101_5 w101_6 H locs ls hm101 i101_0 i101_1 hl hW
                  have hG := i101_0
                  have := i_rng a
                  refine q_iload hM dX11_hummed_101 (lv_at hl 6 rfl) ?_
                  refine q_iload_n hM dX11_hummed_103 (lv_at hl 1 rfl) ?_
                  refine q_icmp_ge (tgt := 175) hM dX11_hummed_104 (by decide) (rfl : w101_6.toInt = w101_6.toInt) (rfl : a.toInt = a.toInt) (fun h104 => ?_) (fun h104 => ?_)
                  · refine q_iload_n hM dX11_hummed_175 (lv_at hl 3 rfl) ?_
                    refine q_if_ne (tgt := 182) hM dX11_hummed_176 (by decide) (rfl : c.toInt = c.toInt) (fun h176 => ?_) (fun h176 => ?_)
                    · refine q_iload hM dX11_hummed_182 (lv_at hl 4 rfl) ?_
                      refine q_if_ne (tgt := 191) hM dX11_hummed_184 (by decide) (rfl : w101_4.toInt = w101_4.toInt) (fun h184 => ?_) (fun h184 => ?_)
                      · refine q_iload hM dX11_hummed_191 (lv_at hl 5 rfl) ?_
                        exact hE _ _ _ _ _ _ hW.1 ⟨_, rfl, hW.2.1, hG, hW.2.2⟩ dX11_hummed_193
                      · refine q_iconst (v := (0 : Int32)) hM dX11_hummed_187 (by decide) ?_
                        refine q_goto (tgt := 193) hM dX11_hummed_188 (by decide) ?_
                        exact hE _ _ _ _ _ _ hW.1 ⟨_, rfl, hW.2.1, hG, hW.2.2⟩ dX11_hummed_193
                    · refine q_iload hM dX11_hummed_179 (lv_at hl 4 rfl) ?_
                      exact hE _ _ _ _ _ _ hW.1 ⟨_, rfl, hW.2.1, hG, hW.2.2⟩ dX11_hummed_181
                  · refine q_aload_n hM dX11_hummed_107 (lv_at hl 0 rfl) ?_
                    refine w_get (v := .ref (ad 3)) hM hW FG_X11_19 lb_0 (rf_0_1 hW.2.1) dX11_hummed_108 ?_
                    refine q_aload_n hM dX11_hummed_111 (lv_at hl 0 rfl) ?_
                    refine w_get (v := .ref (ad 1)) hM hW FG_X11_10 lb_0 (rf_0_0 hW.2.1) dX11_hummed_112 ?_
                    refine w_get (v := .ref (ad 2)) hM hW FG_X11_58 lb_1 (rf_1_0 hW.2.1) dX11_hummed_115 ?_
                    refine q_iload hM dX11_hummed_118 (lv_at hl 6 rfl) ?_
                    refine q_iconst (v := (1 : Int32)) hM dX11_hummed_120 (by decide) ?_
                    refine q_isub hM dX11_hummed_121 (fun z5169 hz5169 => ?_)
                    first | have tz5169 := i_subT hz5169 (rfl : w101_6.toInt = w101_6.toInt) (kc_1 : (1 : Int32).toInt = 1) (by omega) (by omega) | skip
                    refine w_iald hM hW lb_2 (i_in (by omega) (by omega)) dX11_hummed_122 ?_
                    refine q_top (fun y5170 hy5170 => ?_)
                    have my5170 : y5170.toInt ≤ 11 := by rw [hy5170, f5152]; exact (hr5148.2 (by omega)) _ (by show ((z5169.toInt.toNat : Nat) : Int) < _; omega) (by show z5169.toInt.toNat < _; omega)
                    have by5170 := hG.a hy5170 rA_2
                    have cy5170 := congrArg Int32.toInt hy5170
                    refine q_aload_n hM dX11_hummed_123 (lv_at hl 0 rfl) ?_
                    refine w_get (v := .ref (ad 1)) hM hW FG_X11_10 lb_0 (rf_0_0 hW.2.1) dX11_hummed_124 ?_
                    refine w_get (v := .ref (ad 2)) hM hW FG_X11_58 lb_1 (rf_1_0 hW.2.1) dX11_hummed_127 ?_
                    refine q_iload hM dX11_hummed_130 (lv_at hl 6 rfl) ?_
                    refine w_iald hM hW lb_2 (i_in (by omega) (by omega)) dX11_hummed_132 ?_
                    refine q_top (fun y5171 hy5171 => ?_)
                    have my5171 : y5171.toInt ≤ 11 := by rw [hy5171, f5152]; exact (hr5148.2 (by omega)) _ (by show ((w101_6.toInt.toNat : Nat) : Int) < _; omega) (by show w101_6.toInt.toNat < _; omega)
                    have by5171 := hG.a hy5171 rA_2
                    have cy5171 := congrArg Int32.toInt hy5171
                    refine q_iload_n hM dX11_hummed_133 (lv_at hl 2 rfl) ?_
                    refine q_callV (As := [.int y5170, .int y5171, .int b]) (rest := []) hM hW.1 hR hC myX5_between (kAW (v_3_14 (List.mem_of_getElem? (i := 4) rfl)) rfl) (rfl : vwCl[5]? = some (RX5, TX5, 3)) rfl lb_3.1 (shO hW.2.1 lb_3) (a_X5_between _ _ cA ad g5151 y5170 y5171 b hW.2.1 hG (by  omega) (by  omega) (by  omega) (by  omega)) ⟨by decide, by decide⟩ rfl rfl hl.1 (Nat.le_of_ble_eq_true rfl) dX11_hummed_134 (fun v g5173 H locs hp hW1 => ?_)
                    obtain ⟨r5172, rfl, hr5172, rfl⟩ := hp
                    have hW : WS ad cA (fun i k => (i = 1 ∧ (k = 1))) g0 K g5151 H locs := ⟨hW1, hW.2.1, hW.2.2⟩
                    refine q_istore (lv9 := [(7, .int r5172), (0, .ref (ad 0)), (1, .int a), (2, .int b), (3, .int c), (4, .int w101_4), (5, .int w101_5), (6, .int w101_6)]) hM dX11_hummed_137 hl (by decide) rfl (fun ls hl => ?_)
                    refine q_iload hM dX11_hummed_139 (lv_at hl 5 rfl) ?_
                    refine q_iload hM dX11_hummed_141 (lv_at hl 0 rfl) ?_
                    refine q_callS (As := [.int r5172]) (rest := [.int w101_4]) hM hW.1 hR hC myJ6_bitCount_0f7a4 (kAW (v_3_1 (List.mem_of_getElem? (i := 2) rfl)) rfl) (c_J6_bitCount_0f7a4 _ _ cA ad g5151 r5172 hW.2.1) ⟨by decide, by decide⟩ rfl rfl hl.1 (Nat.le_of_ble_eq_true rfl) dX11_hummed_143 (fun v g5175 H locs hp hW1 => ?_)
                    obtain ⟨r5174, rfl, hr5174, rfl⟩ := hp
                    have hW : WS ad cA (fun i k => (i = 1 ∧ (k = 1))) g0 K g5151 H locs := ⟨hW1, hW.2.1, hW.2.2⟩
                    refine q_imul hM dX11_hummed_146 (fun z5176 hz5176 => ?_)
                    first | have tz5176 := i_mulT hz5176 (rfl : w101_4.toInt = w101_4.toInt) (rfl : r5174.toInt = r5174.toInt) (by omega) (by omega) | skip
                    refine q_istore (lv9 := [(4, .int z5176), (7, .int r5172), (0, .ref (ad 0)), (1, .int a), (2, .int b), (3, .int c), (5, .int w101_5), (6, .int w101_6)]) hM dX11_hummed_147 hl (by decide) rfl (fun ls hl => ?_)
                    refine q_iload hM dX11_hummed_149 (lv_at hl 1 rfl) ?_
                    refine q_callS (As := [.int r5172]) (rest := []) hM hW.1 hR hC myJ6_bitCount_0f7a4 (kAW (v_3_1 (List.mem_of_getElem? (i := 2) rfl)) rfl) (c_J6_bitCount_0f7a4 _ _ cA ad g5151 r5172 hW.2.1) ⟨by decide, by decide⟩ rfl rfl hl.1 (Nat.le_of_ble_eq_true rfl) dX11_hummed_151 (fun v g5178 H locs hp hW1 => ?_)
                    obtain ⟨r5177, rfl, hr5177, rfl⟩ := hp
                    have hW : WS ad cA (fun i k => (i = 1 ∧ (k = 1))) g0 K g5151 H locs := ⟨hW1, hW.2.1, hW.2.2⟩
                    refine q_iconst (v := (1 : Int32)) hM dX11_hummed_154 (by decide) ?_
                    refine q_icmp_ne (tgt := 169) hM dX11_hummed_155 (by decide) (rfl : r5177.toInt = r5177.toInt) (kc_1 : (1 : Int32).toInt = 1) (fun h155 => ?_) (fun h155 => ?_)
                    · refine q_iinc (lv9 := fun z5180 => [(6, .int z5180), (4, .int z5176), (7, .int r5172), (0, .ref (ad 0)), (1, .int a), (2, .int b), (3, .int c), (5, .int w101_5)]) hM dX11_hummed_169 hl (kq := 7) rfl (by decide) (fun _ => rfl) (fun z5180 ls hz5180 hl => ?_)
                      first | have tz5180 := i_addT hz5180 (rfl : w101_6.toInt = w101_6.toInt) (kc_1 : (Int32.ofInt 1).toInt = 1) (by omega) (by omega) | skip
                      refine q_goto (tgt := 101) hM dX11_hummed_172 (by decide) ?_
                      exact ih101 z5176 w101_5 z5180 _ _ _ (by omega) hG (by omega) (lv_sub hl [3, 4, 5, 6, 1, 7, 0] rfl) hW
                    · refine q_iload hM dX11_hummed_158 (lv_at hl 6 rfl) ?_
                      refine q_iload hM dX11_hummed_160 (lv_at hl 1 rfl) ?_
                      refine q_sipush (v := ((-4097) : Int32)) hM dX11_hummed_162 (by decide) ?_
                      refine q_iand hM dX11_hummed_165 (fun z5182 hz5182 => ?_)
                      refine q_ior hM dX11_hummed_166 (fun z5183 hz5183 => ?_)
                      refine q_istore (lv9 := [(5, .int z5183), (4, .int z5176), (7, .int r5172), (0, .ref (ad 0)), (1, .int a), (2, .int b), (3, .int c), (6, .int w101_6)]) hM dX11_hummed_167 hl (by decide) rfl (fun ls hl => ?_)
                      refine q_iinc (lv9 := fun z5184 => [(6, .int z5184), (5, .int z5183), (4, .int z5176), (7, .int r5172), (0, .ref (ad 0)), (1, .int a), (2, .int b), (3, .int c)]) hM dX11_hummed_169 hl (kq := 7) rfl (by decide) (fun _ => rfl) (fun z5184 ls hz5184 hl => ?_)
                      first | have tz5184 := i_addT hz5184 (rfl : w101_6.toInt = w101_6.toInt) (kc_1 : (Int32.ofInt 1).toInt = 1) (by omega) (by omega) | skip
                      refine q_goto (tgt := 101) hM dX11_hummed_172 (by decide) ?_
                      exact ih101 z5176 z5183 z5184 _ _ _ (by omega) hG (by omega) (lv_sub hl [4, 5, 6, 7, 2, 1, 0] rfl) hW
              have := kc_1
              have := kc_1
              exact L101 _ (1 : Int32) r5160 (1 : Int32) _ _ _ (Nat.lt_succ_self _) hG (by omega) (lv_sub hl [3, 4, 5, 6, 2, 1, 0] rfl) hW
            · refine q_bipush (v := ((-2) : Int32)) hM dX11_hummed_82 (by decide) ?_
              exact hE _ _ _ _ _ _ hW.1 ⟨_, rfl, hW.2.1, hG, hW.2.2⟩ dX11_hummed_84
          · refine q_iconst (v := ((-1) : Int32)) hM dX11_hummed_51 (by decide) ?_
            exact hE _ _ _ _ _ _ hW.1 ⟨_, rfl, hW.2.1, hG, hW.2.2⟩ dX11_hummed_52

theorem dX11_odds_0 : decode cX11_odds 0 = .ok (.aload_n 0, 1) := by decide +kernel
theorem dX11_odds_1 : decode cX11_odds 1 = .ok (.getfield 26, 3) := by decide +kernel
theorem dX11_odds_4 : decode cX11_odds 4 = .ok (.getfield 135, 3) := by decide +kernel
theorem dX11_odds_7 : decode cX11_odds 7 = .ok (.iload_n 1, 1) := by decide +kernel
theorem dX11_odds_8 : decode cX11_odds 8 = .ok (.invokestatic 123, 3) := by decide +kernel
theorem dX11_odds_11 : decode cX11_odds 11 = .ok (.ifCond .eq 46, 3) := by decide +kernel
theorem dX11_odds_14 : decode cX11_odds 14 = .ok (.iload_n 2, 1) := by decide +kernel
theorem dX11_odds_15 : decode cX11_odds 15 = .ok (.aload_n 0, 1) := by decide +kernel
theorem dX11_odds_16 : decode cX11_odds 16 = .ok (.getfield 19, 3) := by decide +kernel
theorem dX11_odds_19 : decode cX11_odds 19 = .ok (.getfield 116, 3) := by decide +kernel
theorem dX11_odds_22 : decode cX11_odds 22 = .ok (.invokestatic 227, 3) := by decide +kernel
theorem dX11_odds_25 : decode cX11_odds 25 = .ok (.ifCond .eq 32, 3) := by decide +kernel
theorem dX11_odds_28 : decode cX11_odds 28 = .ok (.iload_n 2, 1) := by decide +kernel
theorem dX11_odds_29 : decode cX11_odds 29 = .ok (.invokestatic 206, 3) := by decide +kernel
theorem dX11_odds_32 : decode cX11_odds 32 = .ok (.bipush 8, 2) := by decide +kernel
theorem dX11_odds_34 : decode cX11_odds 34 = .ok (.if_icmp .gt 23, 3) := by decide +kernel
theorem dX11_odds_37 : decode cX11_odds 37 = .ok (.iload_n 3, 1) := by decide +kernel
theorem dX11_odds_38 : decode cX11_odds 38 = .ok (.iconst 0, 1) := by decide +kernel
theorem dX11_odds_39 : decode cX11_odds 39 = .ok (.bipush 12, 2) := by decide +kernel
theorem dX11_odds_41 : decode cX11_odds 41 = .ok (.invokestatic 112, 3) := by decide +kernel
theorem dX11_odds_44 : decode cX11_odds 44 = .ok (.ifCond .eq 13, 3) := by decide +kernel
theorem dX11_odds_47 : decode cX11_odds 47 = .ok (.iload 4, 2) := by decide +kernel
theorem dX11_odds_49 : decode cX11_odds 49 = .ok (.iconst 0, 1) := by decide +kernel
theorem dX11_odds_50 : decode cX11_odds 50 = .ok (.iconst 1, 1) := by decide +kernel
theorem dX11_odds_51 : decode cX11_odds 51 = .ok (.invokestatic 112, 3) := by decide +kernel
theorem dX11_odds_54 : decode cX11_odds 54 = .ok (.ifCond .ne 5, 3) := by decide +kernel
theorem dX11_odds_57 : decode cX11_odds 57 = .ok (.iconst (-1), 1) := by decide +kernel
theorem dX11_odds_58 : decode cX11_odds 58 = .ok (.ireturn, 1) := by decide +kernel
theorem dX11_odds_59 : decode cX11_odds 59 = .ok (.aload_n 0, 1) := by decide +kernel
theorem dX11_odds_60 : decode cX11_odds 60 = .ok (.getfield 104, 3) := by decide +kernel
theorem dX11_odds_63 : decode cX11_odds 63 = .ok (.invokevirtual 295, 3) := by decide +kernel
theorem dX11_odds_66 : decode cX11_odds 66 = .ok (.iconst 0, 1) := by decide +kernel
theorem dX11_odds_67 : decode cX11_odds 67 = .ok (.istore 5, 2) := by decide +kernel
theorem dX11_odds_69 : decode cX11_odds 69 = .ok (.iload 5, 2) := by decide +kernel
theorem dX11_odds_71 : decode cX11_odds 71 = .ok (.bipush 12, 2) := by decide +kernel
theorem dX11_odds_73 : decode cX11_odds 73 = .ok (.if_icmp .ge 40, 3) := by decide +kernel
theorem dX11_odds_76 : decode cX11_odds 76 = .ok (.iload_n 2, 1) := by decide +kernel
theorem dX11_odds_77 : decode cX11_odds 77 = .ok (.iload 5, 2) := by decide +kernel
theorem dX11_odds_79 : decode cX11_odds 79 = .ok (.invokestatic 123, 3) := by decide +kernel
theorem dX11_odds_82 : decode cX11_odds 82 = .ok (.ifCond .eq 25, 3) := by decide +kernel
theorem dX11_odds_85 : decode cX11_odds 85 = .ok (.aload_n 0, 1) := by decide +kernel
theorem dX11_odds_86 : decode cX11_odds 86 = .ok (.getfield 104, 3) := by decide +kernel
theorem dX11_odds_89 : decode cX11_odds 89 = .ok (.aload_n 0, 1) := by decide +kernel
theorem dX11_odds_90 : decode cX11_odds 90 = .ok (.getfield 26, 3) := by decide +kernel
theorem dX11_odds_93 : decode cX11_odds 93 = .ok (.getfield 136, 3) := by decide +kernel
theorem dX11_odds_96 : decode cX11_odds 96 = .ok (.iload_n 1, 1) := by decide +kernel
theorem dX11_odds_97 : decode cX11_odds 97 = .ok (.aaload, 1) := by decide +kernel
theorem dX11_odds_98 : decode cX11_odds 98 = .ok (.iload 5, 2) := by decide +kernel
theorem dX11_odds_100 : decode cX11_odds 100 = .ok (.iaload, 1) := by decide +kernel
theorem dX11_odds_101 : decode cX11_odds 101 = .ok (.invokestatic 297, 3) := by decide +kernel
theorem dX11_odds_104 : decode cX11_odds 104 = .ok (.invokevirtual 300, 3) := by decide +kernel
theorem dX11_odds_107 : decode cX11_odds 107 = .ok (.iinc 5 1, 3) := by decide +kernel
theorem dX11_odds_110 : decode cX11_odds 110 = .ok (.goto (-41), 3) := by decide +kernel
theorem dX11_odds_113 : decode cX11_odds 113 = .ok (.aload_n 0, 1) := by decide +kernel
theorem dX11_odds_114 : decode cX11_odds 114 = .ok (.getfield 104, 3) := by decide +kernel
theorem dX11_odds_117 : decode cX11_odds 117 = .ok (.iload_n 3, 1) := by decide +kernel
theorem dX11_odds_118 : decode cX11_odds 118 = .ok (.invokevirtual 303, 3) := by decide +kernel
theorem dX11_odds_121 : decode cX11_odds 121 = .ok (.iload 4, 2) := by decide +kernel
theorem dX11_odds_123 : decode cX11_odds 123 = .ok (.ifCond .ne 13, 3) := by decide +kernel
theorem dX11_odds_126 : decode cX11_odds 126 = .ok (.aload_n 0, 1) := by decide +kernel
theorem dX11_odds_127 : decode cX11_odds 127 = .ok (.getfield 104, 3) := by decide +kernel
theorem dX11_odds_130 : decode cX11_odds 130 = .ok (.getfield 306, 3) := by decide +kernel
theorem dX11_odds_133 : decode cX11_odds 133 = .ok (.goto 10, 3) := by decide +kernel
theorem dX11_odds_136 : decode cX11_odds 136 = .ok (.aload_n 0, 1) := by decide +kernel
theorem dX11_odds_137 : decode cX11_odds 137 = .ok (.getfield 104, 3) := by decide +kernel
theorem dX11_odds_140 : decode cX11_odds 140 = .ok (.getfield 309, 3) := by decide +kernel
theorem dX11_odds_143 : decode cX11_odds 143 = .ok (.ireturn, 1) := by decide +kernel
theorem FG_X11_104 : FG RX11 104 11 16 5 := ⟨RX11, TX11, rfl, wX11, by decide, kAW (v_1_7 (List.mem_of_getElem? (i := 1) rfl)) rfl, rfl⟩
theorem myX6_begin : MI yX6_begin cX6_begin 2 none 0 := ⟨kAW (v_3_14 (List.mem_of_getElem? (i := 15) rfl)) rfl, kAW (v_0_0 (List.mem_of_getElem? (i := 12) rfl)) rfl, kAW (v_3_14 (List.mem_of_getElem? (i := 13) rfl)) rfl, kAW (v_3_14 (List.mem_of_getElem? (i := 14) rfl)) rfl, by decide, by decide, by decide +kernel⟩
theorem myX6_shorten : MI yX6_shorten cX6_shorten 3 none 1 := ⟨kAW (v_4_0 (List.mem_of_getElem? (i := 8) rfl)) rfl, kAW (v_0_0 (List.mem_of_getElem? (i := 12) rfl)) rfl, kAW (v_4_0 (List.mem_of_getElem? (i := 6) rfl)) rfl, kAW (v_4_0 (List.mem_of_getElem? (i := 7) rfl)) rfl, by decide, by decide, by decide +kernel⟩
theorem FG_X11_309 : FG RX11 309 6 4 3 := ⟨RX6, TX6, rfl, wX6, by decide, kAW (v_1_6 (List.mem_of_getElem? (i := 2) rfl)) rfl, rfl⟩
theorem FG_X11_306 : FG RX11 306 6 4 2 := ⟨RX6, TX6, rfl, wX6, by decide, kAW (v_1_6 (List.mem_of_getElem? (i := 0) rfl)) rfl, rfl⟩
theorem myX6_ask : MI yX6_ask cX6_ask 4 none 1 := ⟨kAW (v_4_0 (List.mem_of_getElem? (i := 4) rfl)) rfl, kAW (v_0_0 (List.mem_of_getElem? (i := 12) rfl)) rfl, kAW (v_4_0 (List.mem_of_getElem? (i := 2) rfl)) rfl, kAW (v_4_0 (List.mem_of_getElem? (i := 3) rfl)) rfl, by decide, by decide, by decide +kernel⟩
set_option maxRecDepth 100000 in
set_option maxHeartbeats 4000000 in
theorem p_X11_odds (l : Launch) (D : va_G) (cA : Nat → ClassId) (ad : Nat → Nat) (g0 : Nat → va_E) (a : Int32) (b : Int32) (c : Int32) (d : Int32)   (hSh : Shp ad cA g0) (hG : Rng g0) : CT l NN ad cA D yX11_odds cX11_odds 6 (some FieldType.int) (2, 43) [.ref (ad 0), .int a, .int b, .int c, .int d] g0 (fun v g' => ∃ (r : Int32), v = some (.int r) ∧ Shp ad cA g' ∧ Rng g' ∧ FR (fun i k => (i = 127 ∧ (k = 1 ∨ k = 2 ∨ k = 3)) ∨ i = 128) g0 g') := by
  refine q_enterI (by decide) (Nat.le_of_ble_eq_true rfl) rfl (fun K H locs ls _ _ hM hW0 hR hC hE hl => ?_)
  have hl : lv_has ls 6 [(0, .ref (ad 0)), (1, .int a), (2, .int b), (3, .int c), (4, .int d)] := hl
  have hW : WS ad cA (fun i k => (i = 127 ∧ (k = 1 ∨ k = 2 ∨ k = 3)) ∨ i = 128) g0 K g0 H locs := ⟨hW0, hSh, FR.rf⟩
  have := kc_0
  have := kc_1
  have := kc_m1
  have := kc_m2
  refine q_aload_n hM dX11_odds_0 (lv_at hl 0 rfl) ?_
  refine w_get (v := .ref (ad 18)) hM hW FG_X11_26 lb_0 (rf_0_10 hW.2.1) dX11_odds_1 ?_
  refine w_getI hM hW FG_X11_135 lb_18 (by decide) (by decide) dX11_odds_4 (fun x5187 fx5187 => ?_)
  have bx5187 := hG.f fx5187 rF_18_3 (by decide)
  refine q_iload_n hM dX11_odds_7 (lv_at hl 1 rfl) ?_
  refine q_callS (As := [.int x5187, .int a]) (rest := []) hM hW.1 hR hC myX11_has (kAW (v_1_10 (List.mem_of_getElem? (i := 8) rfl)) rfl) (c_X11_has _ _ cA ad g0 x5187 a hW.2.1) ⟨by decide, by decide⟩ rfl rfl hl.1 (Nat.le_of_ble_eq_true rfl) dX11_odds_8 (fun v g5189 H locs hp hW1 => ?_)
  obtain ⟨r5188, rfl, hr5188, rfl⟩ := hp
  have hW : WS ad cA (fun i k => (i = 127 ∧ (k = 1 ∨ k = 2 ∨ k = 3)) ∨ i = 128) g0 K g0 H locs := ⟨hW1, hW.2.1, hW.2.2⟩
  first | have ltr5188 := has_lt 5 hr5188 (by omega) (by omega) | have ltr5188 := has_lt 6 hr5188 (by omega) (by omega) | have ltr5188 := has_lt 8 hr5188 (by omega) (by omega) | have ltr5188 := has_lt 12 hr5188 (by omega) (by omega) | skip
  refine q_if_eq (tgt := 57) hM dX11_odds_11 (by decide) (rfl : r5188.toInt = r5188.toInt) (fun h11 => ?_) (fun h11 => ?_)
  · refine q_iconst (v := ((-1) : Int32)) hM dX11_odds_57 (by decide) ?_
    exact hE _ _ _ _ _ _ hW.1 ⟨_, rfl, hW.2.1, hG, hW.2.2⟩ dX11_odds_58
  · refine q_iload_n hM dX11_odds_14 (lv_at hl 2 rfl) ?_
    refine q_aload_n hM dX11_odds_15 (lv_at hl 0 rfl) ?_
    refine w_get (v := .ref (ad 3)) hM hW FG_X11_19 lb_0 (rf_0_1 hW.2.1) dX11_odds_16 ?_
    refine w_getI hM hW FG_X11_116 lb_3 (by decide) (by decide) dX11_odds_19 (fun x5192 fx5192 => ?_)
    have bx5192 := hG.f fx5192 rF_3_2 (by decide)
    refine q_callS (As := [.int b, .int x5192]) (rest := []) hM hW.1 hR hC myX11_areOf (kAW (v_3_4 (List.mem_of_getElem? (i := 6) rfl)) rfl) (c_X11_areOf _ _ cA ad g0 b x5192 hW.2.1) ⟨by decide, by decide⟩ rfl rfl hl.1 (Nat.le_of_ble_eq_true rfl) dX11_odds_22 (fun v g5194 H locs hp hW1 => ?_)
    obtain ⟨r5193, rfl, hr5193, rfl⟩ := hp
    have hW : WS ad cA (fun i k => (i = 127 ∧ (k = 1 ∨ k = 2 ∨ k = 3)) ∨ i = 128) g0 K g0 H locs := ⟨hW1, hW.2.1, hW.2.2⟩
    refine q_if_eq (tgt := 57) hM dX11_odds_25 (by decide) (rfl : r5193.toInt = r5193.toInt) (fun h25 => ?_) (fun h25 => ?_)
    · refine q_iconst (v := ((-1) : Int32)) hM dX11_odds_57 (by decide) ?_
      exact hE _ _ _ _ _ _ hW.1 ⟨_, rfl, hW.2.1, hG, hW.2.2⟩ dX11_odds_58
    · refine q_iload_n hM dX11_odds_28 (lv_at hl 2 rfl) ?_
      refine q_callS (As := [.int b]) (rest := []) hM hW.1 hR hC myJ6_bitCount_0f7a4 (kAW (v_3_1 (List.mem_of_getElem? (i := 2) rfl)) rfl) (c_J6_bitCount_0f7a4 _ _ cA ad g0 b hW.2.1) ⟨by decide, by decide⟩ rfl rfl hl.1 (Nat.le_of_ble_eq_true rfl) dX11_odds_29 (fun v g5198 H locs hp hW1 => ?_)
      obtain ⟨r5197, rfl, hr5197, rfl⟩ := hp
      have hW : WS ad cA (fun i k => (i = 127 ∧ (k = 1 ∨ k = 2 ∨ k = 3)) ∨ i = 128) g0 K g0 H locs := ⟨hW1, hW.2.1, hW.2.2⟩
      refine q_bipush (v := (8 : Int32)) hM dX11_odds_32 (by decide) ?_
      refine q_icmp_gt (tgt := 57) hM dX11_odds_34 (by decide) (rfl : r5197.toInt = r5197.toInt) (kc_8 : (8 : Int32).toInt = 8) (fun h34 => ?_) (fun h34 => ?_)
      · refine q_iconst (v := ((-1) : Int32)) hM dX11_odds_57 (by decide) ?_
        exact hE _ _ _ _ _ _ hW.1 ⟨_, rfl, hW.2.1, hG, hW.2.2⟩ dX11_odds_58
      · refine q_iload_n hM dX11_odds_37 (lv_at hl 3 rfl) ?_
        refine q_iconst (v := (0 : Int32)) hM dX11_odds_38 (by decide) ?_
        refine q_bipush (v := (12 : Int32)) hM dX11_odds_39 (by decide) ?_
        refine q_callS (As := [.int c, .int (0 : Int32), .int (12 : Int32)]) (rest := []) hM hW.1 hR hC myX11_within (kAW (v_1_10 (List.mem_of_getElem? (i := 1) rfl)) rfl) (c_X11_within _ _ cA ad g0 c (0 : Int32) (12 : Int32) hW.2.1) ⟨by decide, by decide⟩ rfl rfl hl.1 (Nat.le_of_ble_eq_true rfl) dX11_odds_41 (fun v g5202 H locs hp hW1 => ?_)
        obtain ⟨r5201, rfl, hr5201, rfl⟩ := hp
        have hW : WS ad cA (fun i k => (i = 127 ∧ (k = 1 ∨ k = 2 ∨ k = 3)) ∨ i = 128) g0 K g0 H locs := ⟨hW1, hW.2.1, hW.2.2⟩
        have := kc_0
        have := kc_12
        refine q_if_eq (tgt := 57) hM dX11_odds_44 (by decide) (rfl : r5201.toInt = r5201.toInt) (fun h44 => ?_) (fun h44 => ?_)
        · refine q_iconst (v := ((-1) : Int32)) hM dX11_odds_57 (by decide) ?_
          exact hE _ _ _ _ _ _ hW.1 ⟨_, rfl, hW.2.1, hG, hW.2.2⟩ dX11_odds_58
        · refine q_iload hM dX11_odds_47 (lv_at hl 4 rfl) ?_
          refine q_iconst (v := (0 : Int32)) hM dX11_odds_49 (by decide) ?_
          refine q_iconst (v := (1 : Int32)) hM dX11_odds_50 (by decide) ?_
          refine q_callS (As := [.int d, .int (0 : Int32), .int (1 : Int32)]) (rest := []) hM hW.1 hR hC myX11_within (kAW (v_1_10 (List.mem_of_getElem? (i := 1) rfl)) rfl) (c_X11_within _ _ cA ad g0 d (0 : Int32) (1 : Int32) hW.2.1) ⟨by decide, by decide⟩ rfl rfl hl.1 (Nat.le_of_ble_eq_true rfl) dX11_odds_51 (fun v g5206 H locs hp hW1 => ?_)
          obtain ⟨r5205, rfl, hr5205, rfl⟩ := hp
          have hW : WS ad cA (fun i k => (i = 127 ∧ (k = 1 ∨ k = 2 ∨ k = 3)) ∨ i = 128) g0 K g0 H locs := ⟨hW1, hW.2.1, hW.2.2⟩
          have := kc_0
          have := kc_1
          refine q_if_ne (tgt := 59) hM dX11_odds_54 (by decide) (rfl : r5205.toInt = r5205.toInt) (fun h54 => ?_) (fun h54 => ?_)
          · refine q_aload_n hM dX11_odds_59 (lv_at hl 0 rfl) ?_
            refine w_get (v := .ref (ad 127)) hM hW FG_X11_104 lb_0 (rf_0_5 hW.2.1) dX11_odds_60 ?_
            refine q_callV (As := []) (rest := []) hM hW.1 hR hC myX6_begin (kAW (v_3_14 (List.mem_of_getElem? (i := 12) rfl)) rfl) (rfl : vwCl[6]? = some (RX6, TX6, 4)) rfl lb_127.1 (shO hW.2.1 lb_127) (a_X6_begin _ _ cA ad g0  hW.2.1 hG) ⟨by decide, by decide⟩ rfl rfl hl.1 (Nat.le_of_ble_eq_true rfl) dX11_odds_63 (fun v g5208 H locs hp hW1 => ?_)
            obtain ⟨rfl, hs1, hG, hf1⟩ := hp
            have f5209 : fld g5208 18 3 = .int x5187 := (hf1.1 18 3 (by omega)).trans fx5187
            have f5210 : fld g5208 3 2 = .int x5192 := (hf1.1 3 2 (by omega)).trans fx5192
            have hW : WS ad cA (fun i k => (i = 127 ∧ (k = 1 ∨ k = 2 ∨ k = 3)) ∨ i = 128) g0 K g5208 H locs := ⟨hW1, hs1, hW.2.2.tr hf1 (fun i k h => h.elim (fun h => (Or.inl h)) (fun h => (Or.inr h)))⟩
            refine q_iconst (v := (0 : Int32)) hM dX11_odds_66 (by decide) ?_
            refine q_istore (lv9 := [(5, .int (0 : Int32)), (0, .ref (ad 0)), (1, .int a), (2, .int b), (3, .int c), (4, .int d)]) hM dX11_odds_67 hl (by decide) rfl (fun ls hl => ?_)
            have L69 : ∀ (fu69 : Nat) (w69_5 : Int32) (g9 : Nat → va_E) (H : Heap) (locs : List Loc) (ls : Array Slot), (12 - w69_5.toInt).toNat < fu69 → (Rng g9) → (0 ≤ w69_5.toInt) → (w69_5.toInt ≤ 12) → lv_has ls 6 [(0, .ref (ad 0)), (1, .int a), (2, .int b), (3, .int c), (4, .int d), (5, .int w69_5)] → WS ad cA (fun i k => (i = 127 ∧ (k = 1 ∨ k = 2 ∨ k = 3)) ∨ i = 128) g0 K g9 H locs → XX K 0 0 H locs 69 ls [] := by
              intro fu69
              induction fu69 with
              | zero => intro w69_5 g9 H locs ls h0; omega
              | succ fu69 ih69 =>
                intro w69_5 g9 H locs ls hm69 i69_0 i69_1 i69_2 hl hW
                have hG := i69_0
                refine q_iload hM dX11_odds_69 (lv_at hl 5 rfl) ?_
                refine q_bipush (v := (12 : Int32)) hM dX11_odds_71 (by decide) ?_
                refine q_icmp_ge (tgt := 113) hM dX11_odds_73 (by decide) (rfl : w69_5.toInt = w69_5.toInt) (kc_12 : (12 : Int32).toInt = 12) (fun h73 => ?_) (fun h73 => ?_)
                · refine q_aload_n hM dX11_odds_113 (lv_at hl 0 rfl) ?_
                  refine w_get (v := .ref (ad 127)) hM hW FG_X11_104 lb_0 (rf_0_5 hW.2.1) dX11_odds_114 ?_
                  refine q_iload_n hM dX11_odds_117 (lv_at hl 3 rfl) ?_
                  refine q_callV (As := [.int c]) (rest := []) hM hW.1 hR hC myX6_shorten (kAW (v_4_0 (List.mem_of_getElem? (i := 5) rfl)) rfl) (rfl : vwCl[6]? = some (RX6, TX6, 4)) rfl lb_127.1 (shO hW.2.1 lb_127) (a_X6_shorten _ _ cA ad g9 c hW.2.1 hG) ⟨by decide, by decide⟩ rfl rfl hl.1 (Nat.le_of_ble_eq_true rfl) dX11_odds_118 (fun v g5213 H locs hp hW1 => ?_)
                  obtain ⟨rfl, hs1, hG, hf1⟩ := hp
                  have hW : WS ad cA (fun i k => (i = 127 ∧ (k = 1 ∨ k = 2 ∨ k = 3)) ∨ i = 128) g0 K g5213 H locs := ⟨hW1, hs1, hW.2.2.tr hf1 (fun i k h => (Or.inl (by omega)))⟩
                  refine q_iload hM dX11_odds_121 (lv_at hl 4 rfl) ?_
                  refine q_if_ne (tgt := 136) hM dX11_odds_123 (by decide) (rfl : d.toInt = d.toInt) (fun h123 => ?_) (fun h123 => ?_)
                  · refine q_aload_n hM dX11_odds_136 (lv_at hl 0 rfl) ?_
                    refine w_get (v := .ref (ad 127)) hM hW FG_X11_104 lb_0 (rf_0_5 hW.2.1) dX11_odds_137 ?_
                    refine w_getI hM hW FG_X11_309 lb_127 (by decide) (by decide) dX11_odds_140 (fun x5215 fx5215 => ?_)
                    exact hE _ _ _ _ _ _ hW.1 ⟨_, rfl, hW.2.1, hG, hW.2.2⟩ dX11_odds_143
                  · refine q_aload_n hM dX11_odds_126 (lv_at hl 0 rfl) ?_
                    refine w_get (v := .ref (ad 127)) hM hW FG_X11_104 lb_0 (rf_0_5 hW.2.1) dX11_odds_127 ?_
                    refine w_getI hM hW FG_X11_306 lb_127 (by decide) (by decide) dX11_odds_130 (fun x5217 fx5217 => ?_)
                    refine q_goto (tgt := 143) hM dX11_odds_133 (by decide) ?_
                    exact hE _ _ _ _ _ _ hW.1 ⟨_, rfl, hW.2.1, hG, hW.2.2⟩ dX11_odds_143
                · refine q_iload_n hM dX11_odds_76 (lv_at hl 2 rfl) ?_
                  refine q_iload hM dX11_odds_77 (lv_at hl 5 rfl) ?_
                  refine q_callS (As := [.int b, .int w69_5]) (rest := []) hM hW.1 hR hC myX11_has (kAW (v_1_10 (List.mem_of_getElem? (i := 8) rfl)) rfl) (c_X11_has _ _ cA ad g9 b w69_5 hW.2.1) ⟨by decide, by decide⟩ rfl rfl hl.1 (Nat.le_of_ble_eq_true rfl) dX11_odds_79 (fun v g5220 H locs hp hW1 => ?_)
                  obtain ⟨r5219, rfl, hr5219, rfl⟩ := hp
                  have hW : WS ad cA (fun i k => (i = 127 ∧ (k = 1 ∨ k = 2 ∨ k = 3)) ∨ i = 128) g0 K g9 H locs := ⟨hW1, hW.2.1, hW.2.2⟩
                  first | have ltr5219 := has_lt 5 hr5219 (by omega) (by omega) | have ltr5219 := has_lt 6 hr5219 (by omega) (by omega) | have ltr5219 := has_lt 8 hr5219 (by omega) (by omega) | have ltr5219 := has_lt 12 hr5219 (by omega) (by omega) | skip
                  refine q_if_eq (tgt := 107) hM dX11_odds_82 (by decide) (rfl : r5219.toInt = r5219.toInt) (fun h82 => ?_) (fun h82 => ?_)
                  · refine q_iinc (lv9 := fun z5222 => [(5, .int z5222), (0, .ref (ad 0)), (1, .int a), (2, .int b), (3, .int c), (4, .int d)]) hM dX11_odds_107 hl (kq := 5) rfl (by decide) (fun _ => rfl) (fun z5222 ls hz5222 hl => ?_)
                    first | have tz5222 := i_addT hz5222 (rfl : w69_5.toInt = w69_5.toInt) (kc_1 : (Int32.ofInt 1).toInt = 1) (by omega) (by omega) | skip
                    refine q_goto (tgt := 69) hM dX11_odds_110 (by decide) ?_
                    exact ih69 z5222 _ _ _ _ (by omega) hG (by omega) (by omega) (lv_sub hl [1, 2, 3, 4, 5, 0] rfl) hW
                  · refine q_aload_n hM dX11_odds_85 (lv_at hl 0 rfl) ?_
                    refine w_get (v := .ref (ad 127)) hM hW FG_X11_104 lb_0 (rf_0_5 hW.2.1) dX11_odds_86 ?_
                    refine q_aload_n hM dX11_odds_89 (lv_at hl 0 rfl) ?_
                    refine w_get (v := .ref (ad 18)) hM hW FG_X11_26 lb_0 (rf_0_10 hW.2.1) dX11_odds_90 ?_
                    refine w_get (v := .ref (ad 21)) hM hW FG_X11_136 lb_18 (rf_18_2 hW.2.1) dX11_odds_93 ?_
                    refine q_iload_n hM dX11_odds_96 (lv_at hl 1 rfl) ?_
                    refine w_aald hM hW lb_21 (Or.inl rfl) (i_in (by omega) (by omega)) (aq (aq_21 hW.2.1) (by omega) (by omega)) dX11_odds_97 ?_
                    refine q_iload hM dX11_odds_98 (lv_at hl 5 rfl) ?_
                    refine w_iald hM hW (lr_22 (by omega)) (i_in (by omega) (by omega)) dX11_odds_100 ?_
                    refine q_top (fun y5224 hy5224 => ?_)
                    refine q_callS (As := [.int y5224]) (rest := [.ref (ad 127)]) hM hW.1 hR hC myX11_tenths (kAW (v_4_0 (List.mem_of_getElem? (i := 0) rfl)) rfl) (a_X11_tenths _ _ cA ad g9 y5224 hW.2.1 hG) ⟨by decide, by decide⟩ rfl rfl hl.1 (Nat.le_of_ble_eq_true rfl) dX11_odds_101 (fun v g5226 H locs hp hW1 => ?_)
                    obtain ⟨r5225, rfl, hr5225, rfl⟩ := hp
                    have hW : WS ad cA (fun i k => (i = 127 ∧ (k = 1 ∨ k = 2 ∨ k = 3)) ∨ i = 128) g0 K g9 H locs := ⟨hW1, hW.2.1, hW.2.2⟩
                    refine q_callV (As := [.int r5225]) (rest := []) hM hW.1 hR hC myX6_ask (kAW (v_4_0 (List.mem_of_getElem? (i := 1) rfl)) rfl) (rfl : vwCl[6]? = some (RX6, TX6, 4)) rfl lb_127.1 (shO hW.2.1 lb_127) (a_X6_ask _ _ cA ad g9 r5225 hW.2.1 hG) ⟨by decide, by decide⟩ rfl rfl hl.1 (Nat.le_of_ble_eq_true rfl) dX11_odds_104 (fun v g5227 H locs hp hW1 => ?_)
                    obtain ⟨rfl, hs1, hG, hf1⟩ := hp
                    have hW : WS ad cA (fun i k => (i = 127 ∧ (k = 1 ∨ k = 2 ∨ k = 3)) ∨ i = 128) g0 K g5227 H locs := ⟨hW1, hs1, hW.2.2.tr hf1 (fun i k h => h.elim (fun h => (Or.inl (by omega))) (fun h => (Or.inr h)))⟩
                    refine q_iinc (lv9 := fun z5228 => [(5, .int z5228), (0, .ref (ad 0)), (1, .int a), (2, .int b), (3, .int c), (4, .int d)]) hM dX11_odds_107 hl (kq := 5) rfl (by decide) (fun _ => rfl) (fun z5228 ls hz5228 hl => ?_)
                    first | have tz5228 := i_addT hz5228 (rfl : w69_5.toInt = w69_5.toInt) (kc_1 : (Int32.ofInt 1).toInt = 1) (by omega) (by omega) | skip
                    refine q_goto (tgt := 69) hM dX11_odds_110 (by decide) ?_
                    exact ih69 z5228 _ _ _ _ (by omega) hG (by omega) (by omega) (lv_sub hl [1, 2, 3, 4, 5, 0] rfl) hW
            have := kc_0
            exact L69 _ (0 : Int32) _ _ _ _ (Nat.lt_succ_self _) hG (by omega) (by omega) (lv_sub hl [1, 2, 3, 4, 5, 0] rfl) hW
          · refine q_iconst (v := ((-1) : Int32)) hM dX11_odds_57 (by decide) ?_
            exact hE _ _ _ _ _ _ hW.1 ⟨_, rfl, hW.2.1, hG, hW.2.2⟩ dX11_odds_58

theorem dX11_crib_0 : decode cX11_crib 0 = .ok (.aload_n 0, 1) := by decide +kernel
theorem dX11_crib_1 : decode cX11_crib 1 = .ok (.getfield 26, 3) := by decide +kernel
theorem dX11_crib_4 : decode cX11_crib 4 = .ok (.getfield 135, 3) := by decide +kernel
theorem dX11_crib_7 : decode cX11_crib 7 = .ok (.iload_n 1, 1) := by decide +kernel
theorem dX11_crib_8 : decode cX11_crib 8 = .ok (.invokestatic 123, 3) := by decide +kernel
theorem dX11_crib_11 : decode cX11_crib 11 = .ok (.ifCond .eq 12, 3) := by decide +kernel
theorem dX11_crib_14 : decode cX11_crib 14 = .ok (.iload_n 2, 1) := by decide +kernel
theorem dX11_crib_15 : decode cX11_crib 15 = .ok (.iconst 0, 1) := by decide +kernel
theorem dX11_crib_16 : decode cX11_crib 16 = .ok (.iconst 1, 1) := by decide +kernel
theorem dX11_crib_17 : decode cX11_crib 17 = .ok (.invokestatic 112, 3) := by decide +kernel
theorem dX11_crib_20 : decode cX11_crib 20 = .ok (.ifCond .ne 5, 3) := by decide +kernel
theorem dX11_crib_23 : decode cX11_crib 23 = .ok (.iconst (-1), 1) := by decide +kernel
theorem dX11_crib_24 : decode cX11_crib 24 = .ok (.ireturn, 1) := by decide +kernel
theorem dX11_crib_25 : decode cX11_crib 25 = .ok (.bipush (-2), 2) := by decide +kernel
theorem dX11_crib_27 : decode cX11_crib 27 = .ok (.istore_n 3, 1) := by decide +kernel
theorem dX11_crib_28 : decode cX11_crib 28 = .ok (.iconst (-1), 1) := by decide +kernel
theorem dX11_crib_29 : decode cX11_crib 29 = .ok (.istore 4, 2) := by decide +kernel
theorem dX11_crib_31 : decode cX11_crib 31 = .ok (.iconst 0, 1) := by decide +kernel
theorem dX11_crib_32 : decode cX11_crib 32 = .ok (.istore 5, 2) := by decide +kernel
theorem dX11_crib_34 : decode cX11_crib 34 = .ok (.iload 5, 2) := by decide +kernel
theorem dX11_crib_36 : decode cX11_crib 36 = .ok (.bipush 12, 2) := by decide +kernel
theorem dX11_crib_38 : decode cX11_crib 38 = .ok (.if_icmp .ge 85, 3) := by decide +kernel
theorem dX11_crib_41 : decode cX11_crib 41 = .ok (.aload_n 0, 1) := by decide +kernel
theorem dX11_crib_42 : decode cX11_crib 42 = .ok (.getfield 19, 3) := by decide +kernel
theorem dX11_crib_45 : decode cX11_crib 45 = .ok (.getfield 116, 3) := by decide +kernel
theorem dX11_crib_48 : decode cX11_crib 48 = .ok (.iload 5, 2) := by decide +kernel
theorem dX11_crib_50 : decode cX11_crib 50 = .ok (.invokestatic 123, 3) := by decide +kernel
theorem dX11_crib_53 : decode cX11_crib 53 = .ok (.ifCond .eq 64, 3) := by decide +kernel
theorem dX11_crib_56 : decode cX11_crib 56 = .ok (.aload_n 0, 1) := by decide +kernel
theorem dX11_crib_57 : decode cX11_crib 57 = .ok (.getfield 26, 3) := by decide +kernel
theorem dX11_crib_60 : decode cX11_crib 60 = .ok (.getfield 136, 3) := by decide +kernel
theorem dX11_crib_63 : decode cX11_crib 63 = .ok (.iload_n 1, 1) := by decide +kernel
theorem dX11_crib_64 : decode cX11_crib 64 = .ok (.aaload, 1) := by decide +kernel
theorem dX11_crib_65 : decode cX11_crib 65 = .ok (.iload 5, 2) := by decide +kernel
theorem dX11_crib_67 : decode cX11_crib 67 = .ok (.iaload, 1) := by decide +kernel
theorem dX11_crib_68 : decode cX11_crib 68 = .ok (.ifCond .ne 49, 3) := by decide +kernel
theorem dX11_crib_71 : decode cX11_crib 71 = .ok (.aload_n 0, 1) := by decide +kernel
theorem dX11_crib_72 : decode cX11_crib 72 = .ok (.aload_n 0, 1) := by decide +kernel
theorem dX11_crib_73 : decode cX11_crib 73 = .ok (.getfield 39, 3) := by decide +kernel
theorem dX11_crib_76 : decode cX11_crib 76 = .ok (.invokevirtual 186, 3) := by decide +kernel
theorem dX11_crib_79 : decode cX11_crib 79 = .ok (.aload_n 0, 1) := by decide +kernel
theorem dX11_crib_80 : decode cX11_crib 80 = .ok (.getfield 33, 3) := by decide +kernel
theorem dX11_crib_83 : decode cX11_crib 83 = .ok (.getfield 136, 3) := by decide +kernel
theorem dX11_crib_86 : decode cX11_crib 86 = .ok (.iload_n 1, 1) := by decide +kernel
theorem dX11_crib_87 : decode cX11_crib 87 = .ok (.aaload, 1) := by decide +kernel
theorem dX11_crib_88 : decode cX11_crib 88 = .ok (.iload 5, 2) := by decide +kernel
theorem dX11_crib_90 : decode cX11_crib 90 = .ok (.bipush 99, 2) := by decide +kernel
theorem dX11_crib_92 : decode cX11_crib 92 = .ok (.iastore, 1) := by decide +kernel
theorem dX11_crib_93 : decode cX11_crib 93 = .ok (.aload_n 0, 1) := by decide +kernel
theorem dX11_crib_94 : decode cX11_crib 94 = .ok (.getfield 83, 3) := by decide +kernel
theorem dX11_crib_97 : decode cX11_crib 97 = .ok (.iload_n 1, 1) := by decide +kernel
theorem dX11_crib_98 : decode cX11_crib 98 = .ok (.invokevirtual 312, 3) := by decide +kernel
theorem dX11_crib_101 : decode cX11_crib 101 = .ok (.istore 6, 2) := by decide +kernel
theorem dX11_crib_103 : decode cX11_crib 103 = .ok (.iload 6, 2) := by decide +kernel
theorem dX11_crib_105 : decode cX11_crib 105 = .ok (.iload 4, 2) := by decide +kernel
theorem dX11_crib_107 : decode cX11_crib 107 = .ok (.if_icmp .le 10, 3) := by decide +kernel
theorem dX11_crib_110 : decode cX11_crib 110 = .ok (.iload 6, 2) := by decide +kernel
theorem dX11_crib_112 : decode cX11_crib 112 = .ok (.istore 4, 2) := by decide +kernel
theorem dX11_crib_114 : decode cX11_crib 114 = .ok (.iload 5, 2) := by decide +kernel
theorem dX11_crib_116 : decode cX11_crib 116 = .ok (.istore_n 3, 1) := by decide +kernel
theorem dX11_crib_117 : decode cX11_crib 117 = .ok (.iinc 5 1, 3) := by decide +kernel
theorem dX11_crib_120 : decode cX11_crib 120 = .ok (.goto (-86), 3) := by decide +kernel
theorem dX11_crib_123 : decode cX11_crib 123 = .ok (.iload_n 3, 1) := by decide +kernel
theorem dX11_crib_124 : decode cX11_crib 124 = .ok (.bipush (-2), 2) := by decide +kernel
theorem dX11_crib_126 : decode cX11_crib 126 = .ok (.if_icmp .eq 7, 3) := by decide +kernel
theorem dX11_crib_129 : decode cX11_crib 129 = .ok (.iload_n 2, 1) := by decide +kernel
theorem dX11_crib_130 : decode cX11_crib 130 = .ok (.ifCond .ne 7, 3) := by decide +kernel
theorem dX11_crib_133 : decode cX11_crib 133 = .ok (.iload_n 3, 1) := by decide +kernel
theorem dX11_crib_134 : decode cX11_crib 134 = .ok (.goto 5, 3) := by decide +kernel
theorem dX11_crib_137 : decode cX11_crib 137 = .ok (.iload 4, 2) := by decide +kernel
theorem dX11_crib_139 : decode cX11_crib 139 = .ok (.ireturn, 1) := by decide +kernel
set_option maxRecDepth 100000 in
set_option maxHeartbeats 4000000 in
theorem p_X11_crib (l : Launch) (D : va_G) (cA : Nat → ClassId) (ad : Nat → Nat) (g0 : Nat → va_E) (a : Int32) (b : Int32)  (lw : Nat) (hSh : Shp ad cA g0) (hG : Rng g0) (hlw : isLw lw) (h_r13 : fld g0 0 13 = .ref (ad lw)) : CT l NN ad cA D yX11_crib cX11_crib 7 (some FieldType.int) (4, 97) [.ref (ad 0), .int a, .int b] g0 (fun v g' => ∃ (r : Int32), v = some (.int r) ∧ Shp ad cA g' ∧ Rng g' ∧ FR (fun i k => i = 43 ∨ i = 44 ∨ (46 ≤ i ∧ i < 54) ∨ (i = 42 ∧ (k = 3 ∨ k = 4 ∨ k = 5 ∨ k = 6 ∨ k = 7)) ∨ (i = 80 ∧ (k = 7 ∨ k = 8 ∨ k = 9 ∨ k = 10)) ∨ (46 ≤ i ∧ i < 54) ∨ i = 83 ∨ i = (lw + 6) ∨ (i = 42 ∧ (k = 4 ∨ k = 5 ∨ k = 6 ∨ k = 7)) ∨ (i = 80 ∧ (k = 7 ∨ k = 8)) ∨ i = 43) g0 g') := by
  refine q_enterI (by decide) (Nat.le_of_ble_eq_true rfl) rfl (fun K H locs ls _ _ hM hW0 hR hC hE hl => ?_)
  have hl : lv_has ls 7 [(0, .ref (ad 0)), (1, .int a), (2, .int b)] := hl
  have hW : WS ad cA (fun i k => i = 43 ∨ i = 44 ∨ (46 ≤ i ∧ i < 54) ∨ (i = 42 ∧ (k = 3 ∨ k = 4 ∨ k = 5 ∨ k = 6 ∨ k = 7)) ∨ (i = 80 ∧ (k = 7 ∨ k = 8 ∨ k = 9 ∨ k = 10)) ∨ (46 ≤ i ∧ i < 54) ∨ i = 83 ∨ i = (lw + 6) ∨ (i = 42 ∧ (k = 4 ∨ k = 5 ∨ k = 6 ∨ k = 7)) ∨ (i = 80 ∧ (k = 7 ∨ k = 8)) ∨ i = 43) g0 K g0 H locs := ⟨hW0, hSh, FR.rf⟩
  have ulw := hlw
  unfold isLw at ulw
  have := kc_0
  have := kc_1
  have := kc_m1
  have := kc_m2
  refine q_aload_n hM dX11_crib_0 (lv_at hl 0 rfl) ?_
  refine w_get (v := .ref (ad 18)) hM hW FG_X11_26 lb_0 (rf_0_10 hW.2.1) dX11_crib_1 ?_
  refine w_getI hM hW FG_X11_135 lb_18 (by decide) (by decide) dX11_crib_4 (fun x5230 fx5230 => ?_)
  have bx5230 := hG.f fx5230 rF_18_3 (by decide)
  refine q_iload_n hM dX11_crib_7 (lv_at hl 1 rfl) ?_
  refine q_callS (As := [.int x5230, .int a]) (rest := []) hM hW.1 hR hC myX11_has (kAW (v_1_10 (List.mem_of_getElem? (i := 8) rfl)) rfl) (c_X11_has _ _ cA ad g0 x5230 a hW.2.1) ⟨by decide, by decide⟩ rfl rfl hl.1 (Nat.le_of_ble_eq_true rfl) dX11_crib_8 (fun v g5232 H locs hp hW1 => ?_)
  obtain ⟨r5231, rfl, hr5231, rfl⟩ := hp
  have hW : WS ad cA (fun i k => i = 43 ∨ i = 44 ∨ (46 ≤ i ∧ i < 54) ∨ (i = 42 ∧ (k = 3 ∨ k = 4 ∨ k = 5 ∨ k = 6 ∨ k = 7)) ∨ (i = 80 ∧ (k = 7 ∨ k = 8 ∨ k = 9 ∨ k = 10)) ∨ (46 ≤ i ∧ i < 54) ∨ i = 83 ∨ i = (lw + 6) ∨ (i = 42 ∧ (k = 4 ∨ k = 5 ∨ k = 6 ∨ k = 7)) ∨ (i = 80 ∧ (k = 7 ∨ k = 8)) ∨ i = 43) g0 K g0 H locs := ⟨hW1, hW.2.1, hW.2.2⟩
  first | have ltr5231 := has_lt 5 hr5231 (by omega) (by omega) | have ltr5231 := has_lt 6 hr5231 (by omega) (by omega) | have ltr5231 := has_lt 8 hr5231 (by omega) (by omega) | have ltr5231 := has_lt 12 hr5231 (by omega) (by omega) | skip
  refine q_if_eq (tgt := 23) hM dX11_crib_11 (by decide) (rfl : r5231.toInt = r5231.toInt) (fun h11 => ?_) (fun h11 => ?_)
  · refine q_iconst (v := ((-1) : Int32)) hM dX11_crib_23 (by decide) ?_
    exact hE _ _ _ _ _ _ hW.1 ⟨_, rfl, hW.2.1, hG, hW.2.2⟩ dX11_crib_24
  · refine q_iload_n hM dX11_crib_14 (lv_at hl 2 rfl) ?_
    refine q_iconst (v := (0 : Int32)) hM dX11_crib_15 (by decide) ?_
    refine q_iconst (v := (1 : Int32)) hM dX11_crib_16 (by decide) ?_
    refine q_callS (As := [.int b, .int (0 : Int32), .int (1 : Int32)]) (rest := []) hM hW.1 hR hC myX11_within (kAW (v_1_10 (List.mem_of_getElem? (i := 1) rfl)) rfl) (c_X11_within _ _ cA ad g0 b (0 : Int32) (1 : Int32) hW.2.1) ⟨by decide, by decide⟩ rfl rfl hl.1 (Nat.le_of_ble_eq_true rfl) dX11_crib_17 (fun v g5236 H locs hp hW1 => ?_)
    obtain ⟨r5235, rfl, hr5235, rfl⟩ := hp
    have hW : WS ad cA (fun i k => i = 43 ∨ i = 44 ∨ (46 ≤ i ∧ i < 54) ∨ (i = 42 ∧ (k = 3 ∨ k = 4 ∨ k = 5 ∨ k = 6 ∨ k = 7)) ∨ (i = 80 ∧ (k = 7 ∨ k = 8 ∨ k = 9 ∨ k = 10)) ∨ (46 ≤ i ∧ i < 54) ∨ i = 83 ∨ i = (lw + 6) ∨ (i = 42 ∧ (k = 4 ∨ k = 5 ∨ k = 6 ∨ k = 7)) ∨ (i = 80 ∧ (k = 7 ∨ k = 8)) ∨ i = 43) g0 K g0 H locs := ⟨hW1, hW.2.1, hW.2.2⟩
    have := kc_0
    have := kc_1
    refine q_if_ne (tgt := 25) hM dX11_crib_20 (by decide) (rfl : r5235.toInt = r5235.toInt) (fun h20 => ?_) (fun h20 => ?_)
    · refine q_bipush (v := ((-2) : Int32)) hM dX11_crib_25 (by decide) ?_
      refine q_istore_n (lv9 := [(3, .int ((-2) : Int32)), (0, .ref (ad 0)), (1, .int a), (2, .int b)]) hM dX11_crib_27 hl (by decide) rfl (fun ls hl => ?_)
      refine q_iconst (v := ((-1) : Int32)) hM dX11_crib_28 (by decide) ?_
      refine q_istore (lv9 := [(4, .int ((-1) : Int32)), (3, .int ((-2) : Int32)), (0, .ref (ad 0)), (1, .int a), (2, .int b)]) hM dX11_crib_29 hl (by decide) rfl (fun ls hl => ?_)
      refine q_iconst (v := (0 : Int32)) hM dX11_crib_31 (by decide) ?_
      refine q_istore (lv9 := [(5, .int (0 : Int32)), (4, .int ((-1) : Int32)), (3, .int ((-2) : Int32)), (0, .ref (ad 0)), (1, .int a), (2, .int b)]) hM dX11_crib_32 hl (by decide) rfl (fun ls hl => ?_)
      have L34 : ∀ (fu34 : Nat) (w34_4 : Int32) (w34_3 : Int32) (w34_5 : Int32) (g9 : Nat → va_E) (H : Heap) (locs : List Loc) (ls : Array Slot), (12 - w34_5.toInt).toNat < fu34 → (Rng g9) → (0 ≤ w34_5.toInt) → (w34_5.toInt ≤ 12) → lv_has ls 7 [(0, .ref (ad 0)), (1, .int a), (2, .int b), (3, .int w34_3), (4, .int w34_4), (5, .int w34_5)] → WS ad cA (fun i k => i = 43 ∨ i = 44 ∨ (46 ≤ i ∧ i < 54) ∨ (i = 42 ∧ (k = 3 ∨ k = 4 ∨ k = 5 ∨ k = 6 ∨ k = 7)) ∨ (i = 80 ∧ (k = 7 ∨ k = 8 ∨ k = 9 ∨ k = 10)) ∨ (46 ≤ i ∧ i < 54) ∨ i = 83 ∨ i = (lw + 6) ∨ (i = 42 ∧ (k = 4 ∨ k = 5 ∨ k = 6 ∨ k = 7)) ∨ (i = 80 ∧ (k = 7 ∨ k = 8)) ∨ i = 43) g0 K g9 H locs → XX K 0 0 H locs 34 ls [] := by
        intro fu34
        induction fu34 with
        | zero => intro w34_4 w34_3 w34_5 g9 H locs ls h0; omega
        | succ fu34 ih34 =>
          intro w34_4 w34_3 w34_5 g9 H locs ls hm34 i34_0 i34_1 i34_2 hl hW
          have hG := i34_0
          refine q_iload hM dX11_crib_34 (lv_at hl 5 rfl) ?_
          refine q_bipush (v := (12 : Int32)) hM dX11_crib_36 (by decide) ?_
          refine q_icmp_ge (tgt := 123) hM dX11_crib_38 (by decide) (rfl : w34_5.toInt = w34_5.toInt) (kc_12 : (12 : Int32).toInt = 12) (fun h38 => ?_) (fun h38 => ?_)
          · refine q_iload_n hM dX11_crib_123 (lv_at hl 3 rfl) ?_
            refine q_bipush (v := ((-2) : Int32)) hM dX11_crib_124 (by decide) ?_
            refine q_icmp_eq (tgt := 133) hM dX11_crib_126 (by decide) (rfl : w34_3.toInt = w34_3.toInt) (kc_m2 : ((-2) : Int32).toInt = (-2)) (fun h126 => ?_) (fun h126 => ?_)
            · refine q_iload_n hM dX11_crib_133 (lv_at hl 3 rfl) ?_
              refine q_goto (tgt := 139) hM dX11_crib_134 (by decide) ?_
              exact hE _ _ _ _ _ _ hW.1 ⟨_, rfl, hW.2.1, hG, hW.2.2⟩ dX11_crib_139
            · refine q_iload_n hM dX11_crib_129 (lv_at hl 2 rfl) ?_
              refine q_if_ne (tgt := 137) hM dX11_crib_130 (by decide) (rfl : b.toInt = b.toInt) (fun h130 => ?_) (fun h130 => ?_)
              · refine q_iload hM dX11_crib_137 (lv_at hl 4 rfl) ?_
                exact hE _ _ _ _ _ _ hW.1 ⟨_, rfl, hW.2.1, hG, hW.2.2⟩ dX11_crib_139
              · refine q_iload_n hM dX11_crib_133 (lv_at hl 3 rfl) ?_
                refine q_goto (tgt := 139) hM dX11_crib_134 (by decide) ?_
                exact hE _ _ _ _ _ _ hW.1 ⟨_, rfl, hW.2.1, hG, hW.2.2⟩ dX11_crib_139
          · refine q_aload_n hM dX11_crib_41 (lv_at hl 0 rfl) ?_
            refine w_get (v := .ref (ad 3)) hM hW FG_X11_19 lb_0 (rf_0_1 hW.2.1) dX11_crib_42 ?_
            refine w_getI hM hW FG_X11_116 lb_3 (by decide) (by decide) dX11_crib_45 (fun x5245 fx5245 => ?_)
            have bx5245 := hG.f fx5245 rF_3_2 (by decide)
            refine q_iload hM dX11_crib_48 (lv_at hl 5 rfl) ?_
            refine q_callS (As := [.int x5245, .int w34_5]) (rest := []) hM hW.1 hR hC myX11_has (kAW (v_1_10 (List.mem_of_getElem? (i := 8) rfl)) rfl) (c_X11_has _ _ cA ad g9 x5245 w34_5 hW.2.1) ⟨by decide, by decide⟩ rfl rfl hl.1 (Nat.le_of_ble_eq_true rfl) dX11_crib_50 (fun v g5247 H locs hp hW1 => ?_)
            obtain ⟨r5246, rfl, hr5246, rfl⟩ := hp
            have hW : WS ad cA (fun i k => i = 43 ∨ i = 44 ∨ (46 ≤ i ∧ i < 54) ∨ (i = 42 ∧ (k = 3 ∨ k = 4 ∨ k = 5 ∨ k = 6 ∨ k = 7)) ∨ (i = 80 ∧ (k = 7 ∨ k = 8 ∨ k = 9 ∨ k = 10)) ∨ (46 ≤ i ∧ i < 54) ∨ i = 83 ∨ i = (lw + 6) ∨ (i = 42 ∧ (k = 4 ∨ k = 5 ∨ k = 6 ∨ k = 7)) ∨ (i = 80 ∧ (k = 7 ∨ k = 8)) ∨ i = 43) g0 K g9 H locs := ⟨hW1, hW.2.1, hW.2.2⟩
            first | have ltr5246 := has_lt 5 hr5246 (by omega) (by omega) | have ltr5246 := has_lt 6 hr5246 (by omega) (by omega) | have ltr5246 := has_lt 8 hr5246 (by omega) (by omega) | have ltr5246 := has_lt 12 hr5246 (by omega) (by omega) | skip
            refine q_if_eq (tgt := 117) hM dX11_crib_53 (by decide) (rfl : r5246.toInt = r5246.toInt) (fun h53 => ?_) (fun h53 => ?_)
            · refine q_iinc (lv9 := fun z5249 => [(5, .int z5249), (0, .ref (ad 0)), (1, .int a), (2, .int b), (3, .int w34_3), (4, .int w34_4)]) hM dX11_crib_117 hl (kq := 5) rfl (by decide) (fun _ => rfl) (fun z5249 ls hz5249 hl => ?_)
              first | have tz5249 := i_addT hz5249 (rfl : w34_5.toInt = w34_5.toInt) (kc_1 : (Int32.ofInt 1).toInt = 1) (by omega) (by omega) | skip
              refine q_goto (tgt := 34) hM dX11_crib_120 (by decide) ?_
              exact ih34 w34_4 w34_3 z5249 _ _ _ _ (by omega) hG (by omega) (by omega) (lv_sub hl [1, 2, 3, 4, 5, 0] rfl) hW
            · refine q_aload_n hM dX11_crib_56 (lv_at hl 0 rfl) ?_
              refine w_get (v := .ref (ad 18)) hM hW FG_X11_26 lb_0 (rf_0_10 hW.2.1) dX11_crib_57 ?_
              refine w_get (v := .ref (ad 21)) hM hW FG_X11_136 lb_18 (rf_18_2 hW.2.1) dX11_crib_60 ?_
              refine q_iload_n hM dX11_crib_63 (lv_at hl 1 rfl) ?_
              refine w_aald hM hW lb_21 (Or.inl rfl) (i_in (by omega) (by omega)) (aq (aq_21 hW.2.1) (by omega) (by omega)) dX11_crib_64 ?_
              refine q_iload hM dX11_crib_65 (lv_at hl 5 rfl) ?_
              refine w_iald hM hW (lr_22 (by omega)) (i_in (by omega) (by omega)) dX11_crib_67 ?_
              refine q_top (fun y5251 hy5251 => ?_)
              refine q_if_ne (tgt := 117) hM dX11_crib_68 (by decide) (rfl : y5251.toInt = y5251.toInt) (fun h68 => ?_) (fun h68 => ?_)
              · refine q_iinc (lv9 := fun z5253 => [(5, .int z5253), (0, .ref (ad 0)), (1, .int a), (2, .int b), (3, .int w34_3), (4, .int w34_4)]) hM dX11_crib_117 hl (kq := 5) rfl (by decide) (fun _ => rfl) (fun z5253 ls hz5253 hl => ?_)
                first | have tz5253 := i_addT hz5253 (rfl : w34_5.toInt = w34_5.toInt) (kc_1 : (Int32.ofInt 1).toInt = 1) (by omega) (by omega) | skip
                refine q_goto (tgt := 34) hM dX11_crib_120 (by decide) ?_
                exact ih34 w34_4 w34_3 z5253 _ _ _ _ (by omega) hG (by omega) (by omega) (lv_sub hl [1, 2, 3, 4, 5, 0] rfl) hW
              · refine q_aload_n hM dX11_crib_71 (lv_at hl 0 rfl) ?_
                refine q_aload_n hM dX11_crib_72 (lv_at hl 0 rfl) ?_
                refine w_get (v := .ref (ad lw)) hM hW FG_X11_39 lb_0 ((hW.2.2.1 0 13 (by omega)).trans h_r13) dX11_crib_73 ?_
                refine q_callV (As := [.ref (ad lw)]) (rest := []) hM hW.1 hR hC myX11_beginTrial (kAW (v_3_0 (List.mem_of_getElem? (i := 5) rfl)) rfl) (rfl : vwCl[11]? = some (RX11, TX11, 16)) rfl lb_0.1 (shO hW.2.1 lb_0) (a_X11_beginTrial _ _ cA ad g9 lw hW.2.1 hG hlw) ⟨by decide, by decide⟩ rfl rfl hl.1 (Nat.le_of_ble_eq_true rfl) dX11_crib_76 (fun v g5257 H locs hp hW1 => ?_)
                obtain ⟨rfl, hs1, hG, hf1, q5255, q5256⟩ := hp
                have f5258 : fld g5257 3 2 = .int x5245 := (hf1.1 3 2 (by omega)).trans fx5245
                have hW : WS ad cA (fun i k => i = 43 ∨ i = 44 ∨ (46 ≤ i ∧ i < 54) ∨ (i = 42 ∧ (k = 3 ∨ k = 4 ∨ k = 5 ∨ k = 6 ∨ k = 7)) ∨ (i = 80 ∧ (k = 7 ∨ k = 8 ∨ k = 9 ∨ k = 10)) ∨ (46 ≤ i ∧ i < 54) ∨ i = 83 ∨ i = (lw + 6) ∨ (i = 42 ∧ (k = 4 ∨ k = 5 ∨ k = 6 ∨ k = 7)) ∨ (i = 80 ∧ (k = 7 ∨ k = 8)) ∨ i = 43) g0 K g5257 H locs := ⟨hW1, hs1, hW.2.2.tr hf1 (fun i k h => h.elim (fun h => (Or.inl h)) (fun h => h.elim (fun h => (Or.inr (Or.inl h))) (fun h => h.elim (fun h => (Or.inr (Or.inr (Or.inl h)))) (fun h => h.elim (fun h => (Or.inr (Or.inr (Or.inr (Or.inl h))))) (fun h => (Or.inr (Or.inr (Or.inr (Or.inr (Or.inl h))))))))))⟩
                refine q_aload_n hM dX11_crib_79 (lv_at hl 0 rfl) ?_
                refine w_get (v := .ref (ad 42)) hM hW FG_X11_33 lb_0 (rf_0_12 hW.2.1) dX11_crib_80 ?_
                refine w_get (v := .ref (ad 45)) hM hW FG_X11_136 lb_42 (rf_42_2 hW.2.1) dX11_crib_83 ?_
                refine q_iload_n hM dX11_crib_86 (lv_at hl 1 rfl) ?_
                refine w_aald hM hW lb_45 (Or.inl rfl) (i_in (by omega) (by omega)) (aq (aq_45 hW.2.1) (by omega) (by omega)) dX11_crib_87 ?_
                refine q_iload hM dX11_crib_88 (lv_at hl 5 rfl) ?_
                refine q_bipush (v := (99 : Int32)) hM dX11_crib_90 (by decide) ?_
                refine w_iast hM hW (lr_46 (by omega)) (by omega) (i_in (by omega) (by omega)) dX11_crib_92 (fun g5259 H locs hW e1 e2 => ?_)
                have f5260 : fld g5259 3 2 = .int x5245 := (e2.1 3 2 (by unfold Only; omega)).trans f5258
                have f5261 : fld g5259 80 9 = .ref (ad lw) := (e2.1 80 9 (by unfold Only; omega)).trans q5255
                have f5262 : fld g5259 80 10 = .ref (ad 42) := (e2.1 80 10 (by unfold Only; omega)).trans q5256
                have hG := hG.st e1 e2 (rA_row_46 (by omega)) (by have := kc_99; have := i_rng (99 : Int32); omega) (by have := kc_99; have := i_rng (99 : Int32); omega)
                refine q_aload_n hM dX11_crib_93 (lv_at hl 0 rfl) ?_
                refine w_get (v := .ref (ad 80)) hM hW FG_X11_83 lb_0 (rf_0_2 hW.2.1) dX11_crib_94 ?_
                refine q_iload_n hM dX11_crib_97 (lv_at hl 1 rfl) ?_
                refine q_callV (As := [.int a]) (rest := []) hM hW.1 hR hC myX2_recall (kAW (v_4_1 (List.mem_of_getElem? (i := 1) rfl)) rfl) (rfl : vwCl[2]? = some (RX2, TX2, 11)) rfl lb_80.1 (shO hW.2.1 lb_80) (a_X2_recall_42 _ _ cA ad g5259 a lw hW.2.1 hG hlw f5261 f5262 (by  omega) (by  omega)) ⟨by decide, by decide⟩ rfl rfl hl.1 (Nat.le_of_ble_eq_true rfl) dX11_crib_98 (fun v g5264 H locs hp hW1 => ?_)
                obtain ⟨r5263, rfl, hs1, hG, hf1⟩ := hp
                have f5265 : fld g5264 3 2 = .int x5245 := (hf1.1 3 2 (by omega)).trans f5260
                have f5266 : fld g5264 80 9 = .ref (ad lw) := (hf1.1 80 9 (by omega)).trans f5261
                have f5267 : fld g5264 80 10 = .ref (ad 42) := (hf1.1 80 10 (by omega)).trans f5262
                have hW : WS ad cA (fun i k => i = 43 ∨ i = 44 ∨ (46 ≤ i ∧ i < 54) ∨ (i = 42 ∧ (k = 3 ∨ k = 4 ∨ k = 5 ∨ k = 6 ∨ k = 7)) ∨ (i = 80 ∧ (k = 7 ∨ k = 8 ∨ k = 9 ∨ k = 10)) ∨ (46 ≤ i ∧ i < 54) ∨ i = 83 ∨ i = (lw + 6) ∨ (i = 42 ∧ (k = 4 ∨ k = 5 ∨ k = 6 ∨ k = 7)) ∨ (i = 80 ∧ (k = 7 ∨ k = 8)) ∨ i = 43) g0 K g5264 H locs := ⟨hW1, hs1, hW.2.2.tr hf1 (fun i k h => h.elim (fun h => (Or.inr (Or.inr (Or.inl h)))) (fun h => h.elim (fun h => (Or.inr (Or.inr (Or.inr (Or.inr (Or.inr (Or.inr (Or.inl h)))))))) (fun h => h.elim (fun h => (Or.inr (Or.inr (Or.inr (Or.inr (Or.inr (Or.inr (Or.inr (Or.inl h))))))))) (fun h => (Or.inr (Or.inr (Or.inr (Or.inl (by omega)))))))))⟩
                refine q_istore (lv9 := [(6, .int r5263), (0, .ref (ad 0)), (1, .int a), (2, .int b), (3, .int w34_3), (4, .int w34_4), (5, .int w34_5)]) hM dX11_crib_101 hl (by decide) rfl (fun ls hl => ?_)
                refine q_iload hM dX11_crib_103 (lv_at hl 0 rfl) ?_
                refine q_iload hM dX11_crib_105 (lv_at hl 5 rfl) ?_
                refine q_icmp_le (tgt := 117) hM dX11_crib_107 (by decide) (rfl : r5263.toInt = r5263.toInt) (rfl : w34_4.toInt = w34_4.toInt) (fun h107 => ?_) (fun h107 => ?_)
                · refine q_iinc (lv9 := fun z5269 => [(5, .int z5269), (6, .int r5263), (0, .ref (ad 0)), (1, .int a), (2, .int b), (3, .int w34_3), (4, .int w34_4)]) hM dX11_crib_117 hl (kq := 6) rfl (by decide) (fun _ => rfl) (fun z5269 ls hz5269 hl => ?_)
                  first | have tz5269 := i_addT hz5269 (rfl : w34_5.toInt = w34_5.toInt) (kc_1 : (Int32.ofInt 1).toInt = 1) (by omega) (by omega) | skip
                  refine q_goto (tgt := 34) hM dX11_crib_120 (by decide) ?_
                  exact ih34 w34_4 w34_3 z5269 _ _ _ _ (by omega) hG (by omega) (by omega) (lv_sub hl [2, 3, 4, 5, 6, 0] rfl) hW
                · refine q_iload hM dX11_crib_110 (lv_at hl 0 rfl) ?_
                  refine q_istore (lv9 := [(4, .int r5263), (6, .int r5263), (0, .ref (ad 0)), (1, .int a), (2, .int b), (3, .int w34_3), (5, .int w34_5)]) hM dX11_crib_112 hl (by decide) rfl (fun ls hl => ?_)
                  refine q_iload hM dX11_crib_114 (lv_at hl 6 rfl) ?_
                  refine q_istore_n (lv9 := [(3, .int w34_5), (4, .int r5263), (6, .int r5263), (0, .ref (ad 0)), (1, .int a), (2, .int b), (5, .int w34_5)]) hM dX11_crib_116 hl (by decide) rfl (fun ls hl => ?_)
                  refine q_iinc (lv9 := fun z5271 => [(5, .int z5271), (3, .int w34_5), (4, .int r5263), (6, .int r5263), (0, .ref (ad 0)), (1, .int a), (2, .int b)]) hM dX11_crib_117 hl (kq := 6) rfl (by decide) (fun _ => rfl) (fun z5271 ls hz5271 hl => ?_)
                  first | have tz5271 := i_addT hz5271 (rfl : w34_5.toInt = w34_5.toInt) (kc_1 : (Int32.ofInt 1).toInt = 1) (by omega) (by omega) | skip
                  refine q_goto (tgt := 34) hM dX11_crib_120 (by decide) ?_
                  exact ih34 r5263 w34_5 z5271 _ _ _ _ (by omega) hG (by omega) (by omega) (lv_sub hl [4, 5, 6, 1, 2, 0] rfl) hW
      have := kc_m1
      have := kc_m2
      have := kc_0
      exact L34 _ ((-1) : Int32) ((-2) : Int32) (0 : Int32) _ _ _ _ (Nat.lt_succ_self _) hG (by omega) (by omega) (lv_sub hl [3, 4, 5, 2, 1, 0] rfl) hW
    · refine q_iconst (v := ((-1) : Int32)) hM dX11_crib_23 (by decide) ?_
      exact hE _ _ _ _ _ _ hW.1 ⟨_, rfl, hW.2.1, hG, hW.2.2⟩ dX11_crib_24

theorem dX11_seed_0 : decode cX11_seed 0 = .ok (.iload_n 1, 1) := by decide +kernel
theorem dX11_seed_1 : decode cX11_seed 1 = .ok (.iconst 0, 1) := by decide +kernel
theorem dX11_seed_2 : decode cX11_seed 2 = .ok (.ldc_w 315, 3) := by decide +kernel
theorem dX11_seed_5 : decode cX11_seed 5 = .ok (.invokestatic 112, 3) := by decide +kernel
theorem dX11_seed_8 : decode cX11_seed 8 = .ok (.ifCond .ne 5, 3) := by decide +kernel
theorem dX11_seed_11 : decode cX11_seed 11 = .ok (.iconst 0, 1) := by decide +kernel
theorem dX11_seed_12 : decode cX11_seed 12 = .ok (.ireturn, 1) := by decide +kernel
theorem dX11_seed_13 : decode cX11_seed 13 = .ok (.aload_n 0, 1) := by decide +kernel
theorem dX11_seed_14 : decode cX11_seed 14 = .ok (.getfield 26, 3) := by decide +kernel
theorem dX11_seed_17 : decode cX11_seed 17 = .ok (.iload_n 1, 1) := by decide +kernel
theorem dX11_seed_18 : decode cX11_seed 18 = .ok (.putfield 316, 3) := by decide +kernel
theorem dX11_seed_21 : decode cX11_seed 21 = .ok (.iconst 1, 1) := by decide +kernel
theorem dX11_seed_22 : decode cX11_seed 22 = .ok (.ireturn, 1) := by decide +kernel
theorem FP_X11_316 : FPX RX11 316 7 8 7 .int := ⟨⟨RX7, TX7, tyX7, rfl, wX7, by decide, kAW (v_0_6 (List.mem_of_getElem? (i := 2) rfl)) rfl, rfl, tyX7_ok, nmX7, by decide +kernel, rfl⟩, by decide +kernel⟩
set_option maxRecDepth 100000 in
set_option maxHeartbeats 4000000 in
theorem p_X11_seed (l : Launch) (D : va_G) (cA : Nat → ClassId) (ad : Nat → Nat) (g0 : Nat → va_E) (a : Int32)   (hSh : Shp ad cA g0) (hG : Rng g0) : CT l NN ad cA D yX11_seed cX11_seed 2 (some FieldType.boolean) (1, 22) [.ref (ad 0), .int a] g0 (fun v g' => ∃ (r : Int32), v = some (.int r) ∧ Shp ad cA g' ∧ Rng g' ∧ FR (fun i k => (i = 18 ∧ (k = 7))) g0 g' ∧ ((r.toInt = 1 ∧ 0 ≤ a.toInt ∧ a.toInt ≤ 65535) ∨ (r.toInt = 0 ∧ ¬ (0 ≤ a.toInt ∧ a.toInt ≤ 65535)))) := by
  refine q_enterZ (by decide) (Nat.le_of_ble_eq_true rfl) (fun K H locs ls _ _ hM hW0 hR hC hE hl => ?_)
  have hl : lv_has ls 2 [(0, .ref (ad 0)), (1, .int a)] := hl
  have hW : WS ad cA (fun i k => (i = 18 ∧ (k = 7))) g0 K g0 H locs := ⟨hW0, hSh, FR.rf⟩
  have := kc_0
  have := kc_1
  have := kc_m1
  have := kc_m2
  refine q_iload_n hM dX11_seed_0 (lv_at hl 1 rfl) ?_
  refine q_iconst (v := (0 : Int32)) hM dX11_seed_1 (by decide) ?_
  refine q_ldcw (v := (65535 : Int32)) hM (kAW (v_4_1 (List.mem_of_getElem? (i := 6) rfl)) rfl) dX11_seed_2 ?_
  refine q_callS (As := [.int a, .int (0 : Int32), .int (65535 : Int32)]) (rest := []) hM hW.1 hR hC myX11_within (kAW (v_1_10 (List.mem_of_getElem? (i := 1) rfl)) rfl) (c_X11_within _ _ cA ad g0 a (0 : Int32) (65535 : Int32) hW.2.1) ⟨by decide, by decide⟩ rfl rfl hl.1 (Nat.le_of_ble_eq_true rfl) dX11_seed_5 (fun v g5274 H locs hp hW1 => ?_)
  obtain ⟨r5273, rfl, hr5273, rfl⟩ := hp
  have hW : WS ad cA (fun i k => (i = 18 ∧ (k = 7))) g0 K g0 H locs := ⟨hW1, hW.2.1, hW.2.2⟩
  have := kc_0
  have := kc_65535
  refine q_if_ne (tgt := 13) hM dX11_seed_8 (by decide) (rfl : r5273.toInt = r5273.toInt) (fun h8 => ?_) (fun h8 => ?_)
  · refine q_aload_n hM dX11_seed_13 (lv_at hl 0 rfl) ?_
    refine w_get (v := .ref (ad 18)) hM hW FG_X11_26 lb_0 (rf_0_10 hW.2.1) dX11_seed_14 ?_
    refine q_iload_n hM dX11_seed_17 (lv_at hl 1 rfl) ?_
    refine w_put hM hW FP_X11_316 lb_18 (by omega) (Or.inl ⟨_, rfl⟩) rfl rfl dX11_seed_18 (fun g5276 H locs hW e1 e2 => ?_)
    have f5277 : fld g5276 18 7 = .int a := e1
    have hG := hG.put e1 e2 (rfl : rF 18 7 = (-2147483648, 2147483647)) (by decide) (by have := i_rng a; omega) (by have := i_rng a; omega)
    refine q_iconst (v := (1 : Int32)) hM dX11_seed_21 (by decide) ?_
    exact hE _ _ _ _ _ _ hW.1 nz_1 ⟨_, rfl, hW.2.1, hG, hW.2.2, (by have := kc_1; omega)⟩ dX11_seed_22
  · refine q_iconst (v := (0 : Int32)) hM dX11_seed_11 (by decide) ?_
    exact hE _ _ _ _ _ _ hW.1 nz_0 ⟨_, rfl, hW.2.1, hG, hW.2.2, (by have := kc_0; omega)⟩ dX11_seed_12

theorem dX11_keep_0 : decode cX11_keep 0 = .ok (.aload_n 0, 1) := by decide +kernel
theorem dX11_keep_1 : decode cX11_keep 1 = .ok (.getfield 30, 3) := by decide +kernel
theorem dX11_keep_4 : decode cX11_keep 4 = .ok (.aload_n 0, 1) := by decide +kernel
theorem dX11_keep_5 : decode cX11_keep 5 = .ok (.getfield 26, 3) := by decide +kernel
theorem dX11_keep_8 : decode cX11_keep 8 = .ok (.invokevirtual 319, 3) := by decide +kernel
theorem dX11_keep_11 : decode cX11_keep 11 = .ok (.aload_n 0, 1) := by decide +kernel
theorem dX11_keep_12 : decode cX11_keep 12 = .ok (.iconst 1, 1) := by decide +kernel
theorem dX11_keep_13 : decode cX11_keep 13 = .ok (.putfield 108, 3) := by decide +kernel
theorem dX11_keep_16 : decode cX11_keep 16 = .ok (.aload_n 0, 1) := by decide +kernel
theorem dX11_keep_17 : decode cX11_keep 17 = .ok (.getfield 26, 3) := by decide +kernel
theorem dX11_keep_20 : decode cX11_keep 20 = .ok (.getfield 322, 3) := by decide +kernel
theorem dX11_keep_23 : decode cX11_keep 23 = .ok (.ireturn, 1) := by decide +kernel
theorem FG_X11_30 : FG RX11 30 11 16 11 := ⟨RX11, TX11, rfl, wX11, by decide, kAW (v_1_7 (List.mem_of_getElem? (i := 7) rfl)) rfl, rfl⟩
theorem FP_X11_108 : FPX RX11 108 11 16 15 .boolean := ⟨⟨RX11, TX11, tyX11, rfl, wX11, by decide, kAW (v_1_7 (List.mem_of_getElem? (i := 11) rfl)) rfl, rfl, tyX11_ok, nmX11, by decide +kernel, rfl⟩, by decide +kernel⟩
theorem FG_X11_322 : FG RX11 322 7 8 4 := ⟨RX7, TX7, rfl, wX7, by decide, kAW (v_0_5 (List.mem_of_getElem? (i := 10) rfl)) rfl, rfl⟩
set_option maxRecDepth 100000 in
set_option maxHeartbeats 4000000 in
theorem p_X11_keep (l : Launch) (D : va_G) (cA : Nat → ClassId) (ad : Nat → Nat) (g0 : Nat → va_E)    (hSh : Shp ad cA g0) (hG : Rng g0) : CT l NN ad cA D yX11_keep cX11_keep 1 (some FieldType.int) (1, 23) [.ref (ad 0)] g0 (fun v g' => ∃ (r : Int32), v = some (.int r) ∧ Shp ad cA g' ∧ Rng g' ∧ FR (fun i k => i = 31 ∨ i = 32 ∨ (34 ≤ i ∧ i < 42) ∨ (i = 30 ∧ (k = 3 ∨ k = 4 ∨ k = 5 ∨ k = 6 ∨ k = 7)) ∨ (i = 0 ∧ (k = 15))) g0 g') := by
  refine q_enterI (by decide) (Nat.le_of_ble_eq_true rfl) rfl (fun K H locs ls _ _ hM hW0 hR hC hE hl => ?_)
  have hl : lv_has ls 1 [(0, .ref (ad 0))] := hl
  have hW : WS ad cA (fun i k => i = 31 ∨ i = 32 ∨ (34 ≤ i ∧ i < 42) ∨ (i = 30 ∧ (k = 3 ∨ k = 4 ∨ k = 5 ∨ k = 6 ∨ k = 7)) ∨ (i = 0 ∧ (k = 15))) g0 K g0 H locs := ⟨hW0, hSh, FR.rf⟩
  have := kc_0
  have := kc_1
  have := kc_m1
  have := kc_m2
  refine q_aload_n hM dX11_keep_0 (lv_at hl 0 rfl) ?_
  refine w_get (v := .ref (ad 30)) hM hW FG_X11_30 lb_0 (rf_0_11 hW.2.1) dX11_keep_1 ?_
  refine q_aload_n hM dX11_keep_4 (lv_at hl 0 rfl) ?_
  refine w_get (v := .ref (ad 18)) hM hW FG_X11_26 lb_0 (rf_0_10 hW.2.1) dX11_keep_5 ?_
  refine q_callV (As := [.ref (ad 18)]) (rest := []) hM hW.1 hR hC myX7_become (kAW (v_3_0 (List.mem_of_getElem? (i := 9) rfl)) rfl) (rfl : vwCl[7]? = some (RX7, TX7, 8)) rfl lb_30.1 (shO hW.2.1 lb_30) (a_X7_become_30_18 _ _ cA ad g0  hW.2.1 hG) ⟨by decide, by decide⟩ rfl rfl hl.1 (Nat.le_of_ble_eq_true rfl) dX11_keep_8 (fun v g5279 H locs hp hW1 => ?_)
  obtain ⟨rfl, hs1, hG, hf1⟩ := hp
  have hW : WS ad cA (fun i k => i = 31 ∨ i = 32 ∨ (34 ≤ i ∧ i < 42) ∨ (i = 30 ∧ (k = 3 ∨ k = 4 ∨ k = 5 ∨ k = 6 ∨ k = 7)) ∨ (i = 0 ∧ (k = 15))) g0 K g5279 H locs := ⟨hW1, hs1, hW.2.2.tr hf1 (fun i k h => h.elim (fun h => (Or.inl h)) (fun h => h.elim (fun h => (Or.inr (Or.inl h))) (fun h => h.elim (fun h => (Or.inr (Or.inr (Or.inl h)))) (fun h => (Or.inr (Or.inr (Or.inr (Or.inl h))))))))⟩
  refine q_aload_n hM dX11_keep_11 (lv_at hl 0 rfl) ?_
  refine q_iconst (v := (1 : Int32)) hM dX11_keep_12 (by decide) ?_
  refine w_put hM hW FP_X11_108 lb_0 (by omega) (Or.inl ⟨_, rfl⟩) rfl rfl dX11_keep_13 (fun g5280 H locs hW e1 e2 => ?_)
  have f5281 : fld g5280 0 15 = .int (1 : Int32) := e1
  have hG := hG.put e1 e2 rF_0_15 (by decide) (by have := kc_1; have := i_rng (1 : Int32); omega) (by have := kc_1; have := i_rng (1 : Int32); omega)
  refine q_aload_n hM dX11_keep_16 (lv_at hl 0 rfl) ?_
  refine w_get (v := .ref (ad 18)) hM hW FG_X11_26 lb_0 (rf_0_10 hW.2.1) dX11_keep_17 ?_
  refine w_getI hM hW FG_X11_322 lb_18 (by decide) (by decide) dX11_keep_20 (fun x5282 fx5282 => ?_)
  exact hE _ _ _ _ _ _ hW.1 ⟨_, rfl, hW.2.1, hG, hW.2.2⟩ dX11_keep_23

theorem dX11_undo_0 : decode cX11_undo 0 = .ok (.aload_n 0, 1) := by decide +kernel
theorem dX11_undo_1 : decode cX11_undo 1 = .ok (.getfield 108, 3) := by decide +kernel
theorem dX11_undo_4 : decode cX11_undo 4 = .ok (.ifCond .ne 5, 3) := by decide +kernel
theorem dX11_undo_7 : decode cX11_undo 7 = .ok (.iconst 0, 1) := by decide +kernel
theorem dX11_undo_8 : decode cX11_undo 8 = .ok (.ireturn, 1) := by decide +kernel
theorem dX11_undo_9 : decode cX11_undo 9 = .ok (.aload_n 0, 1) := by decide +kernel
theorem dX11_undo_10 : decode cX11_undo 10 = .ok (.getfield 26, 3) := by decide +kernel
theorem dX11_undo_13 : decode cX11_undo 13 = .ok (.aload_n 0, 1) := by decide +kernel
theorem dX11_undo_14 : decode cX11_undo 14 = .ok (.getfield 30, 3) := by decide +kernel
theorem dX11_undo_17 : decode cX11_undo 17 = .ok (.invokevirtual 319, 3) := by decide +kernel
theorem dX11_undo_20 : decode cX11_undo 20 = .ok (.iconst 1, 1) := by decide +kernel
theorem dX11_undo_21 : decode cX11_undo 21 = .ok (.ireturn, 1) := by decide +kernel
theorem FG_X11_108 : FG RX11 108 11 16 15 := ⟨RX11, TX11, rfl, wX11, by decide, kAW (v_1_7 (List.mem_of_getElem? (i := 11) rfl)) rfl, rfl⟩
set_option maxRecDepth 100000 in
set_option maxHeartbeats 4000000 in
theorem p_X11_undo (l : Launch) (D : va_G) (cA : Nat → ClassId) (ad : Nat → Nat) (g0 : Nat → va_E)    (hSh : Shp ad cA g0) (hG : Rng g0) : CT l NN ad cA D yX11_undo cX11_undo 1 (some FieldType.boolean) (1, 23) [.ref (ad 0)] g0 (fun v g' => ∃ (r : Int32), v = some (.int r) ∧ Shp ad cA g' ∧ Rng g' ∧ FR (fun i k => i = 19 ∨ i = 20 ∨ (22 ≤ i ∧ i < 30) ∨ (i = 18 ∧ (k = 3 ∨ k = 4 ∨ k = 5 ∨ k = 6 ∨ k = 7))) g0 g' ∧ (r.toInt = 0 ∨ r.toInt = 1)) := by
  refine q_enterZ (by decide) (Nat.le_of_ble_eq_true rfl) (fun K H locs ls _ _ hM hW0 hR hC hE hl => ?_)
  have hl : lv_has ls 1 [(0, .ref (ad 0))] := hl
  have hW : WS ad cA (fun i k => i = 19 ∨ i = 20 ∨ (22 ≤ i ∧ i < 30) ∨ (i = 18 ∧ (k = 3 ∨ k = 4 ∨ k = 5 ∨ k = 6 ∨ k = 7))) g0 K g0 H locs := ⟨hW0, hSh, FR.rf⟩
  have := kc_0
  have := kc_1
  have := kc_m1
  have := kc_m2
  refine q_aload_n hM dX11_undo_0 (lv_at hl 0 rfl) ?_
  refine w_getI hM hW FG_X11_108 lb_0 (by decide) (by decide) dX11_undo_1 (fun x5283 fx5283 => ?_)
  have bx5283 := hG.f fx5283 rF_0_15 (by decide)
  refine q_if_ne (tgt := 9) hM dX11_undo_4 (by decide) (rfl : x5283.toInt = x5283.toInt) (fun h4 => ?_) (fun h4 => ?_)
  · refine q_aload_n hM dX11_undo_9 (lv_at hl 0 rfl) ?_
    refine w_get (v := .ref (ad 18)) hM hW FG_X11_26 lb_0 (rf_0_10 hW.2.1) dX11_undo_10 ?_
    refine q_aload_n hM dX11_undo_13 (lv_at hl 0 rfl) ?_
    refine w_get (v := .ref (ad 30)) hM hW FG_X11_30 lb_0 (rf_0_11 hW.2.1) dX11_undo_14 ?_
    refine q_callV (As := [.ref (ad 30)]) (rest := []) hM hW.1 hR hC myX7_become (kAW (v_3_0 (List.mem_of_getElem? (i := 9) rfl)) rfl) (rfl : vwCl[7]? = some (RX7, TX7, 8)) rfl lb_18.1 (shO hW.2.1 lb_18) (a_X7_become_18_30 _ _ cA ad g0  hW.2.1 hG) ⟨by decide, by decide⟩ rfl rfl hl.1 (Nat.le_of_ble_eq_true rfl) dX11_undo_17 (fun v g5285 H locs hp hW1 => ?_)
    obtain ⟨rfl, hs1, hG, hf1⟩ := hp
    have f5286 : fld g5285 0 15 = .int x5283 := (hf1.1 0 15 (by omega)).trans fx5283
    have hW : WS ad cA (fun i k => i = 19 ∨ i = 20 ∨ (22 ≤ i ∧ i < 30) ∨ (i = 18 ∧ (k = 3 ∨ k = 4 ∨ k = 5 ∨ k = 6 ∨ k = 7))) g0 K g5285 H locs := ⟨hW1, hs1, hW.2.2.tr hf1 (fun i k h => h.elim (fun h => (Or.inl h)) (fun h => h.elim (fun h => (Or.inr (Or.inl h))) (fun h => h.elim (fun h => (Or.inr (Or.inr (Or.inl h)))) (fun h => (Or.inr (Or.inr (Or.inr h)))))))⟩
    refine q_iconst (v := (1 : Int32)) hM dX11_undo_20 (by decide) ?_
    exact hE _ _ _ _ _ _ hW.1 nz_1 ⟨_, rfl, hW.2.1, hG, hW.2.2, (by have := kc_1; omega)⟩ dX11_undo_21
  · refine q_iconst (v := (0 : Int32)) hM dX11_undo_7 (by decide) ?_
    exact hE _ _ _ _ _ _ hW.1 nz_0 ⟨_, rfl, hW.2.1, hG, hW.2.2, (by have := kc_0; omega)⟩ dX11_undo_8

theorem dX11_check_0 : decode cX11_check 0 = .ok (.aload_n 0, 1) := by decide +kernel
theorem dX11_check_1 : decode cX11_check 1 = .ok (.getfield 26, 3) := by decide +kernel
theorem dX11_check_4 : decode cX11_check 4 = .ok (.getfield 135, 3) := by decide +kernel
theorem dX11_check_7 : decode cX11_check 7 = .ok (.iload_n 1, 1) := by decide +kernel
theorem dX11_check_8 : decode cX11_check 8 = .ok (.invokestatic 123, 3) := by decide +kernel
theorem dX11_check_11 : decode cX11_check 11 = .ok (.ifCond .eq 24, 3) := by decide +kernel
theorem dX11_check_14 : decode cX11_check 14 = .ok (.iload_n 2, 1) := by decide +kernel
theorem dX11_check_15 : decode cX11_check 15 = .ok (.iconst 0, 1) := by decide +kernel
theorem dX11_check_16 : decode cX11_check 16 = .ok (.bipush 12, 2) := by decide +kernel
theorem dX11_check_18 : decode cX11_check 18 = .ok (.invokestatic 112, 3) := by decide +kernel
theorem dX11_check_21 : decode cX11_check 21 = .ok (.ifCond .eq 14, 3) := by decide +kernel
theorem dX11_check_24 : decode cX11_check 24 = .ok (.iload_n 2, 1) := by decide +kernel
theorem dX11_check_25 : decode cX11_check 25 = .ok (.aload_n 0, 1) := by decide +kernel
theorem dX11_check_26 : decode cX11_check 26 = .ok (.getfield 10, 3) := by decide +kernel
theorem dX11_check_29 : decode cX11_check 29 = .ok (.getfield 139, 3) := by decide +kernel
theorem dX11_check_32 : decode cX11_check 32 = .ok (.if_icmp .le 6, 3) := by decide +kernel
theorem dX11_check_35 : decode cX11_check 35 = .ok (.bipush (-2), 2) := by decide +kernel
theorem dX11_check_37 : decode cX11_check 37 = .ok (.ireturn, 1) := by decide +kernel
theorem dX11_check_38 : decode cX11_check 38 = .ok (.aload_n 0, 1) := by decide +kernel
theorem dX11_check_39 : decode cX11_check 39 = .ok (.getfield 10, 3) := by decide +kernel
theorem dX11_check_42 : decode cX11_check 42 = .ok (.iconst 0, 1) := by decide +kernel
theorem dX11_check_43 : decode cX11_check 43 = .ok (.putfield 139, 3) := by decide +kernel
theorem dX11_check_46 : decode cX11_check 46 = .ok (.iconst 0, 1) := by decide +kernel
theorem dX11_check_47 : decode cX11_check 47 = .ok (.istore_n 3, 1) := by decide +kernel
theorem dX11_check_48 : decode cX11_check 48 = .ok (.iload_n 3, 1) := by decide +kernel
theorem dX11_check_49 : decode cX11_check 49 = .ok (.iload_n 2, 1) := by decide +kernel
theorem dX11_check_50 : decode cX11_check 50 = .ok (.if_icmp .ge 34, 3) := by decide +kernel
theorem dX11_check_53 : decode cX11_check 53 = .ok (.aload_n 0, 1) := by decide +kernel
theorem dX11_check_54 : decode cX11_check 54 = .ok (.getfield 10, 3) := by decide +kernel
theorem dX11_check_57 : decode cX11_check 57 = .ok (.getfield 58, 3) := by decide +kernel
theorem dX11_check_60 : decode cX11_check 60 = .ok (.iload_n 3, 1) := by decide +kernel
theorem dX11_check_61 : decode cX11_check 61 = .ok (.iaload, 1) := by decide +kernel
theorem dX11_check_62 : decode cX11_check 62 = .ok (.aload_n 0, 1) := by decide +kernel
theorem dX11_check_63 : decode cX11_check 63 = .ok (.getfield 26, 3) := by decide +kernel
theorem dX11_check_66 : decode cX11_check 66 = .ok (.getfield 136, 3) := by decide +kernel
theorem dX11_check_69 : decode cX11_check 69 = .ok (.iload_n 1, 1) := by decide +kernel
theorem dX11_check_70 : decode cX11_check 70 = .ok (.aaload, 1) := by decide +kernel
theorem dX11_check_71 : decode cX11_check 71 = .ok (.iload_n 3, 1) := by decide +kernel
theorem dX11_check_72 : decode cX11_check 72 = .ok (.iaload, 1) := by decide +kernel
theorem dX11_check_73 : decode cX11_check 73 = .ok (.if_icmp .eq 5, 3) := by decide +kernel
theorem dX11_check_76 : decode cX11_check 76 = .ok (.iload_n 3, 1) := by decide +kernel
theorem dX11_check_77 : decode cX11_check 77 = .ok (.ireturn, 1) := by decide +kernel
theorem dX11_check_78 : decode cX11_check 78 = .ok (.iinc 3 1, 3) := by decide +kernel
theorem dX11_check_81 : decode cX11_check 81 = .ok (.goto (-33), 3) := by decide +kernel
theorem dX11_check_84 : decode cX11_check 84 = .ok (.iconst (-1), 1) := by decide +kernel
theorem dX11_check_85 : decode cX11_check 85 = .ok (.ireturn, 1) := by decide +kernel
set_option maxRecDepth 100000 in
set_option maxHeartbeats 4000000 in
theorem p_X11_check (l : Launch) (D : va_G) (cA : Nat → ClassId) (ad : Nat → Nat) (g0 : Nat → va_E) (a : Int32) (b : Int32)   (hSh : Shp ad cA g0) (hG : Rng g0) : CT l NN ad cA D yX11_check cX11_check 4 (some FieldType.int) (1, 22) [.ref (ad 0), .int a, .int b] g0 (fun v g' => ∃ (r : Int32), v = some (.int r) ∧ Shp ad cA g' ∧ Rng g' ∧ FR (fun i k => (i = 1 ∧ (k = 1))) g0 g') := by
  refine q_enterI (by decide) (Nat.le_of_ble_eq_true rfl) rfl (fun K H locs ls _ _ hM hW0 hR hC hE hl => ?_)
  have hl : lv_has ls 4 [(0, .ref (ad 0)), (1, .int a), (2, .int b)] := hl
  have hW : WS ad cA (fun i k => (i = 1 ∧ (k = 1))) g0 K g0 H locs := ⟨hW0, hSh, FR.rf⟩
  have := kc_0
  have := kc_1
  have := kc_m1
  have := kc_m2
  have := i_rng b
  refine q_aload_n hM dX11_check_0 (lv_at hl 0 rfl) ?_
  refine w_get (v := .ref (ad 18)) hM hW FG_X11_26 lb_0 (rf_0_10 hW.2.1) dX11_check_1 ?_
  refine w_getI hM hW FG_X11_135 lb_18 (by decide) (by decide) dX11_check_4 (fun x5288 fx5288 => ?_)
  have bx5288 := hG.f fx5288 rF_18_3 (by decide)
  refine q_iload_n hM dX11_check_7 (lv_at hl 1 rfl) ?_
  refine q_callS (As := [.int x5288, .int a]) (rest := []) hM hW.1 hR hC myX11_has (kAW (v_1_10 (List.mem_of_getElem? (i := 8) rfl)) rfl) (c_X11_has _ _ cA ad g0 x5288 a hW.2.1) ⟨by decide, by decide⟩ rfl rfl hl.1 (Nat.le_of_ble_eq_true rfl) dX11_check_8 (fun v g5290 H locs hp hW1 => ?_)
  obtain ⟨r5289, rfl, hr5289, rfl⟩ := hp
  have hW : WS ad cA (fun i k => (i = 1 ∧ (k = 1))) g0 K g0 H locs := ⟨hW1, hW.2.1, hW.2.2⟩
  first | have ltr5289 := has_lt 5 hr5289 (by omega) (by omega) | have ltr5289 := has_lt 6 hr5289 (by omega) (by omega) | have ltr5289 := has_lt 8 hr5289 (by omega) (by omega) | have ltr5289 := has_lt 12 hr5289 (by omega) (by omega) | skip
  refine q_if_eq (tgt := 35) hM dX11_check_11 (by decide) (rfl : r5289.toInt = r5289.toInt) (fun h11 => ?_) (fun h11 => ?_)
  · refine q_bipush (v := ((-2) : Int32)) hM dX11_check_35 (by decide) ?_
    exact hE _ _ _ _ _ _ hW.1 ⟨_, rfl, hW.2.1, hG, hW.2.2⟩ dX11_check_37
  · refine q_iload_n hM dX11_check_14 (lv_at hl 2 rfl) ?_
    refine q_iconst (v := (0 : Int32)) hM dX11_check_15 (by decide) ?_
    refine q_bipush (v := (12 : Int32)) hM dX11_check_16 (by decide) ?_
    refine q_callS (As := [.int b, .int (0 : Int32), .int (12 : Int32)]) (rest := []) hM hW.1 hR hC myX11_within (kAW (v_1_10 (List.mem_of_getElem? (i := 1) rfl)) rfl) (c_X11_within _ _ cA ad g0 b (0 : Int32) (12 : Int32) hW.2.1) ⟨by decide, by decide⟩ rfl rfl hl.1 (Nat.le_of_ble_eq_true rfl) dX11_check_18 (fun v g5294 H locs hp hW1 => ?_)
    obtain ⟨r5293, rfl, hr5293, rfl⟩ := hp
    have hW : WS ad cA (fun i k => (i = 1 ∧ (k = 1))) g0 K g0 H locs := ⟨hW1, hW.2.1, hW.2.2⟩
    have := kc_0
    have := kc_12
    refine q_if_eq (tgt := 35) hM dX11_check_21 (by decide) (rfl : r5293.toInt = r5293.toInt) (fun h21 => ?_) (fun h21 => ?_)
    · refine q_bipush (v := ((-2) : Int32)) hM dX11_check_35 (by decide) ?_
      exact hE _ _ _ _ _ _ hW.1 ⟨_, rfl, hW.2.1, hG, hW.2.2⟩ dX11_check_37
    · refine q_iload_n hM dX11_check_24 (lv_at hl 2 rfl) ?_
      refine q_aload_n hM dX11_check_25 (lv_at hl 0 rfl) ?_
      refine w_get (v := .ref (ad 1)) hM hW FG_X11_10 lb_0 (rf_0_0 hW.2.1) dX11_check_26 ?_
      refine w_getI hM hW FG_X11_139 lb_1 (by decide) (by decide) dX11_check_29 (fun x5297 fx5297 => ?_)
      have bx5297 := hG.f fx5297 rF_1_1 (by decide)
      refine q_icmp_le (tgt := 38) hM dX11_check_32 (by decide) (rfl : b.toInt = b.toInt) (rfl : x5297.toInt = x5297.toInt) (fun h32 => ?_) (fun h32 => ?_)
      · refine q_aload_n hM dX11_check_38 (lv_at hl 0 rfl) ?_
        refine w_get (v := .ref (ad 1)) hM hW FG_X11_10 lb_0 (rf_0_0 hW.2.1) dX11_check_39 ?_
        refine q_iconst (v := (0 : Int32)) hM dX11_check_42 (by decide) ?_
        refine w_put hM hW FP_X11_139 lb_1 (by omega) (Or.inl ⟨_, rfl⟩) rfl rfl dX11_check_43 (fun g5299 H locs hW e1 e2 => ?_)
        have f5300 : fld g5299 18 3 = .int x5288 := (e2.1 18 3 (by unfold Only; omega)).trans fx5288
        have f5301 : fld g5299 1 1 = .int (0 : Int32) := e1
        have hG := hG.put e1 e2 rF_1_1 (by decide) (by have := kc_0; have := i_rng (0 : Int32); omega) (by have := kc_0; have := i_rng (0 : Int32); omega)
        refine q_iconst (v := (0 : Int32)) hM dX11_check_46 (by decide) ?_
        refine q_istore_n (lv9 := [(3, .int (0 : Int32)), (0, .ref (ad 0)), (1, .int a), (2, .int b)]) hM dX11_check_47 hl (by decide) rfl (fun ls hl => ?_)
        have L48 : ∀ (fu48 : Nat) (w48_3 : Int32) (g9 : Nat → va_E) (H : Heap) (locs : List Loc) (ls : Array Slot), (b.toInt - w48_3.toInt + 1).toNat < fu48 → (Rng g9) → (0 ≤ w48_3.toInt) → lv_has ls 4 [(0, .ref (ad 0)), (1, .int a), (2, .int b), (3, .int w48_3)] → WS ad cA (fun i k => (i = 1 ∧ (k = 1))) g0 K g9 H locs → XX K 0 0 H locs 48 ls [] := by
          intro fu48
          induction fu48 with
          | zero => intro w48_3 g9 H locs ls h0; omega
          | succ fu48 ih48 =>
            intro w48_3 g9 H locs ls hm48 i48_0 i48_1 hl hW
            have hG := i48_0
            have := i_rng b
            refine q_iload_n hM dX11_check_48 (lv_at hl 3 rfl) ?_
            refine q_iload_n hM dX11_check_49 (lv_at hl 2 rfl) ?_
            refine q_icmp_ge (tgt := 84) hM dX11_check_50 (by decide) (rfl : w48_3.toInt = w48_3.toInt) (rfl : b.toInt = b.toInt) (fun h50 => ?_) (fun h50 => ?_)
            · refine q_iconst (v := ((-1) : Int32)) hM dX11_check_84 (by decide) ?_
              exact hE _ _ _ _ _ _ hW.1 ⟨_, rfl, hW.2.1, hG, hW.2.2⟩ dX11_check_85
            · refine q_aload_n hM dX11_check_53 (lv_at hl 0 rfl) ?_
              refine w_get (v := .ref (ad 1)) hM hW FG_X11_10 lb_0 (rf_0_0 hW.2.1) dX11_check_54 ?_
              refine w_get (v := .ref (ad 2)) hM hW FG_X11_58 lb_1 (rf_1_0 hW.2.1) dX11_check_57 ?_
              refine q_iload_n hM dX11_check_60 (lv_at hl 3 rfl) ?_
              refine w_iald hM hW lb_2 (i_in (by omega) (by omega)) dX11_check_61 ?_
              refine q_top (fun y5305 hy5305 => ?_)
              have by5305 := hG.a hy5305 rA_2
              have cy5305 := congrArg Int32.toInt hy5305
              refine q_aload_n hM dX11_check_62 (lv_at hl 0 rfl) ?_
              refine w_get (v := .ref (ad 18)) hM hW FG_X11_26 lb_0 (rf_0_10 hW.2.1) dX11_check_63 ?_
              refine w_get (v := .ref (ad 21)) hM hW FG_X11_136 lb_18 (rf_18_2 hW.2.1) dX11_check_66 ?_
              refine q_iload_n hM dX11_check_69 (lv_at hl 1 rfl) ?_
              refine w_aald hM hW lb_21 (Or.inl rfl) (i_in (by omega) (by omega)) (aq (aq_21 hW.2.1) (by omega) (by omega)) dX11_check_70 ?_
              refine q_iload_n hM dX11_check_71 (lv_at hl 3 rfl) ?_
              refine w_iald hM hW (lr_22 (by omega)) (i_in (by omega) (by omega)) dX11_check_72 ?_
              refine q_top (fun y5306 hy5306 => ?_)
              refine q_icmp_eq (tgt := 78) hM dX11_check_73 (by decide) (rfl : y5305.toInt = y5305.toInt) (rfl : y5306.toInt = y5306.toInt) (fun h73 => ?_) (fun h73 => ?_)
              · refine q_iinc (lv9 := fun z5308 => [(3, .int z5308), (0, .ref (ad 0)), (1, .int a), (2, .int b)]) hM dX11_check_78 hl (kq := 3) rfl (by decide) (fun _ => rfl) (fun z5308 ls hz5308 hl => ?_)
                first | have tz5308 := i_addT hz5308 (rfl : w48_3.toInt = w48_3.toInt) (kc_1 : (Int32.ofInt 1).toInt = 1) (by omega) (by omega) | skip
                refine q_goto (tgt := 48) hM dX11_check_81 (by decide) ?_
                exact ih48 z5308 _ _ _ _ (by omega) hG (by omega) (lv_sub hl [1, 2, 3, 0] rfl) hW
              · refine q_iload_n hM dX11_check_76 (lv_at hl 3 rfl) ?_
                exact hE _ _ _ _ _ _ hW.1 ⟨_, rfl, hW.2.1, hG, hW.2.2⟩ dX11_check_77
        have := kc_0
        exact L48 _ (0 : Int32) _ _ _ _ (Nat.lt_succ_self _) hG (by omega) (lv_sub hl [1, 2, 3, 0] rfl) hW
      · refine q_bipush (v := ((-2) : Int32)) hM dX11_check_35 (by decide) ?_
        exact hE _ _ _ _ _ _ hW.1 ⟨_, rfl, hW.2.1, hG, hW.2.2⟩ dX11_check_37

theorem dX11_count_0 : decode cX11_count 0 = .ok (.aload_n 0, 1) := by decide +kernel
theorem dX11_count_1 : decode cX11_count 1 = .ok (.getfield 83, 3) := by decide +kernel
theorem dX11_count_4 : decode cX11_count 4 = .ok (.getfield 158, 3) := by decide +kernel
theorem dX11_count_7 : decode cX11_count 7 = .ok (.iload_n 1, 1) := by decide +kernel
theorem dX11_count_8 : decode cX11_count 8 = .ok (.bipush 20, 2) := by decide +kernel
theorem dX11_count_10 : decode cX11_count 10 = .ok (.isub, 1) := by decide +kernel
theorem dX11_count_11 : decode cX11_count 11 = .ok (.invokestatic 123, 3) := by decide +kernel
theorem dX11_count_14 : decode cX11_count 14 = .ok (.ifCond .eq 19, 3) := by decide +kernel
theorem dX11_count_17 : decode cX11_count 17 = .ok (.aload_n 0, 1) := by decide +kernel
theorem dX11_count_18 : decode cX11_count 18 = .ok (.getfield 83, 3) := by decide +kernel
theorem dX11_count_21 : decode cX11_count 21 = .ok (.getfield 150, 3) := by decide +kernel
theorem dX11_count_24 : decode cX11_count 24 = .ok (.iload_n 1, 1) := by decide +kernel
theorem dX11_count_25 : decode cX11_count 25 = .ok (.bipush 20, 2) := by decide +kernel
theorem dX11_count_27 : decode cX11_count 27 = .ok (.isub, 1) := by decide +kernel
theorem dX11_count_28 : decode cX11_count 28 = .ok (.aaload, 1) := by decide +kernel
theorem dX11_count_29 : decode cX11_count 29 = .ok (.getfield 325, 3) := by decide +kernel
theorem dX11_count_32 : decode cX11_count 32 = .ok (.ireturn, 1) := by decide +kernel
theorem dX11_count_33 : decode cX11_count 33 = .ok (.iload_n 1, 1) := by decide +kernel
theorem dX11_count_34 : decode cX11_count 34 = .ok (.bipush 31, 2) := by decide +kernel
theorem dX11_count_36 : decode cX11_count 36 = .ok (.bipush 39, 2) := by decide +kernel
theorem dX11_count_38 : decode cX11_count 38 = .ok (.invokestatic 112, 3) := by decide +kernel
theorem dX11_count_41 : decode cX11_count 41 = .ok (.ifCond .eq 28, 3) := by decide +kernel
theorem dX11_count_44 : decode cX11_count 44 = .ok (.aload_n 0, 1) := by decide +kernel
theorem dX11_count_45 : decode cX11_count 45 = .ok (.getfield 83, 3) := by decide +kernel
theorem dX11_count_48 : decode cX11_count 48 = .ok (.getfield 164, 3) := by decide +kernel
theorem dX11_count_51 : decode cX11_count 51 = .ok (.iload_n 1, 1) := by decide +kernel
theorem dX11_count_52 : decode cX11_count 52 = .ok (.bipush 30, 2) := by decide +kernel
theorem dX11_count_54 : decode cX11_count 54 = .ok (.isub, 1) := by decide +kernel
theorem dX11_count_55 : decode cX11_count 55 = .ok (.iaload, 1) := by decide +kernel
theorem dX11_count_56 : decode cX11_count 56 = .ok (.istore_n 2, 1) := by decide +kernel
theorem dX11_count_57 : decode cX11_count 57 = .ok (.iload_n 2, 1) := by decide +kernel
theorem dX11_count_58 : decode cX11_count 58 = .ok (.iconst (-1), 1) := by decide +kernel
theorem dX11_count_59 : decode cX11_count 59 = .ok (.if_icmp .ne 8, 3) := by decide +kernel
theorem dX11_count_62 : decode cX11_count 62 = .ok (.bipush (-2), 2) := by decide +kernel
theorem dX11_count_64 : decode cX11_count 64 = .ok (.goto 4, 3) := by decide +kernel
theorem dX11_count_67 : decode cX11_count 67 = .ok (.iload_n 2, 1) := by decide +kernel
theorem dX11_count_68 : decode cX11_count 68 = .ok (.ireturn, 1) := by decide +kernel
theorem dX11_count_69 : decode cX11_count 69 = .ok (.aload_n 0, 1) := by decide +kernel
theorem dX11_count_70 : decode cX11_count 70 = .ok (.getfield 19, 3) := by decide +kernel
theorem dX11_count_73 : decode cX11_count 73 = .ok (.getfield 116, 3) := by decide +kernel
theorem dX11_count_76 : decode cX11_count 76 = .ok (.iload_n 1, 1) := by decide +kernel
theorem dX11_count_77 : decode cX11_count 77 = .ok (.bipush 40, 2) := by decide +kernel
theorem dX11_count_79 : decode cX11_count 79 = .ok (.isub, 1) := by decide +kernel
theorem dX11_count_80 : decode cX11_count 80 = .ok (.invokestatic 123, 3) := by decide +kernel
theorem dX11_count_83 : decode cX11_count 83 = .ok (.ifCond .eq 16, 3) := by decide +kernel
theorem dX11_count_86 : decode cX11_count 86 = .ok (.aload_n 0, 1) := by decide +kernel
theorem dX11_count_87 : decode cX11_count 87 = .ok (.getfield 19, 3) := by decide +kernel
theorem dX11_count_90 : decode cX11_count 90 = .ok (.getfield 120, 3) := by decide +kernel
theorem dX11_count_93 : decode cX11_count 93 = .ok (.iload_n 1, 1) := by decide +kernel
theorem dX11_count_94 : decode cX11_count 94 = .ok (.bipush 40, 2) := by decide +kernel
theorem dX11_count_96 : decode cX11_count 96 = .ok (.isub, 1) := by decide +kernel
theorem dX11_count_97 : decode cX11_count 97 = .ok (.iaload, 1) := by decide +kernel
theorem dX11_count_98 : decode cX11_count 98 = .ok (.ireturn, 1) := by decide +kernel
theorem dX11_count_99 : decode cX11_count 99 = .ok (.iload_n 1, 1) := by decide +kernel
theorem dX11_count_100 : decode cX11_count 100 = .ok (.tableswitch 160 0 11 #[64, 72, 80, 88, 96, 104, 112, 120, 128, 136, 144, 152], 64) := by decide +kernel
theorem dX11_count_164 : decode cX11_count 164 = .ok (.aload_n 0, 1) := by decide +kernel
theorem dX11_count_165 : decode cX11_count 165 = .ok (.getfield 26, 3) := by decide +kernel
theorem dX11_count_168 : decode cX11_count 168 = .ok (.getfield 322, 3) := by decide +kernel
theorem dX11_count_171 : decode cX11_count 171 = .ok (.ireturn, 1) := by decide +kernel
theorem dX11_count_172 : decode cX11_count 172 = .ok (.aload_n 0, 1) := by decide +kernel
theorem dX11_count_173 : decode cX11_count 173 = .ok (.getfield 26, 3) := by decide +kernel
theorem dX11_count_176 : decode cX11_count 176 = .ok (.getfield 173, 3) := by decide +kernel
theorem dX11_count_179 : decode cX11_count 179 = .ok (.ireturn, 1) := by decide +kernel
theorem dX11_count_180 : decode cX11_count 180 = .ok (.aload_n 0, 1) := by decide +kernel
theorem dX11_count_181 : decode cX11_count 181 = .ok (.getfield 26, 3) := by decide +kernel
theorem dX11_count_184 : decode cX11_count 184 = .ok (.getfield 328, 3) := by decide +kernel
theorem dX11_count_187 : decode cX11_count 187 = .ok (.ireturn, 1) := by decide +kernel
theorem dX11_count_188 : decode cX11_count 188 = .ok (.aload_n 0, 1) := by decide +kernel
theorem dX11_count_189 : decode cX11_count 189 = .ok (.getfield 19, 3) := by decide +kernel
theorem dX11_count_192 : decode cX11_count 192 = .ok (.getfield 116, 3) := by decide +kernel
theorem dX11_count_195 : decode cX11_count 195 = .ok (.ireturn, 1) := by decide +kernel
theorem dX11_count_196 : decode cX11_count 196 = .ok (.aload_n 0, 1) := by decide +kernel
theorem dX11_count_197 : decode cX11_count 197 = .ok (.getfield 26, 3) := by decide +kernel
theorem dX11_count_200 : decode cX11_count 200 = .ok (.getfield 135, 3) := by decide +kernel
theorem dX11_count_203 : decode cX11_count 203 = .ok (.ireturn, 1) := by decide +kernel
theorem dX11_count_204 : decode cX11_count 204 = .ok (.aload_n 0, 1) := by decide +kernel
theorem dX11_count_205 : decode cX11_count 205 = .ok (.getfield 83, 3) := by decide +kernel
theorem dX11_count_208 : decode cX11_count 208 = .ok (.getfield 158, 3) := by decide +kernel
theorem dX11_count_211 : decode cX11_count 211 = .ok (.ireturn, 1) := by decide +kernel
theorem dX11_count_212 : decode cX11_count 212 = .ok (.aload_n 0, 1) := by decide +kernel
theorem dX11_count_213 : decode cX11_count 213 = .ok (.getfield 90, 3) := by decide +kernel
theorem dX11_count_216 : decode cX11_count 216 = .ok (.getfield 273, 3) := by decide +kernel
theorem dX11_count_219 : decode cX11_count 219 = .ok (.ireturn, 1) := by decide +kernel
theorem dX11_count_220 : decode cX11_count 220 = .ok (.aload_n 0, 1) := by decide +kernel
theorem dX11_count_221 : decode cX11_count 221 = .ok (.getfield 39, 3) := by decide +kernel
theorem dX11_count_224 : decode cX11_count 224 = .ok (.getfield 196, 3) := by decide +kernel
theorem dX11_count_227 : decode cX11_count 227 = .ok (.ireturn, 1) := by decide +kernel
theorem dX11_count_228 : decode cX11_count 228 = .ok (.aload_n 0, 1) := by decide +kernel
theorem dX11_count_229 : decode cX11_count 229 = .ok (.getfield 10, 3) := by decide +kernel
theorem dX11_count_232 : decode cX11_count 232 = .ok (.getfield 139, 3) := by decide +kernel
theorem dX11_count_235 : decode cX11_count 235 = .ok (.ireturn, 1) := by decide +kernel
theorem dX11_count_236 : decode cX11_count 236 = .ok (.aload_n 0, 1) := by decide +kernel
theorem dX11_count_237 : decode cX11_count 237 = .ok (.getfield 26, 3) := by decide +kernel
theorem dX11_count_240 : decode cX11_count 240 = .ok (.getfield 316, 3) := by decide +kernel
theorem dX11_count_243 : decode cX11_count 243 = .ok (.ireturn, 1) := by decide +kernel
theorem dX11_count_244 : decode cX11_count 244 = .ok (.aload_n 0, 1) := by decide +kernel
theorem dX11_count_245 : decode cX11_count 245 = .ok (.getfield 83, 3) := by decide +kernel
theorem dX11_count_248 : decode cX11_count 248 = .ok (.getfield 167, 3) := by decide +kernel
theorem dX11_count_251 : decode cX11_count 251 = .ok (.ireturn, 1) := by decide +kernel
theorem dX11_count_252 : decode cX11_count 252 = .ok (.aload_n 0, 1) := by decide +kernel
theorem dX11_count_253 : decode cX11_count 253 = .ok (.getfield 83, 3) := by decide +kernel
theorem dX11_count_256 : decode cX11_count 256 = .ok (.getfield 170, 3) := by decide +kernel
theorem dX11_count_259 : decode cX11_count 259 = .ok (.ireturn, 1) := by decide +kernel
theorem dX11_count_260 : decode cX11_count 260 = .ok (.iconst (-1), 1) := by decide +kernel
theorem dX11_count_261 : decode cX11_count 261 = .ok (.ireturn, 1) := by decide +kernel
theorem FG_X11_316 : FG RX11 316 7 8 7 := ⟨RX7, TX7, rfl, wX7, by decide, kAW (v_0_6 (List.mem_of_getElem? (i := 2) rfl)) rfl, rfl⟩
theorem FG_X11_167 : FG RX11 167 2 11 5 := ⟨RX2, TX2, rfl, wX2, by decide, kAW (v_0_14 (List.mem_of_getElem? (i := 13) rfl)) rfl, rfl⟩
theorem FG_X11_170 : FG RX11 170 2 11 6 := ⟨RX2, TX2, rfl, wX2, by decide, kAW (v_0_14 (List.mem_of_getElem? (i := 15) rfl)) rfl, rfl⟩
theorem FG_X11_325 : FG RX11 325 0 3 2 := ⟨RX0, TX0, rfl, wX0, by decide, kAW (v_0_10 (List.mem_of_getElem? (i := 6) rfl)) rfl, rfl⟩
set_option maxRecDepth 100000 in
set_option maxHeartbeats 4000000 in
theorem p_X11_count (l : Launch) (D : va_G) (cA : Nat → ClassId) (ad : Nat → Nat) (g0 : Nat → va_E) (a : Int32)  (lw : Nat) (hSh : Shp ad cA g0) (hG : Rng g0) (hlw : isLw lw) (h_r13 : fld g0 0 13 = .ref (ad lw)) : CT l NN ad cA D yX11_count cX11_count 3 (some FieldType.int) (1, 22) [.ref (ad 0), .int a] g0 (fun v g' => ∃ (r : Int32), v = some (.int r) ∧ Shp ad cA g' ∧ Rng g' ∧ FR (fun i k => False) g0 g') := by
  refine q_enterI (by decide) (Nat.le_of_ble_eq_true rfl) rfl (fun K H locs ls _ _ hM hW0 hR hC hE hl => ?_)
  have hl : lv_has ls 3 [(0, .ref (ad 0)), (1, .int a)] := hl
  have hW : WS ad cA (fun i k => False) g0 K g0 H locs := ⟨hW0, hSh, FR.rf⟩
  have ulw := hlw
  unfold isLw at ulw
  have := kc_0
  have := kc_1
  have := kc_m1
  have := kc_m2
  refine q_aload_n hM dX11_count_0 (lv_at hl 0 rfl) ?_
  refine w_get (v := .ref (ad 80)) hM hW FG_X11_83 lb_0 (rf_0_2 hW.2.1) dX11_count_1 ?_
  refine w_getI hM hW FG_X11_158 lb_80 (by decide) (by decide) dX11_count_4 (fun x5311 fx5311 => ?_)
  have bx5311 := hG.f fx5311 rF_80_4 (by decide)
  refine q_iload_n hM dX11_count_7 (lv_at hl 1 rfl) ?_
  refine q_bipush (v := (20 : Int32)) hM dX11_count_8 (by decide) ?_
  refine q_isub hM dX11_count_10 (fun z5312 hz5312 => ?_)
  first | have tz5312 := i_subT hz5312 (rfl : a.toInt = a.toInt) (kc_20 : (20 : Int32).toInt = 20) (by omega) (by omega) | skip
  refine q_callS (As := [.int x5311, .int z5312]) (rest := []) hM hW.1 hR hC myX11_has (kAW (v_1_10 (List.mem_of_getElem? (i := 8) rfl)) rfl) (c_X11_has _ _ cA ad g0 x5311 z5312 hW.2.1) ⟨by decide, by decide⟩ rfl rfl hl.1 (Nat.le_of_ble_eq_true rfl) dX11_count_11 (fun v g5314 H locs hp hW1 => ?_)
  obtain ⟨r5313, rfl, hr5313, rfl⟩ := hp
  have hW : WS ad cA (fun i k => False) g0 K g0 H locs := ⟨hW1, hW.2.1, hW.2.2⟩
  first | have ltr5313 := has_lt 5 hr5313 (by omega) (by omega) | have ltr5313 := has_lt 6 hr5313 (by omega) (by omega) | have ltr5313 := has_lt 8 hr5313 (by omega) (by omega) | have ltr5313 := has_lt 12 hr5313 (by omega) (by omega) | skip
  refine q_if_eq (tgt := 33) hM dX11_count_14 (by decide) (rfl : r5313.toInt = r5313.toInt) (fun h14 => ?_) (fun h14 => ?_)
  · refine q_iload_n hM dX11_count_33 (lv_at hl 1 rfl) ?_
    refine q_bipush (v := (31 : Int32)) hM dX11_count_34 (by decide) ?_
    refine q_bipush (v := (39 : Int32)) hM dX11_count_36 (by decide) ?_
    refine q_callS (As := [.int a, .int (31 : Int32), .int (39 : Int32)]) (rest := []) hM hW.1 hR hC myX11_within (kAW (v_1_10 (List.mem_of_getElem? (i := 1) rfl)) rfl) (c_X11_within _ _ cA ad g0 a (31 : Int32) (39 : Int32) hW.2.1) ⟨by decide, by decide⟩ rfl rfl hl.1 (Nat.le_of_ble_eq_true rfl) dX11_count_38 (fun v g5317 H locs hp hW1 => ?_)
    obtain ⟨r5316, rfl, hr5316, rfl⟩ := hp
    have hW : WS ad cA (fun i k => False) g0 K g0 H locs := ⟨hW1, hW.2.1, hW.2.2⟩
    have := kc_31
    have := kc_39
    refine q_if_eq (tgt := 69) hM dX11_count_41 (by decide) (rfl : r5316.toInt = r5316.toInt) (fun h41 => ?_) (fun h41 => ?_)
    · refine q_aload_n hM dX11_count_69 (lv_at hl 0 rfl) ?_
      refine w_get (v := .ref (ad 3)) hM hW FG_X11_19 lb_0 (rf_0_1 hW.2.1) dX11_count_70 ?_
      refine w_getI hM hW FG_X11_116 lb_3 (by decide) (by decide) dX11_count_73 (fun x5319 fx5319 => ?_)
      have bx5319 := hG.f fx5319 rF_3_2 (by decide)
      refine q_iload_n hM dX11_count_76 (lv_at hl 1 rfl) ?_
      refine q_bipush (v := (40 : Int32)) hM dX11_count_77 (by decide) ?_
      refine q_isub hM dX11_count_79 (fun z5320 hz5320 => ?_)
      first | have tz5320 := i_subT hz5320 (rfl : a.toInt = a.toInt) (kc_40 : (40 : Int32).toInt = 40) (by omega) (by omega) | skip
      refine q_callS (As := [.int x5319, .int z5320]) (rest := []) hM hW.1 hR hC myX11_has (kAW (v_1_10 (List.mem_of_getElem? (i := 8) rfl)) rfl) (c_X11_has _ _ cA ad g0 x5319 z5320 hW.2.1) ⟨by decide, by decide⟩ rfl rfl hl.1 (Nat.le_of_ble_eq_true rfl) dX11_count_80 (fun v g5322 H locs hp hW1 => ?_)
      obtain ⟨r5321, rfl, hr5321, rfl⟩ := hp
      have hW : WS ad cA (fun i k => False) g0 K g0 H locs := ⟨hW1, hW.2.1, hW.2.2⟩
      first | have ltr5321 := has_lt 5 hr5321 (by omega) (by omega) | have ltr5321 := has_lt 6 hr5321 (by omega) (by omega) | have ltr5321 := has_lt 8 hr5321 (by omega) (by omega) | have ltr5321 := has_lt 12 hr5321 (by omega) (by omega) | skip
      refine q_if_eq (tgt := 99) hM dX11_count_83 (by decide) (rfl : r5321.toInt = r5321.toInt) (fun h83 => ?_) (fun h83 => ?_)
      · refine q_iload_n hM dX11_count_99 (lv_at hl 1 rfl) ?_
        rcases (show a.toInt < 0 ∨ 11 < a.toInt ∨ a.toInt = 0 ∨ a.toInt = 1 ∨ a.toInt = 2 ∨ a.toInt = 3 ∨ a.toInt = 4 ∨ a.toInt = 5 ∨ a.toInt = 6 ∨ a.toInt = 7 ∨ a.toInt = 8 ∨ a.toInt = 9 ∨ a.toInt = 10 ∨ a.toInt = 11 from by omega) with h100 | h100 | h100 | h100 | h100 | h100 | h100 | h100 | h100 | h100 | h100 | h100 | h100 | h100
        · refine q_tableOut (tgt := 260) hM dX11_count_100 rfl (by omega) (by decide) ?_
          refine q_iconst (v := ((-1) : Int32)) hM dX11_count_260 (by decide) ?_
          exact hE _ _ _ _ _ _ hW.1 ⟨_, rfl, hW.2.1, hG, hW.2.2⟩ dX11_count_261
        · refine q_tableOut (tgt := 260) hM dX11_count_100 rfl (by omega) (by decide) ?_
          refine q_iconst (v := ((-1) : Int32)) hM dX11_count_260 (by decide) ?_
          exact hE _ _ _ _ _ _ hW.1 ⟨_, rfl, hW.2.1, hG, hW.2.2⟩ dX11_count_261
        · refine q_tableIn (tgt := 164) hM dX11_count_100 ((rfl : a.toInt = _).trans h100) (by decide) (by decide) rfl (by decide) ?_
          refine q_aload_n hM dX11_count_164 (lv_at hl 0 rfl) ?_
          refine w_get (v := .ref (ad 18)) hM hW FG_X11_26 lb_0 (rf_0_10 hW.2.1) dX11_count_165 ?_
          refine w_getI hM hW FG_X11_322 lb_18 (by decide) (by decide) dX11_count_168 (fun x5327 fx5327 => ?_)
          exact hE _ _ _ _ _ _ hW.1 ⟨_, rfl, hW.2.1, hG, hW.2.2⟩ dX11_count_171
        · refine q_tableIn (tgt := 172) hM dX11_count_100 ((rfl : a.toInt = _).trans h100) (by decide) (by decide) rfl (by decide) ?_
          refine q_aload_n hM dX11_count_172 (lv_at hl 0 rfl) ?_
          refine w_get (v := .ref (ad 18)) hM hW FG_X11_26 lb_0 (rf_0_10 hW.2.1) dX11_count_173 ?_
          refine w_getI hM hW FG_X11_173 lb_18 (by decide) (by decide) dX11_count_176 (fun x5329 fx5329 => ?_)
          exact hE _ _ _ _ _ _ hW.1 ⟨_, rfl, hW.2.1, hG, hW.2.2⟩ dX11_count_179
        · refine q_tableIn (tgt := 180) hM dX11_count_100 ((rfl : a.toInt = _).trans h100) (by decide) (by decide) rfl (by decide) ?_
          refine q_aload_n hM dX11_count_180 (lv_at hl 0 rfl) ?_
          refine w_get (v := .ref (ad 18)) hM hW FG_X11_26 lb_0 (rf_0_10 hW.2.1) dX11_count_181 ?_
          refine w_getI hM hW FG_X11_328 lb_18 (by decide) (by decide) dX11_count_184 (fun x5331 fx5331 => ?_)
          exact hE _ _ _ _ _ _ hW.1 ⟨_, rfl, hW.2.1, hG, hW.2.2⟩ dX11_count_187
        · refine q_tableIn (tgt := 188) hM dX11_count_100 ((rfl : a.toInt = _).trans h100) (by decide) (by decide) rfl (by decide) ?_
          refine q_aload_n hM dX11_count_188 (lv_at hl 0 rfl) ?_
          refine w_get (v := .ref (ad 3)) hM hW FG_X11_19 lb_0 (rf_0_1 hW.2.1) dX11_count_189 ?_
          refine w_get (v := .int x5319) hM hW FG_X11_116 lb_3 fx5319 dX11_count_192 ?_
          have bx5319 := hG.f fx5319 rF_3_2 (by decide)
          exact hE _ _ _ _ _ _ hW.1 ⟨_, rfl, hW.2.1, hG, hW.2.2⟩ dX11_count_195
        · refine q_tableIn (tgt := 196) hM dX11_count_100 ((rfl : a.toInt = _).trans h100) (by decide) (by decide) rfl (by decide) ?_
          refine q_aload_n hM dX11_count_196 (lv_at hl 0 rfl) ?_
          refine w_get (v := .ref (ad 18)) hM hW FG_X11_26 lb_0 (rf_0_10 hW.2.1) dX11_count_197 ?_
          refine w_getI hM hW FG_X11_135 lb_18 (by decide) (by decide) dX11_count_200 (fun x5334 fx5334 => ?_)
          have bx5334 := hG.f fx5334 rF_18_3 (by decide)
          exact hE _ _ _ _ _ _ hW.1 ⟨_, rfl, hW.2.1, hG, hW.2.2⟩ dX11_count_203
        · refine q_tableIn (tgt := 204) hM dX11_count_100 ((rfl : a.toInt = _).trans h100) (by decide) (by decide) rfl (by decide) ?_
          refine q_aload_n hM dX11_count_204 (lv_at hl 0 rfl) ?_
          refine w_get (v := .ref (ad 80)) hM hW FG_X11_83 lb_0 (rf_0_2 hW.2.1) dX11_count_205 ?_
          refine w_get (v := .int x5311) hM hW FG_X11_158 lb_80 fx5311 dX11_count_208 ?_
          have bx5311 := hG.f fx5311 rF_80_4 (by decide)
          exact hE _ _ _ _ _ _ hW.1 ⟨_, rfl, hW.2.1, hG, hW.2.2⟩ dX11_count_211
        · refine q_tableIn (tgt := 212) hM dX11_count_100 ((rfl : a.toInt = _).trans h100) (by decide) (by decide) rfl (by decide) ?_
          refine q_aload_n hM dX11_count_212 (lv_at hl 0 rfl) ?_
          refine w_get (v := .ref (ad 102)) hM hW FG_X11_90 lb_0 (rf_0_3 hW.2.1) dX11_count_213 ?_
          refine w_getI hM hW FG_X11_273 lb_102 (by decide) (by decide) dX11_count_216 (fun x5337 fx5337 => ?_)
          have bx5337 := hG.f fx5337 rF_102_4 (by decide)
          exact hE _ _ _ _ _ _ hW.1 ⟨_, rfl, hW.2.1, hG, hW.2.2⟩ dX11_count_219
        · refine q_tableIn (tgt := 220) hM dX11_count_100 ((rfl : a.toInt = _).trans h100) (by decide) (by decide) rfl (by decide) ?_
          refine q_aload_n hM dX11_count_220 (lv_at hl 0 rfl) ?_
          refine w_get (v := .ref (ad lw)) hM hW FG_X11_39 lb_0 ((hW.2.2.1 0 13 (fun h => h)).trans h_r13) dX11_count_221 ?_
          refine w_getI hM hW FG_X11_196 (lo_Lw hlw) (by decide) (by decide) dX11_count_224 (fun x5339 fx5339 => ?_)
          have bx5339 := hG.f fx5339 (rF_Lw_6 hlw) (by decide)
          exact hE _ _ _ _ _ _ hW.1 ⟨_, rfl, hW.2.1, hG, hW.2.2⟩ dX11_count_227
        · refine q_tableIn (tgt := 228) hM dX11_count_100 ((rfl : a.toInt = _).trans h100) (by decide) (by decide) rfl (by decide) ?_
          refine q_aload_n hM dX11_count_228 (lv_at hl 0 rfl) ?_
          refine w_get (v := .ref (ad 1)) hM hW FG_X11_10 lb_0 (rf_0_0 hW.2.1) dX11_count_229 ?_
          refine w_getI hM hW FG_X11_139 lb_1 (by decide) (by decide) dX11_count_232 (fun x5341 fx5341 => ?_)
          have bx5341 := hG.f fx5341 rF_1_1 (by decide)
          exact hE _ _ _ _ _ _ hW.1 ⟨_, rfl, hW.2.1, hG, hW.2.2⟩ dX11_count_235
        · refine q_tableIn (tgt := 236) hM dX11_count_100 ((rfl : a.toInt = _).trans h100) (by decide) (by decide) rfl (by decide) ?_
          refine q_aload_n hM dX11_count_236 (lv_at hl 0 rfl) ?_
          refine w_get (v := .ref (ad 18)) hM hW FG_X11_26 lb_0 (rf_0_10 hW.2.1) dX11_count_237 ?_
          refine w_getI hM hW FG_X11_316 lb_18 (by decide) (by decide) dX11_count_240 (fun x5343 fx5343 => ?_)
          exact hE _ _ _ _ _ _ hW.1 ⟨_, rfl, hW.2.1, hG, hW.2.2⟩ dX11_count_243
        · refine q_tableIn (tgt := 244) hM dX11_count_100 ((rfl : a.toInt = _).trans h100) (by decide) (by decide) rfl (by decide) ?_
          refine q_aload_n hM dX11_count_244 (lv_at hl 0 rfl) ?_
          refine w_get (v := .ref (ad 80)) hM hW FG_X11_83 lb_0 (rf_0_2 hW.2.1) dX11_count_245 ?_
          refine w_getI hM hW FG_X11_167 lb_80 (by decide) (by decide) dX11_count_248 (fun x5345 fx5345 => ?_)
          exact hE _ _ _ _ _ _ hW.1 ⟨_, rfl, hW.2.1, hG, hW.2.2⟩ dX11_count_251
        · refine q_tableIn (tgt := 252) hM dX11_count_100 ((rfl : a.toInt = _).trans h100) (by decide) (by decide) rfl (by decide) ?_
          refine q_aload_n hM dX11_count_252 (lv_at hl 0 rfl) ?_
          refine w_get (v := .ref (ad 80)) hM hW FG_X11_83 lb_0 (rf_0_2 hW.2.1) dX11_count_253 ?_
          refine w_getI hM hW FG_X11_170 lb_80 (by decide) (by decide) dX11_count_256 (fun x5347 fx5347 => ?_)
          exact hE _ _ _ _ _ _ hW.1 ⟨_, rfl, hW.2.1, hG, hW.2.2⟩ dX11_count_259
      · refine q_aload_n hM dX11_count_86 (lv_at hl 0 rfl) ?_
        refine w_get (v := .ref (ad 3)) hM hW FG_X11_19 lb_0 (rf_0_1 hW.2.1) dX11_count_87 ?_
        refine w_get (v := .ref (ad 4)) hM hW FG_X11_120 lb_3 (rf_3_0 hW.2.1) dX11_count_90 ?_
        refine q_iload_n hM dX11_count_93 (lv_at hl 1 rfl) ?_
        refine q_bipush (v := (40 : Int32)) hM dX11_count_94 (by decide) ?_
        refine q_isub hM dX11_count_96 (fun z5349 hz5349 => ?_)
        first | have tz5349 := i_subT hz5349 (rfl : a.toInt = a.toInt) (kc_40 : (40 : Int32).toInt = 40) (by omega) (by omega) | skip
        have ezz5349 : z5349.toInt = z5320.toInt := by rw [← hz5349, ← hz5320]
        refine w_iald hM hW lb_4 (i_in (by omega) (by omega)) dX11_count_97 ?_
        refine q_top (fun y5350 hy5350 => ?_)
        exact hE _ _ _ _ _ _ hW.1 ⟨_, rfl, hW.2.1, hG, hW.2.2⟩ dX11_count_98
    · refine q_aload_n hM dX11_count_44 (lv_at hl 0 rfl) ?_
      refine w_get (v := .ref (ad 80)) hM hW FG_X11_83 lb_0 (rf_0_2 hW.2.1) dX11_count_45 ?_
      refine w_get (v := .ref (ad 82)) hM hW FG_X11_164 lb_80 (rf_80_2 hW.2.1) dX11_count_48 ?_
      refine q_iload_n hM dX11_count_51 (lv_at hl 1 rfl) ?_
      refine q_bipush (v := (30 : Int32)) hM dX11_count_52 (by decide) ?_
      refine q_isub hM dX11_count_54 (fun z5352 hz5352 => ?_)
      first | have tz5352 := i_subT hz5352 (rfl : a.toInt = a.toInt) (kc_30 : (30 : Int32).toInt = 30) (by omega) (by omega) | skip
      refine w_iald hM hW lb_82 (i_in (by omega) (by omega)) dX11_count_55 ?_
      refine q_top (fun y5353 hy5353 => ?_)
      refine q_istore_n (lv9 := [(2, .int y5353), (0, .ref (ad 0)), (1, .int a)]) hM dX11_count_56 hl (by decide) rfl (fun ls hl => ?_)
      refine q_iload_n hM dX11_count_57 (lv_at hl 0 rfl) ?_
      refine q_iconst (v := ((-1) : Int32)) hM dX11_count_58 (by decide) ?_
      refine q_icmp_ne (tgt := 67) hM dX11_count_59 (by decide) (rfl : y5353.toInt = y5353.toInt) (kc_m1 : ((-1) : Int32).toInt = (-1)) (fun h59 => ?_) (fun h59 => ?_)
      · refine q_iload_n hM dX11_count_67 (lv_at hl 0 rfl) ?_
        exact hE _ _ _ _ _ _ hW.1 ⟨_, rfl, hW.2.1, hG, hW.2.2⟩ dX11_count_68
      · refine q_bipush (v := ((-2) : Int32)) hM dX11_count_62 (by decide) ?_
        refine q_goto (tgt := 68) hM dX11_count_64 (by decide) ?_
        exact hE _ _ _ _ _ _ hW.1 ⟨_, rfl, hW.2.1, hG, hW.2.2⟩ dX11_count_68
  · refine q_aload_n hM dX11_count_17 (lv_at hl 0 rfl) ?_
    refine w_get (v := .ref (ad 80)) hM hW FG_X11_83 lb_0 (rf_0_2 hW.2.1) dX11_count_18 ?_
    refine w_get (v := .ref (ad 81)) hM hW FG_X11_150 lb_80 (rf_80_1 hW.2.1) dX11_count_21 ?_
    refine q_iload_n hM dX11_count_24 (lv_at hl 1 rfl) ?_
    refine q_bipush (v := (20 : Int32)) hM dX11_count_25 (by decide) ?_
    refine q_isub hM dX11_count_27 (fun z5357 hz5357 => ?_)
    first | have tz5357 := i_subT hz5357 (rfl : a.toInt = a.toInt) (kc_20 : (20 : Int32).toInt = 20) (by omega) (by omega) | skip
    have ezz5357 : z5357.toInt = z5312.toInt := by rw [← hz5357, ← hz5312]
    refine w_aald hM hW lb_81 (Or.inr rfl) (i_in (by omega) (by omega)) (aq (aq_81 hW.2.1) (by omega) (by omega)) dX11_count_28 ?_
    refine w_getI hM hW FG_X11_325 (lo_art (by omega)) (by decide) (by decide) dX11_count_29 (fun x5358 fx5358 => ?_)
    have bx5358 := hG.f fx5358 (rF_art (by omega)) (by decide)
    exact hE _ _ _ _ _ _ hW.1 ⟨_, rfl, hW.2.1, hG, hW.2.2⟩ dX11_count_32
