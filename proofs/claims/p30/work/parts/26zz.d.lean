
set_option maxRecDepth 100000 in
set_option maxHeartbeats 4000000 in
theorem s_X12_isOrder (l : Launch) (D : va_G) (cA : Nat → ClassId) (ad : Nat → Nat) (g0 : Nat → va_E) (n : Int32) (hSh : Shp ad cA g0) (hG : Rng g0) (n0 : 1 ≤ n.toInt) (n5 : n.toInt ≤ 5) (hEE : ∀ j : Nat, (j : Int) < n.toInt → 0 ≤ (arI g0 172 j).toInt ∧ (arI g0 172 j).toInt < n.toInt) : CT l NN ad cA D yX12_isOrder cX12_isOrder 4 (some FieldType.boolean) (0, 0) [.ref (ad 129), .int n] g0 (PU g0 (fun r => (r.toInt = 1 ∧ dif (eR g0) n.toInt.toNat) ∨ (r.toInt = 0 ∧ ¬ dif (eR g0) n.toInt.toNat))) := by
  refine q_enterZ (by decide) (Nat.le_of_ble_eq_true rfl) (fun K H locs ls _ _ hM hW0 hR hC hE hl => ?_)
  have hl : lv_has ls 4 [(0, .ref (ad 129)), (1, .int n)] := hl
  have hW : WS ad cA (fun i k => False) g0 K g0 H locs := ⟨hW0, hSh, FR.rf⟩
  have := kc_0
  have := kc_1
  have := kc_m1
  refine q_iconst (v := (0 : Int32)) hM dX12_isOrder_0 (by decide) ?_
  refine q_istore_n (lv9 := [(2, .int (0 : Int32)), (0, .ref (ad 129)), (1, .int n)]) hM dX12_isOrder_1 hl (by decide) rfl (fun ls hl => ?_)
  refine q_iconst (v := (0 : Int32)) hM dX12_isOrder_2 (by decide) ?_
  refine q_istore_n (lv9 := [(3, .int (0 : Int32)), (2, .int (0 : Int32)), (0, .ref (ad 129)), (1, .int n)]) hM dX12_isOrder_3 hl (by decide) rfl (fun ls hl => ?_)
  have L4 : ∀ (fu4 : Nat) (w4_2 : Int32) (w4_3 : Int32) (H : Heap) (locs : List Loc) (ls : Array Slot), (n.toInt - w4_3.toInt + 1).toNat < fu4 → (0 ≤ w4_3.toInt) → (w4_3.toInt ≤ n.toInt) → (w4_2 = us (eR g0) w4_3.toInt.toNat) → lv_has ls 4 [(0, .ref (ad 129)), (1, .int n), (2, .int w4_2), (3, .int w4_3)] → WS ad cA (fun i k => False) g0 K g0 H locs → XX K 0 0 H locs 4 ls [] := by
    intro fu4
    induction fu4 with
    | zero => intro w4_2 w4_3 H locs ls h0; omega
    | succ fu4 ih4 =>
      intro w4_2 w4_3 H locs ls hm4 i4_0 i4_1 i4_2 hl hW
      have := i_rng n
      refine q_iload_n hM dX12_isOrder_4 (lv_at hl 3 rfl) ?_
      refine q_iload_n hM dX12_isOrder_5 (lv_at hl 1 rfl) ?_
      refine q_icmp_ge (tgt := 26) hM dX12_isOrder_6 (by decide) (rfl : w4_3.toInt = w4_3.toInt) (rfl : n.toInt = n.toInt) (fun h6 => ?_) (fun h6 => ?_)
      · refine q_iload_n hM dX12_isOrder_26 (lv_at hl 2 rfl) ?_
        refine q_iconst (v := (1 : Int32)) hM dX12_isOrder_27 (by decide) ?_
        refine q_iload_n hM dX12_isOrder_28 (lv_at hl 1 rfl) ?_
        refine q_ishl hM dX12_isOrder_29 (fun z13675 hz13675 => ?_)
        refine q_iconst (v := (1 : Int32)) hM dX12_isOrder_30 (by decide) ?_
        refine q_isub hM dX12_isOrder_31 (fun z13676 hz13676 => ?_)
        first | have tz13676 := i_subT hz13676 (rfl : z13675.toInt = z13675.toInt) (kc_1 : (1 : Int32).toInt = 1) (by omega) (by omega) | skip
        refine q_icmp_ne (tgt := 39) hM dX12_isOrder_32 (by decide) (rfl : w4_2.toInt = w4_2.toInt) (rfl : z13676.toInt = z13676.toInt) (fun h32 => ?_) (fun h32 => ?_)
        · refine q_iconst (v := (0 : Int32)) hM dX12_isOrder_39 (by decide) ?_
          exact hE _ _ _ _ _ _ hW.1 nz_0 ⟨_, rfl, (Or.inr ⟨kc_0, fun q9 => h32 ((io_iff (by rw [← show w4_3.toInt.toNat = n.toInt.toNat by omega]; exact i4_2) (by omega) (by omega) (fun j hj => by have := hEE j (by omega); unfold eR; omega) hz13675 hz13676).mpr q9)⟩), rfl⟩ dX12_isOrder_40
        · refine q_iconst (v := (1 : Int32)) hM dX12_isOrder_35 (by decide) ?_
          refine q_goto (tgt := 40) hM dX12_isOrder_36 (by decide) ?_
          exact hE _ _ _ _ _ _ hW.1 nz_1 ⟨_, rfl, (Or.inl ⟨kc_1, (io_iff (by rw [← show w4_3.toInt.toNat = n.toInt.toNat by omega]; exact i4_2) (by omega) (by omega) (fun j hj => by have := hEE j (by omega); unfold eR; omega) hz13675 hz13676).mp h32⟩), rfl⟩ dX12_isOrder_40
      · refine q_iload_n hM dX12_isOrder_9 (lv_at hl 2 rfl) ?_
        refine q_iconst (v := (1 : Int32)) hM dX12_isOrder_10 (by decide) ?_
        refine q_aload_n hM dX12_isOrder_11 (lv_at hl 0 rfl) ?_
        refine w_get (v := .ref (ad 172)) hM hW FG_X12_142 lb_129 (rf_129_78 hW.2.1) dX12_isOrder_12 ?_
        refine q_iload_n hM dX12_isOrder_15 (lv_at hl 3 rfl) ?_
        refine w_iald hM hW lb_172 (i_in (by omega) (by omega)) dX12_isOrder_16 ?_
        refine q_top (fun y13680 hy13680 => ?_)
        have ey9 := hEE w4_3.toInt.toNat (by omega)
        have tyy13680 : y13680.toInt = (eR g0 w4_3.toInt.toNat : Int) := by rw [hy13680]; unfold eR; show (arI g0 172 w4_3.toInt.toNat).toInt = _; omega
        have tzy13680 : y13680.toInt < n.toInt := by rw [hy13680]; exact ey9.2
        have by13680 := hG.a hy13680 rA_172
        refine q_ishl hM dX12_isOrder_17 (fun z13681 hz13681 => ?_)
        refine q_ior hM dX12_isOrder_18 (fun z13682 hz13682 => ?_)
        refine q_istore_n (lv9 := [(2, .int z13682), (0, .ref (ad 129)), (1, .int n), (3, .int w4_3)]) hM dX12_isOrder_19 hl (by decide) rfl (fun ls hl => ?_)
        refine q_iinc (lv9 := fun z13683 => [(3, .int z13683), (2, .int z13682), (0, .ref (ad 129)), (1, .int n)]) hM dX12_isOrder_20 hl (kq := 3) rfl (by decide) (fun _ => rfl) (fun z13683 ls hz13683 hl => ?_)
        first | have tz13683 := i_addT hz13683 (rfl : w4_3.toInt = w4_3.toInt) (kc_1 : (Int32.ofInt 1).toInt = 1) (by omega) (by omega) | skip
        refine q_goto (tgt := 4) hM dX12_isOrder_23 (by decide) ?_
        exact ih4 z13682 z13683 _ _ _ (by omega) (by omega) (by omega) (us_st i4_2 (by omega) (by omega) tyy13680 hz13681 hz13682) (lv_sub hl [2, 3, 1, 0] rfl) hW
  have := kc_0
  have := kc_0
  exact L4 _ (0 : Int32) (0 : Int32) _ _ _ (Nat.lt_succ_self _) (by omega) (by omega) (by rw [kc_0]; rfl) (lv_sub hl [2, 3, 1, 0] rfl) hW


set_option maxRecDepth 100000 in
set_option maxHeartbeats 4000000 in
theorem s_X12_toldMasters (l : Launch) (D : va_G) (cA : Nat → ClassId) (ad : Nat → Nat) (g0 : Nat → va_E)  (hSh : Shp ad cA g0) (hG : Rng g0) : CT l NN ad cA D yX12_toldMasters cX12_toldMasters 3 (some FieldType.int) (0, 0) [.ref (ad 129)] g0 (PU g0 (fun r => 0 ≤ r.toInt ∧ r.toInt < 32 ∧ BS r (fun q => (q : Int) < 5 ∧ tM (arI g0 176) q ≠ 0))) := by
  refine q_enterI (by decide) (Nat.le_of_ble_eq_true rfl) rfl (fun K H locs ls _ _ hM hW0 hR hC hE hl => ?_)
  have hl : lv_has ls 3 [(0, .ref (ad 129))] := hl
  have hW : WS ad cA (fun i k => False) g0 K g0 H locs := ⟨hW0, hSh, FR.rf⟩
  have := kc_0
  have := kc_1
  have := kc_m1
  have := kc_m2
  refine q_iconst (v := (0 : Int32)) hM dX12_toldMasters_0 (by decide) ?_
  refine q_istore_n (lv9 := [(1, .int (0 : Int32)), (0, .ref (ad 129))]) hM dX12_toldMasters_1 hl (by decide) rfl (fun ls hl => ?_)
  refine q_iconst (v := (0 : Int32)) hM dX12_toldMasters_2 (by decide) ?_
  refine q_istore_n (lv9 := [(2, .int (0 : Int32)), (1, .int (0 : Int32)), (0, .ref (ad 129))]) hM dX12_toldMasters_3 hl (by decide) rfl (fun ls hl => ?_)
  have L4 : ∀ (fu4 : Nat) (w4_1 : Int32) (w4_2 : Int32) (H : Heap) (locs : List Loc) (ls : Array Slot), (5 - w4_2.toInt).toNat < fu4 → (0 ≤ w4_2.toInt) → (w4_2.toInt ≤ 5) → (0 ≤ w4_1.toInt) → (w4_1.toInt < 32) → (BS w4_1 (fun q => (q : Int) < w4_2.toInt ∧ tM (arI g0 176) q ≠ 0)) → lv_has ls 3 [(0, .ref (ad 129)), (1, .int w4_1), (2, .int w4_2)] → WS ad cA (fun i k => False) g0 K g0 H locs → XX K 0 0 H locs 4 ls [] := by
    intro fu4
    induction fu4 with
    | zero => intro w4_1 w4_2 H locs ls h0; omega
    | succ fu4 ih4 =>
      intro w4_1 w4_2 H locs ls hm4 i4_0 i4_1 i4_2 i4_3 i4_4 hl hW
      refine q_iload_n hM dX12_toldMasters_4 (lv_at hl 2 rfl) ?_
      refine q_iconst (v := (5 : Int32)) hM dX12_toldMasters_5 (by decide) ?_
      refine q_icmp_ge (tgt := 34) hM dX12_toldMasters_6 (by decide) (rfl : w4_2.toInt = w4_2.toInt) (kc_5 : (5 : Int32).toInt = 5) (fun h6 => ?_) (fun h6 => ?_)
      · refine q_iload_n hM dX12_toldMasters_34 (lv_at hl 1 rfl) ?_
        exact hE _ _ _ _ _ _ hW.1 ⟨_, rfl, ⟨by omega, by omega, by have e9 := i4_4; rw [show w4_2.toInt = 5 by omega] at e9; exact e9⟩, rfl⟩ dX12_toldMasters_35
      · refine q_iload_n hM dX12_toldMasters_9 (lv_at hl 1 rfl) ?_
        refine q_aload_n hM dX12_toldMasters_10 (lv_at hl 0 rfl) ?_
        refine w_get (v := .ref (ad 176)) hM hW FG_X12_154 lb_129 (rf_129_82 hW.2.1) dX12_toldMasters_11 ?_
        refine q_iload_n hM dX12_toldMasters_14 (lv_at hl 2 rfl) ?_
        refine w_zald hM hW lb_176 (i_in (by omega) (by omega)) dX12_toldMasters_15 ?_
        refine q_top (fun y13687 hy13687 => ?_)
        have tyy13687 : y13687.toInt = tM (arI g0 176) w4_2.toInt.toNat := congrArg Int32.toInt hy13687
        refine q_if_eq (tgt := 25) hM dX12_toldMasters_16 (by decide) (rfl : y13687.toInt = y13687.toInt) (fun h16 => ?_) (fun h16 => ?_)
        · refine q_iconst (v := (0 : Int32)) hM dX12_toldMasters_25 (by decide) ?_
          refine q_ior hM dX12_toldMasters_26 (fun z13689 hz13689 => ?_)
          first | have oz13689 := i_ork 5 (by decide) hz13689 (by have := kc_0; omega) (by have := kc_0; omega) (by have := kc_0; omega) (by have := kc_0; omega) | skip
          first | have ogz13689 := i_or_ge hz13689 (by have := kc_0; omega) (by have := kc_0; omega) | skip
          refine q_istore_n (lv9 := [(1, .int z13689), (0, .ref (ad 129)), (2, .int w4_2)]) hM dX12_toldMasters_27 hl (by decide) rfl (fun ls hl => ?_)
          refine q_iinc (lv9 := fun z13690 => [(2, .int z13690), (1, .int z13689), (0, .ref (ad 129))]) hM dX12_toldMasters_28 hl (kq := 2) rfl (by decide) (fun _ => rfl) (fun z13690 ls hz13690 hl => ?_)
          first | have tz13690 := i_addT hz13690 (rfl : w4_2.toInt = w4_2.toInt) (kc_1 : (Int32.ofInt 1).toInt = 1) (by omega) (by omega) | skip
          refine q_goto (tgt := 4) hM dX12_toldMasters_31 (by decide) ?_
          exact ih4 z13689 z13690 _ _ _ (by omega) (by omega) (by omega) (by omega) (by omega) (MK_or9 i4_4 hz13689 (by omega) (fun q9 => q9 (by omega)) (by omega)) (lv_sub hl [2, 1, 0] rfl) hW
        · refine q_iconst (v := (1 : Int32)) hM dX12_toldMasters_19 (by decide) ?_
          refine q_iload_n hM dX12_toldMasters_20 (lv_at hl 2 rfl) ?_
          refine q_ishl hM dX12_toldMasters_21 (fun z13692 hz13692 => ?_)
          first | have sz13692 := i_shl1 5 (by decide) hz13692 (by omega) (by omega) | skip
          refine q_goto (tgt := 26) hM dX12_toldMasters_22 (by decide) ?_
          refine q_ior hM dX12_toldMasters_26 (fun z13693 hz13693 => ?_)
          first | have oz13693 := i_ork 5 (by decide) hz13693 (by omega) (by omega) (by omega) (by omega) | skip
          first | have ogz13693 := i_or_ge hz13693 (by omega) (by omega) | skip
          refine q_istore_n (lv9 := [(1, .int z13693), (0, .ref (ad 129)), (2, .int w4_2)]) hM dX12_toldMasters_27 hl (by decide) rfl (fun ls hl => ?_)
          refine q_iinc (lv9 := fun z13694 => [(2, .int z13694), (1, .int z13693), (0, .ref (ad 129))]) hM dX12_toldMasters_28 hl (kq := 2) rfl (by decide) (fun _ => rfl) (fun z13694 ls hz13694 hl => ?_)
          first | have tz13694 := i_addT hz13694 (rfl : w4_2.toInt = w4_2.toInt) (kc_1 : (Int32.ofInt 1).toInt = 1) (by omega) (by omega) | skip
          refine q_goto (tgt := 4) hM dX12_toldMasters_31 (by decide) ?_
          exact ih4 z13693 z13694 _ _ _ (by omega) (by omega) (by omega) (by omega) (by omega) (MK_set i4_4 hz13692 hz13693 (by omega) (by omega) (by omega) (by omega)) (lv_sub hl [2, 1, 0] rfl) hW
  have := kc_0
  have := kc_0
  exact L4 _ (0 : Int32) (0 : Int32) _ _ _ (Nat.lt_succ_self _) (by omega) (by omega) (by omega) (by omega) (BS_0 (fun q h => absurd h.1 (by have := kc_0; omega))) (lv_sub hl [2, 1, 0] rfl) hW


set_option maxRecDepth 100000 in
set_option maxHeartbeats 4000000 in
theorem s_X12_skill (l : Launch) (D : va_G) (cA : Nat → ClassId) (ad : Nat → Nat) (g0 : Nat → va_E) (a : Int32) (b : Int32) (c : Int32)   (hSh : Shp ad cA g0) (hG : Rng g0) : CT l NN ad cA D yX12_skill cX12_skill 4 (some FieldType.boolean) (1, 25) [.ref (ad 129), .int a, .int b, .int c] g0 (fun v g' => ∃ (r : Int32), v = some (.int r) ∧ Shp ad cA g' ∧ Rng g' ∧ FR (fun i k => i = 176 ∨ i = 177) g0 g' ∧ (((0 ≤ a.toInt ∧ a.toInt ≤ 4 ∧ 0 ≤ b.toInt ∧ b.toInt ≤ 5 ∧ 0 ≤ c.toInt ∧ c.toInt ≤ 99) ∧ arI g' 176 = upd (arI g0 176) a.toNatClampNeg (vp_nar .boolean (1 : Int32)) ∧ arI g' 177 = upd (arI g0 177) (6 * a.toInt.toNat + b.toInt.toNat) c) ∨ (¬ (0 ≤ a.toInt ∧ a.toInt ≤ 4 ∧ 0 ≤ b.toInt ∧ b.toInt ≤ 5 ∧ 0 ≤ c.toInt ∧ c.toInt ≤ 99) ∧ arI g' 176 = arI g0 176 ∧ arI g' 177 = arI g0 177)) ∧ (r.toInt = 0 ∨ r.toInt = 1)) := by
  refine q_enterZ (by decide) (Nat.le_of_ble_eq_true rfl) (fun K H locs ls _ _ hM hW0 hR hC hE hl => ?_)
  have hl : lv_has ls 4 [(0, .ref (ad 129)), (1, .int a), (2, .int b), (3, .int c)] := hl
  have hW : WS ad cA (fun i k => i = 176 ∨ i = 177) g0 K g0 H locs := ⟨hW0, hSh, FR.rf⟩
  have := kc_0
  have := kc_1
  refine q_iload_n hM dX12_skill_0 (lv_at hl 1 rfl) ?_
  refine q_i2l hM dX12_skill_1 ?_
  have := l_i2l a
  refine q_lconst (v := 0) hM dX12_skill_2 (by decide) ?_
  have := kl_0
  refine q_ldc2 (v := 4) hM (kAW (v_7_2 (List.mem_of_getElem? (i := 4) rfl)) rfl) dX12_skill_3 ?_
  have := kl_4
  refine q_callS (As := [.long a.toInt64, .long (0 : Int64), .long (4 : Int64)]) (rest := []) hM hW.1 hR hC myX12_lies (kAW (v_5_4 (List.mem_of_getElem? (i := 14) rfl)) rfl) (c_X12_lies _ _ cA ad g0 a.toInt64 (0 : Int64) (4 : Int64) hW.2.1) ⟨by decide, by decide⟩ rfl rfl hl.1 (Nat.le_of_ble_eq_true rfl) dX12_skill_6 (fun v g13696 H locs hp hW1 => ?_)
  obtain ⟨r13695, rfl, hr13695, rfl⟩ := hp
  have hW : WS ad cA (fun i k => i = 176 ∨ i = 177) g0 K g0 H locs := ⟨hW1, hW.2.1, hW.2.2⟩
  refine q_if_eq (tgt := 36) hM dX12_skill_9 (by decide) (rfl : r13695.toInt = r13695.toInt) (fun h9 => ?_) (fun h9 => ?_)
  · refine q_iconst (v := (0 : Int32)) hM dX12_skill_36 (by decide) ?_
    exact hE _ _ _ _ _ _ hW.1 nz_0 ⟨_, rfl, hW.2.1, hG, hW.2.2, (Or.inr ⟨by omega, rfl, rfl⟩), (by have := kc_0; omega)⟩ dX12_skill_37
  · refine q_iload_n hM dX12_skill_12 (lv_at hl 2 rfl) ?_
    refine q_i2l hM dX12_skill_13 ?_
    have := l_i2l b
    refine q_lconst (v := 0) hM dX12_skill_14 (by decide) ?_
    have := kl_0
    refine q_ldc2 (v := 5) hM (kAW (v_5_8 (List.mem_of_getElem? (i := 5) rfl)) rfl) dX12_skill_15 ?_
    have := kl_5
    refine q_callS (As := [.long b.toInt64, .long (0 : Int64), .long (5 : Int64)]) (rest := []) hM hW.1 hR hC myX12_lies (kAW (v_5_4 (List.mem_of_getElem? (i := 14) rfl)) rfl) (c_X12_lies _ _ cA ad g0 b.toInt64 (0 : Int64) (5 : Int64) hW.2.1) ⟨by decide, by decide⟩ rfl rfl hl.1 (Nat.le_of_ble_eq_true rfl) dX12_skill_18 (fun v g13700 H locs hp hW1 => ?_)
    obtain ⟨r13699, rfl, hr13699, rfl⟩ := hp
    have hW : WS ad cA (fun i k => i = 176 ∨ i = 177) g0 K g0 H locs := ⟨hW1, hW.2.1, hW.2.2⟩
    refine q_if_eq (tgt := 36) hM dX12_skill_21 (by decide) (rfl : r13699.toInt = r13699.toInt) (fun h21 => ?_) (fun h21 => ?_)
    · refine q_iconst (v := (0 : Int32)) hM dX12_skill_36 (by decide) ?_
      exact hE _ _ _ _ _ _ hW.1 nz_0 ⟨_, rfl, hW.2.1, hG, hW.2.2, (Or.inr ⟨by omega, rfl, rfl⟩), (by have := kc_0; omega)⟩ dX12_skill_37
    · refine q_iload_n hM dX12_skill_24 (lv_at hl 3 rfl) ?_
      refine q_i2l hM dX12_skill_25 ?_
      have := l_i2l c
      refine q_lconst (v := 0) hM dX12_skill_26 (by decide) ?_
      have := kl_0
      refine q_ldc2 (v := 99) hM (kAW (v_6_2 (List.mem_of_getElem? (i := 4) rfl)) rfl) dX12_skill_27 ?_
      have := kl_99
      refine q_callS (As := [.long c.toInt64, .long (0 : Int64), .long (99 : Int64)]) (rest := []) hM hW.1 hR hC myX12_lies (kAW (v_5_4 (List.mem_of_getElem? (i := 14) rfl)) rfl) (c_X12_lies _ _ cA ad g0 c.toInt64 (0 : Int64) (99 : Int64) hW.2.1) ⟨by decide, by decide⟩ rfl rfl hl.1 (Nat.le_of_ble_eq_true rfl) dX12_skill_30 (fun v g13704 H locs hp hW1 => ?_)
      obtain ⟨r13703, rfl, hr13703, rfl⟩ := hp
      have hW : WS ad cA (fun i k => i = 176 ∨ i = 177) g0 K g0 H locs := ⟨hW1, hW.2.1, hW.2.2⟩
      refine q_if_ne (tgt := 38) hM dX12_skill_33 (by decide) (rfl : r13703.toInt = r13703.toInt) (fun h33 => ?_) (fun h33 => ?_)
      · refine q_aload_n hM dX12_skill_38 (lv_at hl 0 rfl) ?_
        refine w_get (v := .ref (ad 176)) hM hW FG_X12_154 lb_129 (rf_129_82 hW.2.1) dX12_skill_39 ?_
        refine q_iload_n hM dX12_skill_42 (lv_at hl 1 rfl) ?_
        refine q_iconst (v := (1 : Int32)) hM dX12_skill_43 (by decide) ?_
        refine w_zast hM hW lb_176 (by omega) (i_in (by omega) (by omega)) dX12_skill_44 (fun g13706 H locs hW e1 e2 => ?_)
        have hS6 := e1
        have e76 := e2.2.1 177 (by unfold Only; omega)
        have hG := hG.st e1 e2 (rfl : rA 176 = (-2147483648, 2147483647)) (by have := i_rng (vp_nar .boolean (1 : Int32)); omega) (by have := i_rng (vp_nar .boolean (1 : Int32)); omega)
        refine q_aload_n hM dX12_skill_45 (lv_at hl 0 rfl) ?_
        refine w_get (v := .ref (ad 177)) hM hW FG_X12_157 lb_129 (rf_129_83 hW.2.1) dX12_skill_46 ?_
        refine q_bipush (v := (6 : Int32)) hM dX12_skill_49 (by decide) ?_
        refine q_iload_n hM dX12_skill_51 (lv_at hl 1 rfl) ?_
        refine q_imul hM dX12_skill_52 (fun z13707 hz13707 => ?_)
        first | have tz13707 := i_mulT hz13707 (kc_6 : (6 : Int32).toInt = 6) (rfl : a.toInt = a.toInt) (by omega) (by omega) | skip
        refine q_iload_n hM dX12_skill_53 (lv_at hl 2 rfl) ?_
        refine q_iadd hM dX12_skill_54 (fun z13708 hz13708 => ?_)
        first | have tz13708 := i_addT hz13708 (rfl : z13707.toInt = z13707.toInt) (rfl : b.toInt = b.toInt) (by omega) (by omega) | skip
        refine q_iload_n hM dX12_skill_55 (lv_at hl 3 rfl) ?_
        refine w_iast hM hW lb_177 (by omega) (i_in (by omega) (by omega)) dX12_skill_56 (fun g13709 H locs hW e1 e2 => ?_)
        have hS7 := e1
        rw [show z13708.toNatClampNeg = 6 * a.toInt.toNat + b.toInt.toNat by show z13708.toInt.toNat = _; omega, e76] at hS7
        have hS8 := (e2.2.1 176 (by unfold Only; omega)).trans hS6
        have hG := hG.st e1 e2 (rfl : rA 177 = (-2147483648, 2147483647)) (by have := i_rng c; omega) (by have := i_rng c; omega)
        refine q_iconst (v := (1 : Int32)) hM dX12_skill_57 (by decide) ?_
        exact hE _ _ _ _ _ _ hW.1 nz_1 ⟨_, rfl, hW.2.1, hG, hW.2.2, (Or.inl ⟨by omega, hS8, hS7⟩), (by have := kc_1; omega)⟩ dX12_skill_58
      · refine q_iconst (v := (0 : Int32)) hM dX12_skill_36 (by decide) ?_
        exact hE _ _ _ _ _ _ hW.1 nz_0 ⟨_, rfl, hW.2.1, hG, hW.2.2, (Or.inr ⟨by omega, rfl, rfl⟩), (by have := kc_0; omega)⟩ dX12_skill_37
