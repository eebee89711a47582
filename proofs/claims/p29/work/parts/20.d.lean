theorem dX5_sound_0 : decode cX5_sound 0 = .ok (.iconst 0, 1) := by decide +kernel
theorem dX5_sound_1 : decode cX5_sound 1 = .ok (.istore_n 3, 1) := by decide +kernel
theorem dX5_sound_2 : decode cX5_sound 2 = .ok (.iconst 0, 1) := by decide +kernel
theorem dX5_sound_3 : decode cX5_sound 3 = .ok (.istore 4, 2) := by decide +kernel
theorem dX5_sound_5 : decode cX5_sound 5 = .ok (.iload 4, 2) := by decide +kernel
theorem dX5_sound_7 : decode cX5_sound 7 = .ok (.bipush 12, 2) := by decide +kernel
theorem dX5_sound_9 : decode cX5_sound 9 = .ok (.if_icmp .ge 29, 3) := by decide +kernel
theorem dX5_sound_12 : decode cX5_sound 12 = .ok (.iload_n 3, 1) := by decide +kernel
theorem dX5_sound_13 : decode cX5_sound 13 = .ok (.aload_n 1, 1) := by decide +kernel
theorem dX5_sound_14 : decode cX5_sound 14 = .ok (.iload 4, 2) := by decide +kernel
theorem dX5_sound_16 : decode cX5_sound 16 = .ok (.iaload, 1) := by decide +kernel
theorem dX5_sound_17 : decode cX5_sound 17 = .ok (.aload_n 0, 1) := by decide +kernel
theorem dX5_sound_18 : decode cX5_sound 18 = .ok (.getfield 17, 3) := by decide +kernel
theorem dX5_sound_21 : decode cX5_sound 21 = .ok (.iload 4, 2) := by decide +kernel
theorem dX5_sound_23 : decode cX5_sound 23 = .ok (.aaload, 1) := by decide +kernel
theorem dX5_sound_24 : decode cX5_sound 24 = .ok (.iload_n 2, 1) := by decide +kernel
theorem dX5_sound_25 : decode cX5_sound 25 = .ok (.iaload, 1) := by decide +kernel
theorem dX5_sound_26 : decode cX5_sound 26 = .ok (.imul, 1) := by decide +kernel
theorem dX5_sound_27 : decode cX5_sound 27 = .ok (.bipush 10, 2) := by decide +kernel
theorem dX5_sound_29 : decode cX5_sound 29 = .ok (.idiv, 1) := by decide +kernel
theorem dX5_sound_30 : decode cX5_sound 30 = .ok (.iadd, 1) := by decide +kernel
theorem dX5_sound_31 : decode cX5_sound 31 = .ok (.istore_n 3, 1) := by decide +kernel
theorem dX5_sound_32 : decode cX5_sound 32 = .ok (.iinc 4 1, 3) := by decide +kernel
theorem dX5_sound_35 : decode cX5_sound 35 = .ok (.goto (-30), 3) := by decide +kernel
theorem dX5_sound_38 : decode cX5_sound 38 = .ok (.iload_n 3, 1) := by decide +kernel
theorem dX5_sound_39 : decode cX5_sound 39 = .ok (.ireturn, 1) := by decide +kernel
set_option maxRecDepth 100000 in
set_option maxHeartbeats 4000000 in
theorem a_X5_sound (l : Launch) (D : va_G) (cA : Nat → ClassId) (ad : Nat → Nat) (g0 : Nat → va_E) (sr : Nat) (i : Int32) (hSh : Shp ad cA g0) (hG : Rng g0) (hsr : isSr sr) (i0 : 0 ≤ i.toInt) (i12 : i.toInt < 12) : CT l NN ad cA D yX5_sound cX5_sound 5 (some FieldType.int) (0, 0) [.ref (ad 3), .ref (ad sr), .int i] g0 (PU g0 (fun r => True)) := by
  refine q_enterI (by decide) (Nat.le_of_ble_eq_true rfl) rfl (fun K H locs ls _ _ hM hW0 hR hC hE hl => ?_)
  have hl : lv_has ls 5 [(0, .ref (ad 3)), (1, .ref (ad sr)), (2, .int i)] := hl
  have hW : WS ad cA (fun i k => False) g0 K g0 H locs := ⟨hW0, hSh, FR.rf⟩
  have usr := hsr
  unfold isSr at usr
  refine q_iconst (v := (0 : Int32)) hM dX5_sound_0 (by decide) ?_
  refine q_istore_n (lv9 := [(3, .int (0 : Int32)), (0, .ref (ad 3)), (1, .ref (ad sr)), (2, .int i)]) hM dX5_sound_1 hl (by decide) rfl (fun ls hl => ?_)
  refine q_iconst (v := (0 : Int32)) hM dX5_sound_2 (by decide) ?_
  refine q_istore (lv9 := [(4, .int (0 : Int32)), (3, .int (0 : Int32)), (0, .ref (ad 3)), (1, .ref (ad sr)), (2, .int i)]) hM dX5_sound_3 hl (by decide) rfl (fun ls hl => ?_)
  have L5 : ∀ (fu5 : Nat) (w5_3 : Int32) (w5_4 : Int32) (H : Heap) (locs : List Loc) (ls : Array Slot), (12 - w5_4.toInt).toNat < fu5 → (0 ≤ w5_4.toInt) → (w5_4.toInt ≤ 12) → lv_has ls 5 [(0, .ref (ad 3)), (1, .ref (ad sr)), (2, .int i), (3, .int w5_3), (4, .int w5_4)] → WS ad cA (fun i k => False) g0 K g0 H locs → XX K 0 0 H locs 5 ls [] := by
    intro fu5
    induction fu5 with
    | zero => intro w5_3 w5_4 H locs ls h0; omega
    | succ fu5 ih5 =>
      intro w5_3 w5_4 H locs ls hm5 i5_0 i5_1 hl hW
      refine q_iload hM dX5_sound_5 (lv_at hl 4 rfl) ?_
      refine q_bipush (v := (12 : Int32)) hM dX5_sound_7 (by decide) ?_
      refine q_icmp_ge (tgt := 38) hM dX5_sound_9 (by decide) (rfl : w5_4.toInt = w5_4.toInt) (kc_12 : (12 : Int32).toInt = 12) (fun h9 => ?_) (fun h9 => ?_)
      · refine q_iload_n hM dX5_sound_38 (lv_at hl 3 rfl) ?_
        exact hE _ _ _ _ _ _ hW.1 ⟨_, rfl, (by trivial), rfl⟩ dX5_sound_39
      · refine q_iload_n hM dX5_sound_12 (lv_at hl 3 rfl) ?_
        refine q_aload_n hM dX5_sound_13 (lv_at hl 1 rfl) ?_
        refine q_iload hM dX5_sound_14 (lv_at hl 4 rfl) ?_
        refine w_iald hM hW (la_Sr hsr) (i_in (by omega) (by omega)) dX5_sound_16 ?_
        refine q_top (fun y604 hy604 => ?_)
        refine q_aload_n hM dX5_sound_17 (lv_at hl 0 rfl) ?_
        refine w_get (v := .ref (ad 5)) hM hW FG_X5_17 lb_3 (rf_3_1 hW.2.1) dX5_sound_18 ?_
        refine q_iload hM dX5_sound_21 (lv_at hl 4 rfl) ?_
        refine w_aald hM hW lb_5 (Or.inl rfl) (i_in (by omega) (by omega)) (aq (aq_5 hW.2.1) (by omega) (by omega)) dX5_sound_23 ?_
        refine q_iload_n hM dX5_sound_24 (lv_at hl 2 rfl) ?_
        refine w_iald hM hW (lr_6 (by omega)) (i_in (by omega) (by omega)) dX5_sound_25 ?_
        refine q_top (fun y605 hy605 => ?_)
        refine q_imul hM dX5_sound_26 (fun z606 hz606 => ?_)
        first | have tz606 := i_mulT hz606 (rfl : y604.toInt = y604.toInt) (rfl : y605.toInt = y605.toInt) (by omega) (by omega) | skip
        refine q_bipush (v := (10 : Int32)) hM dX5_sound_27 (by decide) ?_
        refine q_idiv hM (by decide) dX5_sound_29 (fun z607 hz607 => ?_)
        first | have tz607 := i_divT hz607 (rfl : z606.toInt = z606.toInt) (kc_10 : (10 : Int32).toInt = 10) (by omega) (by omega) | skip
        refine q_iadd hM dX5_sound_30 (fun z608 hz608 => ?_)
        first | have tz608 := i_addT hz608 (rfl : w5_3.toInt = w5_3.toInt) (rfl : z607.toInt = z607.toInt) (by omega) (by omega) | skip
        refine q_istore_n (lv9 := [(3, .int z608), (0, .ref (ad 3)), (1, .ref (ad sr)), (2, .int i), (4, .int w5_4)]) hM dX5_sound_31 hl (by decide) rfl (fun ls hl => ?_)
        refine q_iinc (lv9 := fun z609 => [(4, .int z609), (3, .int z608), (0, .ref (ad 3)), (1, .ref (ad sr)), (2, .int i)]) hM dX5_sound_32 hl (kq := 4) rfl (by decide) (fun _ => rfl) (fun z609 ls hz609 hl => ?_)
        first | have tz609 := i_addT hz609 (rfl : w5_4.toInt = w5_4.toInt) (kc_1 : (Int32.ofInt 1).toInt = 1) (by omega) (by omega) | skip
        refine q_goto (tgt := 5) hM dX5_sound_35 (by decide) ?_
        exact ih5 z608 z609 _ _ _ (by omega) (by omega) (by omega) (lv_sub hl [2, 3, 4, 1, 0] rfl) hW
  have := kc_0
  have := kc_0
  exact L5 _ (0 : Int32) (0 : Int32) _ _ _ (Nat.lt_succ_self _) (by omega) (by omega) (lv_sub hl [2, 3, 4, 1, 0] rfl) hW

theorem dX10_put_0 : decode cX10_put 0 = .ok (.bipush 24, 2) := by decide +kernel
theorem dX10_put_2 : decode cX10_put 2 = .ok (.istore_n 2, 1) := by decide +kernel
theorem dX10_put_3 : decode cX10_put 3 = .ok (.iload_n 2, 1) := by decide +kernel
theorem dX10_put_4 : decode cX10_put 4 = .ok (.ifCond .lt 45, 3) := by decide +kernel
theorem dX10_put_7 : decode cX10_put 7 = .ok (.aload_n 0, 1) := by decide +kernel
theorem dX10_put_8 : decode cX10_put 8 = .ok (.getfield 15, 3) := by decide +kernel
theorem dX10_put_11 : decode cX10_put 11 = .ok (.sipush 260, 3) := by decide +kernel
theorem dX10_put_14 : decode cX10_put 14 = .ok (.if_icmp .ge 35, 3) := by decide +kernel
theorem dX10_put_17 : decode cX10_put 17 = .ok (.aload_n 0, 1) := by decide +kernel
theorem dX10_put_18 : decode cX10_put 18 = .ok (.getfield 11, 3) := by decide +kernel
theorem dX10_put_21 : decode cX10_put 21 = .ok (.aload_n 0, 1) := by decide +kernel
theorem dX10_put_22 : decode cX10_put 22 = .ok (.getfield 15, 3) := by decide +kernel
theorem dX10_put_25 : decode cX10_put 25 = .ok (.iload_n 1, 1) := by decide +kernel
theorem dX10_put_26 : decode cX10_put 26 = .ok (.iload_n 2, 1) := by decide +kernel
theorem dX10_put_27 : decode cX10_put 27 = .ok (.ishr, 1) := by decide +kernel
theorem dX10_put_28 : decode cX10_put 28 = .ok (.sipush 255, 3) := by decide +kernel
theorem dX10_put_31 : decode cX10_put 31 = .ok (.iand, 1) := by decide +kernel
theorem dX10_put_32 : decode cX10_put 32 = .ok (.iastore, 1) := by decide +kernel
theorem dX10_put_33 : decode cX10_put 33 = .ok (.aload_n 0, 1) := by decide +kernel
theorem dX10_put_34 : decode cX10_put 34 = .ok (.dup, 1) := by decide +kernel
theorem dX10_put_35 : decode cX10_put 35 = .ok (.getfield 15, 3) := by decide +kernel
theorem dX10_put_38 : decode cX10_put 38 = .ok (.iconst 1, 1) := by decide +kernel
theorem dX10_put_39 : decode cX10_put 39 = .ok (.iadd, 1) := by decide +kernel
theorem dX10_put_40 : decode cX10_put 40 = .ok (.putfield 15, 3) := by decide +kernel
theorem dX10_put_43 : decode cX10_put 43 = .ok (.iinc 2 (-8), 3) := by decide +kernel
theorem dX10_put_46 : decode cX10_put 46 = .ok (.goto (-43), 3) := by decide +kernel
theorem dX10_put_49 : decode cX10_put 49 = .ok (.return_, 1) := by decide +kernel
theorem FG_X10_15 : FG RX10 15 10 2 1 := ⟨RX10, TX10, rfl, wX10, by decide, kAW (v_0_2 (List.mem_of_getElem? (i := 5) rfl)) rfl, rfl⟩
theorem FP_X10_15 : FPX RX10 15 10 2 1 .int := ⟨⟨RX10, TX10, tyX10, rfl, wX10, by decide, kAW (v_0_2 (List.mem_of_getElem? (i := 5) rfl)) rfl, rfl, tyX10_ok, nmX10, by decide +kernel, rfl⟩, by decide +kernel⟩
set_option maxRecDepth 100000 in
set_option maxHeartbeats 4000000 in
theorem a_X10_put (l : Launch) (D : va_G) (cA : Nat → ClassId) (ad : Nat → Nat) (g0 : Nat → va_E) (fo : Int32)   (hSh : Shp ad cA g0) (hG : Rng g0) : CT l NN ad cA D yX10_put cX10_put 3 none (0, 0) [.ref (ad 1), .int fo] g0 (fun v g' => v = none ∧ Shp ad cA g' ∧ Rng g' ∧ FR (fun i k => (i = 1 ∧ (k = 1)) ∨ i = 2) g0 g') := by
  refine q_enterV (by decide) (Nat.le_of_ble_eq_true rfl) (fun K H locs ls _ _ hM hW0 hR hC hE hl => ?_)
  have hl : lv_has ls 3 [(0, .ref (ad 1)), (1, .int fo)] := hl
  have hW : WS ad cA (fun i k => (i = 1 ∧ (k = 1)) ∨ i = 2) g0 K g0 H locs := ⟨hW0, hSh, FR.rf⟩
  refine q_bipush (v := (24 : Int32)) hM dX10_put_0 (by decide) ?_
  refine q_istore_n (lv9 := [(2, .int (24 : Int32)), (0, .ref (ad 1)), (1, .int fo)]) hM dX10_put_2 hl (by decide) rfl (fun ls hl => ?_)
  have L3 : ∀ (fu3 : Nat) (w3_2 : Int32) (g9 : Nat → va_E) (H : Heap) (locs : List Loc) (ls : Array Slot), (w3_2.toInt + 8).toNat < fu3 → (Rng g9) → (-8 ≤ w3_2.toInt) → (w3_2.toInt ≤ 24) → lv_has ls 3 [(0, .ref (ad 1)), (1, .int fo), (2, .int w3_2)] → WS ad cA (fun i k => (i = 1 ∧ (k = 1)) ∨ i = 2) g0 K g9 H locs → XX K 0 0 H locs 3 ls [] := by
    intro fu3
    induction fu3 with
    | zero => intro w3_2 g9 H locs ls h0; omega
    | succ fu3 ih3 =>
      intro w3_2 g9 H locs ls hm3 i3_0 i3_1 i3_2 hl hW
      have hG := i3_0
      refine q_iload_n hM dX10_put_3 (lv_at hl 2 rfl) ?_
      refine q_if_lt (tgt := 49) hM dX10_put_4 (by decide) (rfl : w3_2.toInt = w3_2.toInt) (fun h4 => ?_) (fun h4 => ?_)
      · exact hE _ _ _ _ _ hW.1 ⟨rfl, hW.2.1, hG, hW.2.2⟩ dX10_put_49
      · refine q_aload_n hM dX10_put_7 (lv_at hl 0 rfl) ?_
        refine w_getI hM hW FG_X10_15 lb_1 (by decide) (by decide) dX10_put_8 (fun x613 fx613 => ?_)
        have bx613 := hG.f fx613 rF_1_1 (by decide)
        refine q_sipush (v := (260 : Int32)) hM dX10_put_11 (by decide) ?_
        refine q_icmp_ge (tgt := 49) hM dX10_put_14 (by decide) (rfl : x613.toInt = x613.toInt) (kc_260 : (260 : Int32).toInt = 260) (fun h14 => ?_) (fun h14 => ?_)
        · exact hE _ _ _ _ _ hW.1 ⟨rfl, hW.2.1, hG, hW.2.2⟩ dX10_put_49
        · refine q_aload_n hM dX10_put_17 (lv_at hl 0 rfl) ?_
          refine w_get (v := .ref (ad 2)) hM hW FG_X10_11 lb_1 (rf_1_0 hW.2.1) dX10_put_18 ?_
          refine q_aload_n hM dX10_put_21 (lv_at hl 0 rfl) ?_
          refine w_get (v := .int x613) hM hW FG_X10_15 lb_1 fx613 dX10_put_22 ?_
          have bx613 := hG.f fx613 rF_1_1 (by decide)
          refine q_iload_n hM dX10_put_25 (lv_at hl 1 rfl) ?_
          refine q_iload_n hM dX10_put_26 (lv_at hl 2 rfl) ?_
          refine q_ishr hM dX10_put_27 (fun z616 hz616 => ?_)
          refine q_sipush (v := (255 : Int32)) hM dX10_put_28 (by decide) ?_
          refine q_iand hM dX10_put_31 (fun z617 hz617 => ?_)
          have az617 := i_andk hz617 (by rw [kc_255]; decide)
          rw [kc_255] at az617
          refine w_iast hM hW lb_2 (by omega) (i_in (by omega) (by omega)) dX10_put_32 (fun g618 H locs hW e1 e2 => ?_)
          have f619 : fld g618 1 1 = .int x613 := (e2.1 1 1 (by unfold Only; omega)).trans fx613
          have hG := hG.st e1 e2 rA_2 (by have := i_rng z617; omega) (by have := i_rng z617; omega)
          refine q_aload_n hM dX10_put_33 (lv_at hl 0 rfl) ?_
          refine q_dup hM dX10_put_34 rfl ?_
          refine w_get (v := .int x613) hM hW FG_X10_15 lb_1 f619 dX10_put_35 ?_
          have bx613 := hG.f f619 rF_1_1 (by decide)
          refine q_iconst (v := (1 : Int32)) hM dX10_put_38 (by decide) ?_
          refine q_iadd hM dX10_put_39 (fun z620 hz620 => ?_)
          first | have tz620 := i_addT hz620 (rfl : x613.toInt = x613.toInt) (kc_1 : (1 : Int32).toInt = 1) (by omega) (by omega) | skip
          refine w_put hM hW FP_X10_15 lb_1 (by omega) (Or.inl ⟨_, rfl⟩) rfl rfl dX10_put_40 (fun g621 H locs hW e1 e2 => ?_)
          have f622 : fld g621 1 1 = .int z620 := e1
          have hG := hG.put e1 e2 rF_1_1 (by decide) (by have := i_rng z620; omega) (by have := i_rng z620; omega)
          refine q_iinc (lv9 := fun z623 => [(2, .int z623), (0, .ref (ad 1)), (1, .int fo)]) hM dX10_put_43 hl (kq := 2) rfl (by decide) (fun _ => rfl) (fun z623 ls hz623 hl => ?_)
          first | have tz623 := i_addT hz623 (rfl : w3_2.toInt = w3_2.toInt) (kc_m8 : (Int32.ofInt (-8)).toInt = (-8)) (by omega) (by omega) | skip
          refine q_goto (tgt := 3) hM dX10_put_46 (by decide) ?_
          exact ih3 z623 _ _ _ _ (by omega) hG (by omega) (by omega) (lv_sub hl [1, 2, 0] rfl) hW
  have := kc_24
  exact L3 _ (24 : Int32) _ _ _ _ (Nat.lt_succ_self _) hG (by omega) (by omega) (lv_sub hl [1, 2, 0] rfl) hW

theorem dX10_holdsFacts_0 : decode cX10_holdsFacts 0 = .ok (.iconst 0, 1) := by decide +kernel
theorem dX10_holdsFacts_1 : decode cX10_holdsFacts 1 = .ok (.istore_n 2, 1) := by decide +kernel
theorem dX10_holdsFacts_2 : decode cX10_holdsFacts 2 = .ok (.iload_n 2, 1) := by decide +kernel
theorem dX10_holdsFacts_3 : decode cX10_holdsFacts 3 = .ok (.iload_n 1, 1) := by decide +kernel
theorem dX10_holdsFacts_4 : decode cX10_holdsFacts 4 = .ok (.if_icmp .ge 29, 3) := by decide +kernel
theorem dX10_holdsFacts_7 : decode cX10_holdsFacts 7 = .ok (.iload_n 2, 1) := by decide +kernel
theorem dX10_holdsFacts_8 : decode cX10_holdsFacts 8 = .ok (.sipush 260, 3) := by decide +kernel
theorem dX10_holdsFacts_11 : decode cX10_holdsFacts 11 = .ok (.if_icmp .ge 22, 3) := by decide +kernel
theorem dX10_holdsFacts_14 : decode cX10_holdsFacts 14 = .ok (.aload_n 0, 1) := by decide +kernel
theorem dX10_holdsFacts_15 : decode cX10_holdsFacts 15 = .ok (.getfield 11, 3) := by decide +kernel
theorem dX10_holdsFacts_18 : decode cX10_holdsFacts 18 = .ok (.iload_n 2, 1) := by decide +kernel
theorem dX10_holdsFacts_19 : decode cX10_holdsFacts 19 = .ok (.iaload, 1) := by decide +kernel
theorem dX10_holdsFacts_20 : decode cX10_holdsFacts 20 = .ok (.bipush 12, 2) := by decide +kernel
theorem dX10_holdsFacts_22 : decode cX10_holdsFacts 22 = .ok (.if_icmp .lt 5, 3) := by decide +kernel
theorem dX10_holdsFacts_25 : decode cX10_holdsFacts 25 = .ok (.iconst 0, 1) := by decide +kernel
theorem dX10_holdsFacts_26 : decode cX10_holdsFacts 26 = .ok (.ireturn, 1) := by decide +kernel
theorem dX10_holdsFacts_27 : decode cX10_holdsFacts 27 = .ok (.iinc 2 1, 3) := by decide +kernel
theorem dX10_holdsFacts_30 : decode cX10_holdsFacts 30 = .ok (.goto (-28), 3) := by decide +kernel
theorem dX10_holdsFacts_33 : decode cX10_holdsFacts 33 = .ok (.iconst 1, 1) := by decide +kernel
theorem dX10_holdsFacts_34 : decode cX10_holdsFacts 34 = .ok (.ireturn, 1) := by decide +kernel
set_option maxRecDepth 100000 in
set_option maxHeartbeats 4000000 in
theorem a_X10_holdsFacts (l : Launch) (D : va_G) (cA : Nat → ClassId) (ad : Nat → Nat) (g0 : Nat → va_E) (n : Int32) (hSh : Shp ad cA g0) (hG : Rng g0) : CT l NN ad cA D yX10_holdsFacts cX10_holdsFacts 3 (some FieldType.boolean) (0, 0) [.ref (ad 1), .int n] g0 (PU g0 (fun r => (r.toInt = 0 ∨ r.toInt = 1) ∧ (r.toInt = 1 → ∀ q : Nat, (q : Int) < n.toInt → q < 260 → (arI g0 2 q).toInt ≤ 11))) := by
  refine q_enterZ (by decide) (Nat.le_of_ble_eq_true rfl) (fun K H locs ls _ _ hM hW0 hR hC hE hl => ?_)
  have hl : lv_has ls 3 [(0, .ref (ad 1)), (1, .int n)] := hl
  have hW : WS ad cA (fun i k => False) g0 K g0 H locs := ⟨hW0, hSh, FR.rf⟩
  refine q_iconst (v := (0 : Int32)) hM dX10_holdsFacts_0 (by decide) ?_
  refine q_istore_n (lv9 := [(2, .int (0 : Int32)), (0, .ref (ad 1)), (1, .int n)]) hM dX10_holdsFacts_1 hl (by decide) rfl (fun ls hl => ?_)
  have L2 : ∀ (fu2 : Nat) (w2_2 : Int32) (H : Heap) (locs : List Loc) (ls : Array Slot), (n.toInt - w2_2.toInt + 1).toNat < fu2 → (0 ≤ w2_2.toInt) → (∀ q : Nat, (q : Int) < w2_2.toInt → (arI g0 2 q).toInt ≤ 11) → lv_has ls 3 [(0, .ref (ad 1)), (1, .int n), (2, .int w2_2)] → WS ad cA (fun i k => False) g0 K g0 H locs → XX K 0 0 H locs 2 ls [] := by
    intro fu2
    induction fu2 with
    | zero => intro w2_2 H locs ls h0; omega
    | succ fu2 ih2 =>
      intro w2_2 H locs ls hm2 i2_0 i2_1 hl hW
      have := i_rng n
      refine q_iload_n hM dX10_holdsFacts_2 (lv_at hl 2 rfl) ?_
      refine q_iload_n hM dX10_holdsFacts_3 (lv_at hl 1 rfl) ?_
      refine q_icmp_ge (tgt := 33) hM dX10_holdsFacts_4 (by decide) (rfl : w2_2.toInt = w2_2.toInt) (rfl : n.toInt = n.toInt) (fun h4 => ?_) (fun h4 => ?_)
      · refine q_iconst (v := (1 : Int32)) hM dX10_holdsFacts_33 (by decide) ?_
        exact hE _ _ _ _ _ _ hW.1 nz_1 ⟨_, rfl, ⟨by have := kc_1; omega, fun h9 => by have := kc_1; exact fun q h1 h2 => i2_1 q (by omega)⟩, rfl⟩ dX10_holdsFacts_34
      · refine q_iload_n hM dX10_holdsFacts_7 (lv_at hl 2 rfl) ?_
        refine q_sipush (v := (260 : Int32)) hM dX10_holdsFacts_8 (by decide) ?_
        refine q_icmp_ge (tgt := 33) hM dX10_holdsFacts_11 (by decide) (rfl : w2_2.toInt = w2_2.toInt) (kc_260 : (260 : Int32).toInt = 260) (fun h11 => ?_) (fun h11 => ?_)
        · refine q_iconst (v := (1 : Int32)) hM dX10_holdsFacts_33 (by decide) ?_
          exact hE _ _ _ _ _ _ hW.1 nz_1 ⟨_, rfl, ⟨by have := kc_1; omega, fun h9 => by have := kc_1; exact fun q h1 h2 => i2_1 q (by omega)⟩, rfl⟩ dX10_holdsFacts_34
        · refine q_aload_n hM dX10_holdsFacts_14 (lv_at hl 0 rfl) ?_
          refine w_get (v := .ref (ad 2)) hM hW FG_X10_11 lb_1 (rf_1_0 hW.2.1) dX10_holdsFacts_15 ?_
          refine q_iload_n hM dX10_holdsFacts_18 (lv_at hl 2 rfl) ?_
          refine w_iald hM hW lb_2 (i_in (by omega) (by omega)) dX10_holdsFacts_19 ?_
          refine q_top (fun y629 hy629 => ?_)
          have by629 := hG.a hy629 rA_2
          have cy629 := congrArg Int32.toInt hy629
          refine q_bipush (v := (12 : Int32)) hM dX10_holdsFacts_20 (by decide) ?_
          refine q_icmp_lt (tgt := 27) hM dX10_holdsFacts_22 (by decide) (rfl : y629.toInt = y629.toInt) (kc_12 : (12 : Int32).toInt = 12) (fun h22 => ?_) (fun h22 => ?_)
          · refine q_iinc (lv9 := fun z631 => [(2, .int z631), (0, .ref (ad 1)), (1, .int n)]) hM dX10_holdsFacts_27 hl (kq := 2) rfl (by decide) (fun _ => rfl) (fun z631 ls hz631 hl => ?_)
            first | have tz631 := i_addT hz631 (rfl : w2_2.toInt = w2_2.toInt) (kc_1 : (Int32.ofInt 1).toInt = 1) (by omega) (by omega) | skip
            refine q_goto (tgt := 2) hM dX10_holdsFacts_30 (by decide) ?_
            exact ih2 z631 _ _ _ (by omega) (by omega) (fun q h => by
                by_cases e : (q : Int) = w2_2.toInt
                · have e9 : w2_2.toNatClampNeg = q := by show w2_2.toInt.toNat = q; omega
                  have e8 := hy629; rw [e9] at e8; rw [← e8]; omega
                · exact i2_1 q (by omega)) (lv_sub hl [1, 2, 0] rfl) hW
          · refine q_iconst (v := (0 : Int32)) hM dX10_holdsFacts_25 (by decide) ?_
            exact hE _ _ _ _ _ _ hW.1 nz_0 ⟨_, rfl, ⟨by have := kc_0; omega, fun h9 => by have := kc_0; omega⟩, rfl⟩ dX10_holdsFacts_26
  have := kc_0
  exact L2 _ (0 : Int32) _ _ _ (Nat.lt_succ_self _) (by omega) (fun q h => absurd h (by have := kc_0; omega)) (lv_sub hl [1, 2, 0] rfl) hW

theorem dX8_fits_0 : decode cX8_fits 0 = .ok (.iload_n 0, 1) := by decide +kernel
theorem dX8_fits_1 : decode cX8_fits 1 = .ok (.iload_n 1, 1) := by decide +kernel
theorem dX8_fits_2 : decode cX8_fits 2 = .ok (.iand, 1) := by decide +kernel
theorem dX8_fits_3 : decode cX8_fits 3 = .ok (.ifCond .ne 15, 3) := by decide +kernel
theorem dX8_fits_6 : decode cX8_fits 6 = .ok (.iload_n 2, 1) := by decide +kernel
theorem dX8_fits_7 : decode cX8_fits 7 = .ok (.iload_n 0, 1) := by decide +kernel
theorem dX8_fits_8 : decode cX8_fits 8 = .ok (.invokestatic 79, 3) := by decide +kernel
theorem dX8_fits_11 : decode cX8_fits 11 = .ok (.ifCond .eq 7, 3) := by decide +kernel
theorem dX8_fits_14 : decode cX8_fits 14 = .ok (.iconst 1, 1) := by decide +kernel
theorem dX8_fits_15 : decode cX8_fits 15 = .ok (.goto 4, 3) := by decide +kernel
theorem dX8_fits_18 : decode cX8_fits 18 = .ok (.iconst 0, 1) := by decide +kernel
theorem dX8_fits_19 : decode cX8_fits 19 = .ok (.ireturn, 1) := by decide +kernel
set_option maxRecDepth 100000 in
set_option maxHeartbeats 4000000 in
theorem a_X8_fits (l : Launch) (D : va_G) (cA : Nat → ClassId) (ad : Nat → Nat) (g0 : Nat → va_E) (kn : Int32) (go : Int32) (ke : Int32) (hSh : Shp ad cA g0) (hG : Rng g0) : CT l NN ad cA D yX8_fits cX8_fits 3 (some FieldType.boolean) (1, 21) [.int kn, .int go, .int ke] g0 (PU g0 (fun r => r.toInt = 0 ∨ r.toInt = 1)) := by
  refine q_enterZ (by decide) (Nat.le_of_ble_eq_true rfl) (fun K H locs ls _ _ hM hW0 hR hC hE hl => ?_)
  have hl : lv_has ls 3 [(0, .int kn), (1, .int go), (2, .int ke)] := hl
  have hW : WS ad cA (fun i k => False) g0 K g0 H locs := ⟨hW0, hSh, FR.rf⟩
  refine q_iload_n hM dX8_fits_0 (lv_at hl 0 rfl) ?_
  refine q_iload_n hM dX8_fits_1 (lv_at hl 1 rfl) ?_
  refine q_iand hM dX8_fits_2 (fun z633 hz633 => ?_)
  refine q_if_ne (tgt := 18) hM dX8_fits_3 (by decide) (rfl : z633.toInt = z633.toInt) (fun h3 => ?_) (fun h3 => ?_)
  · refine q_iconst (v := (0 : Int32)) hM dX8_fits_18 (by decide) ?_
    exact hE _ _ _ _ _ _ hW.1 nz_0 ⟨_, rfl, (by have := kc_0; omega), rfl⟩ dX8_fits_19
  · refine q_iload_n hM dX8_fits_6 (lv_at hl 2 rfl) ?_
    refine q_iload_n hM dX8_fits_7 (lv_at hl 0 rfl) ?_
    refine q_callN (host := "ForgetSchool") (As := [.int ke, .int kn]) (rest := []) hM hW.1 hR hC myX11_areOf (List.mem_of_getElem? (i := 6) rfl) (c_X11_areOf _ _ cA ad g0 ke kn hW.2.1) ⟨by decide, by decide⟩ rfl rfl hl.1 (Nat.le_of_ble_eq_true rfl) dX8_fits_8 (fun v g637 H locs hp hW1 => ?_)
    obtain ⟨r636, rfl, hr636, rfl⟩ := hp
    have hW : WS ad cA (fun i k => False) g0 K g0 H locs := ⟨hW1, hW.2.1, hW.2.2⟩
    refine q_if_eq (tgt := 18) hM dX8_fits_11 (by decide) (rfl : r636.toInt = r636.toInt) (fun h11 => ?_) (fun h11 => ?_)
    · refine q_iconst (v := (0 : Int32)) hM dX8_fits_18 (by decide) ?_
      exact hE _ _ _ _ _ _ hW.1 nz_0 ⟨_, rfl, (by have := kc_0; omega), rfl⟩ dX8_fits_19
    · refine q_iconst (v := (1 : Int32)) hM dX8_fits_14 (by decide) ?_
      refine q_goto (tgt := 19) hM dX8_fits_15 (by decide) ?_
      exact hE _ _ _ _ _ _ hW.1 nz_1 ⟨_, rfl, (by have := kc_1; omega), rfl⟩ dX8_fits_19

theorem dX2_concerns_0 : decode cX2_concerns 0 = .ok (.aload_n 0, 1) := by decide +kernel
theorem dX2_concerns_1 : decode cX2_concerns 1 = .ok (.getfield 9, 3) := by decide +kernel
theorem dX2_concerns_4 : decode cX2_concerns 4 = .ok (.getfield 123, 3) := by decide +kernel
theorem dX2_concerns_7 : decode cX2_concerns 7 = .ok (.iload_n 3, 1) := by decide +kernel
theorem dX2_concerns_8 : decode cX2_concerns 8 = .ok (.invokestatic 61, 3) := by decide +kernel
theorem dX2_concerns_11 : decode cX2_concerns 11 = .ok (.ifCond .eq 8, 3) := by decide +kernel
theorem dX2_concerns_14 : decode cX2_concerns 14 = .ok (.iload_n 1, 1) := by decide +kernel
theorem dX2_concerns_15 : decode cX2_concerns 15 = .ok (.iconst 2, 1) := by decide +kernel
theorem dX2_concerns_16 : decode cX2_concerns 16 = .ok (.if_icmp .ne 15, 3) := by decide +kernel
theorem dX2_concerns_19 : decode cX2_concerns 19 = .ok (.aload_n 0, 1) := by decide +kernel
theorem dX2_concerns_20 : decode cX2_concerns 20 = .ok (.getfield 9, 3) := by decide +kernel
theorem dX2_concerns_23 : decode cX2_concerns 23 = .ok (.getfield 123, 3) := by decide +kernel
theorem dX2_concerns_26 : decode cX2_concerns 26 = .ok (.iload_n 3, 1) := by decide +kernel
theorem dX2_concerns_27 : decode cX2_concerns 27 = .ok (.invokestatic 61, 3) := by decide +kernel
theorem dX2_concerns_30 : decode cX2_concerns 30 = .ok (.ireturn, 1) := by decide +kernel
theorem dX2_concerns_31 : decode cX2_concerns 31 = .ok (.iload_n 2, 1) := by decide +kernel
theorem dX2_concerns_32 : decode cX2_concerns 32 = .ok (.iload_n 1, 1) := by decide +kernel
theorem dX2_concerns_33 : decode cX2_concerns 33 = .ok (.iconst 1, 1) := by decide +kernel
theorem dX2_concerns_34 : decode cX2_concerns 34 = .ok (.if_icmp .ne 15, 3) := by decide +kernel
theorem dX2_concerns_37 : decode cX2_concerns 37 = .ok (.aload_n 0, 1) := by decide +kernel
theorem dX2_concerns_38 : decode cX2_concerns 38 = .ok (.getfield 9, 3) := by decide +kernel
theorem dX2_concerns_41 : decode cX2_concerns 41 = .ok (.getfield 126, 3) := by decide +kernel
theorem dX2_concerns_44 : decode cX2_concerns 44 = .ok (.iload_n 3, 1) := by decide +kernel
theorem dX2_concerns_45 : decode cX2_concerns 45 = .ok (.iaload, 1) := by decide +kernel
theorem dX2_concerns_46 : decode cX2_concerns 46 = .ok (.goto 4, 3) := by decide +kernel
theorem dX2_concerns_49 : decode cX2_concerns 49 = .ok (.iload_n 3, 1) := by decide +kernel
theorem dX2_concerns_50 : decode cX2_concerns 50 = .ok (.if_icmp .ne 7, 3) := by decide +kernel
theorem dX2_concerns_53 : decode cX2_concerns 53 = .ok (.iconst 1, 1) := by decide +kernel
theorem dX2_concerns_54 : decode cX2_concerns 54 = .ok (.goto 4, 3) := by decide +kernel
theorem dX2_concerns_57 : decode cX2_concerns 57 = .ok (.iconst 0, 1) := by decide +kernel
theorem dX2_concerns_58 : decode cX2_concerns 58 = .ok (.ireturn, 1) := by decide +kernel
theorem FG_X2_9 : FG RX2 9 2 11 0 := ⟨RX2, TX2, rfl, wX2, by decide, kAW (v_0_14 (List.mem_of_getElem? (i := 3) rfl)) rfl, rfl⟩
theorem FG_X2_123 : FG RX2 123 5 3 2 := ⟨RX5, TX5, rfl, wX5, by decide, kAW (v_0_3 (List.mem_of_getElem? (i := 12) rfl)) rfl, rfl⟩
theorem FG_X2_126 : FG RX2 126 5 3 0 := ⟨RX5, TX5, rfl, wX5, by decide, kAW (v_0_3 (List.mem_of_getElem? (i := 7) rfl)) rfl, rfl⟩
set_option maxRecDepth 100000 in
set_option maxHeartbeats 4000000 in
theorem a_X2_concerns (l : Launch) (D : va_G) (cA : Nat → ClassId) (ad : Nat → Nat) (g0 : Nat → va_E) (wy : Int32) (wh : Int32) (i : Int32) (hSh : Shp ad cA g0) (hG : Rng g0) (i0 : 0 ≤ i.toInt) (i12 : i.toInt < 12) : CT l NN ad cA D yX2_concerns cX2_concerns 4 (some FieldType.boolean) (1, 21) [.ref (ad 80), .int wy, .int wh, .int i] g0 (PU g0 (fun r => r.toInt = 0 ∨ r.toInt = 1)) := by
  refine q_enterZ (by decide) (Nat.le_of_ble_eq_true rfl) (fun K H locs ls _ _ hM hW0 hR hC hE hl => ?_)
  have hl : lv_has ls 4 [(0, .ref (ad 80)), (1, .int wy), (2, .int wh), (3, .int i)] := hl
  have hW : WS ad cA (fun i k => False) g0 K g0 H locs := ⟨hW0, hSh, FR.rf⟩
  refine q_aload_n hM dX2_concerns_0 (lv_at hl 0 rfl) ?_
  refine w_get (v := .ref (ad 3)) hM hW FG_X2_9 lb_80 (rf_80_0 hW.2.1) dX2_concerns_1 ?_
  refine w_getI hM hW FG_X2_123 lb_3 (by decide) (by decide) dX2_concerns_4 (fun x640 fx640 => ?_)
  have bx640 := hG.f fx640 rF_3_2 (by decide)
  refine q_iload_n hM dX2_concerns_7 (lv_at hl 3 rfl) ?_
  refine q_callN (host := "ForgetSchool") (As := [.int x640, .int i]) (rest := []) hM hW.1 hR hC myX11_has (List.mem_of_getElem? (i := 3) rfl) (c_X11_has _ _ cA ad g0 x640 i hW.2.1) ⟨by decide, by decide⟩ rfl rfl hl.1 (Nat.le_of_ble_eq_true rfl) dX2_concerns_8 (fun v g642 H locs hp hW1 => ?_)
  obtain ⟨r641, rfl, hr641, rfl⟩ := hp
  have hW : WS ad cA (fun i k => False) g0 K g0 H locs := ⟨hW1, hW.2.1, hW.2.2⟩
  first | have ltr641 := has_lt 5 hr641 (by omega) (by omega) | have ltr641 := has_lt 6 hr641 (by omega) (by omega) | have ltr641 := has_lt 8 hr641 (by omega) (by omega) | have ltr641 := has_lt 12 hr641 (by omega) (by omega) | skip
  refine q_if_eq (tgt := 19) hM dX2_concerns_11 (by decide) (rfl : r641.toInt = r641.toInt) (fun h11 => ?_) (fun h11 => ?_)
  · refine q_aload_n hM dX2_concerns_19 (lv_at hl 0 rfl) ?_
    refine w_get (v := .ref (ad 3)) hM hW FG_X2_9 lb_80 (rf_80_0 hW.2.1) dX2_concerns_20 ?_
    refine w_get (v := .int x640) hM hW FG_X2_123 lb_3 fx640 dX2_concerns_23 ?_
    have bx640 := hG.f fx640 rF_3_2 (by decide)
    refine q_iload_n hM dX2_concerns_26 (lv_at hl 3 rfl) ?_
    refine q_callN (host := "ForgetSchool") (As := [.int x640, .int i]) (rest := []) hM hW.1 hR hC myX11_has (List.mem_of_getElem? (i := 3) rfl) (c_X11_has _ _ cA ad g0 x640 i hW.2.1) ⟨by decide, by decide⟩ rfl rfl hl.1 (Nat.le_of_ble_eq_true rfl) dX2_concerns_27 (fun v g645 H locs hp hW1 => ?_)
    obtain ⟨r644, rfl, hr644, rfl⟩ := hp
    have hW : WS ad cA (fun i k => False) g0 K g0 H locs := ⟨hW1, hW.2.1, hW.2.2⟩
    first | have ltr644 := has_lt 5 hr644 (by omega) (by omega) | have ltr644 := has_lt 6 hr644 (by omega) (by omega) | have ltr644 := has_lt 8 hr644 (by omega) (by omega) | have ltr644 := has_lt 12 hr644 (by omega) (by omega) | skip
    exact hE _ _ _ _ _ _ hW.1 (nz_or (by omega)) ⟨_, rfl, (by omega), rfl⟩ dX2_concerns_30
  · refine q_iload_n hM dX2_concerns_14 (lv_at hl 1 rfl) ?_
    refine q_iconst (v := (2 : Int32)) hM dX2_concerns_15 (by decide) ?_
    refine q_icmp_ne (tgt := 31) hM dX2_concerns_16 (by decide) (rfl : wy.toInt = wy.toInt) (kc_2 : (2 : Int32).toInt = 2) (fun h16 => ?_) (fun h16 => ?_)
    · refine q_iload_n hM dX2_concerns_31 (lv_at hl 2 rfl) ?_
      refine q_iload_n hM dX2_concerns_32 (lv_at hl 1 rfl) ?_
      refine q_iconst (v := (1 : Int32)) hM dX2_concerns_33 (by decide) ?_
      refine q_icmp_ne (tgt := 49) hM dX2_concerns_34 (by decide) (rfl : wy.toInt = wy.toInt) (kc_1 : (1 : Int32).toInt = 1) (fun h34 => ?_) (fun h34 => ?_)
      · refine q_iload_n hM dX2_concerns_49 (lv_at hl 3 rfl) ?_
        refine q_icmp_ne (tgt := 57) hM dX2_concerns_50 (by decide) (rfl : wh.toInt = wh.toInt) (rfl : i.toInt = i.toInt) (fun h50 => ?_) (fun h50 => ?_)
        · refine q_iconst (v := (0 : Int32)) hM dX2_concerns_57 (by decide) ?_
          exact hE _ _ _ _ _ _ hW.1 nz_0 ⟨_, rfl, (by have := kc_0; omega), rfl⟩ dX2_concerns_58
        · refine q_iconst (v := (1 : Int32)) hM dX2_concerns_53 (by decide) ?_
          refine q_goto (tgt := 58) hM dX2_concerns_54 (by decide) ?_
          exact hE _ _ _ _ _ _ hW.1 nz_1 ⟨_, rfl, (by have := kc_1; omega), rfl⟩ dX2_concerns_58
      · refine q_aload_n hM dX2_concerns_37 (lv_at hl 0 rfl) ?_
        refine w_get (v := .ref (ad 3)) hM hW FG_X2_9 lb_80 (rf_80_0 hW.2.1) dX2_concerns_38 ?_
        refine w_get (v := .ref (ad 4)) hM hW FG_X2_126 lb_3 (rf_3_0 hW.2.1) dX2_concerns_41 ?_
        refine q_iload_n hM dX2_concerns_44 (lv_at hl 3 rfl) ?_
        refine w_iald hM hW lb_4 (i_in (by omega) (by omega)) dX2_concerns_45 ?_
        refine q_top (fun y652 hy652 => ?_)
        refine q_goto (tgt := 50) hM dX2_concerns_46 (by decide) ?_
        refine q_icmp_ne (tgt := 57) hM dX2_concerns_50 (by decide) (rfl : wh.toInt = wh.toInt) (rfl : y652.toInt = y652.toInt) (fun h50 => ?_) (fun h50 => ?_)
        · refine q_iconst (v := (0 : Int32)) hM dX2_concerns_57 (by decide) ?_
          exact hE _ _ _ _ _ _ hW.1 nz_0 ⟨_, rfl, (by have := kc_0; omega), rfl⟩ dX2_concerns_58
        · refine q_iconst (v := (1 : Int32)) hM dX2_concerns_53 (by decide) ?_
          refine q_goto (tgt := 58) hM dX2_concerns_54 (by decide) ?_
          exact hE _ _ _ _ _ _ hW.1 nz_1 ⟨_, rfl, (by have := kc_1; omega), rfl⟩ dX2_concerns_58
    · refine q_aload_n hM dX2_concerns_19 (lv_at hl 0 rfl) ?_
      refine w_get (v := .ref (ad 3)) hM hW FG_X2_9 lb_80 (rf_80_0 hW.2.1) dX2_concerns_20 ?_
      refine w_get (v := .int x640) hM hW FG_X2_123 lb_3 fx640 dX2_concerns_23 ?_
      have bx640 := hG.f fx640 rF_3_2 (by decide)
      refine q_iload_n hM dX2_concerns_26 (lv_at hl 3 rfl) ?_
      refine q_callN (host := "ForgetSchool") (As := [.int x640, .int i]) (rest := []) hM hW.1 hR hC myX11_has (List.mem_of_getElem? (i := 3) rfl) (c_X11_has _ _ cA ad g0 x640 i hW.2.1) ⟨by decide, by decide⟩ rfl rfl hl.1 (Nat.le_of_ble_eq_true rfl) dX2_concerns_27 (fun v g657 H locs hp hW1 => ?_)
      obtain ⟨r656, rfl, hr656, rfl⟩ := hp
      have hW : WS ad cA (fun i k => False) g0 K g0 H locs := ⟨hW1, hW.2.1, hW.2.2⟩
      first | have ltr656 := has_lt 5 hr656 (by omega) (by omega) | have ltr656 := has_lt 6 hr656 (by omega) (by omega) | have ltr656 := has_lt 8 hr656 (by omega) (by omega) | have ltr656 := has_lt 12 hr656 (by omega) (by omega) | skip
      exact hE _ _ _ _ _ _ hW.1 (nz_or (by omega)) ⟨_, rfl, (by omega), rfl⟩ dX2_concerns_30

theorem dX7_draw_0 : decode cX7_draw 0 = .ok (.aload_n 0, 1) := by decide +kernel
theorem dX7_draw_1 : decode cX7_draw 1 = .ok (.sipush 25173, 3) := by decide +kernel
theorem dX7_draw_4 : decode cX7_draw 4 = .ok (.aload_n 0, 1) := by decide +kernel
theorem dX7_draw_5 : decode cX7_draw 5 = .ok (.getfield 36, 3) := by decide +kernel
theorem dX7_draw_8 : decode cX7_draw 8 = .ok (.imul, 1) := by decide +kernel
theorem dX7_draw_9 : decode cX7_draw 9 = .ok (.sipush 13849, 3) := by decide +kernel
theorem dX7_draw_12 : decode cX7_draw 12 = .ok (.iadd, 1) := by decide +kernel
theorem dX7_draw_13 : decode cX7_draw 13 = .ok (.ldc 47, 2) := by decide +kernel
theorem dX7_draw_15 : decode cX7_draw 15 = .ok (.iand, 1) := by decide +kernel
theorem dX7_draw_16 : decode cX7_draw 16 = .ok (.putfield 36, 3) := by decide +kernel
theorem dX7_draw_19 : decode cX7_draw 19 = .ok (.aload_n 0, 1) := by decide +kernel
theorem dX7_draw_20 : decode cX7_draw 20 = .ok (.getfield 36, 3) := by decide +kernel
theorem dX7_draw_23 : decode cX7_draw 23 = .ok (.bipush 10, 2) := by decide +kernel
theorem dX7_draw_25 : decode cX7_draw 25 = .ok (.irem, 1) := by decide +kernel
theorem dX7_draw_26 : decode cX7_draw 26 = .ok (.ireturn, 1) := by decide +kernel
set_option maxRecDepth 100000 in
set_option maxHeartbeats 4000000 in
theorem a_X7_draw_18 (l : Launch) (D : va_G) (cA : Nat → ClassId) (ad : Nat → Nat) (g0 : Nat → va_E)    (hSh : Shp ad cA g0) (hG : Rng g0) : CT l NN ad cA D yX7_draw cX7_draw 1 (some FieldType.int) (0, 0) [.ref (ad 18)] g0 (fun v g' => ∃ (r : Int32), v = some (.int r) ∧ Shp ad cA g' ∧ Rng g' ∧ FR (fun i k => (i = 18 ∧ (k = 7))) g0 g') := by
  refine q_enterI (by decide) (Nat.le_of_ble_eq_true rfl) rfl (fun K H locs ls _ _ hM hW0 hR hC hE hl => ?_)
  have hl : lv_has ls 1 [(0, .ref (ad 18))] := hl
  have hW : WS ad cA (fun i k => (i = 18 ∧ (k = 7))) g0 K g0 H locs := ⟨hW0, hSh, FR.rf⟩
  refine q_aload_n hM dX7_draw_0 (lv_at hl 0 rfl) ?_
  refine q_sipush (v := (25173 : Int32)) hM dX7_draw_1 (by decide) ?_
  refine q_aload_n hM dX7_draw_4 (lv_at hl 0 rfl) ?_
  refine w_getI hM hW FG_X7_36 lb_18 (by decide) (by decide) dX7_draw_5 (fun x658 fx658 => ?_)
  refine q_imul hM dX7_draw_8 (fun z659 hz659 => ?_)
  first | have tz659 := i_mulT hz659 (kc_25173 : (25173 : Int32).toInt = 25173) (rfl : x658.toInt = x658.toInt) (by omega) (by omega) | skip
  refine q_sipush (v := (13849 : Int32)) hM dX7_draw_9 (by decide) ?_
  refine q_iadd hM dX7_draw_12 (fun z660 hz660 => ?_)
  first | have tz660 := i_addT hz660 (rfl : z659.toInt = z659.toInt) (kc_13849 : (13849 : Int32).toInt = 13849) (by omega) (by omega) | skip
  refine q_ldc (v := (65535 : Int32)) hM (kAW (v_2_14 (List.mem_of_getElem? (i := 9) rfl)) rfl) dX7_draw_13 ?_
  refine q_iand hM dX7_draw_15 (fun z661 hz661 => ?_)
  have az661 := i_andk hz661 (by rw [kc_65535]; decide)
  rw [kc_65535] at az661
  refine w_put hM hW FP_X7_36 lb_18 (by omega) (Or.inl ⟨_, rfl⟩) rfl rfl dX7_draw_16 (fun g662 H locs hW e1 e2 => ?_)
  have f663 : fld g662 18 7 = .int z661 := e1
  have hG := hG.put e1 e2 (rfl : rF 18 7 = (-2147483648, 2147483647)) (by decide) (by have := i_rng z661; omega) (by have := i_rng z661; omega)
  refine q_aload_n hM dX7_draw_19 (lv_at hl 0 rfl) ?_
  refine w_get (v := .int z661) hM hW FG_X7_36 lb_18 f663 dX7_draw_20 ?_
  refine q_bipush (v := (10 : Int32)) hM dX7_draw_23 (by decide) ?_
  refine q_irem hM (by decide) dX7_draw_25 (fun z664 hz664 => ?_)
  first | have tz664 := i_remT hz664 (rfl : z661.toInt = z661.toInt) (kc_10 : (10 : Int32).toInt = 10) (by omega) (by omega) | skip
  exact hE _ _ _ _ _ _ hW.1 ⟨_, rfl, hW.2.1, hG, hW.2.2⟩ dX7_draw_26

theorem dX7_tell_0 : decode cX7_tell 0 = .ok (.aload_n 0, 1) := by decide +kernel
theorem dX7_tell_1 : decode cX7_tell 1 = .ok (.dup, 1) := by decide +kernel
theorem dX7_tell_2 : decode cX7_tell 2 = .ok (.getfield 23, 3) := by decide +kernel
theorem dX7_tell_5 : decode cX7_tell 5 = .ok (.iconst 1, 1) := by decide +kernel
theorem dX7_tell_6 : decode cX7_tell 6 = .ok (.iload_n 1, 1) := by decide +kernel
theorem dX7_tell_7 : decode cX7_tell 7 = .ok (.ishl, 1) := by decide +kernel
theorem dX7_tell_8 : decode cX7_tell 8 = .ok (.ior, 1) := by decide +kernel
theorem dX7_tell_9 : decode cX7_tell 9 = .ok (.putfield 23, 3) := by decide +kernel
theorem dX7_tell_12 : decode cX7_tell 12 = .ok (.aload_n 0, 1) := by decide +kernel
theorem dX7_tell_13 : decode cX7_tell 13 = .ok (.getfield 9, 3) := by decide +kernel
theorem dX7_tell_16 : decode cX7_tell 16 = .ok (.iload_n 1, 1) := by decide +kernel
theorem dX7_tell_17 : decode cX7_tell 17 = .ok (.iload_n 2, 1) := by decide +kernel
theorem dX7_tell_18 : decode cX7_tell 18 = .ok (.iastore, 1) := by decide +kernel
theorem dX7_tell_19 : decode cX7_tell 19 = .ok (.aload_n 0, 1) := by decide +kernel
theorem dX7_tell_20 : decode cX7_tell 20 = .ok (.getfield 15, 3) := by decide +kernel
theorem dX7_tell_23 : decode cX7_tell 23 = .ok (.iload_n 1, 1) := by decide +kernel
theorem dX7_tell_24 : decode cX7_tell 24 = .ok (.iload_n 3, 1) := by decide +kernel
theorem dX7_tell_25 : decode cX7_tell 25 = .ok (.iastore, 1) := by decide +kernel
theorem dX7_tell_26 : decode cX7_tell 26 = .ok (.iconst 0, 1) := by decide +kernel
theorem dX7_tell_27 : decode cX7_tell 27 = .ok (.istore 4, 2) := by decide +kernel
theorem dX7_tell_29 : decode cX7_tell 29 = .ok (.iload 4, 2) := by decide +kernel
theorem dX7_tell_31 : decode cX7_tell 31 = .ok (.bipush 12, 2) := by decide +kernel
theorem dX7_tell_33 : decode cX7_tell 33 = .ok (.if_icmp .ge 19, 3) := by decide +kernel
theorem dX7_tell_36 : decode cX7_tell 36 = .ok (.aload_n 0, 1) := by decide +kernel
theorem dX7_tell_37 : decode cX7_tell 37 = .ok (.getfield 20, 3) := by decide +kernel
theorem dX7_tell_40 : decode cX7_tell 40 = .ok (.iload_n 1, 1) := by decide +kernel
theorem dX7_tell_41 : decode cX7_tell 41 = .ok (.aaload, 1) := by decide +kernel
theorem dX7_tell_42 : decode cX7_tell 42 = .ok (.iload 4, 2) := by decide +kernel
theorem dX7_tell_44 : decode cX7_tell 44 = .ok (.iconst 0, 1) := by decide +kernel
theorem dX7_tell_45 : decode cX7_tell 45 = .ok (.iastore, 1) := by decide +kernel
theorem dX7_tell_46 : decode cX7_tell 46 = .ok (.iinc 4 1, 3) := by decide +kernel
theorem dX7_tell_49 : decode cX7_tell 49 = .ok (.goto (-20), 3) := by decide +kernel
theorem dX7_tell_52 : decode cX7_tell 52 = .ok (.return_, 1) := by decide +kernel
set_option maxRecDepth 100000 in
set_option maxHeartbeats 4000000 in
theorem a_X7_tell_18 (l : Launch) (D : va_G) (cA : Nat → ClassId) (ad : Nat → Nat) (g0 : Nat → va_E) (p : Int32) (gr : Int32) (ag : Int32)   (hSh : Shp ad cA g0) (hG : Rng g0) (p0 : 0 ≤ p.toInt) (p7 : p.toInt < 8) (gr0 : 0 ≤ gr.toInt) : CT l NN ad cA D yX7_tell cX7_tell 5 none (0, 0) [.ref (ad 18), .int p, .int gr, .int ag] g0 (fun v g' => v = none ∧ Shp ad cA g' ∧ Rng g' ∧ FR (fun i k => (i = 18 ∧ (k = 3)) ∨ i = 19 ∨ i = 20 ∨ (22 ≤ i ∧ i < 30)) g0 g') := by
  refine q_enterV (by decide) (Nat.le_of_ble_eq_true rfl) (fun K H locs ls _ _ hM hW0 hR hC hE hl => ?_)
  have hl : lv_has ls 5 [(0, .ref (ad 18)), (1, .int p), (2, .int gr), (3, .int ag)] := hl
  have hW : WS ad cA (fun i k => (i = 18 ∧ (k = 3)) ∨ i = 19 ∨ i = 20 ∨ (22 ≤ i ∧ i < 30)) g0 K g0 H locs := ⟨hW0, hSh, FR.rf⟩
  refine q_aload_n hM dX7_tell_0 (lv_at hl 0 rfl) ?_
  refine q_dup hM dX7_tell_1 rfl ?_
  refine w_getI hM hW FG_X7_23 lb_18 (by decide) (by decide) dX7_tell_2 (fun x665 fx665 => ?_)
  have bx665 := hG.f fx665 rF_18_3 (by decide)
  refine q_iconst (v := (1 : Int32)) hM dX7_tell_5 (by decide) ?_
  refine q_iload_n hM dX7_tell_6 (lv_at hl 1 rfl) ?_
  refine q_ishl hM dX7_tell_7 (fun z666 hz666 => ?_)
  have sz666 := i_shl1 8 (by decide) hz666 (by omega) (by omega)
  refine q_ior hM dX7_tell_8 (fun z667 hz667 => ?_)
  have oz667 := i_ork 8 (by decide) hz667 (by omega) (by omega) (by omega) (by omega)
  refine w_put hM hW FP_X7_23 lb_18 (by omega) (Or.inl ⟨_, rfl⟩) rfl rfl dX7_tell_9 (fun g668 H locs hW e1 e2 => ?_)
  have f669 : fld g668 18 3 = .int z667 := e1
  have hG := hG.put e1 e2 rF_18_3 (by decide) (by have := i_rng z667; omega) (by have := i_rng z667; omega)
  refine q_aload_n hM dX7_tell_12 (lv_at hl 0 rfl) ?_
  refine w_get (v := .ref (ad 19)) hM hW FG_X7_9 lb_18 (rf_18_0 hW.2.1) dX7_tell_13 ?_
  refine q_iload_n hM dX7_tell_16 (lv_at hl 1 rfl) ?_
  refine q_iload_n hM dX7_tell_17 (lv_at hl 2 rfl) ?_
  refine w_iast hM hW lb_19 (by omega) (i_in (by omega) (by omega)) dX7_tell_18 (fun g670 H locs hW e1 e2 => ?_)
  have f671 : fld g670 18 3 = .int z667 := (e2.1 18 3 (by unfold Only; omega)).trans f669
  have hG := hG.st e1 e2 rA_19 (by have := i_rng gr; omega) (by have := i_rng gr; omega)
  refine q_aload_n hM dX7_tell_19 (lv_at hl 0 rfl) ?_
  refine w_get (v := .ref (ad 20)) hM hW FG_X7_15 lb_18 (rf_18_1 hW.2.1) dX7_tell_20 ?_
  refine q_iload_n hM dX7_tell_23 (lv_at hl 1 rfl) ?_
  refine q_iload_n hM dX7_tell_24 (lv_at hl 3 rfl) ?_
  refine w_iast hM hW lb_20 (by omega) (i_in (by omega) (by omega)) dX7_tell_25 (fun g672 H locs hW e1 e2 => ?_)
  have f673 : fld g672 18 3 = .int z667 := (e2.1 18 3 (by unfold Only; omega)).trans f671
  have hG := hG.st e1 e2 (rfl : rA 20 = (-2147483648, 2147483647)) (by have := i_rng ag; omega) (by have := i_rng ag; omega)
  refine q_iconst (v := (0 : Int32)) hM dX7_tell_26 (by decide) ?_
  refine q_istore (lv9 := [(4, .int (0 : Int32)), (0, .ref (ad 18)), (1, .int p), (2, .int gr), (3, .int ag)]) hM dX7_tell_27 hl (by decide) rfl (fun ls hl => ?_)
  have L29 : ∀ (fu29 : Nat) (w29_4 : Int32) (g9 : Nat → va_E) (H : Heap) (locs : List Loc) (ls : Array Slot), (12 - w29_4.toInt).toNat < fu29 → (Rng g9) → (0 ≤ w29_4.toInt) → (w29_4.toInt ≤ 12) → lv_has ls 5 [(0, .ref (ad 18)), (1, .int p), (2, .int gr), (3, .int ag), (4, .int w29_4)] → WS ad cA (fun i k => (i = 18 ∧ (k = 3)) ∨ i = 19 ∨ i = 20 ∨ (22 ≤ i ∧ i < 30)) g0 K g9 H locs → XX K 0 0 H locs 29 ls [] := by
    intro fu29
    induction fu29 with
    | zero => intro w29_4 g9 H locs ls h0; omega
    | succ fu29 ih29 =>
      intro w29_4 g9 H locs ls hm29 i29_0 i29_1 i29_2 hl hW
      have hG := i29_0
      refine q_iload hM dX7_tell_29 (lv_at hl 4 rfl) ?_
      refine q_bipush (v := (12 : Int32)) hM dX7_tell_31 (by decide) ?_
      refine q_icmp_ge (tgt := 52) hM dX7_tell_33 (by decide) (rfl : w29_4.toInt = w29_4.toInt) (kc_12 : (12 : Int32).toInt = 12) (fun h33 => ?_) (fun h33 => ?_)
      · exact hE _ _ _ _ _ hW.1 ⟨rfl, hW.2.1, hG, hW.2.2⟩ dX7_tell_52
      · refine q_aload_n hM dX7_tell_36 (lv_at hl 0 rfl) ?_
        refine w_get (v := .ref (ad 21)) hM hW FG_X7_20 lb_18 (rf_18_2 hW.2.1) dX7_tell_37 ?_
        refine q_iload_n hM dX7_tell_40 (lv_at hl 1 rfl) ?_
        refine w_aald hM hW lb_21 (Or.inl rfl) (i_in (by omega) (by omega)) (aq (aq_21 hW.2.1) (by omega) (by omega)) dX7_tell_41 ?_
        refine q_iload hM dX7_tell_42 (lv_at hl 4 rfl) ?_
        refine q_iconst (v := (0 : Int32)) hM dX7_tell_44 (by decide) ?_
        refine w_iast hM hW (lr_22 (by omega)) (by omega) (i_in (by omega) (by omega)) dX7_tell_45 (fun g677 H locs hW e1 e2 => ?_)
        have hG := hG.st e1 e2 (rA_row_22 (by omega)) (by have := kc_0; have := i_rng (0 : Int32); omega) (by have := kc_0; have := i_rng (0 : Int32); omega)
        refine q_iinc (lv9 := fun z678 => [(4, .int z678), (0, .ref (ad 18)), (1, .int p), (2, .int gr), (3, .int ag)]) hM dX7_tell_46 hl (kq := 4) rfl (by decide) (fun _ => rfl) (fun z678 ls hz678 hl => ?_)
        first | have tz678 := i_addT hz678 (rfl : w29_4.toInt = w29_4.toInt) (kc_1 : (Int32.ofInt 1).toInt = 1) (by omega) (by omega) | skip
        refine q_goto (tgt := 29) hM dX7_tell_49 (by decide) ?_
        exact ih29 z678 _ _ _ _ (by omega) hG (by omega) (by omega) (lv_sub hl [1, 2, 3, 4, 0] rfl) hW
  have := kc_0
  exact L29 _ (0 : Int32) _ _ _ _ (Nat.lt_succ_self _) hG (by omega) (by omega) (lv_sub hl [1, 2, 3, 4, 0] rfl) hW

theorem dX2_about_0 : decode cX2_about 0 = .ok (.aload_n 0, 1) := by decide +kernel
theorem dX2_about_1 : decode cX2_about 1 = .ok (.getfield 34, 3) := by decide +kernel
theorem dX2_about_4 : decode cX2_about 4 = .ok (.iconst 0, 1) := by decide +kernel
theorem dX2_about_5 : decode cX2_about 5 = .ok (.iload_n 2, 1) := by decide +kernel
theorem dX2_about_6 : decode cX2_about 6 = .ok (.iastore, 1) := by decide +kernel
theorem dX2_about_7 : decode cX2_about 7 = .ok (.aload_n 0, 1) := by decide +kernel
theorem dX2_about_8 : decode cX2_about 8 = .ok (.getfield 34, 3) := by decide +kernel
theorem dX2_about_11 : decode cX2_about 11 = .ok (.iconst 1, 1) := by decide +kernel
theorem dX2_about_12 : decode cX2_about 12 = .ok (.aload_n 0, 1) := by decide +kernel
theorem dX2_about_13 : decode cX2_about 13 = .ok (.getfield 9, 3) := by decide +kernel
theorem dX2_about_16 : decode cX2_about 16 = .ok (.getfield 126, 3) := by decide +kernel
theorem dX2_about_19 : decode cX2_about 19 = .ok (.iload_n 2, 1) := by decide +kernel
theorem dX2_about_20 : decode cX2_about 20 = .ok (.iaload, 1) := by decide +kernel
theorem dX2_about_21 : decode cX2_about 21 = .ok (.iastore, 1) := by decide +kernel
theorem dX2_about_22 : decode cX2_about 22 = .ok (.aload_n 0, 1) := by decide +kernel
theorem dX2_about_23 : decode cX2_about 23 = .ok (.getfield 34, 3) := by decide +kernel
theorem dX2_about_26 : decode cX2_about 26 = .ok (.iconst 2, 1) := by decide +kernel
theorem dX2_about_27 : decode cX2_about 27 = .ok (.aload_n 0, 1) := by decide +kernel
theorem dX2_about_28 : decode cX2_about 28 = .ok (.getfield 19, 3) := by decide +kernel
theorem dX2_about_31 : decode cX2_about 31 = .ok (.getfield 86, 3) := by decide +kernel
theorem dX2_about_34 : decode cX2_about 34 = .ok (.iload_n 1, 1) := by decide +kernel
theorem dX2_about_35 : decode cX2_about 35 = .ok (.aaload, 1) := by decide +kernel
theorem dX2_about_36 : decode cX2_about 36 = .ok (.iload_n 2, 1) := by decide +kernel
theorem dX2_about_37 : decode cX2_about 37 = .ok (.iaload, 1) := by decide +kernel
theorem dX2_about_38 : decode cX2_about 38 = .ok (.iastore, 1) := by decide +kernel
theorem dX2_about_39 : decode cX2_about 39 = .ok (.aload_n 0, 1) := by decide +kernel
theorem dX2_about_40 : decode cX2_about 40 = .ok (.getfield 34, 3) := by decide +kernel
theorem dX2_about_43 : decode cX2_about 43 = .ok (.iconst 3, 1) := by decide +kernel
theorem dX2_about_44 : decode cX2_about 44 = .ok (.iload_n 1, 1) := by decide +kernel
theorem dX2_about_45 : decode cX2_about 45 = .ok (.iastore, 1) := by decide +kernel
theorem dX2_about_46 : decode cX2_about 46 = .ok (.aload_n 0, 1) := by decide +kernel
theorem dX2_about_47 : decode cX2_about 47 = .ok (.getfield 34, 3) := by decide +kernel
theorem dX2_about_50 : decode cX2_about 50 = .ok (.iconst 4, 1) := by decide +kernel
theorem dX2_about_51 : decode cX2_about 51 = .ok (.aload_n 0, 1) := by decide +kernel
theorem dX2_about_52 : decode cX2_about 52 = .ok (.getfield 19, 3) := by decide +kernel
theorem dX2_about_55 : decode cX2_about 55 = .ok (.getfield 65, 3) := by decide +kernel
theorem dX2_about_58 : decode cX2_about 58 = .ok (.iload_n 1, 1) := by decide +kernel
theorem dX2_about_59 : decode cX2_about 59 = .ok (.iaload, 1) := by decide +kernel
theorem dX2_about_60 : decode cX2_about 60 = .ok (.iastore, 1) := by decide +kernel
theorem dX2_about_61 : decode cX2_about 61 = .ok (.aload_n 0, 1) := by decide +kernel
theorem dX2_about_62 : decode cX2_about 62 = .ok (.getfield 34, 3) := by decide +kernel
theorem dX2_about_65 : decode cX2_about 65 = .ok (.iconst 5, 1) := by decide +kernel
theorem dX2_about_66 : decode cX2_about 66 = .ok (.aload_n 0, 1) := by decide +kernel
theorem dX2_about_67 : decode cX2_about 67 = .ok (.getfield 19, 3) := by decide +kernel
theorem dX2_about_70 : decode cX2_about 70 = .ok (.getfield 162, 3) := by decide +kernel
theorem dX2_about_73 : decode cX2_about 73 = .ok (.iload_n 1, 1) := by decide +kernel
theorem dX2_about_74 : decode cX2_about 74 = .ok (.iaload, 1) := by decide +kernel
theorem dX2_about_75 : decode cX2_about 75 = .ok (.iastore, 1) := by decide +kernel
theorem dX2_about_76 : decode cX2_about 76 = .ok (.aload_n 0, 1) := by decide +kernel
theorem dX2_about_77 : decode cX2_about 77 = .ok (.getfield 34, 3) := by decide +kernel
theorem dX2_about_80 : decode cX2_about 80 = .ok (.bipush 6, 2) := by decide +kernel
theorem dX2_about_82 : decode cX2_about 82 = .ok (.aload_n 0, 1) := by decide +kernel
theorem dX2_about_83 : decode cX2_about 83 = .ok (.getfield 19, 3) := by decide +kernel
theorem dX2_about_86 : decode cX2_about 86 = .ok (.iload_n 1, 1) := by decide +kernel
theorem dX2_about_87 : decode cX2_about 87 = .ok (.invokevirtual 165, 3) := by decide +kernel
theorem dX2_about_90 : decode cX2_about 90 = .ok (.invokestatic 168, 3) := by decide +kernel
theorem dX2_about_93 : decode cX2_about 93 = .ok (.iastore, 1) := by decide +kernel
theorem dX2_about_94 : decode cX2_about 94 = .ok (.aload_n 0, 1) := by decide +kernel
theorem dX2_about_95 : decode cX2_about 95 = .ok (.getfield 34, 3) := by decide +kernel
theorem dX2_about_98 : decode cX2_about 98 = .ok (.bipush 7, 2) := by decide +kernel
theorem dX2_about_100 : decode cX2_about 100 = .ok (.aload_n 0, 1) := by decide +kernel
theorem dX2_about_101 : decode cX2_about 101 = .ok (.getfield 19, 3) := by decide +kernel
theorem dX2_about_104 : decode cX2_about 104 = .ok (.getfield 53, 3) := by decide +kernel
theorem dX2_about_107 : decode cX2_about 107 = .ok (.bipush 52, 2) := by decide +kernel
theorem dX2_about_109 : decode cX2_about 109 = .ok (.irem, 1) := by decide +kernel
theorem dX2_about_110 : decode cX2_about 110 = .ok (.iastore, 1) := by decide +kernel
theorem dX2_about_111 : decode cX2_about 111 = .ok (.aload_n 0, 1) := by decide +kernel
theorem dX2_about_112 : decode cX2_about 112 = .ok (.getfield 34, 3) := by decide +kernel
theorem dX2_about_115 : decode cX2_about 115 = .ok (.areturn, 1) := by decide +kernel
theorem FG_X2_34 : FG RX2 34 2 11 3 := ⟨RX2, TX2, rfl, wX2, by decide, kAW (v_0_14 (List.mem_of_getElem? (i := 9) rfl)) rfl, rfl⟩
theorem FG_X2_19 : FG RX2 19 2 11 10 := ⟨RX2, TX2, rfl, wX2, by decide, kAW (v_1_0 (List.mem_of_getElem? (i := 5) rfl)) rfl, rfl⟩
theorem FG_X2_86 : FG RX2 86 7 8 2 := ⟨RX7, TX7, rfl, wX7, by decide, kAW (v_0_5 (List.mem_of_getElem? (i := 3) rfl)) rfl, rfl⟩
theorem FG_X2_65 : FG RX2 65 7 8 0 := ⟨RX7, TX7, rfl, wX7, by decide, kAW (v_0_4 (List.mem_of_getElem? (i := 12) rfl)) rfl, rfl⟩
theorem FG_X2_162 : FG RX2 162 7 8 1 := ⟨RX7, TX7, rfl, wX7, by decide, kAW (v_0_4 (List.mem_of_getElem? (i := 15) rfl)) rfl, rfl⟩
theorem FG_X2_53 : FG RX2 53 7 8 4 := ⟨RX7, TX7, rfl, wX7, by decide, kAW (v_0_5 (List.mem_of_getElem? (i := 9) rfl)) rfl, rfl⟩
set_option maxRecDepth 100000 in
set_option maxHeartbeats 4000000 in
theorem a_X2_about_18 (l : Launch) (D : va_G) (cA : Nat → ClassId) (ad : Nat → Nat) (g0 : Nat → va_E) (p : Int32) (i : Int32)   (hSh : Shp ad cA g0) (hG : Rng g0) (h_r10 : fld g0 80 10 = .ref (ad 18)) (p0 : 0 ≤ p.toInt) (p7 : p.toInt < 8) (i0 : 0 ≤ i.toInt) (i12 : i.toInt < 12) : CT l NN ad cA D yX2_about cX2_about 3 (some (FieldType.array FieldType.int)) (1, 23) [.ref (ad 80), .int p, .int i] g0 (fun v g' => v = some (.ref (ad 83)) ∧ Shp ad cA g' ∧ Rng g' ∧ FR (fun i k => i = 83) g0 g') := by
  refine q_enterA (by decide) (Nat.le_of_ble_eq_true rfl) (fun K H locs ls _ _ hM hW0 hR hC hE hl => ?_)
  have hl : lv_has ls 3 [(0, .ref (ad 80)), (1, .int p), (2, .int i)] := hl
  have hW : WS ad cA (fun i k => i = 83) g0 K g0 H locs := ⟨hW0, hSh, FR.rf⟩
  refine q_aload_n hM dX2_about_0 (lv_at hl 0 rfl) ?_
  refine w_get (v := .ref (ad 83)) hM hW FG_X2_34 lb_80 (rf_80_3 hW.2.1) dX2_about_1 ?_
  refine q_iconst (v := (0 : Int32)) hM dX2_about_4 (by decide) ?_
  refine q_iload_n hM dX2_about_5 (lv_at hl 2 rfl) ?_
  refine w_iast hM hW lb_83 (by omega) (i_in (by rw [kc_0]; decide) (by rw [kc_0]; decide)) dX2_about_6 (fun g679 H locs hW e1 e2 => ?_)
  have hG := hG.st e1 e2 (rfl : rA 83 = (-2147483648, 2147483647)) (by have := i_rng i; omega) (by have := i_rng i; omega)
  refine q_aload_n hM dX2_about_7 (lv_at hl 0 rfl) ?_
  refine w_get (v := .ref (ad 83)) hM hW FG_X2_34 lb_80 (rf_80_3 hW.2.1) dX2_about_8 ?_
  refine q_iconst (v := (1 : Int32)) hM dX2_about_11 (by decide) ?_
  refine q_aload_n hM dX2_about_12 (lv_at hl 0 rfl) ?_
  refine w_get (v := .ref (ad 3)) hM hW FG_X2_9 lb_80 (rf_80_0 hW.2.1) dX2_about_13 ?_
  refine w_get (v := .ref (ad 4)) hM hW FG_X2_126 lb_3 (rf_3_0 hW.2.1) dX2_about_16 ?_
  refine q_iload_n hM dX2_about_19 (lv_at hl 2 rfl) ?_
  refine w_iald hM hW lb_4 (i_in (by omega) (by omega)) dX2_about_20 ?_
  refine q_top (fun y680 hy680 => ?_)
  refine w_iast hM hW lb_83 (by omega) (i_in (by rw [kc_1]; decide) (by rw [kc_1]; decide)) dX2_about_21 (fun g681 H locs hW e1 e2 => ?_)
  have hG := hG.st e1 e2 (rfl : rA 83 = (-2147483648, 2147483647)) (by have := i_rng y680; omega) (by have := i_rng y680; omega)
  refine q_aload_n hM dX2_about_22 (lv_at hl 0 rfl) ?_
  refine w_get (v := .ref (ad 83)) hM hW FG_X2_34 lb_80 (rf_80_3 hW.2.1) dX2_about_23 ?_
  refine q_iconst (v := (2 : Int32)) hM dX2_about_26 (by decide) ?_
  refine q_aload_n hM dX2_about_27 (lv_at hl 0 rfl) ?_
  refine w_get (v := .ref (ad 18)) hM hW FG_X2_19 lb_80 ((hW.2.2.1 80 10 (by omega)).trans h_r10) dX2_about_28 ?_
  refine w_get (v := .ref (ad 21)) hM hW FG_X2_86 lb_18 (rf_18_2 hW.2.1) dX2_about_31 ?_
  refine q_iload_n hM dX2_about_34 (lv_at hl 1 rfl) ?_
  refine w_aald hM hW lb_21 (Or.inl rfl) (i_in (by omega) (by omega)) (aq (aq_21 hW.2.1) (by omega) (by omega)) dX2_about_35 ?_
  refine q_iload_n hM dX2_about_36 (lv_at hl 2 rfl) ?_
  refine w_iald hM hW (lr_22 (by omega)) (i_in (by omega) (by omega)) dX2_about_37 ?_
  refine q_top (fun y682 hy682 => ?_)
  refine w_iast hM hW lb_83 (by omega) (i_in (by rw [kc_2]; decide) (by rw [kc_2]; decide)) dX2_about_38 (fun g683 H locs hW e1 e2 => ?_)
  have hG := hG.st e1 e2 (rfl : rA 83 = (-2147483648, 2147483647)) (by have := i_rng y682; omega) (by have := i_rng y682; omega)
  refine q_aload_n hM dX2_about_39 (lv_at hl 0 rfl) ?_
  refine w_get (v := .ref (ad 83)) hM hW FG_X2_34 lb_80 (rf_80_3 hW.2.1) dX2_about_40 ?_
  refine q_iconst (v := (3 : Int32)) hM dX2_about_43 (by decide) ?_
  refine q_iload_n hM dX2_about_44 (lv_at hl 1 rfl) ?_
  refine w_iast hM hW lb_83 (by omega) (i_in (by rw [kc_3]; decide) (by rw [kc_3]; decide)) dX2_about_45 (fun g684 H locs hW e1 e2 => ?_)
  have hG := hG.st e1 e2 (rfl : rA 83 = (-2147483648, 2147483647)) (by have := i_rng p; omega) (by have := i_rng p; omega)
  refine q_aload_n hM dX2_about_46 (lv_at hl 0 rfl) ?_
  refine w_get (v := .ref (ad 83)) hM hW FG_X2_34 lb_80 (rf_80_3 hW.2.1) dX2_about_47 ?_
  refine q_iconst (v := (4 : Int32)) hM dX2_about_50 (by decide) ?_
  refine q_aload_n hM dX2_about_51 (lv_at hl 0 rfl) ?_
  refine w_get (v := .ref (ad 18)) hM hW FG_X2_19 lb_80 ((hW.2.2.1 80 10 (by omega)).trans h_r10) dX2_about_52 ?_
  refine w_get (v := .ref (ad 19)) hM hW FG_X2_65 lb_18 (rf_18_0 hW.2.1) dX2_about_55 ?_
  refine q_iload_n hM dX2_about_58 (lv_at hl 1 rfl) ?_
  refine w_iald hM hW lb_19 (i_in (by omega) (by omega)) dX2_about_59 ?_
  refine q_top (fun y685 hy685 => ?_)
  have by685 := hG.a hy685 rA_19
  refine w_iast hM hW lb_83 (by omega) (i_in (by rw [kc_4]; decide) (by rw [kc_4]; decide)) dX2_about_60 (fun g686 H locs hW e1 e2 => ?_)
  have hG := hG.st e1 e2 (rfl : rA 83 = (-2147483648, 2147483647)) (by have := i_rng y685; omega) (by have := i_rng y685; omega)
  refine q_aload_n hM dX2_about_61 (lv_at hl 0 rfl) ?_
  refine w_get (v := .ref (ad 83)) hM hW FG_X2_34 lb_80 (rf_80_3 hW.2.1) dX2_about_62 ?_
  refine q_iconst (v := (5 : Int32)) hM dX2_about_65 (by decide) ?_
  refine q_aload_n hM dX2_about_66 (lv_at hl 0 rfl) ?_
  refine w_get (v := .ref (ad 18)) hM hW FG_X2_19 lb_80 ((hW.2.2.1 80 10 (by omega)).trans h_r10) dX2_about_67 ?_
  refine w_get (v := .ref (ad 20)) hM hW FG_X2_162 lb_18 (rf_18_1 hW.2.1) dX2_about_70 ?_
  refine q_iload_n hM dX2_about_73 (lv_at hl 1 rfl) ?_
  refine w_iald hM hW lb_20 (i_in (by omega) (by omega)) dX2_about_74 ?_
  refine q_top (fun y687 hy687 => ?_)
  refine w_iast hM hW lb_83 (by omega) (i_in (by rw [kc_5]; decide) (by rw [kc_5]; decide)) dX2_about_75 (fun g688 H locs hW e1 e2 => ?_)
  have hG := hG.st e1 e2 (rfl : rA 83 = (-2147483648, 2147483647)) (by have := i_rng y687; omega) (by have := i_rng y687; omega)
  refine q_aload_n hM dX2_about_76 (lv_at hl 0 rfl) ?_
  refine w_get (v := .ref (ad 83)) hM hW FG_X2_34 lb_80 (rf_80_3 hW.2.1) dX2_about_77 ?_
  refine q_bipush (v := (6 : Int32)) hM dX2_about_80 (by decide) ?_
  refine q_aload_n hM dX2_about_82 (lv_at hl 0 rfl) ?_
  refine w_get (v := .ref (ad 18)) hM hW FG_X2_19 lb_80 ((hW.2.2.1 80 10 (by omega)).trans h_r10) dX2_about_83 ?_
  refine q_iload_n hM dX2_about_86 (lv_at hl 1 rfl) ?_
  refine q_callV (As := [.int p]) (rest := [.int (6 : Int32), .ref (ad 83)]) hM hW.1 hR hC myX7_known (kAW (v_2_11 (List.mem_of_getElem? (i := 0) rfl)) rfl) (rfl : vwCl[7]? = some (RX7, TX7, 8)) rfl lb_18.1 (shO hW.2.1 lb_18) (a_X7_known _ _ cA ad g688 18 p hW.2.1 hG (Or.inl rfl : isPb 18) (by  omega) (by  omega)) ⟨by decide, by decide⟩ rfl rfl hl.1 (Nat.le_of_ble_eq_true rfl) dX2_about_87 (fun v g690 H locs hp hW1 => ?_)
  obtain ⟨r689, rfl, hr689, rfl⟩ := hp
  have hW : WS ad cA (fun i k => i = 83) g0 K g688 H locs := ⟨hW1, hW.2.1, hW.2.2⟩
  refine q_callS (As := [.int r689]) (rest := [.int (6 : Int32), .ref (ad 83)]) hM hW.1 hR hC myJ6_bitCount_0f7a4 (kAW (v_2_11 (List.mem_of_getElem? (i := 4) rfl)) rfl) (c_J6_bitCount_0f7a4 _ _ cA ad g688 r689 hW.2.1) ⟨by decide, by decide⟩ rfl rfl hl.1 (Nat.le_of_ble_eq_true rfl) dX2_about_90 (fun v g692 H locs hp hW1 => ?_)
  obtain ⟨r691, rfl, hr691, rfl⟩ := hp
  have hW : WS ad cA (fun i k => i = 83) g0 K g688 H locs := ⟨hW1, hW.2.1, hW.2.2⟩
  refine w_iast hM hW lb_83 (by omega) (i_in (by rw [kc_6]; decide) (by rw [kc_6]; decide)) dX2_about_93 (fun g693 H locs hW e1 e2 => ?_)
  have hG := hG.st e1 e2 (rfl : rA 83 = (-2147483648, 2147483647)) (by have := i_rng r691; omega) (by have := i_rng r691; omega)
  refine q_aload_n hM dX2_about_94 (lv_at hl 0 rfl) ?_
  refine w_get (v := .ref (ad 83)) hM hW FG_X2_34 lb_80 (rf_80_3 hW.2.1) dX2_about_95 ?_
  refine q_bipush (v := (7 : Int32)) hM dX2_about_98 (by decide) ?_
  refine q_aload_n hM dX2_about_100 (lv_at hl 0 rfl) ?_
  refine w_get (v := .ref (ad 18)) hM hW FG_X2_19 lb_80 ((hW.2.2.1 80 10 (by omega)).trans h_r10) dX2_about_101 ?_
  refine w_getI hM hW FG_X2_53 lb_18 (by decide) (by decide) dX2_about_104 (fun x694 fx694 => ?_)
  refine q_bipush (v := (52 : Int32)) hM dX2_about_107 (by decide) ?_
  refine q_irem hM (by decide) dX2_about_109 (fun z695 hz695 => ?_)
  first | have tz695 := i_remT hz695 (rfl : x694.toInt = x694.toInt) (kc_52 : (52 : Int32).toInt = 52) (by omega) (by omega) | skip
  refine w_iast hM hW lb_83 (by omega) (i_in (by rw [kc_7]; decide) (by rw [kc_7]; decide)) dX2_about_110 (fun g696 H locs hW e1 e2 => ?_)
  have f697 : fld g696 18 4 = .int x694 := (e2.1 18 4 (by unfold Only; omega)).trans fx694
  have hG := hG.st e1 e2 (rfl : rA 83 = (-2147483648, 2147483647)) (by have := i_rng z695; omega) (by have := i_rng z695; omega)
  refine q_aload_n hM dX2_about_111 (lv_at hl 0 rfl) ?_
  refine w_get (v := .ref (ad 83)) hM hW FG_X2_34 lb_80 (rf_80_3 hW.2.1) dX2_about_112 ?_
  exact hE _ _ _ _ _ _ hW.1 ⟨rfl, hW.2.1, hG, hW.2.2⟩ dX2_about_115


set_option maxRecDepth 100000 in
set_option maxHeartbeats 4000000 in
theorem a_X7_draw_42 (l : Launch) (D : va_G) (cA : Nat → ClassId) (ad : Nat → Nat) (g0 : Nat → va_E)    (hSh : Shp ad cA g0) (hG : Rng g0) : CT l NN ad cA D yX7_draw cX7_draw 1 (some FieldType.int) (0, 0) [.ref (ad 42)] g0 (fun v g' => ∃ (r : Int32), v = some (.int r) ∧ Shp ad cA g' ∧ Rng g' ∧ FR (fun i k => (i = 42 ∧ (k = 7))) g0 g') := by
  refine q_enterI (by decide) (Nat.le_of_ble_eq_true rfl) rfl (fun K H locs ls _ _ hM hW0 hR hC hE hl => ?_)
  have hl : lv_has ls 1 [(0, .ref (ad 42))] := hl
  have hW : WS ad cA (fun i k => (i = 42 ∧ (k = 7))) g0 K g0 H locs := ⟨hW0, hSh, FR.rf⟩
  refine q_aload_n hM dX7_draw_0 (lv_at hl 0 rfl) ?_
  refine q_sipush (v := (25173 : Int32)) hM dX7_draw_1 (by decide) ?_
  refine q_aload_n hM dX7_draw_4 (lv_at hl 0 rfl) ?_
  refine w_getI hM hW FG_X7_36 lb_42 (by decide) (by decide) dX7_draw_5 (fun x698 fx698 => ?_)
  refine q_imul hM dX7_draw_8 (fun z699 hz699 => ?_)
  first | have tz699 := i_mulT hz699 (kc_25173 : (25173 : Int32).toInt = 25173) (rfl : x698.toInt = x698.toInt) (by omega) (by omega) | skip
  refine q_sipush (v := (13849 : Int32)) hM dX7_draw_9 (by decide) ?_
  refine q_iadd hM dX7_draw_12 (fun z700 hz700 => ?_)
  first | have tz700 := i_addT hz700 (rfl : z699.toInt = z699.toInt) (kc_13849 : (13849 : Int32).toInt = 13849) (by omega) (by omega) | skip
  refine q_ldc (v := (65535 : Int32)) hM (kAW (v_2_14 (List.mem_of_getElem? (i := 9) rfl)) rfl) dX7_draw_13 ?_
  refine q_iand hM dX7_draw_15 (fun z701 hz701 => ?_)
  have az701 := i_andk hz701 (by rw [kc_65535]; decide)
  rw [kc_65535] at az701
  refine w_put hM hW FP_X7_36 lb_42 (by omega) (Or.inl ⟨_, rfl⟩) rfl rfl dX7_draw_16 (fun g702 H locs hW e1 e2 => ?_)
  have f703 : fld g702 42 7 = .int z701 := e1
  have hG := hG.put e1 e2 (rfl : rF 42 7 = (-2147483648, 2147483647)) (by decide) (by have := i_rng z701; omega) (by have := i_rng z701; omega)
  refine q_aload_n hM dX7_draw_19 (lv_at hl 0 rfl) ?_
  refine w_get (v := .int z701) hM hW FG_X7_36 lb_42 f703 dX7_draw_20 ?_
  refine q_bipush (v := (10 : Int32)) hM dX7_draw_23 (by decide) ?_
  refine q_irem hM (by decide) dX7_draw_25 (fun z704 hz704 => ?_)
  first | have tz704 := i_remT hz704 (rfl : z701.toInt = z701.toInt) (kc_10 : (10 : Int32).toInt = 10) (by omega) (by omega) | skip
  exact hE _ _ _ _ _ _ hW.1 ⟨_, rfl, hW.2.1, hG, hW.2.2⟩ dX7_draw_26


set_option maxRecDepth 100000 in
set_option maxHeartbeats 4000000 in
theorem a_X2_about_42 (l : Launch) (D : va_G) (cA : Nat → ClassId) (ad : Nat → Nat) (g0 : Nat → va_E) (p : Int32) (i : Int32)   (hSh : Shp ad cA g0) (hG : Rng g0) (h_r10 : fld g0 80 10 = .ref (ad 42)) (p0 : 0 ≤ p.toInt) (p7 : p.toInt < 8) (i0 : 0 ≤ i.toInt) (i12 : i.toInt < 12) : CT l NN ad cA D yX2_about cX2_about 3 (some (FieldType.array FieldType.int)) (1, 23) [.ref (ad 80), .int p, .int i] g0 (fun v g' => v = some (.ref (ad 83)) ∧ Shp ad cA g' ∧ Rng g' ∧ FR (fun i k => i = 83) g0 g') := by
  refine q_enterA (by decide) (Nat.le_of_ble_eq_true rfl) (fun K H locs ls _ _ hM hW0 hR hC hE hl => ?_)
  have hl : lv_has ls 3 [(0, .ref (ad 80)), (1, .int p), (2, .int i)] := hl
  have hW : WS ad cA (fun i k => i = 83) g0 K g0 H locs := ⟨hW0, hSh, FR.rf⟩
  refine q_aload_n hM dX2_about_0 (lv_at hl 0 rfl) ?_
  refine w_get (v := .ref (ad 83)) hM hW FG_X2_34 lb_80 (rf_80_3 hW.2.1) dX2_about_1 ?_
  refine q_iconst (v := (0 : Int32)) hM dX2_about_4 (by decide) ?_
  refine q_iload_n hM dX2_about_5 (lv_at hl 2 rfl) ?_
  refine w_iast hM hW lb_83 (by omega) (i_in (by rw [kc_0]; decide) (by rw [kc_0]; decide)) dX2_about_6 (fun g705 H locs hW e1 e2 => ?_)
  have hG := hG.st e1 e2 (rfl : rA 83 = (-2147483648, 2147483647)) (by have := i_rng i; omega) (by have := i_rng i; omega)
  refine q_aload_n hM dX2_about_7 (lv_at hl 0 rfl) ?_
  refine w_get (v := .ref (ad 83)) hM hW FG_X2_34 lb_80 (rf_80_3 hW.2.1) dX2_about_8 ?_
  refine q_iconst (v := (1 : Int32)) hM dX2_about_11 (by decide) ?_
  refine q_aload_n hM dX2_about_12 (lv_at hl 0 rfl) ?_
  refine w_get (v := .ref (ad 3)) hM hW FG_X2_9 lb_80 (rf_80_0 hW.2.1) dX2_about_13 ?_
  refine w_get (v := .ref (ad 4)) hM hW FG_X2_126 lb_3 (rf_3_0 hW.2.1) dX2_about_16 ?_
  refine q_iload_n hM dX2_about_19 (lv_at hl 2 rfl) ?_
  refine w_iald hM hW lb_4 (i_in (by omega) (by omega)) dX2_about_20 ?_
  refine q_top (fun y706 hy706 => ?_)
  refine w_iast hM hW lb_83 (by omega) (i_in (by rw [kc_1]; decide) (by rw [kc_1]; decide)) dX2_about_21 (fun g707 H locs hW e1 e2 => ?_)
  have hG := hG.st e1 e2 (rfl : rA 83 = (-2147483648, 2147483647)) (by have := i_rng y706; omega) (by have := i_rng y706; omega)
  refine q_aload_n hM dX2_about_22 (lv_at hl 0 rfl) ?_
  refine w_get (v := .ref (ad 83)) hM hW FG_X2_34 lb_80 (rf_80_3 hW.2.1) dX2_about_23 ?_
  refine q_iconst (v := (2 : Int32)) hM dX2_about_26 (by decide) ?_
  refine q_aload_n hM dX2_about_27 (lv_at hl 0 rfl) ?_
  refine w_get (v := .ref (ad 42)) hM hW FG_X2_19 lb_80 ((hW.2.2.1 80 10 (by omega)).trans h_r10) dX2_about_28 ?_
  refine w_get (v := .ref (ad 45)) hM hW FG_X2_86 lb_42 (rf_42_2 hW.2.1) dX2_about_31 ?_
  refine q_iload_n hM dX2_about_34 (lv_at hl 1 rfl) ?_
  refine w_aald hM hW lb_45 (Or.inl rfl) (i_in (by omega) (by omega)) (aq (aq_45 hW.2.1) (by omega) (by omega)) dX2_about_35 ?_
  refine q_iload_n hM dX2_about_36 (lv_at hl 2 rfl) ?_
  refine w_iald hM hW (lr_46 (by omega)) (i_in (by omega) (by omega)) dX2_about_37 ?_
  refine q_top (fun y708 hy708 => ?_)
  refine w_iast hM hW lb_83 (by omega) (i_in (by rw [kc_2]; decide) (by rw [kc_2]; decide)) dX2_about_38 (fun g709 H locs hW e1 e2 => ?_)
  have hG := hG.st e1 e2 (rfl : rA 83 = (-2147483648, 2147483647)) (by have := i_rng y708; omega) (by have := i_rng y708; omega)
  refine q_aload_n hM dX2_about_39 (lv_at hl 0 rfl) ?_
  refine w_get (v := .ref (ad 83)) hM hW FG_X2_34 lb_80 (rf_80_3 hW.2.1) dX2_about_40 ?_
  refine q_iconst (v := (3 : Int32)) hM dX2_about_43 (by decide) ?_
  refine q_iload_n hM dX2_about_44 (lv_at hl 1 rfl) ?_
  refine w_iast hM hW lb_83 (by omega) (i_in (by rw [kc_3]; decide) (by rw [kc_3]; decide)) dX2_about_45 (fun g710 H locs hW e1 e2 => ?_)
  have hG := hG.st e1 e2 (rfl : rA 83 = (-2147483648, 2147483647)) (by have := i_rng p; omega) (by have := i_rng p; omega)
  refine q_aload_n hM dX2_about_46 (lv_at hl 0 rfl) ?_
  refine w_get (v := .ref (ad 83)) hM hW FG_X2_34 lb_80 (rf_80_3 hW.2.1) dX2_about_47 ?_
  refine q_iconst (v := (4 : Int32)) hM dX2_about_50 (by decide) ?_
  refine q_aload_n hM dX2_about_51 (lv_at hl 0 rfl) ?_
  refine w_get (v := .ref (ad 42)) hM hW FG_X2_19 lb_80 ((hW.2.2.1 80 10 (by omega)).trans h_r10) dX2_about_52 ?_
  refine w_get (v := .ref (ad 43)) hM hW FG_X2_65 lb_42 (rf_42_0 hW.2.1) dX2_about_55 ?_
  refine q_iload_n hM dX2_about_58 (lv_at hl 1 rfl) ?_
  refine w_iald hM hW lb_43 (i_in (by omega) (by omega)) dX2_about_59 ?_
  refine q_top (fun y711 hy711 => ?_)
  have by711 := hG.a hy711 rA_43
  refine w_iast hM hW lb_83 (by omega) (i_in (by rw [kc_4]; decide) (by rw [kc_4]; decide)) dX2_about_60 (fun g712 H locs hW e1 e2 => ?_)
  have hG := hG.st e1 e2 (rfl : rA 83 = (-2147483648, 2147483647)) (by have := i_rng y711; omega) (by have := i_rng y711; omega)
  refine q_aload_n hM dX2_about_61 (lv_at hl 0 rfl) ?_
  refine w_get (v := .ref (ad 83)) hM hW FG_X2_34 lb_80 (rf_80_3 hW.2.1) dX2_about_62 ?_
  refine q_iconst (v := (5 : Int32)) hM dX2_about_65 (by decide) ?_
  refine q_aload_n hM dX2_about_66 (lv_at hl 0 rfl) ?_
  refine w_get (v := .ref (ad 42)) hM hW FG_X2_19 lb_80 ((hW.2.2.1 80 10 (by omega)).trans h_r10) dX2_about_67 ?_
  refine w_get (v := .ref (ad 44)) hM hW FG_X2_162 lb_42 (rf_42_1 hW.2.1) dX2_about_70 ?_
  refine q_iload_n hM dX2_about_73 (lv_at hl 1 rfl) ?_
  refine w_iald hM hW lb_44 (i_in (by omega) (by omega)) dX2_about_74 ?_
  refine q_top (fun y713 hy713 => ?_)
  refine w_iast hM hW lb_83 (by omega) (i_in (by rw [kc_5]; decide) (by rw [kc_5]; decide)) dX2_about_75 (fun g714 H locs hW e1 e2 => ?_)
  have hG := hG.st e1 e2 (rfl : rA 83 = (-2147483648, 2147483647)) (by have := i_rng y713; omega) (by have := i_rng y713; omega)
  refine q_aload_n hM dX2_about_76 (lv_at hl 0 rfl) ?_
  refine w_get (v := .ref (ad 83)) hM hW FG_X2_34 lb_80 (rf_80_3 hW.2.1) dX2_about_77 ?_
  refine q_bipush (v := (6 : Int32)) hM dX2_about_80 (by decide) ?_
  refine q_aload_n hM dX2_about_82 (lv_at hl 0 rfl) ?_
  refine w_get (v := .ref (ad 42)) hM hW FG_X2_19 lb_80 ((hW.2.2.1 80 10 (by omega)).trans h_r10) dX2_about_83 ?_
  refine q_iload_n hM dX2_about_86 (lv_at hl 1 rfl) ?_
  refine q_callV (As := [.int p]) (rest := [.int (6 : Int32), .ref (ad 83)]) hM hW.1 hR hC myX7_known (kAW (v_2_11 (List.mem_of_getElem? (i := 0) rfl)) rfl) (rfl : vwCl[7]? = some (RX7, TX7, 8)) rfl lb_42.1 (shO hW.2.1 lb_42) (a_X7_known _ _ cA ad g714 42 p hW.2.1 hG (Or.inr rfl : isPb 42) (by  omega) (by  omega)) ⟨by decide, by decide⟩ rfl rfl hl.1 (Nat.le_of_ble_eq_true rfl) dX2_about_87 (fun v g716 H locs hp hW1 => ?_)
  obtain ⟨r715, rfl, hr715, rfl⟩ := hp
  have hW : WS ad cA (fun i k => i = 83) g0 K g714 H locs := ⟨hW1, hW.2.1, hW.2.2⟩
  refine q_callS (As := [.int r715]) (rest := [.int (6 : Int32), .ref (ad 83)]) hM hW.1 hR hC myJ6_bitCount_0f7a4 (kAW (v_2_11 (List.mem_of_getElem? (i := 4) rfl)) rfl) (c_J6_bitCount_0f7a4 _ _ cA ad g714 r715 hW.2.1) ⟨by decide, by decide⟩ rfl rfl hl.1 (Nat.le_of_ble_eq_true rfl) dX2_about_90 (fun v g718 H locs hp hW1 => ?_)
  obtain ⟨r717, rfl, hr717, rfl⟩ := hp
  have hW : WS ad cA (fun i k => i = 83) g0 K g714 H locs := ⟨hW1, hW.2.1, hW.2.2⟩
  refine w_iast hM hW lb_83 (by omega) (i_in (by rw [kc_6]; decide) (by rw [kc_6]; decide)) dX2_about_93 (fun g719 H locs hW e1 e2 => ?_)
  have hG := hG.st e1 e2 (rfl : rA 83 = (-2147483648, 2147483647)) (by have := i_rng r717; omega) (by have := i_rng r717; omega)
  refine q_aload_n hM dX2_about_94 (lv_at hl 0 rfl) ?_
  refine w_get (v := .ref (ad 83)) hM hW FG_X2_34 lb_80 (rf_80_3 hW.2.1) dX2_about_95 ?_
  refine q_bipush (v := (7 : Int32)) hM dX2_about_98 (by decide) ?_
  refine q_aload_n hM dX2_about_100 (lv_at hl 0 rfl) ?_
  refine w_get (v := .ref (ad 42)) hM hW FG_X2_19 lb_80 ((hW.2.2.1 80 10 (by omega)).trans h_r10) dX2_about_101 ?_
  refine w_getI hM hW FG_X2_53 lb_42 (by decide) (by decide) dX2_about_104 (fun x720 fx720 => ?_)
  refine q_bipush (v := (52 : Int32)) hM dX2_about_107 (by decide) ?_
  refine q_irem hM (by decide) dX2_about_109 (fun z721 hz721 => ?_)
  first | have tz721 := i_remT hz721 (rfl : x720.toInt = x720.toInt) (kc_52 : (52 : Int32).toInt = 52) (by omega) (by omega) | skip
  refine w_iast hM hW lb_83 (by omega) (i_in (by rw [kc_7]; decide) (by rw [kc_7]; decide)) dX2_about_110 (fun g722 H locs hW e1 e2 => ?_)
  have f723 : fld g722 42 4 = .int x720 := (e2.1 42 4 (by unfold Only; omega)).trans fx720
  have hG := hG.st e1 e2 (rfl : rA 83 = (-2147483648, 2147483647)) (by have := i_rng z721; omega) (by have := i_rng z721; omega)
  refine q_aload_n hM dX2_about_111 (lv_at hl 0 rfl) ?_
  refine w_get (v := .ref (ad 83)) hM hW FG_X2_34 lb_80 (rf_80_3 hW.2.1) dX2_about_112 ?_
  exact hE _ _ _ _ _ _ hW.1 ⟨rfl, hW.2.1, hG, hW.2.2⟩ dX2_about_115

theorem dX6_begin_0 : decode cX6_begin 0 = .ok (.iconst 0, 1) := by decide +kernel
theorem dX6_begin_1 : decode cX6_begin 1 = .ok (.istore_n 1, 1) := by decide +kernel
theorem dX6_begin_2 : decode cX6_begin 2 = .ok (.iload_n 1, 1) := by decide +kernel
theorem dX6_begin_3 : decode cX6_begin 3 = .ok (.bipush 8, 2) := by decide +kernel
theorem dX6_begin_5 : decode cX6_begin 5 = .ok (.if_icmp .gt 24, 3) := by decide +kernel
theorem dX6_begin_8 : decode cX6_begin 8 = .ok (.aload_n 0, 1) := by decide +kernel
theorem dX6_begin_9 : decode cX6_begin 9 = .ok (.getfield 9, 3) := by decide +kernel
theorem dX6_begin_12 : decode cX6_begin 12 = .ok (.iload_n 1, 1) := by decide +kernel
theorem dX6_begin_13 : decode cX6_begin 13 = .ok (.iload_n 1, 1) := by decide +kernel
theorem dX6_begin_14 : decode cX6_begin 14 = .ok (.ifCond .ne 7, 3) := by decide +kernel
theorem dX6_begin_17 : decode cX6_begin 17 = .ok (.iconst 1, 1) := by decide +kernel
theorem dX6_begin_18 : decode cX6_begin 18 = .ok (.goto 4, 3) := by decide +kernel
theorem dX6_begin_21 : decode cX6_begin 21 = .ok (.iconst 0, 1) := by decide +kernel
theorem dX6_begin_22 : decode cX6_begin 22 = .ok (.iastore, 1) := by decide +kernel
theorem dX6_begin_23 : decode cX6_begin 23 = .ok (.iinc 1 1, 3) := by decide +kernel
theorem dX6_begin_26 : decode cX6_begin 26 = .ok (.goto (-24), 3) := by decide +kernel
theorem dX6_begin_29 : decode cX6_begin 29 = .ok (.aload_n 0, 1) := by decide +kernel
theorem dX6_begin_30 : decode cX6_begin 30 = .ok (.iconst 0, 1) := by decide +kernel
theorem dX6_begin_31 : decode cX6_begin 31 = .ok (.putfield 13, 3) := by decide +kernel
theorem dX6_begin_34 : decode cX6_begin 34 = .ok (.aload_n 0, 1) := by decide +kernel
theorem dX6_begin_35 : decode cX6_begin 35 = .ok (.iconst 0, 1) := by decide +kernel
theorem dX6_begin_36 : decode cX6_begin 36 = .ok (.putfield 17, 3) := by decide +kernel
theorem dX6_begin_39 : decode cX6_begin 39 = .ok (.aload_n 0, 1) := by decide +kernel
theorem dX6_begin_40 : decode cX6_begin 40 = .ok (.iconst 1, 1) := by decide +kernel
theorem dX6_begin_41 : decode cX6_begin 41 = .ok (.putfield 20, 3) := by decide +kernel
theorem dX6_begin_44 : decode cX6_begin 44 = .ok (.return_, 1) := by decide +kernel
theorem FP_X6_13 : FPX RX6 13 6 4 1 .int := ⟨⟨RX6, TX6, tyX6, rfl, wX6, by decide, kAW (v_1_5 (List.mem_of_getElem? (i := 14) rfl)) rfl, rfl, tyX6_ok, nmX6, by decide +kernel, rfl⟩, by decide +kernel⟩
theorem FP_X6_17 : FPX RX6 17 6 4 2 .int := ⟨⟨RX6, TX6, tyX6, rfl, wX6, by decide, kAW (v_1_5 (List.mem_of_getElem? (i := 15) rfl)) rfl, rfl, tyX6_ok, nmX6, by decide +kernel, rfl⟩, by decide +kernel⟩
theorem FP_X6_20 : FPX RX6 20 6 4 3 .int := ⟨⟨RX6, TX6, tyX6, rfl, wX6, by decide, kAW (v_1_6 (List.mem_of_getElem? (i := 1) rfl)) rfl, rfl, tyX6_ok, nmX6, by decide +kernel, rfl⟩, by decide +kernel⟩
theorem FG_X6_9 : FG RX6 9 6 4 0 := ⟨RX6, TX6, rfl, wX6, by decide, kAW (v_1_5 (List.mem_of_getElem? (i := 13) rfl)) rfl, rfl⟩
set_option maxRecDepth 100000 in
set_option maxHeartbeats 4000000 in
theorem a_X6_begin (l : Launch) (D : va_G) (cA : Nat → ClassId) (ad : Nat → Nat) (g0 : Nat → va_E)    (hSh : Shp ad cA g0) (hG : Rng g0) : CT l NN ad cA D yX6_begin cX6_begin 2 none (0, 0) [.ref (ad 127)] g0 (fun v g' => v = none ∧ Shp ad cA g' ∧ Rng g' ∧ FR (fun i k => (i = 127 ∧ (k = 1 ∨ k = 2 ∨ k = 3)) ∨ i = 128) g0 g') := by
  refine q_enterV (by decide) (Nat.le_of_ble_eq_true rfl) (fun K H locs ls _ _ hM hW0 hR hC hE hl => ?_)
  have hl : lv_has ls 2 [(0, .ref (ad 127))] := hl
  have hW : WS ad cA (fun i k => (i = 127 ∧ (k = 1 ∨ k = 2 ∨ k = 3)) ∨ i = 128) g0 K g0 H locs := ⟨hW0, hSh, FR.rf⟩
  refine q_iconst (v := (0 : Int32)) hM dX6_begin_0 (by decide) ?_
  refine q_istore_n (lv9 := [(1, .int (0 : Int32)), (0, .ref (ad 127))]) hM dX6_begin_1 hl (by decide) rfl (fun ls hl => ?_)
  have L2 : ∀ (fu2 : Nat) (w2_1 : Int32) (g9 : Nat → va_E) (H : Heap) (locs : List Loc) (ls : Array Slot), (9 - w2_1.toInt).toNat < fu2 → (Rng g9) → (0 ≤ w2_1.toInt) → (w2_1.toInt ≤ 9) → lv_has ls 2 [(0, .ref (ad 127)), (1, .int w2_1)] → WS ad cA (fun i k => (i = 127 ∧ (k = 1 ∨ k = 2 ∨ k = 3)) ∨ i = 128) g0 K g9 H locs → XX K 0 0 H locs 2 ls [] := by
    intro fu2
    induction fu2 with
    | zero => intro w2_1 g9 H locs ls h0; omega
    | succ fu2 ih2 =>
      intro w2_1 g9 H locs ls hm2 i2_0 i2_1 i2_2 hl hW
      have hG := i2_0
      refine q_iload_n hM dX6_begin_2 (lv_at hl 1 rfl) ?_
      refine q_bipush (v := (8 : Int32)) hM dX6_begin_3 (by decide) ?_
      refine q_icmp_gt (tgt := 29) hM dX6_begin_5 (by decide) (rfl : w2_1.toInt = w2_1.toInt) (kc_8 : (8 : Int32).toInt = 8) (fun h5 => ?_) (fun h5 => ?_)
      · refine q_aload_n hM dX6_begin_29 (lv_at hl 0 rfl) ?_
        refine q_iconst (v := (0 : Int32)) hM dX6_begin_30 (by decide) ?_
        refine w_put hM hW FP_X6_13 lb_127 (by omega) (Or.inl ⟨_, rfl⟩) rfl rfl dX6_begin_31 (fun g726 H locs hW e1 e2 => ?_)
        have f727 : fld g726 127 1 = .int (0 : Int32) := e1
        have hG := hG.put e1 e2 rF_127_1 (by decide) (by have := kc_0; have := i_rng (0 : Int32); omega) (by have := kc_0; have := i_rng (0 : Int32); omega)
        refine q_aload_n hM dX6_begin_34 (lv_at hl 0 rfl) ?_
        refine q_iconst (v := (0 : Int32)) hM dX6_begin_35 (by decide) ?_
        refine w_put hM hW FP_X6_17 lb_127 (by omega) (Or.inl ⟨_, rfl⟩) rfl rfl dX6_begin_36 (fun g728 H locs hW e1 e2 => ?_)
        have f729 : fld g728 127 1 = .int (0 : Int32) := (e2.1 127 1 (by unfold Only; omega)).trans f727
        have f730 : fld g728 127 2 = .int (0 : Int32) := e1
        have hG := hG.put e1 e2 (rfl : rF 127 2 = (-2147483648, 2147483647)) (by decide) (by have := kc_0; have := i_rng (0 : Int32); omega) (by have := kc_0; have := i_rng (0 : Int32); omega)
        refine q_aload_n hM dX6_begin_39 (lv_at hl 0 rfl) ?_
        refine q_iconst (v := (1 : Int32)) hM dX6_begin_40 (by decide) ?_
        refine w_put hM hW FP_X6_20 lb_127 (by omega) (Or.inl ⟨_, rfl⟩) rfl rfl dX6_begin_41 (fun g731 H locs hW e1 e2 => ?_)
        have f732 : fld g731 127 1 = .int (0 : Int32) := (e2.1 127 1 (by unfold Only; omega)).trans f729
        have f733 : fld g731 127 2 = .int (0 : Int32) := (e2.1 127 2 (by unfold Only; omega)).trans f730
        have f734 : fld g731 127 3 = .int (1 : Int32) := e1
        have hG := hG.put e1 e2 (rfl : rF 127 3 = (-2147483648, 2147483647)) (by decide) (by have := kc_1; have := i_rng (1 : Int32); omega) (by have := kc_1; have := i_rng (1 : Int32); omega)
        exact hE _ _ _ _ _ hW.1 ⟨rfl, hW.2.1, hG, hW.2.2⟩ dX6_begin_44
      · refine q_aload_n hM dX6_begin_8 (lv_at hl 0 rfl) ?_
        refine w_get (v := .ref (ad 128)) hM hW FG_X6_9 lb_127 (rf_127_0 hW.2.1) dX6_begin_9 ?_
        refine q_iload_n hM dX6_begin_12 (lv_at hl 1 rfl) ?_
        refine q_iload_n hM dX6_begin_13 (lv_at hl 1 rfl) ?_
        refine q_if_ne (tgt := 21) hM dX6_begin_14 (by decide) (rfl : w2_1.toInt = w2_1.toInt) (fun h14 => ?_) (fun h14 => ?_)
        · refine q_iconst (v := (0 : Int32)) hM dX6_begin_21 (by decide) ?_
          refine w_iast hM hW lb_128 (by omega) (i_in (by omega) (by omega)) dX6_begin_22 (fun g737 H locs hW e1 e2 => ?_)
          have hG := hG.st e1 e2 (rfl : rA 128 = (-2147483648, 2147483647)) (by have := kc_0; have := i_rng (0 : Int32); omega) (by have := kc_0; have := i_rng (0 : Int32); omega)
          refine q_iinc (lv9 := fun z738 => [(1, .int z738), (0, .ref (ad 127))]) hM dX6_begin_23 hl (kq := 1) rfl (by decide) (fun _ => rfl) (fun z738 ls hz738 hl => ?_)
          first | have tz738 := i_addT hz738 (rfl : w2_1.toInt = w2_1.toInt) (kc_1 : (Int32.ofInt 1).toInt = 1) (by omega) (by omega) | skip
          refine q_goto (tgt := 2) hM dX6_begin_26 (by decide) ?_
          exact ih2 z738 _ _ _ _ (by omega) hG (by omega) (by omega) (lv_sub hl [1, 0] rfl) hW
        · refine q_iconst (v := (1 : Int32)) hM dX6_begin_17 (by decide) ?_
          refine q_goto (tgt := 22) hM dX6_begin_18 (by decide) ?_
          refine w_iast hM hW lb_128 (by omega) (i_in (by omega) (by omega)) dX6_begin_22 (fun g740 H locs hW e1 e2 => ?_)
          have hG := hG.st e1 e2 (rfl : rA 128 = (-2147483648, 2147483647)) (by have := kc_1; have := i_rng (1 : Int32); omega) (by have := kc_1; have := i_rng (1 : Int32); omega)
          refine q_iinc (lv9 := fun z741 => [(1, .int z741), (0, .ref (ad 127))]) hM dX6_begin_23 hl (kq := 1) rfl (by decide) (fun _ => rfl) (fun z741 ls hz741 hl => ?_)
          first | have tz741 := i_addT hz741 (rfl : w2_1.toInt = w2_1.toInt) (kc_1 : (Int32.ofInt 1).toInt = 1) (by omega) (by omega) | skip
          refine q_goto (tgt := 2) hM dX6_begin_26 (by decide) ?_
          exact ih2 z741 _ _ _ _ (by omega) hG (by omega) (by omega) (lv_sub hl [1, 0] rfl) hW
  have := kc_0
  exact L2 _ (0 : Int32) _ _ _ _ (Nat.lt_succ_self _) hG (by omega) (by omega) (lv_sub hl [1, 0] rfl) hW

theorem dX6_ask_0 : decode cX6_ask 0 = .ok (.aload_n 0, 1) := by decide +kernel
theorem dX6_ask_1 : decode cX6_ask 1 = .ok (.getfield 13, 3) := by decide +kernel
theorem dX6_ask_4 : decode cX6_ask 4 = .ok (.bipush 8, 2) := by decide +kernel
theorem dX6_ask_6 : decode cX6_ask 6 = .ok (.if_icmp .lt 4, 3) := by decide +kernel
theorem dX6_ask_9 : decode cX6_ask 9 = .ok (.return_, 1) := by decide +kernel
theorem dX6_ask_10 : decode cX6_ask 10 = .ok (.aload_n 0, 1) := by decide +kernel
theorem dX6_ask_11 : decode cX6_ask 11 = .ok (.dup, 1) := by decide +kernel
theorem dX6_ask_12 : decode cX6_ask 12 = .ok (.getfield 13, 3) := by decide +kernel
theorem dX6_ask_15 : decode cX6_ask 15 = .ok (.iconst 1, 1) := by decide +kernel
theorem dX6_ask_16 : decode cX6_ask 16 = .ok (.iadd, 1) := by decide +kernel
theorem dX6_ask_17 : decode cX6_ask 17 = .ok (.putfield 13, 3) := by decide +kernel
theorem dX6_ask_20 : decode cX6_ask 20 = .ok (.aload_n 0, 1) := by decide +kernel
theorem dX6_ask_21 : decode cX6_ask 21 = .ok (.dup, 1) := by decide +kernel
theorem dX6_ask_22 : decode cX6_ask 22 = .ok (.getfield 20, 3) := by decide +kernel
theorem dX6_ask_25 : decode cX6_ask 25 = .ok (.bipush 10, 2) := by decide +kernel
theorem dX6_ask_27 : decode cX6_ask 27 = .ok (.imul, 1) := by decide +kernel
theorem dX6_ask_28 : decode cX6_ask 28 = .ok (.putfield 20, 3) := by decide +kernel
theorem dX6_ask_31 : decode cX6_ask 31 = .ok (.aload_n 0, 1) := by decide +kernel
theorem dX6_ask_32 : decode cX6_ask 32 = .ok (.getfield 13, 3) := by decide +kernel
theorem dX6_ask_35 : decode cX6_ask 35 = .ok (.istore_n 2, 1) := by decide +kernel
theorem dX6_ask_36 : decode cX6_ask 36 = .ok (.iload_n 2, 1) := by decide +kernel
theorem dX6_ask_37 : decode cX6_ask 37 = .ok (.ifCond .lt 47, 3) := by decide +kernel
theorem dX6_ask_40 : decode cX6_ask 40 = .ok (.iload_n 2, 1) := by decide +kernel
theorem dX6_ask_41 : decode cX6_ask 41 = .ok (.ifCond .le 14, 3) := by decide +kernel
theorem dX6_ask_44 : decode cX6_ask 44 = .ok (.aload_n 0, 1) := by decide +kernel
theorem dX6_ask_45 : decode cX6_ask 45 = .ok (.getfield 9, 3) := by decide +kernel
theorem dX6_ask_48 : decode cX6_ask 48 = .ok (.iload_n 2, 1) := by decide +kernel
theorem dX6_ask_49 : decode cX6_ask 49 = .ok (.iconst 1, 1) := by decide +kernel
theorem dX6_ask_50 : decode cX6_ask 50 = .ok (.isub, 1) := by decide +kernel
theorem dX6_ask_51 : decode cX6_ask 51 = .ok (.iaload, 1) := by decide +kernel
theorem dX6_ask_52 : decode cX6_ask 52 = .ok (.goto 4, 3) := by decide +kernel
theorem dX6_ask_55 : decode cX6_ask 55 = .ok (.iconst 0, 1) := by decide +kernel
theorem dX6_ask_56 : decode cX6_ask 56 = .ok (.istore_n 3, 1) := by decide +kernel
theorem dX6_ask_57 : decode cX6_ask 57 = .ok (.aload_n 0, 1) := by decide +kernel
theorem dX6_ask_58 : decode cX6_ask 58 = .ok (.getfield 9, 3) := by decide +kernel
theorem dX6_ask_61 : decode cX6_ask 61 = .ok (.iload_n 2, 1) := by decide +kernel
theorem dX6_ask_62 : decode cX6_ask 62 = .ok (.aload_n 0, 1) := by decide +kernel
theorem dX6_ask_63 : decode cX6_ask 63 = .ok (.getfield 9, 3) := by decide +kernel
theorem dX6_ask_66 : decode cX6_ask 66 = .ok (.iload_n 2, 1) := by decide +kernel
theorem dX6_ask_67 : decode cX6_ask 67 = .ok (.iaload, 1) := by decide +kernel
theorem dX6_ask_68 : decode cX6_ask 68 = .ok (.bipush 10, 2) := by decide +kernel
theorem dX6_ask_70 : decode cX6_ask 70 = .ok (.iload_n 1, 1) := by decide +kernel
theorem dX6_ask_71 : decode cX6_ask 71 = .ok (.isub, 1) := by decide +kernel
theorem dX6_ask_72 : decode cX6_ask 72 = .ok (.imul, 1) := by decide +kernel
theorem dX6_ask_73 : decode cX6_ask 73 = .ok (.iload_n 3, 1) := by decide +kernel
theorem dX6_ask_74 : decode cX6_ask 74 = .ok (.iload_n 1, 1) := by decide +kernel
theorem dX6_ask_75 : decode cX6_ask 75 = .ok (.imul, 1) := by decide +kernel
theorem dX6_ask_76 : decode cX6_ask 76 = .ok (.iadd, 1) := by decide +kernel
theorem dX6_ask_77 : decode cX6_ask 77 = .ok (.iastore, 1) := by decide +kernel
theorem dX6_ask_78 : decode cX6_ask 78 = .ok (.iinc 2 (-1), 3) := by decide +kernel
theorem dX6_ask_81 : decode cX6_ask 81 = .ok (.goto (-45), 3) := by decide +kernel
theorem dX6_ask_84 : decode cX6_ask 84 = .ok (.return_, 1) := by decide +kernel
theorem FG_X6_13 : FG RX6 13 6 4 1 := ⟨RX6, TX6, rfl, wX6, by decide, kAW (v_1_5 (List.mem_of_getElem? (i := 14) rfl)) rfl, rfl⟩
theorem FG_X6_20 : FG RX6 20 6 4 3 := ⟨RX6, TX6, rfl, wX6, by decide, kAW (v_1_6 (List.mem_of_getElem? (i := 1) rfl)) rfl, rfl⟩
set_option maxRecDepth 100000 in
set_option maxHeartbeats 4000000 in
theorem a_X6_ask (l : Launch) (D : va_G) (cA : Nat → ClassId) (ad : Nat → Nat) (g0 : Nat → va_E) (te : Int32)   (hSh : Shp ad cA g0) (hG : Rng g0) : CT l NN ad cA D yX6_ask cX6_ask 4 none (0, 0) [.ref (ad 127), .int te] g0 (fun v g' => v = none ∧ Shp ad cA g' ∧ Rng g' ∧ FR (fun i k => (i = 127 ∧ (k = 1 ∨ k = 3)) ∨ i = 128) g0 g') := by
  refine q_enterV (by decide) (Nat.le_of_ble_eq_true rfl) (fun K H locs ls _ _ hM hW0 hR hC hE hl => ?_)
  have hl : lv_has ls 4 [(0, .ref (ad 127)), (1, .int te)] := hl
  have hW : WS ad cA (fun i k => (i = 127 ∧ (k = 1 ∨ k = 3)) ∨ i = 128) g0 K g0 H locs := ⟨hW0, hSh, FR.rf⟩
  refine q_aload_n hM dX6_ask_0 (lv_at hl 0 rfl) ?_
  refine w_getI hM hW FG_X6_13 lb_127 (by decide) (by decide) dX6_ask_1 (fun x742 fx742 => ?_)
  have bx742 := hG.f fx742 rF_127_1 (by decide)
  refine q_bipush (v := (8 : Int32)) hM dX6_ask_4 (by decide) ?_
  refine q_icmp_lt (tgt := 10) hM dX6_ask_6 (by decide) (rfl : x742.toInt = x742.toInt) (kc_8 : (8 : Int32).toInt = 8) (fun h6 => ?_) (fun h6 => ?_)
  · refine q_aload_n hM dX6_ask_10 (lv_at hl 0 rfl) ?_
    refine q_dup hM dX6_ask_11 rfl ?_
    refine w_get (v := .int x742) hM hW FG_X6_13 lb_127 fx742 dX6_ask_12 ?_
    have bx742 := hG.f fx742 rF_127_1 (by decide)
    refine q_iconst (v := (1 : Int32)) hM dX6_ask_15 (by decide) ?_
    refine q_iadd hM dX6_ask_16 (fun z744 hz744 => ?_)
    first | have tz744 := i_addT hz744 (rfl : x742.toInt = x742.toInt) (kc_1 : (1 : Int32).toInt = 1) (by omega) (by omega) | skip
    refine w_put hM hW FP_X6_13 lb_127 (by omega) (Or.inl ⟨_, rfl⟩) rfl rfl dX6_ask_17 (fun g745 H locs hW e1 e2 => ?_)
    have f746 : fld g745 127 1 = .int z744 := e1
    have hG := hG.put e1 e2 rF_127_1 (by decide) (by have := i_rng z744; omega) (by have := i_rng z744; omega)
    refine q_aload_n hM dX6_ask_20 (lv_at hl 0 rfl) ?_
    refine q_dup hM dX6_ask_21 rfl ?_
    refine w_getI hM hW FG_X6_20 lb_127 (by decide) (by decide) dX6_ask_22 (fun x747 fx747 => ?_)
    refine q_bipush (v := (10 : Int32)) hM dX6_ask_25 (by decide) ?_
    refine q_imul hM dX6_ask_27 (fun z748 hz748 => ?_)
    first | have tz748 := i_mulT hz748 (rfl : x747.toInt = x747.toInt) (kc_10 : (10 : Int32).toInt = 10) (by omega) (by omega) | skip
    refine w_put hM hW FP_X6_20 lb_127 (by omega) (Or.inl ⟨_, rfl⟩) rfl rfl dX6_ask_28 (fun g749 H locs hW e1 e2 => ?_)
    have f750 : fld g749 127 1 = .int z744 := (e2.1 127 1 (by unfold Only; omega)).trans f746
    have f751 : fld g749 127 3 = .int z748 := e1
    have hG := hG.put e1 e2 (rfl : rF 127 3 = (-2147483648, 2147483647)) (by decide) (by have := i_rng z748; omega) (by have := i_rng z748; omega)
    refine q_aload_n hM dX6_ask_31 (lv_at hl 0 rfl) ?_
    refine w_get (v := .int z744) hM hW FG_X6_13 lb_127 f750 dX6_ask_32 ?_
    have bz744 := hG.f f750 rF_127_1 (by decide)
    refine q_istore_n (lv9 := [(2, .int z744), (0, .ref (ad 127)), (1, .int te)]) hM dX6_ask_35 hl (by decide) rfl (fun ls hl => ?_)
    have L36 : ∀ (fu36 : Nat) (w36_2 : Int32) (g9 : Nat → va_E) (H : Heap) (locs : List Loc) (ls : Array Slot), (w36_2.toInt + 1).toNat < fu36 → (Rng g9) → (-1 ≤ w36_2.toInt) → (w36_2.toInt ≤ 8) → lv_has ls 4 [(0, .ref (ad 127)), (1, .int te), (2, .int w36_2)] → WS ad cA (fun i k => (i = 127 ∧ (k = 1 ∨ k = 3)) ∨ i = 128) g0 K g9 H locs → XX K 0 0 H locs 36 ls [] := by
      intro fu36
      induction fu36 with
      | zero => intro w36_2 g9 H locs ls h0; omega
      | succ fu36 ih36 =>
        intro w36_2 g9 H locs ls hm36 i36_0 i36_1 i36_2 hl hW
        have hG := i36_0
        refine q_iload_n hM dX6_ask_36 (lv_at hl 2 rfl) ?_
        refine q_if_lt (tgt := 84) hM dX6_ask_37 (by decide) (rfl : w36_2.toInt = w36_2.toInt) (fun h37 => ?_) (fun h37 => ?_)
        · exact hE _ _ _ _ _ hW.1 ⟨rfl, hW.2.1, hG, hW.2.2⟩ dX6_ask_84
        · refine q_iload_n hM dX6_ask_40 (lv_at hl 2 rfl) ?_
          refine q_if_le (tgt := 55) hM dX6_ask_41 (by decide) (rfl : w36_2.toInt = w36_2.toInt) (fun h41 => ?_) (fun h41 => ?_)
          · refine q_iconst (v := (0 : Int32)) hM dX6_ask_55 (by decide) ?_
            refine q_istore_n (lv9 := [(3, .int (0 : Int32)), (0, .ref (ad 127)), (1, .int te), (2, .int w36_2)]) hM dX6_ask_56 hl (by decide) rfl (fun ls hl => ?_)
            refine q_aload_n hM dX6_ask_57 (lv_at hl 1 rfl) ?_
            refine w_get (v := .ref (ad 128)) hM hW FG_X6_9 lb_127 (rf_127_0 hW.2.1) dX6_ask_58 ?_
            refine q_iload_n hM dX6_ask_61 (lv_at hl 3 rfl) ?_
            refine q_aload_n hM dX6_ask_62 (lv_at hl 1 rfl) ?_
            refine w_get (v := .ref (ad 128)) hM hW FG_X6_9 lb_127 (rf_127_0 hW.2.1) dX6_ask_63 ?_
            refine q_iload_n hM dX6_ask_66 (lv_at hl 3 rfl) ?_
            refine w_iald hM hW lb_128 (i_in (by omega) (by omega)) dX6_ask_67 ?_
            refine q_top (fun y756 hy756 => ?_)
            refine q_bipush (v := (10 : Int32)) hM dX6_ask_68 (by decide) ?_
            refine q_iload_n hM dX6_ask_70 (lv_at hl 2 rfl) ?_
            refine q_isub hM dX6_ask_71 (fun z757 hz757 => ?_)
            first | have tz757 := i_subT hz757 (kc_10 : (10 : Int32).toInt = 10) (rfl : te.toInt = te.toInt) (by omega) (by omega) | skip
            refine q_imul hM dX6_ask_72 (fun z758 hz758 => ?_)
            first | have tz758 := i_mulT hz758 (rfl : y756.toInt = y756.toInt) (rfl : z757.toInt = z757.toInt) (by omega) (by omega) | skip
            refine q_iload_n hM dX6_ask_73 (lv_at hl 0 rfl) ?_
            refine q_iload_n hM dX6_ask_74 (lv_at hl 2 rfl) ?_
            refine q_imul hM dX6_ask_75 (fun z759 hz759 => ?_)
            first | have tz759 := i_mulT hz759 (kc_0 : (0 : Int32).toInt = 0) (rfl : te.toInt = te.toInt) (by omega) (by omega) | skip
            refine q_iadd hM dX6_ask_76 (fun z760 hz760 => ?_)
            first | have tz760 := i_addT hz760 (rfl : z758.toInt = z758.toInt) (rfl : z759.toInt = z759.toInt) (by omega) (by omega) | skip
            refine w_iast hM hW lb_128 (by omega) (i_in (by omega) (by omega)) dX6_ask_77 (fun g761 H locs hW e1 e2 => ?_)
            have hG := hG.st e1 e2 (rfl : rA 128 = (-2147483648, 2147483647)) (by have := i_rng z760; omega) (by have := i_rng z760; omega)
            refine q_iinc (lv9 := fun z762 => [(2, .int z762), (3, .int (0 : Int32)), (0, .ref (ad 127)), (1, .int te)]) hM dX6_ask_78 hl (kq := 3) rfl (by decide) (fun _ => rfl) (fun z762 ls hz762 hl => ?_)
            first | have tz762 := i_addT hz762 (rfl : w36_2.toInt = w36_2.toInt) (kc_m1 : (Int32.ofInt (-1)).toInt = (-1)) (by omega) (by omega) | skip
            refine q_goto (tgt := 36) hM dX6_ask_81 (by decide) ?_
            exact ih36 z762 _ _ _ _ (by omega) hG (by omega) (by omega) (lv_sub hl [2, 3, 0] rfl) hW
          · refine q_aload_n hM dX6_ask_44 (lv_at hl 0 rfl) ?_
            refine w_get (v := .ref (ad 128)) hM hW FG_X6_9 lb_127 (rf_127_0 hW.2.1) dX6_ask_45 ?_
            refine q_iload_n hM dX6_ask_48 (lv_at hl 2 rfl) ?_
            refine q_iconst (v := (1 : Int32)) hM dX6_ask_49 (by decide) ?_
            refine q_isub hM dX6_ask_50 (fun z764 hz764 => ?_)
            first | have tz764 := i_subT hz764 (rfl : w36_2.toInt = w36_2.toInt) (kc_1 : (1 : Int32).toInt = 1) (by omega) (by omega) | skip
            refine w_iald hM hW lb_128 (i_in (by omega) (by omega)) dX6_ask_51 ?_
            refine q_top (fun y765 hy765 => ?_)
            refine q_goto (tgt := 56) hM dX6_ask_52 (by decide) ?_
            refine q_istore_n (lv9 := [(3, .int y765), (0, .ref (ad 127)), (1, .int te), (2, .int w36_2)]) hM dX6_ask_56 hl (by decide) rfl (fun ls hl => ?_)
            refine q_aload_n hM dX6_ask_57 (lv_at hl 1 rfl) ?_
            refine w_get (v := .ref (ad 128)) hM hW FG_X6_9 lb_127 (rf_127_0 hW.2.1) dX6_ask_58 ?_
            refine q_iload_n hM dX6_ask_61 (lv_at hl 3 rfl) ?_
            refine q_aload_n hM dX6_ask_62 (lv_at hl 1 rfl) ?_
            refine w_get (v := .ref (ad 128)) hM hW FG_X6_9 lb_127 (rf_127_0 hW.2.1) dX6_ask_63 ?_
            refine q_iload_n hM dX6_ask_66 (lv_at hl 3 rfl) ?_
            refine w_iald hM hW lb_128 (i_in (by omega) (by omega)) dX6_ask_67 ?_
            refine q_top (fun y766 hy766 => ?_)
            refine q_bipush (v := (10 : Int32)) hM dX6_ask_68 (by decide) ?_
            refine q_iload_n hM dX6_ask_70 (lv_at hl 2 rfl) ?_
            refine q_isub hM dX6_ask_71 (fun z767 hz767 => ?_)
            first | have tz767 := i_subT hz767 (kc_10 : (10 : Int32).toInt = 10) (rfl : te.toInt = te.toInt) (by omega) (by omega) | skip
            refine q_imul hM dX6_ask_72 (fun z768 hz768 => ?_)
            first | have tz768 := i_mulT hz768 (rfl : y766.toInt = y766.toInt) (rfl : z767.toInt = z767.toInt) (by omega) (by omega) | skip
            refine q_iload_n hM dX6_ask_73 (lv_at hl 0 rfl) ?_
            refine q_iload_n hM dX6_ask_74 (lv_at hl 2 rfl) ?_
            refine q_imul hM dX6_ask_75 (fun z769 hz769 => ?_)
            first | have tz769 := i_mulT hz769 (rfl : y765.toInt = y765.toInt) (rfl : te.toInt = te.toInt) (by omega) (by omega) | skip
            refine q_iadd hM dX6_ask_76 (fun z770 hz770 => ?_)
            first | have tz770 := i_addT hz770 (rfl : z768.toInt = z768.toInt) (rfl : z769.toInt = z769.toInt) (by omega) (by omega) | skip
            refine w_iast hM hW lb_128 (by omega) (i_in (by omega) (by omega)) dX6_ask_77 (fun g771 H locs hW e1 e2 => ?_)
            have hG := hG.st e1 e2 (rfl : rA 128 = (-2147483648, 2147483647)) (by have := i_rng z770; omega) (by have := i_rng z770; omega)
            refine q_iinc (lv9 := fun z772 => [(2, .int z772), (3, .int y765), (0, .ref (ad 127)), (1, .int te)]) hM dX6_ask_78 hl (kq := 3) rfl (by decide) (fun _ => rfl) (fun z772 ls hz772 hl => ?_)
            first | have tz772 := i_addT hz772 (rfl : w36_2.toInt = w36_2.toInt) (kc_m1 : (Int32.ofInt (-1)).toInt = (-1)) (by omega) (by omega) | skip
            refine q_goto (tgt := 36) hM dX6_ask_81 (by decide) ?_
            exact ih36 z772 _ _ _ _ (by omega) hG (by omega) (by omega) (lv_sub hl [2, 3, 0] rfl) hW
    exact L36 _ z744 _ _ _ _ (Nat.lt_succ_self _) hG (by omega) (by omega) (lv_sub hl [1, 2, 0] rfl) hW
  · exact hE _ _ _ _ _ hW.1 ⟨rfl, hW.2.1, hG, hW.2.2⟩ dX6_ask_9

theorem dX6_shortenBy_0 : decode cX6_shortenBy 0 = .ok (.iload_n 1, 1) := by decide +kernel
theorem dX6_shortenBy_1 : decode cX6_shortenBy 1 = .ok (.ifCond .eq 41, 3) := by decide +kernel
theorem dX6_shortenBy_4 : decode cX6_shortenBy 4 = .ok (.aload_n 0, 1) := by decide +kernel
theorem dX6_shortenBy_5 : decode cX6_shortenBy 5 = .ok (.getfield 17, 3) := by decide +kernel
theorem dX6_shortenBy_8 : decode cX6_shortenBy 8 = .ok (.iload_n 1, 1) := by decide +kernel
theorem dX6_shortenBy_9 : decode cX6_shortenBy 9 = .ok (.irem, 1) := by decide +kernel
theorem dX6_shortenBy_10 : decode cX6_shortenBy 10 = .ok (.ifCond .ne 32, 3) := by decide +kernel
theorem dX6_shortenBy_13 : decode cX6_shortenBy 13 = .ok (.aload_n 0, 1) := by decide +kernel
theorem dX6_shortenBy_14 : decode cX6_shortenBy 14 = .ok (.getfield 20, 3) := by decide +kernel
theorem dX6_shortenBy_17 : decode cX6_shortenBy 17 = .ok (.iload_n 1, 1) := by decide +kernel
theorem dX6_shortenBy_18 : decode cX6_shortenBy 18 = .ok (.irem, 1) := by decide +kernel
theorem dX6_shortenBy_19 : decode cX6_shortenBy 19 = .ok (.ifCond .ne 23, 3) := by decide +kernel
theorem dX6_shortenBy_22 : decode cX6_shortenBy 22 = .ok (.aload_n 0, 1) := by decide +kernel
theorem dX6_shortenBy_23 : decode cX6_shortenBy 23 = .ok (.dup, 1) := by decide +kernel
theorem dX6_shortenBy_24 : decode cX6_shortenBy 24 = .ok (.getfield 17, 3) := by decide +kernel
theorem dX6_shortenBy_27 : decode cX6_shortenBy 27 = .ok (.iload_n 1, 1) := by decide +kernel
theorem dX6_shortenBy_28 : decode cX6_shortenBy 28 = .ok (.idiv, 1) := by decide +kernel
theorem dX6_shortenBy_29 : decode cX6_shortenBy 29 = .ok (.putfield 17, 3) := by decide +kernel
theorem dX6_shortenBy_32 : decode cX6_shortenBy 32 = .ok (.aload_n 0, 1) := by decide +kernel
theorem dX6_shortenBy_33 : decode cX6_shortenBy 33 = .ok (.dup, 1) := by decide +kernel
theorem dX6_shortenBy_34 : decode cX6_shortenBy 34 = .ok (.getfield 20, 3) := by decide +kernel
theorem dX6_shortenBy_37 : decode cX6_shortenBy 37 = .ok (.iload_n 1, 1) := by decide +kernel
theorem dX6_shortenBy_38 : decode cX6_shortenBy 38 = .ok (.idiv, 1) := by decide +kernel
theorem dX6_shortenBy_39 : decode cX6_shortenBy 39 = .ok (.putfield 20, 3) := by decide +kernel
theorem dX6_shortenBy_42 : decode cX6_shortenBy 42 = .ok (.return_, 1) := by decide +kernel
theorem FG_X6_17 : FG RX6 17 6 4 2 := ⟨RX6, TX6, rfl, wX6, by decide, kAW (v_1_5 (List.mem_of_getElem? (i := 15) rfl)) rfl, rfl⟩
set_option maxRecDepth 100000 in
set_option maxHeartbeats 4000000 in
theorem a_X6_shortenBy (l : Launch) (D : va_G) (cA : Nat → ClassId) (ad : Nat → Nat) (g0 : Nat → va_E) (di : Int32)   (hSh : Shp ad cA g0) (hG : Rng g0) : CT l NN ad cA D yX6_shortenBy cX6_shortenBy 2 none (0, 0) [.ref (ad 127), .int di] g0 (fun v g' => v = none ∧ Shp ad cA g' ∧ Rng g' ∧ FR (fun i k => (i = 127 ∧ (k = 2 ∨ k = 3))) g0 g') := by
  refine q_enterV (by decide) (Nat.le_of_ble_eq_true rfl) (fun K H locs ls _ _ hM hW0 hR hC hE hl => ?_)
  have hl : lv_has ls 2 [(0, .ref (ad 127)), (1, .int di)] := hl
  have hW : WS ad cA (fun i k => (i = 127 ∧ (k = 2 ∨ k = 3))) g0 K g0 H locs := ⟨hW0, hSh, FR.rf⟩
  refine q_iload_n hM dX6_shortenBy_0 (lv_at hl 1 rfl) ?_
  refine q_if_eq (tgt := 42) hM dX6_shortenBy_1 (by decide) (rfl : di.toInt = di.toInt) (fun h1 => ?_) (fun h1 => ?_)
  · exact hE _ _ _ _ _ hW.1 ⟨rfl, hW.2.1, hG, hW.2.2⟩ dX6_shortenBy_42
  · refine q_aload_n hM dX6_shortenBy_4 (lv_at hl 0 rfl) ?_
    refine w_getI hM hW FG_X6_17 lb_127 (by decide) (by decide) dX6_shortenBy_5 (fun x776 fx776 => ?_)
    refine q_iload_n hM dX6_shortenBy_8 (lv_at hl 1 rfl) ?_
    refine q_irem hM (by intro e9; have e8 := congrArg Int32.toInt e9; have := kc_0; have e7 := kc_0; omega) dX6_shortenBy_9 (fun z777 hz777 => ?_)
    first | have tz777 := i_remT hz777 (rfl : x776.toInt = x776.toInt) (rfl : di.toInt = di.toInt) (by omega) (by omega) | skip
    refine q_if_ne (tgt := 42) hM dX6_shortenBy_10 (by decide) (rfl : z777.toInt = z777.toInt) (fun h10 => ?_) (fun h10 => ?_)
    · exact hE _ _ _ _ _ hW.1 ⟨rfl, hW.2.1, hG, hW.2.2⟩ dX6_shortenBy_42
    · refine q_aload_n hM dX6_shortenBy_13 (lv_at hl 0 rfl) ?_
      refine w_getI hM hW FG_X6_20 lb_127 (by decide) (by decide) dX6_shortenBy_14 (fun x780 fx780 => ?_)
      refine q_iload_n hM dX6_shortenBy_17 (lv_at hl 1 rfl) ?_
      refine q_irem hM (by intro e9; have e8 := congrArg Int32.toInt e9; have := kc_0; have e7 := kc_0; omega) dX6_shortenBy_18 (fun z781 hz781 => ?_)
      first | have tz781 := i_remT hz781 (rfl : x780.toInt = x780.toInt) (rfl : di.toInt = di.toInt) (by omega) (by omega) | skip
      refine q_if_ne (tgt := 42) hM dX6_shortenBy_19 (by decide) (rfl : z781.toInt = z781.toInt) (fun h19 => ?_) (fun h19 => ?_)
      · exact hE _ _ _ _ _ hW.1 ⟨rfl, hW.2.1, hG, hW.2.2⟩ dX6_shortenBy_42
      · refine q_aload_n hM dX6_shortenBy_22 (lv_at hl 0 rfl) ?_
        refine q_dup hM dX6_shortenBy_23 rfl ?_
        refine w_get (v := .int x776) hM hW FG_X6_17 lb_127 fx776 dX6_shortenBy_24 ?_
        refine q_iload_n hM dX6_shortenBy_27 (lv_at hl 1 rfl) ?_
        refine q_idiv hM (by intro e9; have e8 := congrArg Int32.toInt e9; have := kc_0; have e7 := kc_0; omega) dX6_shortenBy_28 (fun z784 hz784 => ?_)
        first | have tz784 := i_divT hz784 (rfl : x776.toInt = x776.toInt) (rfl : di.toInt = di.toInt) (by omega) (by omega) | skip
        refine w_put hM hW FP_X6_17 lb_127 (by omega) (Or.inl ⟨_, rfl⟩) rfl rfl dX6_shortenBy_29 (fun g785 H locs hW e1 e2 => ?_)
        have f786 : fld g785 127 3 = .int x780 := (e2.1 127 3 (by unfold Only; omega)).trans fx780
        have f787 : fld g785 127 2 = .int z784 := e1
        have hG := hG.put e1 e2 (rfl : rF 127 2 = (-2147483648, 2147483647)) (by decide) (by have := i_rng z784; omega) (by have := i_rng z784; omega)
        refine q_aload_n hM dX6_shortenBy_32 (lv_at hl 0 rfl) ?_
        refine q_dup hM dX6_shortenBy_33 rfl ?_
        refine w_get (v := .int x780) hM hW FG_X6_20 lb_127 f786 dX6_shortenBy_34 ?_
        refine q_iload_n hM dX6_shortenBy_37 (lv_at hl 1 rfl) ?_
        refine q_idiv hM (by intro e9; have e8 := congrArg Int32.toInt e9; have := kc_0; have e7 := kc_0; omega) dX6_shortenBy_38 (fun z788 hz788 => ?_)
        first | have tz788 := i_divT hz788 (rfl : x780.toInt = x780.toInt) (rfl : di.toInt = di.toInt) (by omega) (by omega) | skip
        refine w_put hM hW FP_X6_20 lb_127 (by omega) (Or.inl ⟨_, rfl⟩) rfl rfl dX6_shortenBy_39 (fun g789 H locs hW e1 e2 => ?_)
        have f790 : fld g789 127 2 = .int z784 := (e2.1 127 2 (by unfold Only; omega)).trans f787
        have f791 : fld g789 127 3 = .int z788 := e1
        have hG := hG.put e1 e2 (rfl : rF 127 3 = (-2147483648, 2147483647)) (by decide) (by have := i_rng z788; omega) (by have := i_rng z788; omega)
        exact hE _ _ _ _ _ hW.1 ⟨rfl, hW.2.1, hG, hW.2.2⟩ dX6_shortenBy_42

theorem dX6_shorten_0 : decode cX6_shorten 0 = .ok (.iconst 0, 1) := by decide +kernel
theorem dX6_shorten_1 : decode cX6_shorten 1 = .ok (.istore_n 2, 1) := by decide +kernel
theorem dX6_shorten_2 : decode cX6_shorten 2 = .ok (.iload_n 2, 1) := by decide +kernel
theorem dX6_shorten_3 : decode cX6_shorten 3 = .ok (.iload_n 1, 1) := by decide +kernel
theorem dX6_shorten_4 : decode cX6_shorten 4 = .ok (.if_icmp .gt 30, 3) := by decide +kernel
theorem dX6_shorten_7 : decode cX6_shorten 7 = .ok (.iload_n 2, 1) := by decide +kernel
theorem dX6_shorten_8 : decode cX6_shorten 8 = .ok (.bipush 8, 2) := by decide +kernel
theorem dX6_shorten_10 : decode cX6_shorten 10 = .ok (.if_icmp .gt 24, 3) := by decide +kernel
theorem dX6_shorten_13 : decode cX6_shorten 13 = .ok (.aload_n 0, 1) := by decide +kernel
theorem dX6_shorten_14 : decode cX6_shorten 14 = .ok (.dup, 1) := by decide +kernel
theorem dX6_shorten_15 : decode cX6_shorten 15 = .ok (.getfield 17, 3) := by decide +kernel
theorem dX6_shorten_18 : decode cX6_shorten 18 = .ok (.aload_n 0, 1) := by decide +kernel
theorem dX6_shorten_19 : decode cX6_shorten 19 = .ok (.getfield 9, 3) := by decide +kernel
theorem dX6_shorten_22 : decode cX6_shorten 22 = .ok (.iload_n 2, 1) := by decide +kernel
theorem dX6_shorten_23 : decode cX6_shorten 23 = .ok (.iaload, 1) := by decide +kernel
theorem dX6_shorten_24 : decode cX6_shorten 24 = .ok (.iadd, 1) := by decide +kernel
theorem dX6_shorten_25 : decode cX6_shorten 25 = .ok (.putfield 17, 3) := by decide +kernel
theorem dX6_shorten_28 : decode cX6_shorten 28 = .ok (.iinc 2 1, 3) := by decide +kernel
theorem dX6_shorten_31 : decode cX6_shorten 31 = .ok (.goto (-29), 3) := by decide +kernel
theorem dX6_shorten_34 : decode cX6_shorten 34 = .ok (.iconst 0, 1) := by decide +kernel
theorem dX6_shorten_35 : decode cX6_shorten 35 = .ok (.istore_n 2, 1) := by decide +kernel
theorem dX6_shorten_36 : decode cX6_shorten 36 = .ok (.iload_n 2, 1) := by decide +kernel
theorem dX6_shorten_37 : decode cX6_shorten 37 = .ok (.aload_n 0, 1) := by decide +kernel
theorem dX6_shorten_38 : decode cX6_shorten 38 = .ok (.getfield 13, 3) := by decide +kernel
theorem dX6_shorten_41 : decode cX6_shorten 41 = .ok (.if_icmp .ge 19, 3) := by decide +kernel
theorem dX6_shorten_44 : decode cX6_shorten 44 = .ok (.aload_n 0, 1) := by decide +kernel
theorem dX6_shorten_45 : decode cX6_shorten 45 = .ok (.iconst 2, 1) := by decide +kernel
theorem dX6_shorten_46 : decode cX6_shorten 46 = .ok (.invokevirtual 23, 3) := by decide +kernel
theorem dX6_shorten_49 : decode cX6_shorten 49 = .ok (.aload_n 0, 1) := by decide +kernel
theorem dX6_shorten_50 : decode cX6_shorten 50 = .ok (.iconst 5, 1) := by decide +kernel
theorem dX6_shorten_51 : decode cX6_shorten 51 = .ok (.invokevirtual 23, 3) := by decide +kernel
theorem dX6_shorten_54 : decode cX6_shorten 54 = .ok (.iinc 2 1, 3) := by decide +kernel
theorem dX6_shorten_57 : decode cX6_shorten 57 = .ok (.goto (-21), 3) := by decide +kernel
theorem dX6_shorten_60 : decode cX6_shorten 60 = .ok (.return_, 1) := by decide +kernel
theorem myX6_shortenBy : MI yX6_shortenBy cX6_shortenBy 2 none 1 := ⟨kAW (v_4_0 (List.mem_of_getElem? (i := 12) rfl)) rfl, kAW (v_0_0 (List.mem_of_getElem? (i := 12) rfl)) rfl, kAW (v_4_0 (List.mem_of_getElem? (i := 11) rfl)) rfl, kAW (tp_t1 (List.mem_of_getElem? (i := 15) rfl)) rfl, by decide, by decide, by decide +kernel⟩
set_option maxRecDepth 100000 in
set_option maxHeartbeats 4000000 in
theorem a_X6_shorten (l : Launch) (D : va_G) (cA : Nat → ClassId) (ad : Nat → Nat) (g0 : Nat → va_E) (li : Int32)   (hSh : Shp ad cA g0) (hG : Rng g0) : CT l NN ad cA D yX6_shorten cX6_shorten 3 none (1, 21) [.ref (ad 127), .int li] g0 (fun v g' => v = none ∧ Shp ad cA g' ∧ Rng g' ∧ FR (fun i k => (i = 127 ∧ (k = 2 ∨ k = 3))) g0 g') := by
  refine q_enterV (by decide) (Nat.le_of_ble_eq_true rfl) (fun K H locs ls _ _ hM hW0 hR hC hE hl => ?_)
  have hl : lv_has ls 3 [(0, .ref (ad 127)), (1, .int li)] := hl
  have hW : WS ad cA (fun i k => (i = 127 ∧ (k = 2 ∨ k = 3))) g0 K g0 H locs := ⟨hW0, hSh, FR.rf⟩
  refine q_iconst (v := (0 : Int32)) hM dX6_shorten_0 (by decide) ?_
  refine q_istore_n (lv9 := [(2, .int (0 : Int32)), (0, .ref (ad 127)), (1, .int li)]) hM dX6_shorten_1 hl (by decide) rfl (fun ls hl => ?_)
  have L2 : ∀ (fu2 : Nat) (w2_2 : Int32) (g9 : Nat → va_E) (H : Heap) (locs : List Loc) (ls : Array Slot), (li.toInt - w2_2.toInt + 1).toNat < fu2 → (Rng g9) → (0 ≤ w2_2.toInt) → lv_has ls 3 [(0, .ref (ad 127)), (1, .int li), (2, .int w2_2)] → WS ad cA (fun i k => (i = 127 ∧ (k = 2 ∨ k = 3))) g0 K g9 H locs → XX K 0 0 H locs 2 ls [] := by
    intro fu2
    induction fu2 with
    | zero => intro w2_2 g9 H locs ls h0; omega
    | succ fu2 ih2 =>
      intro w2_2 g9 H locs ls hm2 i2_0 i2_1 hl hW
      have hG := i2_0
      have := i_rng li
      refine q_iload_n hM dX6_shorten_2 (lv_at hl 2 rfl) ?_
      refine q_iload_n hM dX6_shorten_3 (lv_at hl 1 rfl) ?_
      refine q_icmp_gt (tgt := 34) hM dX6_shorten_4 (by decide) (rfl : w2_2.toInt = w2_2.toInt) (rfl : li.toInt = li.toInt) (fun h4 => ?_) (fun h4 => ?_)
      · refine q_iconst (v := (0 : Int32)) hM dX6_shorten_34 (by decide) ?_
        refine q_istore_n (lv9 := [(2, .int (0 : Int32)), (0, .ref (ad 127)), (1, .int li)]) hM dX6_shorten_35 hl (by decide) rfl (fun ls hl => ?_)
        have L36 : ∀ (fu36 : Nat) (w36_2 : Int32) (g9 : Nat → va_E) (H : Heap) (locs : List Loc) (ls : Array Slot), (8 - w36_2.toInt).toNat < fu36 → (Rng g9) → (0 ≤ w36_2.toInt) → (w36_2.toInt ≤ 8) → lv_has ls 3 [(0, .ref (ad 127)), (1, .int li), (2, .int w36_2)] → WS ad cA (fun i k => (i = 127 ∧ (k = 2 ∨ k = 3))) g0 K g9 H locs → XX K 0 0 H locs 36 ls [] := by
          intro fu36
          induction fu36 with
          | zero => intro w36_2 g9 H locs ls h0; omega
          | succ fu36 ih36 =>
            intro w36_2 g9 H locs ls hm36 i36_0 i36_1 i36_2 hl hW
            have hG := i36_0
            refine q_iload_n hM dX6_shorten_36 (lv_at hl 2 rfl) ?_
            refine q_aload_n hM dX6_shorten_37 (lv_at hl 0 rfl) ?_
            refine w_getI hM hW FG_X6_13 lb_127 (by decide) (by decide) dX6_shorten_38 (fun x795 fx795 => ?_)
            have bx795 := hG.f fx795 rF_127_1 (by decide)
            refine q_icmp_ge (tgt := 60) hM dX6_shorten_41 (by decide) (rfl : w36_2.toInt = w36_2.toInt) (rfl : x795.toInt = x795.toInt) (fun h41 => ?_) (fun h41 => ?_)
            · exact hE _ _ _ _ _ hW.1 ⟨rfl, hW.2.1, hG, hW.2.2⟩ dX6_shorten_60
            · refine q_aload_n hM dX6_shorten_44 (lv_at hl 0 rfl) ?_
              refine q_iconst (v := (2 : Int32)) hM dX6_shorten_45 (by decide) ?_
              refine q_callV (As := [.int (2 : Int32)]) (rest := []) hM hW.1 hR hC myX6_shortenBy (kAW (v_4_0 (List.mem_of_getElem? (i := 9) rfl)) rfl) (rfl : vwCl[6]? = some (RX6, TX6, 4)) rfl lb_127.1 (shO hW.2.1 lb_127) (a_X6_shortenBy _ _ cA ad g9 (2 : Int32) hW.2.1 hG) ⟨by decide, by decide⟩ rfl rfl hl.1 (Nat.le_of_ble_eq_true rfl) dX6_shorten_46 (fun v g798 H locs hp hW1 => ?_)
              obtain ⟨rfl, hs1, hG, hf1⟩ := hp
              have f799 : fld g798 127 1 = .int x795 := (hf1.1 127 1 (by omega)).trans fx795
              have hW : WS ad cA (fun i k => (i = 127 ∧ (k = 2 ∨ k = 3))) g0 K g798 H locs := ⟨hW1, hs1, hW.2.2.tr hf1 (fun i k h => h)⟩
              refine q_aload_n hM dX6_shorten_49 (lv_at hl 0 rfl) ?_
              refine q_iconst (v := (5 : Int32)) hM dX6_shorten_50 (by decide) ?_
              refine q_callV (As := [.int (5 : Int32)]) (rest := []) hM hW.1 hR hC myX6_shortenBy (kAW (v_4_0 (List.mem_of_getElem? (i := 9) rfl)) rfl) (rfl : vwCl[6]? = some (RX6, TX6, 4)) rfl lb_127.1 (shO hW.2.1 lb_127) (a_X6_shortenBy _ _ cA ad g798 (5 : Int32) hW.2.1 hG) ⟨by decide, by decide⟩ rfl rfl hl.1 (Nat.le_of_ble_eq_true rfl) dX6_shorten_51 (fun v g800 H locs hp hW1 => ?_)
              obtain ⟨rfl, hs1, hG, hf1⟩ := hp
              have f801 : fld g800 127 1 = .int x795 := (hf1.1 127 1 (by omega)).trans f799
              have hW : WS ad cA (fun i k => (i = 127 ∧ (k = 2 ∨ k = 3))) g0 K g800 H locs := ⟨hW1, hs1, hW.2.2.tr hf1 (fun i k h => h)⟩
              refine q_iinc (lv9 := fun z802 => [(2, .int z802), (0, .ref (ad 127)), (1, .int li)]) hM dX6_shorten_54 hl (kq := 2) rfl (by decide) (fun _ => rfl) (fun z802 ls hz802 hl => ?_)
              first | have tz802 := i_addT hz802 (rfl : w36_2.toInt = w36_2.toInt) (kc_1 : (Int32.ofInt 1).toInt = 1) (by omega) (by omega) | skip
              refine q_goto (tgt := 36) hM dX6_shorten_57 (by decide) ?_
              exact ih36 z802 _ _ _ _ (by omega) hG (by omega) (by omega) (lv_sub hl [1, 2, 0] rfl) hW
        have := kc_0
        exact L36 _ (0 : Int32) _ _ _ _ (Nat.lt_succ_self _) hG (by omega) (by omega) (lv_sub hl [1, 2, 0] rfl) hW
      · refine q_iload_n hM dX6_shorten_7 (lv_at hl 2 rfl) ?_
        refine q_bipush (v := (8 : Int32)) hM dX6_shorten_8 (by decide) ?_
        refine q_icmp_gt (tgt := 34) hM dX6_shorten_10 (by decide) (rfl : w2_2.toInt = w2_2.toInt) (kc_8 : (8 : Int32).toInt = 8) (fun h10 => ?_) (fun h10 => ?_)
        · refine q_iconst (v := (0 : Int32)) hM dX6_shorten_34 (by decide) ?_
          refine q_istore_n (lv9 := [(2, .int (0 : Int32)), (0, .ref (ad 127)), (1, .int li)]) hM dX6_shorten_35 hl (by decide) rfl (fun ls hl => ?_)
          have L36 : ∀ (fu36 : Nat) (w36_2 : Int32) (g9 : Nat → va_E) (H : Heap) (locs : List Loc) (ls : Array Slot), (8 - w36_2.toInt).toNat < fu36 → (Rng g9) → (0 ≤ w36_2.toInt) → (w36_2.toInt ≤ 8) → lv_has ls 3 [(0, .ref (ad 127)), (1, .int li), (2, .int w36_2)] → WS ad cA (fun i k => (i = 127 ∧ (k = 2 ∨ k = 3))) g0 K g9 H locs → XX K 0 0 H locs 36 ls [] := by
            intro fu36
            induction fu36 with
            | zero => intro w36_2 g9 H locs ls h0; omega
            | succ fu36 ih36 =>
              intro w36_2 g9 H locs ls hm36 i36_0 i36_1 i36_2 hl hW
              have hG := i36_0
              refine q_iload_n hM dX6_shorten_36 (lv_at hl 2 rfl) ?_
              refine q_aload_n hM dX6_shorten_37 (lv_at hl 0 rfl) ?_
              refine w_getI hM hW FG_X6_13 lb_127 (by decide) (by decide) dX6_shorten_38 (fun x806 fx806 => ?_)
              have bx806 := hG.f fx806 rF_127_1 (by decide)
              refine q_icmp_ge (tgt := 60) hM dX6_shorten_41 (by decide) (rfl : w36_2.toInt = w36_2.toInt) (rfl : x806.toInt = x806.toInt) (fun h41 => ?_) (fun h41 => ?_)
              · exact hE _ _ _ _ _ hW.1 ⟨rfl, hW.2.1, hG, hW.2.2⟩ dX6_shorten_60
              · refine q_aload_n hM dX6_shorten_44 (lv_at hl 0 rfl) ?_
                refine q_iconst (v := (2 : Int32)) hM dX6_shorten_45 (by decide) ?_
                refine q_callV (As := [.int (2 : Int32)]) (rest := []) hM hW.1 hR hC myX6_shortenBy (kAW (v_4_0 (List.mem_of_getElem? (i := 9) rfl)) rfl) (rfl : vwCl[6]? = some (RX6, TX6, 4)) rfl lb_127.1 (shO hW.2.1 lb_127) (a_X6_shortenBy _ _ cA ad g9 (2 : Int32) hW.2.1 hG) ⟨by decide, by decide⟩ rfl rfl hl.1 (Nat.le_of_ble_eq_true rfl) dX6_shorten_46 (fun v g809 H locs hp hW1 => ?_)
                obtain ⟨rfl, hs1, hG, hf1⟩ := hp
                have f810 : fld g809 127 1 = .int x806 := (hf1.1 127 1 (by omega)).trans fx806
                have hW : WS ad cA (fun i k => (i = 127 ∧ (k = 2 ∨ k = 3))) g0 K g809 H locs := ⟨hW1, hs1, hW.2.2.tr hf1 (fun i k h => h)⟩
                refine q_aload_n hM dX6_shorten_49 (lv_at hl 0 rfl) ?_
                refine q_iconst (v := (5 : Int32)) hM dX6_shorten_50 (by decide) ?_
                refine q_callV (As := [.int (5 : Int32)]) (rest := []) hM hW.1 hR hC myX6_shortenBy (kAW (v_4_0 (List.mem_of_getElem? (i := 9) rfl)) rfl) (rfl : vwCl[6]? = some (RX6, TX6, 4)) rfl lb_127.1 (shO hW.2.1 lb_127) (a_X6_shortenBy _ _ cA ad g809 (5 : Int32) hW.2.1 hG) ⟨by decide, by decide⟩ rfl rfl hl.1 (Nat.le_of_ble_eq_true rfl) dX6_shorten_51 (fun v g811 H locs hp hW1 => ?_)
                obtain ⟨rfl, hs1, hG, hf1⟩ := hp
                have f812 : fld g811 127 1 = .int x806 := (hf1.1 127 1 (by omega)).trans f810
                have hW : WS ad cA (fun i k => (i = 127 ∧ (k = 2 ∨ k = 3))) g0 K g811 H locs := ⟨hW1, hs1, hW.2.2.tr hf1 (fun i k h => h)⟩
                refine q_iinc (lv9 := fun z813 => [(2, .int z813), (0, .ref (ad 127)), (1, .int li)]) hM dX6_shorten_54 hl (kq := 2) rfl (by decide) (fun _ => rfl) (fun z813 ls hz813 hl => ?_)
                first | have tz813 := i_addT hz813 (rfl : w36_2.toInt = w36_2.toInt) (kc_1 : (Int32.ofInt 1).toInt = 1) (by omega) (by omega) | skip
                refine q_goto (tgt := 36) hM dX6_shorten_57 (by decide) ?_
                exact ih36 z813 _ _ _ _ (by omega) hG (by omega) (by omega) (lv_sub hl [1, 2, 0] rfl) hW
          have := kc_0
          exact L36 _ (0 : Int32) _ _ _ _ (Nat.lt_succ_self _) hG (by omega) (by omega) (lv_sub hl [1, 2, 0] rfl) hW
        · refine q_aload_n hM dX6_shorten_13 (lv_at hl 0 rfl) ?_
          refine q_dup hM dX6_shorten_14 rfl ?_
          refine w_getI hM hW FG_X6_17 lb_127 (by decide) (by decide) dX6_shorten_15 (fun x815 fx815 => ?_)
          refine q_aload_n hM dX6_shorten_18 (lv_at hl 0 rfl) ?_
          refine w_get (v := .ref (ad 128)) hM hW FG_X6_9 lb_127 (rf_127_0 hW.2.1) dX6_shorten_19 ?_
          refine q_iload_n hM dX6_shorten_22 (lv_at hl 2 rfl) ?_
          refine w_iald hM hW lb_128 (i_in (by omega) (by omega)) dX6_shorten_23 ?_
          refine q_top (fun y816 hy816 => ?_)
          refine q_iadd hM dX6_shorten_24 (fun z817 hz817 => ?_)
          first | have tz817 := i_addT hz817 (rfl : x815.toInt = x815.toInt) (rfl : y816.toInt = y816.toInt) (by omega) (by omega) | skip
          refine w_put hM hW FP_X6_17 lb_127 (by omega) (Or.inl ⟨_, rfl⟩) rfl rfl dX6_shorten_25 (fun g818 H locs hW e1 e2 => ?_)
          have f819 : fld g818 127 2 = .int z817 := e1
          have hG := hG.put e1 e2 (rfl : rF 127 2 = (-2147483648, 2147483647)) (by decide) (by have := i_rng z817; omega) (by have := i_rng z817; omega)
          refine q_iinc (lv9 := fun z820 => [(2, .int z820), (0, .ref (ad 127)), (1, .int li)]) hM dX6_shorten_28 hl (kq := 2) rfl (by decide) (fun _ => rfl) (fun z820 ls hz820 hl => ?_)
          first | have tz820 := i_addT hz820 (rfl : w2_2.toInt = w2_2.toInt) (kc_1 : (Int32.ofInt 1).toInt = 1) (by omega) (by omega) | skip
          refine q_goto (tgt := 2) hM dX6_shorten_31 (by decide) ?_
          exact ih2 z820 _ _ _ _ (by omega) hG (by omega) (lv_sub hl [1, 2, 0] rfl) hW
  have := kc_0
  exact L2 _ (0 : Int32) _ _ _ _ (Nat.lt_succ_self _) hG (by omega) (lv_sub hl [1, 2, 0] rfl) hW
