theorem dX11_lowestBit_0 : decode cX11_lowestBit 0 = .ok (.iload_n 0, 1) := by decide +kernel
theorem dX11_lowestBit_1 : decode cX11_lowestBit 1 = .ok (.iload_n 0, 1) := by decide +kernel
theorem dX11_lowestBit_2 : decode cX11_lowestBit 2 = .ok (.ineg, 1) := by decide +kernel
theorem dX11_lowestBit_3 : decode cX11_lowestBit 3 = .ok (.iand, 1) := by decide +kernel
theorem dX11_lowestBit_4 : decode cX11_lowestBit 4 = .ok (.ireturn, 1) := by decide +kernel
set_option maxRecDepth 100000 in
set_option maxHeartbeats 4000000 in
theorem a_X11_lowestBit (l : Launch) (D : va_G) (cA : Nat → ClassId) (ad : Nat → Nat) (g0 : Nat → va_E) (b : Int32) (hSh : Shp ad cA g0) (hG : Rng g0) : CT l NN ad cA D yX11_lowestBit cX11_lowestBit 1 (some FieldType.int) (0, 0) [.int b] g0 (PU g0 (fun r => True)) := by
  refine q_enterI (by decide) (Nat.le_of_ble_eq_true rfl) rfl (fun K H locs ls _ _ hM hW0 hR hC hE hl => ?_)
  have hl : lv_has ls 1 [(0, .int b)] := hl
  have hW : WS ad cA (fun i k => False) g0 K g0 H locs := ⟨hW0, hSh, FR.rf⟩
  refine q_iload_n hM dX11_lowestBit_0 (lv_at hl 0 rfl) ?_
  refine q_iload_n hM dX11_lowestBit_1 (lv_at hl 0 rfl) ?_
  refine q_ineg hM dX11_lowestBit_2 (fun z40 hz40 => ?_)
  refine q_iand hM dX11_lowestBit_3 (fun z41 hz41 => ?_)
  exact hE _ _ _ _ _ _ hW.1 ⟨_, rfl, (by trivial), rfl⟩ dX11_lowestBit_4

theorem dX11_tenths_0 : decode cX11_tenths 0 = .ok (.iload_n 0, 1) := by decide +kernel
theorem dX11_tenths_1 : decode cX11_tenths 1 = .ok (.bipush 9, 2) := by decide +kernel
theorem dX11_tenths_3 : decode cX11_tenths 3 = .ok (.iadd, 1) := by decide +kernel
theorem dX11_tenths_4 : decode cX11_tenths 4 = .ok (.bipush 10, 2) := by decide +kernel
theorem dX11_tenths_6 : decode cX11_tenths 6 = .ok (.idiv, 1) := by decide +kernel
theorem dX11_tenths_7 : decode cX11_tenths 7 = .ok (.ireturn, 1) := by decide +kernel
set_option maxRecDepth 100000 in
set_option maxHeartbeats 4000000 in
theorem a_X11_tenths (l : Launch) (D : va_G) (cA : Nat → ClassId) (ad : Nat → Nat) (g0 : Nat → va_E) (b : Int32) (hSh : Shp ad cA g0) (hG : Rng g0) : CT l NN ad cA D yX11_tenths cX11_tenths 1 (some FieldType.int) (0, 0) [.int b] g0 (PU g0 (fun r => True)) := by
  refine q_enterI (by decide) (Nat.le_of_ble_eq_true rfl) rfl (fun K H locs ls _ _ hM hW0 hR hC hE hl => ?_)
  have hl : lv_has ls 1 [(0, .int b)] := hl
  have hW : WS ad cA (fun i k => False) g0 K g0 H locs := ⟨hW0, hSh, FR.rf⟩
  refine q_iload_n hM dX11_tenths_0 (lv_at hl 0 rfl) ?_
  refine q_bipush (v := (9 : Int32)) hM dX11_tenths_1 (by decide) ?_
  refine q_iadd hM dX11_tenths_3 (fun z42 hz42 => ?_)
  first | have tz42 := i_addT hz42 (rfl : b.toInt = b.toInt) (kc_9 : (9 : Int32).toInt = 9) (by omega) (by omega) | skip
  refine q_bipush (v := (10 : Int32)) hM dX11_tenths_4 (by decide) ?_
  refine q_idiv hM (by decide) dX11_tenths_6 (fun z43 hz43 => ?_)
  first | have tz43 := i_divT hz43 (rfl : z42.toInt = z42.toInt) (kc_10 : (10 : Int32).toInt = 10) (by omega) (by omega) | skip
  exact hE _ _ _ _ _ _ hW.1 ⟨_, rfl, (by trivial), rfl⟩ dX11_tenths_7

theorem dX9_power_0 : decode cX9_power 0 = .ok (.iconst 1, 1) := by decide +kernel
theorem dX9_power_1 : decode cX9_power 1 = .ok (.istore_n 2, 1) := by decide +kernel
theorem dX9_power_2 : decode cX9_power 2 = .ok (.iconst 0, 1) := by decide +kernel
theorem dX9_power_3 : decode cX9_power 3 = .ok (.istore_n 3, 1) := by decide +kernel
theorem dX9_power_4 : decode cX9_power 4 = .ok (.iload_n 3, 1) := by decide +kernel
theorem dX9_power_5 : decode cX9_power 5 = .ok (.iload_n 1, 1) := by decide +kernel
theorem dX9_power_6 : decode cX9_power 6 = .ok (.if_icmp .ge 13, 3) := by decide +kernel
theorem dX9_power_9 : decode cX9_power 9 = .ok (.iload_n 2, 1) := by decide +kernel
theorem dX9_power_10 : decode cX9_power 10 = .ok (.iload_n 0, 1) := by decide +kernel
theorem dX9_power_11 : decode cX9_power 11 = .ok (.imul, 1) := by decide +kernel
theorem dX9_power_12 : decode cX9_power 12 = .ok (.istore_n 2, 1) := by decide +kernel
theorem dX9_power_13 : decode cX9_power 13 = .ok (.iinc 3 1, 3) := by decide +kernel
theorem dX9_power_16 : decode cX9_power 16 = .ok (.goto (-12), 3) := by decide +kernel
theorem dX9_power_19 : decode cX9_power 19 = .ok (.iload_n 2, 1) := by decide +kernel
theorem dX9_power_20 : decode cX9_power 20 = .ok (.ireturn, 1) := by decide +kernel
set_option maxRecDepth 100000 in
set_option maxHeartbeats 4000000 in
theorem a_X9_power (l : Launch) (D : va_G) (cA : Nat → ClassId) (ad : Nat → Nat) (g0 : Nat → va_E) (b : Int32) (n : Int32) (hSh : Shp ad cA g0) (hG : Rng g0) : CT l NN ad cA D yX9_power cX9_power 4 (some FieldType.int) (0, 0) [.int b, .int n] g0 (PU g0 (fun r => True)) := by
  refine q_enterI (by decide) (Nat.le_of_ble_eq_true rfl) rfl (fun K H locs ls _ _ hM hW0 hR hC hE hl => ?_)
  have hl : lv_has ls 4 [(0, .int b), (1, .int n)] := hl
  have hW : WS ad cA (fun i k => False) g0 K g0 H locs := ⟨hW0, hSh, FR.rf⟩
  refine q_iconst (v := (1 : Int32)) hM dX9_power_0 (by decide) ?_
  refine q_istore_n (lv9 := [(2, .int (1 : Int32)), (0, .int b), (1, .int n)]) hM dX9_power_1 hl (by decide) rfl (fun ls hl => ?_)
  refine q_iconst (v := (0 : Int32)) hM dX9_power_2 (by decide) ?_
  refine q_istore_n (lv9 := [(3, .int (0 : Int32)), (2, .int (1 : Int32)), (0, .int b), (1, .int n)]) hM dX9_power_3 hl (by decide) rfl (fun ls hl => ?_)
  have L4 : ∀ (fu4 : Nat) (w4_2 : Int32) (w4_3 : Int32) (H : Heap) (locs : List Loc) (ls : Array Slot), (n.toInt - w4_3.toInt + 1).toNat < fu4 → (0 ≤ w4_3.toInt) → lv_has ls 4 [(0, .int b), (1, .int n), (2, .int w4_2), (3, .int w4_3)] → WS ad cA (fun i k => False) g0 K g0 H locs → XX K 0 0 H locs 4 ls [] := by
    intro fu4
    induction fu4 with
    | zero => intro w4_2 w4_3 H locs ls h0; omega
    | succ fu4 ih4 =>
      intro w4_2 w4_3 H locs ls hm4 i4_0 hl hW
      have := i_rng n
      refine q_iload_n hM dX9_power_4 (lv_at hl 3 rfl) ?_
      refine q_iload_n hM dX9_power_5 (lv_at hl 1 rfl) ?_
      refine q_icmp_ge (tgt := 19) hM dX9_power_6 (by decide) (rfl : w4_3.toInt = w4_3.toInt) (rfl : n.toInt = n.toInt) (fun h6 => ?_) (fun h6 => ?_)
      · refine q_iload_n hM dX9_power_19 (lv_at hl 2 rfl) ?_
        exact hE _ _ _ _ _ _ hW.1 ⟨_, rfl, (by trivial), rfl⟩ dX9_power_20
      · refine q_iload_n hM dX9_power_9 (lv_at hl 2 rfl) ?_
        refine q_iload_n hM dX9_power_10 (lv_at hl 0 rfl) ?_
        refine q_imul hM dX9_power_11 (fun z47 hz47 => ?_)
        first | have tz47 := i_mulT hz47 (rfl : w4_2.toInt = w4_2.toInt) (rfl : b.toInt = b.toInt) (by omega) (by omega) | skip
        refine q_istore_n (lv9 := [(2, .int z47), (0, .int b), (1, .int n), (3, .int w4_3)]) hM dX9_power_12 hl (by decide) rfl (fun ls hl => ?_)
        refine q_iinc (lv9 := fun z48 => [(3, .int z48), (2, .int z47), (0, .int b), (1, .int n)]) hM dX9_power_13 hl (kq := 3) rfl (by decide) (fun _ => rfl) (fun z48 ls hz48 hl => ?_)
        first | have tz48 := i_addT hz48 (rfl : w4_3.toInt = w4_3.toInt) (kc_1 : (Int32.ofInt 1).toInt = 1) (by omega) (by omega) | skip
        refine q_goto (tgt := 4) hM dX9_power_16 (by decide) ?_
        exact ih4 z47 z48 _ _ _ (by omega) (by omega) (lv_sub hl [2, 3, 1, 0] rfl) hW
  have := kc_1
  have := kc_0
  exact L4 _ (1 : Int32) (0 : Int32) _ _ _ (Nat.lt_succ_self _) (by omega) (lv_sub hl [2, 3, 1, 0] rfl) hW

theorem dX7_known_0 : decode cX7_known 0 = .ok (.iconst 0, 1) := by decide +kernel
theorem dX7_known_1 : decode cX7_known 1 = .ok (.istore_n 2, 1) := by decide +kernel
theorem dX7_known_2 : decode cX7_known 2 = .ok (.iconst 0, 1) := by decide +kernel
theorem dX7_known_3 : decode cX7_known 3 = .ok (.istore_n 3, 1) := by decide +kernel
theorem dX7_known_4 : decode cX7_known 4 = .ok (.iload_n 3, 1) := by decide +kernel
theorem dX7_known_5 : decode cX7_known 5 = .ok (.bipush 12, 2) := by decide +kernel
theorem dX7_known_7 : decode cX7_known 7 = .ok (.if_icmp .ge 26, 3) := by decide +kernel
theorem dX7_known_10 : decode cX7_known 10 = .ok (.aload_n 0, 1) := by decide +kernel
theorem dX7_known_11 : decode cX7_known 11 = .ok (.getfield 20, 3) := by decide +kernel
theorem dX7_known_14 : decode cX7_known 14 = .ok (.iload_n 1, 1) := by decide +kernel
theorem dX7_known_15 : decode cX7_known 15 = .ok (.aaload, 1) := by decide +kernel
theorem dX7_known_16 : decode cX7_known 16 = .ok (.iload_n 3, 1) := by decide +kernel
theorem dX7_known_17 : decode cX7_known 17 = .ok (.iaload, 1) := by decide +kernel
theorem dX7_known_18 : decode cX7_known 18 = .ok (.ifCond .le 9, 3) := by decide +kernel
theorem dX7_known_21 : decode cX7_known 21 = .ok (.iload_n 2, 1) := by decide +kernel
theorem dX7_known_22 : decode cX7_known 22 = .ok (.iconst 1, 1) := by decide +kernel
theorem dX7_known_23 : decode cX7_known 23 = .ok (.iload_n 3, 1) := by decide +kernel
theorem dX7_known_24 : decode cX7_known 24 = .ok (.ishl, 1) := by decide +kernel
theorem dX7_known_25 : decode cX7_known 25 = .ok (.ior, 1) := by decide +kernel
theorem dX7_known_26 : decode cX7_known 26 = .ok (.istore_n 2, 1) := by decide +kernel
theorem dX7_known_27 : decode cX7_known 27 = .ok (.iinc 3 1, 3) := by decide +kernel
theorem dX7_known_30 : decode cX7_known 30 = .ok (.goto (-26), 3) := by decide +kernel
theorem dX7_known_33 : decode cX7_known 33 = .ok (.iload_n 2, 1) := by decide +kernel
theorem dX7_known_34 : decode cX7_known 34 = .ok (.ireturn, 1) := by decide +kernel
theorem FG_X7_20 : FG RX7 20 7 8 2 := ⟨RX7, TX7, rfl, wX7, by decide, kAW (v_0_5 (List.mem_of_getElem? (i := 1) rfl)) rfl, rfl⟩
set_option maxRecDepth 100000 in
set_option maxHeartbeats 4000000 in
theorem a_X7_known (l : Launch) (D : va_G) (cA : Nat → ClassId) (ad : Nat → Nat) (g0 : Nat → va_E) (pb : Nat) (p : Int32) (hSh : Shp ad cA g0) (hG : Rng g0) (hpb : isPb pb) (p0 : 0 ≤ p.toInt) (p7 : p.toInt < 8) : CT l NN ad cA D yX7_known cX7_known 4 (some FieldType.int) (0, 0) [.ref (ad pb), .int p] g0 (PU g0 (fun r => True)) := by
  refine q_enterI (by decide) (Nat.le_of_ble_eq_true rfl) rfl (fun K H locs ls _ _ hM hW0 hR hC hE hl => ?_)
  have hl : lv_has ls 4 [(0, .ref (ad pb)), (1, .int p)] := hl
  have hW : WS ad cA (fun i k => False) g0 K g0 H locs := ⟨hW0, hSh, FR.rf⟩
  have upb := hpb
  unfold isPb at upb
  refine q_iconst (v := (0 : Int32)) hM dX7_known_0 (by decide) ?_
  refine q_istore_n (lv9 := [(2, .int (0 : Int32)), (0, .ref (ad pb)), (1, .int p)]) hM dX7_known_1 hl (by decide) rfl (fun ls hl => ?_)
  refine q_iconst (v := (0 : Int32)) hM dX7_known_2 (by decide) ?_
  refine q_istore_n (lv9 := [(3, .int (0 : Int32)), (2, .int (0 : Int32)), (0, .ref (ad pb)), (1, .int p)]) hM dX7_known_3 hl (by decide) rfl (fun ls hl => ?_)
  have L4 : ∀ (fu4 : Nat) (w4_2 : Int32) (w4_3 : Int32) (H : Heap) (locs : List Loc) (ls : Array Slot), (12 - w4_3.toInt).toNat < fu4 → (0 ≤ w4_3.toInt) → (w4_3.toInt ≤ 12) → lv_has ls 4 [(0, .ref (ad pb)), (1, .int p), (2, .int w4_2), (3, .int w4_3)] → WS ad cA (fun i k => False) g0 K g0 H locs → XX K 0 0 H locs 4 ls [] := by
    intro fu4
    induction fu4 with
    | zero => intro w4_2 w4_3 H locs ls h0; omega
    | succ fu4 ih4 =>
      intro w4_2 w4_3 H locs ls hm4 i4_0 i4_1 hl hW
      refine q_iload_n hM dX7_known_4 (lv_at hl 3 rfl) ?_
      refine q_bipush (v := (12 : Int32)) hM dX7_known_5 (by decide) ?_
      refine q_icmp_ge (tgt := 33) hM dX7_known_7 (by decide) (rfl : w4_3.toInt = w4_3.toInt) (kc_12 : (12 : Int32).toInt = 12) (fun h7 => ?_) (fun h7 => ?_)
      · refine q_iload_n hM dX7_known_33 (lv_at hl 2 rfl) ?_
        exact hE _ _ _ _ _ _ hW.1 ⟨_, rfl, (by trivial), rfl⟩ dX7_known_34
      · refine q_aload_n hM dX7_known_10 (lv_at hl 0 rfl) ?_
        refine w_get (v := .ref (ad (pb + 3))) hM hW FG_X7_20 (lo_Pb hpb) (rf_Pb_2 hpb hW.2.1) dX7_known_11 ?_
        refine q_iload_n hM dX7_known_14 (lv_at hl 1 rfl) ?_
        refine w_aald hM hW (la_Pb_2 hpb) (Or.inl rfl) (i_in (by omega) (by omega)) (aq_Pb hpb hW.2.1 (by omega) (by omega)) dX7_known_15 ?_
        refine q_iload_n hM dX7_known_16 (lv_at hl 3 rfl) ?_
        refine w_iald hM hW (lr_Pb hpb (by omega)) (i_in (by omega) (by omega)) dX7_known_17 ?_
        refine q_top (fun y52 hy52 => ?_)
        refine q_if_le (tgt := 27) hM dX7_known_18 (by decide) (rfl : y52.toInt = y52.toInt) (fun h18 => ?_) (fun h18 => ?_)
        · refine q_iinc (lv9 := fun z54 => [(3, .int z54), (0, .ref (ad pb)), (1, .int p), (2, .int w4_2)]) hM dX7_known_27 hl (kq := 3) rfl (by decide) (fun _ => rfl) (fun z54 ls hz54 hl => ?_)
          first | have tz54 := i_addT hz54 (rfl : w4_3.toInt = w4_3.toInt) (kc_1 : (Int32.ofInt 1).toInt = 1) (by omega) (by omega) | skip
          refine q_goto (tgt := 4) hM dX7_known_30 (by decide) ?_
          exact ih4 w4_2 z54 _ _ _ (by omega) (by omega) (by omega) (lv_sub hl [1, 2, 3, 0] rfl) hW
        · refine q_iload_n hM dX7_known_21 (lv_at hl 2 rfl) ?_
          refine q_iconst (v := (1 : Int32)) hM dX7_known_22 (by decide) ?_
          refine q_iload_n hM dX7_known_23 (lv_at hl 3 rfl) ?_
          refine q_ishl hM dX7_known_24 (fun z56 hz56 => ?_)
          refine q_ior hM dX7_known_25 (fun z57 hz57 => ?_)
          refine q_istore_n (lv9 := [(2, .int z57), (0, .ref (ad pb)), (1, .int p), (3, .int w4_3)]) hM dX7_known_26 hl (by decide) rfl (fun ls hl => ?_)
          refine q_iinc (lv9 := fun z58 => [(3, .int z58), (2, .int z57), (0, .ref (ad pb)), (1, .int p)]) hM dX7_known_27 hl (kq := 3) rfl (by decide) (fun _ => rfl) (fun z58 ls hz58 hl => ?_)
          first | have tz58 := i_addT hz58 (rfl : w4_3.toInt = w4_3.toInt) (kc_1 : (Int32.ofInt 1).toInt = 1) (by omega) (by omega) | skip
          refine q_goto (tgt := 4) hM dX7_known_30 (by decide) ?_
          exact ih4 z57 z58 _ _ _ (by omega) (by omega) (by omega) (lv_sub hl [2, 3, 1, 0] rfl) hW
  have := kc_0
  have := kc_0
  exact L4 _ (0 : Int32) (0 : Int32) _ _ _ (Nat.lt_succ_self _) (by omega) (by omega) (lv_sub hl [2, 3, 1, 0] rfl) hW

theorem dX7_strongest_0 : decode cX7_strongest 0 = .ok (.bipush (-2), 2) := by decide +kernel
theorem dX7_strongest_2 : decode cX7_strongest 2 = .ok (.istore_n 2, 1) := by decide +kernel
theorem dX7_strongest_3 : decode cX7_strongest 3 = .ok (.iconst 0, 1) := by decide +kernel
theorem dX7_strongest_4 : decode cX7_strongest 4 = .ok (.istore_n 3, 1) := by decide +kernel
theorem dX7_strongest_5 : decode cX7_strongest 5 = .ok (.iconst 0, 1) := by decide +kernel
theorem dX7_strongest_6 : decode cX7_strongest 6 = .ok (.istore 4, 2) := by decide +kernel
theorem dX7_strongest_8 : decode cX7_strongest 8 = .ok (.iload 4, 2) := by decide +kernel
theorem dX7_strongest_10 : decode cX7_strongest 10 = .ok (.bipush 12, 2) := by decide +kernel
theorem dX7_strongest_12 : decode cX7_strongest 12 = .ok (.if_icmp .ge 35, 3) := by decide +kernel
theorem dX7_strongest_15 : decode cX7_strongest 15 = .ok (.aload_n 0, 1) := by decide +kernel
theorem dX7_strongest_16 : decode cX7_strongest 16 = .ok (.getfield 20, 3) := by decide +kernel
theorem dX7_strongest_19 : decode cX7_strongest 19 = .ok (.iload_n 1, 1) := by decide +kernel
theorem dX7_strongest_20 : decode cX7_strongest 20 = .ok (.aaload, 1) := by decide +kernel
theorem dX7_strongest_21 : decode cX7_strongest 21 = .ok (.iload 4, 2) := by decide +kernel
theorem dX7_strongest_23 : decode cX7_strongest 23 = .ok (.iaload, 1) := by decide +kernel
theorem dX7_strongest_24 : decode cX7_strongest 24 = .ok (.iload_n 3, 1) := by decide +kernel
theorem dX7_strongest_25 : decode cX7_strongest 25 = .ok (.if_icmp .le 16, 3) := by decide +kernel
theorem dX7_strongest_28 : decode cX7_strongest 28 = .ok (.aload_n 0, 1) := by decide +kernel
theorem dX7_strongest_29 : decode cX7_strongest 29 = .ok (.getfield 20, 3) := by decide +kernel
theorem dX7_strongest_32 : decode cX7_strongest 32 = .ok (.iload_n 1, 1) := by decide +kernel
theorem dX7_strongest_33 : decode cX7_strongest 33 = .ok (.aaload, 1) := by decide +kernel
theorem dX7_strongest_34 : decode cX7_strongest 34 = .ok (.iload 4, 2) := by decide +kernel
theorem dX7_strongest_36 : decode cX7_strongest 36 = .ok (.iaload, 1) := by decide +kernel
theorem dX7_strongest_37 : decode cX7_strongest 37 = .ok (.istore_n 3, 1) := by decide +kernel
theorem dX7_strongest_38 : decode cX7_strongest 38 = .ok (.iload 4, 2) := by decide +kernel
theorem dX7_strongest_40 : decode cX7_strongest 40 = .ok (.istore_n 2, 1) := by decide +kernel
theorem dX7_strongest_41 : decode cX7_strongest 41 = .ok (.iinc 4 1, 3) := by decide +kernel
theorem dX7_strongest_44 : decode cX7_strongest 44 = .ok (.goto (-36), 3) := by decide +kernel
theorem dX7_strongest_47 : decode cX7_strongest 47 = .ok (.iload_n 2, 1) := by decide +kernel
theorem dX7_strongest_48 : decode cX7_strongest 48 = .ok (.ireturn, 1) := by decide +kernel
set_option maxRecDepth 100000 in
set_option maxHeartbeats 4000000 in
theorem a_X7_strongest (l : Launch) (D : va_G) (cA : Nat → ClassId) (ad : Nat → Nat) (g0 : Nat → va_E) (pb : Nat) (p : Int32) (hSh : Shp ad cA g0) (hG : Rng g0) (hpb : isPb pb) (p0 : 0 ≤ p.toInt) (p7 : p.toInt < 8) : CT l NN ad cA D yX7_strongest cX7_strongest 5 (some FieldType.int) (0, 0) [.ref (ad pb), .int p] g0 (PU g0 (fun r => True)) := by
  refine q_enterI (by decide) (Nat.le_of_ble_eq_true rfl) rfl (fun K H locs ls _ _ hM hW0 hR hC hE hl => ?_)
  have hl : lv_has ls 5 [(0, .ref (ad pb)), (1, .int p)] := hl
  have hW : WS ad cA (fun i k => False) g0 K g0 H locs := ⟨hW0, hSh, FR.rf⟩
  have upb := hpb
  unfold isPb at upb
  refine q_bipush (v := ((-2) : Int32)) hM dX7_strongest_0 (by decide) ?_
  refine q_istore_n (lv9 := [(2, .int ((-2) : Int32)), (0, .ref (ad pb)), (1, .int p)]) hM dX7_strongest_2 hl (by decide) rfl (fun ls hl => ?_)
  refine q_iconst (v := (0 : Int32)) hM dX7_strongest_3 (by decide) ?_
  refine q_istore_n (lv9 := [(3, .int (0 : Int32)), (2, .int ((-2) : Int32)), (0, .ref (ad pb)), (1, .int p)]) hM dX7_strongest_4 hl (by decide) rfl (fun ls hl => ?_)
  refine q_iconst (v := (0 : Int32)) hM dX7_strongest_5 (by decide) ?_
  refine q_istore (lv9 := [(4, .int (0 : Int32)), (3, .int (0 : Int32)), (2, .int ((-2) : Int32)), (0, .ref (ad pb)), (1, .int p)]) hM dX7_strongest_6 hl (by decide) rfl (fun ls hl => ?_)
  have L8 : ∀ (fu8 : Nat) (w8_3 : Int32) (w8_2 : Int32) (w8_4 : Int32) (H : Heap) (locs : List Loc) (ls : Array Slot), (12 - w8_4.toInt).toNat < fu8 → (0 ≤ w8_4.toInt) → (w8_4.toInt ≤ 12) → lv_has ls 5 [(0, .ref (ad pb)), (1, .int p), (2, .int w8_2), (3, .int w8_3), (4, .int w8_4)] → WS ad cA (fun i k => False) g0 K g0 H locs → XX K 0 0 H locs 8 ls [] := by
    intro fu8
    induction fu8 with
    | zero => intro w8_3 w8_2 w8_4 H locs ls h0; omega
    | succ fu8 ih8 =>
      intro w8_3 w8_2 w8_4 H locs ls hm8 i8_0 i8_1 hl hW
      refine q_iload hM dX7_strongest_8 (lv_at hl 4 rfl) ?_
      refine q_bipush (v := (12 : Int32)) hM dX7_strongest_10 (by decide) ?_
      refine q_icmp_ge (tgt := 47) hM dX7_strongest_12 (by decide) (rfl : w8_4.toInt = w8_4.toInt) (kc_12 : (12 : Int32).toInt = 12) (fun h12 => ?_) (fun h12 => ?_)
      · refine q_iload_n hM dX7_strongest_47 (lv_at hl 2 rfl) ?_
        exact hE _ _ _ _ _ _ hW.1 ⟨_, rfl, (by trivial), rfl⟩ dX7_strongest_48
      · refine q_aload_n hM dX7_strongest_15 (lv_at hl 0 rfl) ?_
        refine w_get (v := .ref (ad (pb + 3))) hM hW FG_X7_20 (lo_Pb hpb) (rf_Pb_2 hpb hW.2.1) dX7_strongest_16 ?_
        refine q_iload_n hM dX7_strongest_19 (lv_at hl 1 rfl) ?_
        refine w_aald hM hW (la_Pb_2 hpb) (Or.inl rfl) (i_in (by omega) (by omega)) (aq_Pb hpb hW.2.1 (by omega) (by omega)) dX7_strongest_20 ?_
        refine q_iload hM dX7_strongest_21 (lv_at hl 4 rfl) ?_
        refine w_iald hM hW (lr_Pb hpb (by omega)) (i_in (by omega) (by omega)) dX7_strongest_23 ?_
        refine q_top (fun y62 hy62 => ?_)
        refine q_iload_n hM dX7_strongest_24 (lv_at hl 3 rfl) ?_
        refine q_icmp_le (tgt := 41) hM dX7_strongest_25 (by decide) (rfl : y62.toInt = y62.toInt) (rfl : w8_3.toInt = w8_3.toInt) (fun h25 => ?_) (fun h25 => ?_)
        · refine q_iinc (lv9 := fun z64 => [(4, .int z64), (0, .ref (ad pb)), (1, .int p), (2, .int w8_2), (3, .int w8_3)]) hM dX7_strongest_41 hl (kq := 4) rfl (by decide) (fun _ => rfl) (fun z64 ls hz64 hl => ?_)
          first | have tz64 := i_addT hz64 (rfl : w8_4.toInt = w8_4.toInt) (kc_1 : (Int32.ofInt 1).toInt = 1) (by omega) (by omega) | skip
          refine q_goto (tgt := 8) hM dX7_strongest_44 (by decide) ?_
          exact ih8 w8_3 w8_2 z64 _ _ _ (by omega) (by omega) (by omega) (lv_sub hl [1, 2, 3, 4, 0] rfl) hW
        · refine q_aload_n hM dX7_strongest_28 (lv_at hl 0 rfl) ?_
          refine w_get (v := .ref (ad (pb + 3))) hM hW FG_X7_20 (lo_Pb hpb) (rf_Pb_2 hpb hW.2.1) dX7_strongest_29 ?_
          refine q_iload_n hM dX7_strongest_32 (lv_at hl 1 rfl) ?_
          refine w_aald hM hW (la_Pb_2 hpb) (Or.inl rfl) (i_in (by omega) (by omega)) (aq_Pb hpb hW.2.1 (by omega) (by omega)) dX7_strongest_33 ?_
          refine q_iload hM dX7_strongest_34 (lv_at hl 4 rfl) ?_
          refine w_iald hM hW (lr_Pb hpb (by omega)) (i_in (by omega) (by omega)) dX7_strongest_36 ?_
          refine q_top (fun y66 hy66 => ?_)
          refine q_istore_n (lv9 := [(3, .int y66), (0, .ref (ad pb)), (1, .int p), (2, .int w8_2), (4, .int w8_4)]) hM dX7_strongest_37 hl (by decide) rfl (fun ls hl => ?_)
          refine q_iload hM dX7_strongest_38 (lv_at hl 4 rfl) ?_
          refine q_istore_n (lv9 := [(2, .int w8_4), (3, .int y66), (0, .ref (ad pb)), (1, .int p), (4, .int w8_4)]) hM dX7_strongest_40 hl (by decide) rfl (fun ls hl => ?_)
          refine q_iinc (lv9 := fun z67 => [(4, .int z67), (2, .int w8_4), (3, .int y66), (0, .ref (ad pb)), (1, .int p)]) hM dX7_strongest_41 hl (kq := 4) rfl (by decide) (fun _ => rfl) (fun z67 ls hz67 hl => ?_)
          first | have tz67 := i_addT hz67 (rfl : w8_4.toInt = w8_4.toInt) (kc_1 : (Int32.ofInt 1).toInt = 1) (by omega) (by omega) | skip
          refine q_goto (tgt := 8) hM dX7_strongest_44 (by decide) ?_
          exact ih8 y66 w8_4 z67 _ _ _ (by omega) (by omega) (by omega) (lv_sub hl [3, 4, 1, 2, 0] rfl) hW
  have := kc_0
  have := kc_m2
  have := kc_0
  exact L8 _ (0 : Int32) ((-2) : Int32) (0 : Int32) _ _ _ (Nat.lt_succ_self _) (by omega) (by omega) (lv_sub hl [3, 4, 2, 1, 0] rfl) hW

theorem dX7_together_0 : decode cX7_together 0 = .ok (.iconst 0, 1) := by decide +kernel
theorem dX7_together_1 : decode cX7_together 1 = .ok (.istore_n 2, 1) := by decide +kernel
theorem dX7_together_2 : decode cX7_together 2 = .ok (.iconst 0, 1) := by decide +kernel
theorem dX7_together_3 : decode cX7_together 3 = .ok (.istore_n 3, 1) := by decide +kernel
theorem dX7_together_4 : decode cX7_together 4 = .ok (.iload_n 3, 1) := by decide +kernel
theorem dX7_together_5 : decode cX7_together 5 = .ok (.bipush 12, 2) := by decide +kernel
theorem dX7_together_7 : decode cX7_together 7 = .ok (.if_icmp .ge 20, 3) := by decide +kernel
theorem dX7_together_10 : decode cX7_together 10 = .ok (.iload_n 2, 1) := by decide +kernel
theorem dX7_together_11 : decode cX7_together 11 = .ok (.aload_n 0, 1) := by decide +kernel
theorem dX7_together_12 : decode cX7_together 12 = .ok (.getfield 20, 3) := by decide +kernel
theorem dX7_together_15 : decode cX7_together 15 = .ok (.iload_n 1, 1) := by decide +kernel
theorem dX7_together_16 : decode cX7_together 16 = .ok (.aaload, 1) := by decide +kernel
theorem dX7_together_17 : decode cX7_together 17 = .ok (.iload_n 3, 1) := by decide +kernel
theorem dX7_together_18 : decode cX7_together 18 = .ok (.iaload, 1) := by decide +kernel
theorem dX7_together_19 : decode cX7_together 19 = .ok (.iadd, 1) := by decide +kernel
theorem dX7_together_20 : decode cX7_together 20 = .ok (.istore_n 2, 1) := by decide +kernel
theorem dX7_together_21 : decode cX7_together 21 = .ok (.iinc 3 1, 3) := by decide +kernel
theorem dX7_together_24 : decode cX7_together 24 = .ok (.goto (-20), 3) := by decide +kernel
theorem dX7_together_27 : decode cX7_together 27 = .ok (.iload_n 2, 1) := by decide +kernel
theorem dX7_together_28 : decode cX7_together 28 = .ok (.ireturn, 1) := by decide +kernel
set_option maxRecDepth 100000 in
set_option maxHeartbeats 4000000 in
theorem a_X7_together (l : Launch) (D : va_G) (cA : Nat → ClassId) (ad : Nat → Nat) (g0 : Nat → va_E) (pb : Nat) (p : Int32) (hSh : Shp ad cA g0) (hG : Rng g0) (hpb : isPb pb) (p0 : 0 ≤ p.toInt) (p7 : p.toInt < 8) : CT l NN ad cA D yX7_together cX7_together 4 (some FieldType.int) (0, 0) [.ref (ad pb), .int p] g0 (PU g0 (fun r => True)) := by
  refine q_enterI (by decide) (Nat.le_of_ble_eq_true rfl) rfl (fun K H locs ls _ _ hM hW0 hR hC hE hl => ?_)
  have hl : lv_has ls 4 [(0, .ref (ad pb)), (1, .int p)] := hl
  have hW : WS ad cA (fun i k => False) g0 K g0 H locs := ⟨hW0, hSh, FR.rf⟩
  have upb := hpb
  unfold isPb at upb
  refine q_iconst (v := (0 : Int32)) hM dX7_together_0 (by decide) ?_
  refine q_istore_n (lv9 := [(2, .int (0 : Int32)), (0, .ref (ad pb)), (1, .int p)]) hM dX7_together_1 hl (by decide) rfl (fun ls hl => ?_)
  refine q_iconst (v := (0 : Int32)) hM dX7_together_2 (by decide) ?_
  refine q_istore_n (lv9 := [(3, .int (0 : Int32)), (2, .int (0 : Int32)), (0, .ref (ad pb)), (1, .int p)]) hM dX7_together_3 hl (by decide) rfl (fun ls hl => ?_)
  have L4 : ∀ (fu4 : Nat) (w4_2 : Int32) (w4_3 : Int32) (H : Heap) (locs : List Loc) (ls : Array Slot), (12 - w4_3.toInt).toNat < fu4 → (0 ≤ w4_3.toInt) → (w4_3.toInt ≤ 12) → lv_has ls 4 [(0, .ref (ad pb)), (1, .int p), (2, .int w4_2), (3, .int w4_3)] → WS ad cA (fun i k => False) g0 K g0 H locs → XX K 0 0 H locs 4 ls [] := by
    intro fu4
    induction fu4 with
    | zero => intro w4_2 w4_3 H locs ls h0; omega
    | succ fu4 ih4 =>
      intro w4_2 w4_3 H locs ls hm4 i4_0 i4_1 hl hW
      refine q_iload_n hM dX7_together_4 (lv_at hl 3 rfl) ?_
      refine q_bipush (v := (12 : Int32)) hM dX7_together_5 (by decide) ?_
      refine q_icmp_ge (tgt := 27) hM dX7_together_7 (by decide) (rfl : w4_3.toInt = w4_3.toInt) (kc_12 : (12 : Int32).toInt = 12) (fun h7 => ?_) (fun h7 => ?_)
      · refine q_iload_n hM dX7_together_27 (lv_at hl 2 rfl) ?_
        exact hE _ _ _ _ _ _ hW.1 ⟨_, rfl, (by trivial), rfl⟩ dX7_together_28
      · refine q_iload_n hM dX7_together_10 (lv_at hl 2 rfl) ?_
        refine q_aload_n hM dX7_together_11 (lv_at hl 0 rfl) ?_
        refine w_get (v := .ref (ad (pb + 3))) hM hW FG_X7_20 (lo_Pb hpb) (rf_Pb_2 hpb hW.2.1) dX7_together_12 ?_
        refine q_iload_n hM dX7_together_15 (lv_at hl 1 rfl) ?_
        refine w_aald hM hW (la_Pb_2 hpb) (Or.inl rfl) (i_in (by omega) (by omega)) (aq_Pb hpb hW.2.1 (by omega) (by omega)) dX7_together_16 ?_
        refine q_iload_n hM dX7_together_17 (lv_at hl 3 rfl) ?_
        refine w_iald hM hW (lr_Pb hpb (by omega)) (i_in (by omega) (by omega)) dX7_together_18 ?_
        refine q_top (fun y71 hy71 => ?_)
        refine q_iadd hM dX7_together_19 (fun z72 hz72 => ?_)
        first | have tz72 := i_addT hz72 (rfl : w4_2.toInt = w4_2.toInt) (rfl : y71.toInt = y71.toInt) (by omega) (by omega) | skip
        refine q_istore_n (lv9 := [(2, .int z72), (0, .ref (ad pb)), (1, .int p), (3, .int w4_3)]) hM dX7_together_20 hl (by decide) rfl (fun ls hl => ?_)
        refine q_iinc (lv9 := fun z73 => [(3, .int z73), (2, .int z72), (0, .ref (ad pb)), (1, .int p)]) hM dX7_together_21 hl (kq := 3) rfl (by decide) (fun _ => rfl) (fun z73 ls hz73 hl => ?_)
        first | have tz73 := i_addT hz73 (rfl : w4_3.toInt = w4_3.toInt) (kc_1 : (Int32.ofInt 1).toInt = 1) (by omega) (by omega) | skip
        refine q_goto (tgt := 4) hM dX7_together_24 (by decide) ?_
        exact ih4 z72 z73 _ _ _ (by omega) (by omega) (by omega) (lv_sub hl [2, 3, 1, 0] rfl) hW
  have := kc_0
  have := kc_0
  exact L4 _ (0 : Int32) (0 : Int32) _ _ _ (Nat.lt_succ_self _) (by omega) (by omega) (lv_sub hl [2, 3, 1, 0] rfl) hW

theorem dX7_knowing_0 : decode cX7_knowing 0 = .ok (.iconst 0, 1) := by decide +kernel
theorem dX7_knowing_1 : decode cX7_knowing 1 = .ok (.istore_n 2, 1) := by decide +kernel
theorem dX7_knowing_2 : decode cX7_knowing 2 = .ok (.iconst 0, 1) := by decide +kernel
theorem dX7_knowing_3 : decode cX7_knowing 3 = .ok (.istore_n 3, 1) := by decide +kernel
theorem dX7_knowing_4 : decode cX7_knowing 4 = .ok (.iload_n 3, 1) := by decide +kernel
theorem dX7_knowing_5 : decode cX7_knowing 5 = .ok (.bipush 8, 2) := by decide +kernel
theorem dX7_knowing_7 : decode cX7_knowing 7 = .ok (.if_icmp .ge 34, 3) := by decide +kernel
theorem dX7_knowing_10 : decode cX7_knowing 10 = .ok (.aload_n 0, 1) := by decide +kernel
theorem dX7_knowing_11 : decode cX7_knowing 11 = .ok (.getfield 23, 3) := by decide +kernel
theorem dX7_knowing_14 : decode cX7_knowing 14 = .ok (.iload_n 3, 1) := by decide +kernel
theorem dX7_knowing_15 : decode cX7_knowing 15 = .ok (.invokestatic 39, 3) := by decide +kernel
theorem dX7_knowing_18 : decode cX7_knowing 18 = .ok (.ifCond .eq 17, 3) := by decide +kernel
theorem dX7_knowing_21 : decode cX7_knowing 21 = .ok (.aload_n 0, 1) := by decide +kernel
theorem dX7_knowing_22 : decode cX7_knowing 22 = .ok (.getfield 20, 3) := by decide +kernel
theorem dX7_knowing_25 : decode cX7_knowing 25 = .ok (.iload_n 3, 1) := by decide +kernel
theorem dX7_knowing_26 : decode cX7_knowing 26 = .ok (.aaload, 1) := by decide +kernel
theorem dX7_knowing_27 : decode cX7_knowing 27 = .ok (.iload_n 1, 1) := by decide +kernel
theorem dX7_knowing_28 : decode cX7_knowing 28 = .ok (.iaload, 1) := by decide +kernel
theorem dX7_knowing_29 : decode cX7_knowing 29 = .ok (.ifCond .le 6, 3) := by decide +kernel
theorem dX7_knowing_32 : decode cX7_knowing 32 = .ok (.iinc 2 1, 3) := by decide +kernel
theorem dX7_knowing_35 : decode cX7_knowing 35 = .ok (.iinc 3 1, 3) := by decide +kernel
theorem dX7_knowing_38 : decode cX7_knowing 38 = .ok (.goto (-34), 3) := by decide +kernel
theorem dX7_knowing_41 : decode cX7_knowing 41 = .ok (.iload_n 2, 1) := by decide +kernel
theorem dX7_knowing_42 : decode cX7_knowing 42 = .ok (.ireturn, 1) := by decide +kernel
theorem FG_X7_23 : FG RX7 23 7 8 3 := ⟨RX7, TX7, rfl, wX7, by decide, kAW (v_0_5 (List.mem_of_getElem? (i := 5) rfl)) rfl, rfl⟩
theorem myX11_has : MS yX11_has cX11_has 2 (some FieldType.boolean) 2 := ⟨kAW (v_1_10 (List.mem_of_getElem? (i := 10) rfl)) rfl, kAW (v_0_0 (List.mem_of_getElem? (i := 1) rfl)) rfl, kAW (v_1_10 (List.mem_of_getElem? (i := 9) rfl)) rfl, by decide, by decide, by decide +kernel⟩
set_option maxRecDepth 100000 in
set_option maxHeartbeats 4000000 in
theorem a_X7_knowing (l : Launch) (D : va_G) (cA : Nat → ClassId) (ad : Nat → Nat) (g0 : Nat → va_E) (pb : Nat) (i : Int32) (hSh : Shp ad cA g0) (hG : Rng g0) (hpb : isPb pb) (i0 : 0 ≤ i.toInt) (i12 : i.toInt < 12) : CT l NN ad cA D yX7_knowing cX7_knowing 4 (some FieldType.int) (1, 21) [.ref (ad pb), .int i] g0 (PU g0 (fun r => True)) := by
  refine q_enterI (by decide) (Nat.le_of_ble_eq_true rfl) rfl (fun K H locs ls _ _ hM hW0 hR hC hE hl => ?_)
  have hl : lv_has ls 4 [(0, .ref (ad pb)), (1, .int i)] := hl
  have hW : WS ad cA (fun i k => False) g0 K g0 H locs := ⟨hW0, hSh, FR.rf⟩
  have upb := hpb
  unfold isPb at upb
  refine q_iconst (v := (0 : Int32)) hM dX7_knowing_0 (by decide) ?_
  refine q_istore_n (lv9 := [(2, .int (0 : Int32)), (0, .ref (ad pb)), (1, .int i)]) hM dX7_knowing_1 hl (by decide) rfl (fun ls hl => ?_)
  refine q_iconst (v := (0 : Int32)) hM dX7_knowing_2 (by decide) ?_
  refine q_istore_n (lv9 := [(3, .int (0 : Int32)), (2, .int (0 : Int32)), (0, .ref (ad pb)), (1, .int i)]) hM dX7_knowing_3 hl (by decide) rfl (fun ls hl => ?_)
  have L4 : ∀ (fu4 : Nat) (w4_2 : Int32) (w4_3 : Int32) (H : Heap) (locs : List Loc) (ls : Array Slot), (8 - w4_3.toInt).toNat < fu4 → (0 ≤ w4_3.toInt) → (w4_3.toInt ≤ 8) → lv_has ls 4 [(0, .ref (ad pb)), (1, .int i), (2, .int w4_2), (3, .int w4_3)] → WS ad cA (fun i k => False) g0 K g0 H locs → XX K 0 0 H locs 4 ls [] := by
    intro fu4
    induction fu4 with
    | zero => intro w4_2 w4_3 H locs ls h0; omega
    | succ fu4 ih4 =>
      intro w4_2 w4_3 H locs ls hm4 i4_0 i4_1 hl hW
      refine q_iload_n hM dX7_knowing_4 (lv_at hl 3 rfl) ?_
      refine q_bipush (v := (8 : Int32)) hM dX7_knowing_5 (by decide) ?_
      refine q_icmp_ge (tgt := 41) hM dX7_knowing_7 (by decide) (rfl : w4_3.toInt = w4_3.toInt) (kc_8 : (8 : Int32).toInt = 8) (fun h7 => ?_) (fun h7 => ?_)
      · refine q_iload_n hM dX7_knowing_41 (lv_at hl 2 rfl) ?_
        exact hE _ _ _ _ _ _ hW.1 ⟨_, rfl, (by trivial), rfl⟩ dX7_knowing_42
      · refine q_aload_n hM dX7_knowing_10 (lv_at hl 0 rfl) ?_
        refine w_getI hM hW FG_X7_23 (lo_Pb hpb) (by decide) (by decide) dX7_knowing_11 (fun x77 fx77 => ?_)
        have bx77 := hG.f fx77 (rF_Pb_3 hpb) (by decide)
        refine q_iload_n hM dX7_knowing_14 (lv_at hl 3 rfl) ?_
        refine q_callN (host := "ForgetSchool") (As := [.int x77, .int w4_3]) (rest := []) hM hW.1 hR hC myX11_has (List.mem_of_getElem? (i := 5) rfl) (c_X11_has _ _ cA ad g0 x77 w4_3 hW.2.1) ⟨by decide, by decide⟩ rfl rfl hl.1 (Nat.le_of_ble_eq_true rfl) dX7_knowing_15 (fun v g79 H locs hp hW1 => ?_)
        obtain ⟨r78, rfl, hr78, rfl⟩ := hp
        have hW : WS ad cA (fun i k => False) g0 K g0 H locs := ⟨hW1, hW.2.1, hW.2.2⟩
        refine q_if_eq (tgt := 35) hM dX7_knowing_18 (by decide) (rfl : r78.toInt = r78.toInt) (fun h18 => ?_) (fun h18 => ?_)
        · refine q_iinc (lv9 := fun z81 => [(3, .int z81), (0, .ref (ad pb)), (1, .int i), (2, .int w4_2)]) hM dX7_knowing_35 hl (kq := 3) rfl (by decide) (fun _ => rfl) (fun z81 ls hz81 hl => ?_)
          first | have tz81 := i_addT hz81 (rfl : w4_3.toInt = w4_3.toInt) (kc_1 : (Int32.ofInt 1).toInt = 1) (by omega) (by omega) | skip
          refine q_goto (tgt := 4) hM dX7_knowing_38 (by decide) ?_
          exact ih4 w4_2 z81 _ _ _ (by omega) (by omega) (by omega) (lv_sub hl [1, 2, 3, 0] rfl) hW
        · refine q_aload_n hM dX7_knowing_21 (lv_at hl 0 rfl) ?_
          refine w_get (v := .ref (ad (pb + 3))) hM hW FG_X7_20 (lo_Pb hpb) (rf_Pb_2 hpb hW.2.1) dX7_knowing_22 ?_
          refine q_iload_n hM dX7_knowing_25 (lv_at hl 3 rfl) ?_
          refine w_aald hM hW (la_Pb_2 hpb) (Or.inl rfl) (i_in (by omega) (by omega)) (aq_Pb hpb hW.2.1 (by omega) (by omega)) dX7_knowing_26 ?_
          refine q_iload_n hM dX7_knowing_27 (lv_at hl 1 rfl) ?_
          refine w_iald hM hW (lr_Pb hpb (by omega)) (i_in (by omega) (by omega)) dX7_knowing_28 ?_
          refine q_top (fun y83 hy83 => ?_)
          refine q_if_le (tgt := 35) hM dX7_knowing_29 (by decide) (rfl : y83.toInt = y83.toInt) (fun h29 => ?_) (fun h29 => ?_)
          · refine q_iinc (lv9 := fun z85 => [(3, .int z85), (0, .ref (ad pb)), (1, .int i), (2, .int w4_2)]) hM dX7_knowing_35 hl (kq := 3) rfl (by decide) (fun _ => rfl) (fun z85 ls hz85 hl => ?_)
            first | have tz85 := i_addT hz85 (rfl : w4_3.toInt = w4_3.toInt) (kc_1 : (Int32.ofInt 1).toInt = 1) (by omega) (by omega) | skip
            refine q_goto (tgt := 4) hM dX7_knowing_38 (by decide) ?_
            exact ih4 w4_2 z85 _ _ _ (by omega) (by omega) (by omega) (lv_sub hl [1, 2, 3, 0] rfl) hW
          · refine q_iinc (lv9 := fun z87 => [(2, .int z87), (0, .ref (ad pb)), (1, .int i), (3, .int w4_3)]) hM dX7_knowing_32 hl (kq := 2) rfl (by decide) (fun _ => rfl) (fun z87 ls hz87 hl => ?_)
            first | have tz87 := i_addT hz87 (rfl : w4_2.toInt = w4_2.toInt) (kc_1 : (Int32.ofInt 1).toInt = 1) (by omega) (by omega) | skip
            refine q_iinc (lv9 := fun z88 => [(3, .int z88), (2, .int z87), (0, .ref (ad pb)), (1, .int i)]) hM dX7_knowing_35 hl (kq := 3) rfl (by decide) (fun _ => rfl) (fun z88 ls hz88 hl => ?_)
            first | have tz88 := i_addT hz88 (rfl : w4_3.toInt = w4_3.toInt) (kc_1 : (Int32.ofInt 1).toInt = 1) (by omega) (by omega) | skip
            refine q_goto (tgt := 4) hM dX7_knowing_38 (by decide) ?_
            exact ih4 z87 z88 _ _ _ (by omega) (by omega) (by omega) (lv_sub hl [2, 3, 1, 0] rfl) hW
  have := kc_0
  have := kc_0
  exact L4 _ (0 : Int32) (0 : Int32) _ _ _ (Nat.lt_succ_self _) (by omega) (by omega) (lv_sub hl [2, 3, 1, 0] rfl) hW

theorem dX7_apart_0 : decode cX7_apart 0 = .ok (.iconst 0, 1) := by decide +kernel
theorem dX7_apart_1 : decode cX7_apart 1 = .ok (.istore_n 3, 1) := by decide +kernel
theorem dX7_apart_2 : decode cX7_apart 2 = .ok (.iload_n 3, 1) := by decide +kernel
theorem dX7_apart_3 : decode cX7_apart 3 = .ok (.bipush 8, 2) := by decide +kernel
theorem dX7_apart_5 : decode cX7_apart 5 = .ok (.if_icmp .ge 63, 3) := by decide +kernel
theorem dX7_apart_8 : decode cX7_apart 8 = .ok (.iload_n 3, 1) := by decide +kernel
theorem dX7_apart_9 : decode cX7_apart 9 = .ok (.iconst 1, 1) := by decide +kernel
theorem dX7_apart_10 : decode cX7_apart 10 = .ok (.iadd, 1) := by decide +kernel
theorem dX7_apart_11 : decode cX7_apart 11 = .ok (.istore 4, 2) := by decide +kernel
theorem dX7_apart_13 : decode cX7_apart 13 = .ok (.iload 4, 2) := by decide +kernel
theorem dX7_apart_15 : decode cX7_apart 15 = .ok (.bipush 8, 2) := by decide +kernel
theorem dX7_apart_17 : decode cX7_apart 17 = .ok (.if_icmp .ge 45, 3) := by decide +kernel
theorem dX7_apart_20 : decode cX7_apart 20 = .ok (.iload_n 1, 1) := by decide +kernel
theorem dX7_apart_21 : decode cX7_apart 21 = .ok (.iload_n 3, 1) := by decide +kernel
theorem dX7_apart_22 : decode cX7_apart 22 = .ok (.invokestatic 39, 3) := by decide +kernel
theorem dX7_apart_25 : decode cX7_apart 25 = .ok (.ifCond .eq 31, 3) := by decide +kernel
theorem dX7_apart_28 : decode cX7_apart 28 = .ok (.iload_n 1, 1) := by decide +kernel
theorem dX7_apart_29 : decode cX7_apart 29 = .ok (.iload 4, 2) := by decide +kernel
theorem dX7_apart_31 : decode cX7_apart 31 = .ok (.invokestatic 39, 3) := by decide +kernel
theorem dX7_apart_34 : decode cX7_apart 34 = .ok (.ifCond .eq 22, 3) := by decide +kernel
theorem dX7_apart_37 : decode cX7_apart 37 = .ok (.aload_n 0, 1) := by decide +kernel
theorem dX7_apart_38 : decode cX7_apart 38 = .ok (.iload_n 3, 1) := by decide +kernel
theorem dX7_apart_39 : decode cX7_apart 39 = .ok (.invokevirtual 43, 3) := by decide +kernel
theorem dX7_apart_42 : decode cX7_apart 42 = .ok (.aload_n 0, 1) := by decide +kernel
theorem dX7_apart_43 : decode cX7_apart 43 = .ok (.iload 4, 2) := by decide +kernel
theorem dX7_apart_45 : decode cX7_apart 45 = .ok (.invokevirtual 43, 3) := by decide +kernel
theorem dX7_apart_48 : decode cX7_apart 48 = .ok (.ixor, 1) := by decide +kernel
theorem dX7_apart_49 : decode cX7_apart 49 = .ok (.iload_n 2, 1) := by decide +kernel
theorem dX7_apart_50 : decode cX7_apart 50 = .ok (.iand, 1) := by decide +kernel
theorem dX7_apart_51 : decode cX7_apart 51 = .ok (.ifCond .ne 5, 3) := by decide +kernel
theorem dX7_apart_54 : decode cX7_apart 54 = .ok (.iconst 0, 1) := by decide +kernel
theorem dX7_apart_55 : decode cX7_apart 55 = .ok (.ireturn, 1) := by decide +kernel
theorem dX7_apart_56 : decode cX7_apart 56 = .ok (.iinc 4 1, 3) := by decide +kernel
theorem dX7_apart_59 : decode cX7_apart 59 = .ok (.goto (-46), 3) := by decide +kernel
theorem dX7_apart_62 : decode cX7_apart 62 = .ok (.iinc 3 1, 3) := by decide +kernel
theorem dX7_apart_65 : decode cX7_apart 65 = .ok (.goto (-63), 3) := by decide +kernel
theorem dX7_apart_68 : decode cX7_apart 68 = .ok (.iconst 1, 1) := by decide +kernel
theorem dX7_apart_69 : decode cX7_apart 69 = .ok (.ireturn, 1) := by decide +kernel
theorem myX7_known : MI yX7_known cX7_known 4 (some FieldType.int) 1 := ⟨kAW (v_2_11 (List.mem_of_getElem? (i := 3) rfl)) rfl, kAW (v_0_0 (List.mem_of_getElem? (i := 4) rfl)) rfl, kAW (v_2_11 (List.mem_of_getElem? (i := 1) rfl)) rfl, kAW (v_2_11 (List.mem_of_getElem? (i := 2) rfl)) rfl, by decide, by decide, by decide +kernel⟩
set_option maxRecDepth 100000 in
set_option maxHeartbeats 4000000 in
theorem a_X7_apart (l : Launch) (D : va_G) (cA : Nat → ClassId) (ad : Nat → Nat) (g0 : Nat → va_E) (pb : Nat) (so : Int32) (fa : Int32) (hSh : Shp ad cA g0) (hG : Rng g0) (hpb : isPb pb) : CT l NN ad cA D yX7_apart cX7_apart 5 (some FieldType.boolean) (1, 23) [.ref (ad pb), .int so, .int fa] g0 (PU g0 (fun r => r.toInt = 0 ∨ r.toInt = 1)) := by
  refine q_enterZ (by decide) (Nat.le_of_ble_eq_true rfl) (fun K H locs ls _ _ hM hW0 hR hC hE hl => ?_)
  have hl : lv_has ls 5 [(0, .ref (ad pb)), (1, .int so), (2, .int fa)] := hl
  have hW : WS ad cA (fun i k => False) g0 K g0 H locs := ⟨hW0, hSh, FR.rf⟩
  have upb := hpb
  unfold isPb at upb
  refine q_iconst (v := (0 : Int32)) hM dX7_apart_0 (by decide) ?_
  refine q_istore_n (lv9 := [(3, .int (0 : Int32)), (0, .ref (ad pb)), (1, .int so), (2, .int fa)]) hM dX7_apart_1 hl (by decide) rfl (fun ls hl => ?_)
  have L2 : ∀ (fu2 : Nat) (w2_3 : Int32) (H : Heap) (locs : List Loc) (ls : Array Slot), (8 - w2_3.toInt).toNat < fu2 → (0 ≤ w2_3.toInt) → (w2_3.toInt ≤ 8) → lv_has ls 5 [(0, .ref (ad pb)), (1, .int so), (2, .int fa), (3, .int w2_3)] → WS ad cA (fun i k => False) g0 K g0 H locs → XX K 0 0 H locs 2 ls [] := by
    intro fu2
    induction fu2 with
    | zero => intro w2_3 H locs ls h0; omega
    | succ fu2 ih2 =>
      intro w2_3 H locs ls hm2 i2_0 i2_1 hl hW
      refine q_iload_n hM dX7_apart_2 (lv_at hl 3 rfl) ?_
      refine q_bipush (v := (8 : Int32)) hM dX7_apart_3 (by decide) ?_
      refine q_icmp_ge (tgt := 68) hM dX7_apart_5 (by decide) (rfl : w2_3.toInt = w2_3.toInt) (kc_8 : (8 : Int32).toInt = 8) (fun h5 => ?_) (fun h5 => ?_)
      · refine q_iconst (v := (1 : Int32)) hM dX7_apart_68 (by decide) ?_
        exact hE _ _ _ _ _ _ hW.1 nz_1 ⟨_, rfl, (by have := kc_1; omega), rfl⟩ dX7_apart_69
      · refine q_iload_n hM dX7_apart_8 (lv_at hl 3 rfl) ?_
        refine q_iconst (v := (1 : Int32)) hM dX7_apart_9 (by decide) ?_
        refine q_iadd hM dX7_apart_10 (fun z92 hz92 => ?_)
        first | have tz92 := i_addT hz92 (rfl : w2_3.toInt = w2_3.toInt) (kc_1 : (1 : Int32).toInt = 1) (by omega) (by omega) | skip
        refine q_istore (lv9 := [(4, .int z92), (0, .ref (ad pb)), (1, .int so), (2, .int fa), (3, .int w2_3)]) hM dX7_apart_11 hl (by decide) rfl (fun ls hl => ?_)
        have L13 : ∀ (fu13 : Nat) (w13_4 : Int32) (H : Heap) (locs : List Loc) (ls : Array Slot), (8 - w13_4.toInt).toNat < fu13 → (z92.toInt ≤ w13_4.toInt) → (w13_4.toInt ≤ 8) → lv_has ls 5 [(0, .ref (ad pb)), (1, .int so), (2, .int fa), (3, .int w2_3), (4, .int w13_4)] → WS ad cA (fun i k => False) g0 K g0 H locs → XX K 0 0 H locs 13 ls [] := by
          intro fu13
          induction fu13 with
          | zero => intro w13_4 H locs ls h0; omega
          | succ fu13 ih13 =>
            intro w13_4 H locs ls hm13 i13_0 i13_1 hl hW
            refine q_iload hM dX7_apart_13 (lv_at hl 4 rfl) ?_
            refine q_bipush (v := (8 : Int32)) hM dX7_apart_15 (by decide) ?_
            refine q_icmp_ge (tgt := 62) hM dX7_apart_17 (by decide) (rfl : w13_4.toInt = w13_4.toInt) (kc_8 : (8 : Int32).toInt = 8) (fun h17 => ?_) (fun h17 => ?_)
            · refine q_iinc (lv9 := fun z95 => [(3, .int z95), (0, .ref (ad pb)), (1, .int so), (2, .int fa), (4, .int w13_4)]) hM dX7_apart_62 hl (kq := 3) rfl (by decide) (fun _ => rfl) (fun z95 ls hz95 hl => ?_)
              first | have tz95 := i_addT hz95 (rfl : w2_3.toInt = w2_3.toInt) (kc_1 : (Int32.ofInt 1).toInt = 1) (by omega) (by omega) | skip
              refine q_goto (tgt := 2) hM dX7_apart_65 (by decide) ?_
              exact ih2 z95 _ _ _ (by omega) (by omega) (by omega) (lv_sub hl [1, 2, 3, 0] rfl) hW
            · refine q_iload_n hM dX7_apart_20 (lv_at hl 1 rfl) ?_
              refine q_iload_n hM dX7_apart_21 (lv_at hl 3 rfl) ?_
              refine q_callN (host := "ForgetSchool") (As := [.int so, .int w2_3]) (rest := []) hM hW.1 hR hC myX11_has (List.mem_of_getElem? (i := 5) rfl) (c_X11_has _ _ cA ad g0 so w2_3 hW.2.1) ⟨by decide, by decide⟩ rfl rfl hl.1 (Nat.le_of_ble_eq_true rfl) dX7_apart_22 (fun v g98 H locs hp hW1 => ?_)
              obtain ⟨r97, rfl, hr97, rfl⟩ := hp
              have hW : WS ad cA (fun i k => False) g0 K g0 H locs := ⟨hW1, hW.2.1, hW.2.2⟩
              refine q_if_eq (tgt := 56) hM dX7_apart_25 (by decide) (rfl : r97.toInt = r97.toInt) (fun h25 => ?_) (fun h25 => ?_)
              · refine q_iinc (lv9 := fun z100 => [(4, .int z100), (0, .ref (ad pb)), (1, .int so), (2, .int fa), (3, .int w2_3)]) hM dX7_apart_56 hl (kq := 4) rfl (by decide) (fun _ => rfl) (fun z100 ls hz100 hl => ?_)
                first | have tz100 := i_addT hz100 (rfl : w13_4.toInt = w13_4.toInt) (kc_1 : (Int32.ofInt 1).toInt = 1) (by omega) (by omega) | skip
                refine q_goto (tgt := 13) hM dX7_apart_59 (by decide) ?_
                exact ih13 z100 _ _ _ (by omega) (by omega) (by omega) (lv_sub hl [1, 2, 3, 4, 0] rfl) hW
              · refine q_iload_n hM dX7_apart_28 (lv_at hl 1 rfl) ?_
                refine q_iload hM dX7_apart_29 (lv_at hl 4 rfl) ?_
                refine q_callN (host := "ForgetSchool") (As := [.int so, .int w13_4]) (rest := []) hM hW.1 hR hC myX11_has (List.mem_of_getElem? (i := 5) rfl) (c_X11_has _ _ cA ad g0 so w13_4 hW.2.1) ⟨by decide, by decide⟩ rfl rfl hl.1 (Nat.le_of_ble_eq_true rfl) dX7_apart_31 (fun v g103 H locs hp hW1 => ?_)
                obtain ⟨r102, rfl, hr102, rfl⟩ := hp
                have hW : WS ad cA (fun i k => False) g0 K g0 H locs := ⟨hW1, hW.2.1, hW.2.2⟩
                refine q_if_eq (tgt := 56) hM dX7_apart_34 (by decide) (rfl : r102.toInt = r102.toInt) (fun h34 => ?_) (fun h34 => ?_)
                · refine q_iinc (lv9 := fun z105 => [(4, .int z105), (0, .ref (ad pb)), (1, .int so), (2, .int fa), (3, .int w2_3)]) hM dX7_apart_56 hl (kq := 4) rfl (by decide) (fun _ => rfl) (fun z105 ls hz105 hl => ?_)
                  first | have tz105 := i_addT hz105 (rfl : w13_4.toInt = w13_4.toInt) (kc_1 : (Int32.ofInt 1).toInt = 1) (by omega) (by omega) | skip
                  refine q_goto (tgt := 13) hM dX7_apart_59 (by decide) ?_
                  exact ih13 z105 _ _ _ (by omega) (by omega) (by omega) (lv_sub hl [1, 2, 3, 4, 0] rfl) hW
                · refine q_aload_n hM dX7_apart_37 (lv_at hl 0 rfl) ?_
                  refine q_iload_n hM dX7_apart_38 (lv_at hl 3 rfl) ?_
                  refine q_callV (As := [.int w2_3]) (rest := []) hM hW.1 hR hC myX7_known (kAW (v_3_10 (List.mem_of_getElem? (i := 10) rfl)) rfl) (rfl : vwCl[7]? = some (RX7, TX7, 8)) rfl (lo_Pb hpb).1 (shO hW.2.1 (lo_Pb hpb)) (a_X7_known _ _ cA ad g0 pb w2_3 hW.2.1 hG hpb (by  omega) (by  omega)) ⟨by decide, by decide⟩ rfl rfl hl.1 (Nat.le_of_ble_eq_true rfl) dX7_apart_39 (fun v g108 H locs hp hW1 => ?_)
                  obtain ⟨r107, rfl, hr107, rfl⟩ := hp
                  have hW : WS ad cA (fun i k => False) g0 K g0 H locs := ⟨hW1, hW.2.1, hW.2.2⟩
                  refine q_aload_n hM dX7_apart_42 (lv_at hl 0 rfl) ?_
                  refine q_iload hM dX7_apart_43 (lv_at hl 4 rfl) ?_
                  refine q_callV (As := [.int w13_4]) (rest := [.int r107]) hM hW.1 hR hC myX7_known (kAW (v_3_10 (List.mem_of_getElem? (i := 10) rfl)) rfl) (rfl : vwCl[7]? = some (RX7, TX7, 8)) rfl (lo_Pb hpb).1 (shO hW.2.1 (lo_Pb hpb)) (a_X7_known _ _ cA ad g0 pb w13_4 hW.2.1 hG hpb (by  omega) (by  omega)) ⟨by decide, by decide⟩ rfl rfl hl.1 (Nat.le_of_ble_eq_true rfl) dX7_apart_45 (fun v g110 H locs hp hW1 => ?_)
                  obtain ⟨r109, rfl, hr109, rfl⟩ := hp
                  have hW : WS ad cA (fun i k => False) g0 K g0 H locs := ⟨hW1, hW.2.1, hW.2.2⟩
                  refine q_ixor hM dX7_apart_48 (fun z111 hz111 => ?_)
                  refine q_iload_n hM dX7_apart_49 (lv_at hl 2 rfl) ?_
                  refine q_iand hM dX7_apart_50 (fun z112 hz112 => ?_)
                  refine q_if_ne (tgt := 56) hM dX7_apart_51 (by decide) (rfl : z112.toInt = z112.toInt) (fun h51 => ?_) (fun h51 => ?_)
                  · refine q_iinc (lv9 := fun z114 => [(4, .int z114), (0, .ref (ad pb)), (1, .int so), (2, .int fa), (3, .int w2_3)]) hM dX7_apart_56 hl (kq := 4) rfl (by decide) (fun _ => rfl) (fun z114 ls hz114 hl => ?_)
                    first | have tz114 := i_addT hz114 (rfl : w13_4.toInt = w13_4.toInt) (kc_1 : (Int32.ofInt 1).toInt = 1) (by omega) (by omega) | skip
                    refine q_goto (tgt := 13) hM dX7_apart_59 (by decide) ?_
                    exact ih13 z114 _ _ _ (by omega) (by omega) (by omega) (lv_sub hl [1, 2, 3, 4, 0] rfl) hW
                  · refine q_iconst (v := (0 : Int32)) hM dX7_apart_54 (by decide) ?_
                    exact hE _ _ _ _ _ _ hW.1 nz_0 ⟨_, rfl, (by have := kc_0; omega), rfl⟩ dX7_apart_55
        exact L13 _ z92 _ _ _ (Nat.lt_succ_self _) (by omega) (by omega) (lv_sub hl [1, 2, 3, 4, 0] rfl) hW
  have := kc_0
  exact L2 _ (0 : Int32) _ _ _ (Nat.lt_succ_self _) (by omega) (by omega) (lv_sub hl [1, 2, 3, 0] rfl) hW

theorem dX5_linked_0 : decode cX5_linked 0 = .ok (.iconst 0, 1) := by decide +kernel
theorem dX5_linked_1 : decode cX5_linked 1 = .ok (.istore_n 2, 1) := by decide +kernel
theorem dX5_linked_2 : decode cX5_linked 2 = .ok (.iconst 0, 1) := by decide +kernel
theorem dX5_linked_3 : decode cX5_linked 3 = .ok (.istore_n 3, 1) := by decide +kernel
theorem dX5_linked_4 : decode cX5_linked 4 = .ok (.iload_n 3, 1) := by decide +kernel
theorem dX5_linked_5 : decode cX5_linked 5 = .ok (.bipush 12, 2) := by decide +kernel
theorem dX5_linked_7 : decode cX5_linked 7 = .ok (.if_icmp .ge 26, 3) := by decide +kernel
theorem dX5_linked_10 : decode cX5_linked 10 = .ok (.aload_n 0, 1) := by decide +kernel
theorem dX5_linked_11 : decode cX5_linked 11 = .ok (.getfield 17, 3) := by decide +kernel
theorem dX5_linked_14 : decode cX5_linked 14 = .ok (.iload_n 1, 1) := by decide +kernel
theorem dX5_linked_15 : decode cX5_linked 15 = .ok (.aaload, 1) := by decide +kernel
theorem dX5_linked_16 : decode cX5_linked 16 = .ok (.iload_n 3, 1) := by decide +kernel
theorem dX5_linked_17 : decode cX5_linked 17 = .ok (.iaload, 1) := by decide +kernel
theorem dX5_linked_18 : decode cX5_linked 18 = .ok (.ifCond .le 9, 3) := by decide +kernel
theorem dX5_linked_21 : decode cX5_linked 21 = .ok (.iload_n 2, 1) := by decide +kernel
theorem dX5_linked_22 : decode cX5_linked 22 = .ok (.iconst 1, 1) := by decide +kernel
theorem dX5_linked_23 : decode cX5_linked 23 = .ok (.iload_n 3, 1) := by decide +kernel
theorem dX5_linked_24 : decode cX5_linked 24 = .ok (.ishl, 1) := by decide +kernel
theorem dX5_linked_25 : decode cX5_linked 25 = .ok (.ior, 1) := by decide +kernel
theorem dX5_linked_26 : decode cX5_linked 26 = .ok (.istore_n 2, 1) := by decide +kernel
theorem dX5_linked_27 : decode cX5_linked 27 = .ok (.iinc 3 1, 3) := by decide +kernel
theorem dX5_linked_30 : decode cX5_linked 30 = .ok (.goto (-26), 3) := by decide +kernel
theorem dX5_linked_33 : decode cX5_linked 33 = .ok (.iload_n 2, 1) := by decide +kernel
theorem dX5_linked_34 : decode cX5_linked 34 = .ok (.ireturn, 1) := by decide +kernel
theorem FG_X5_17 : FG RX5 17 5 3 1 := ⟨RX5, TX5, rfl, wX5, by decide, kAW (v_0_3 (List.mem_of_getElem? (i := 8) rfl)) rfl, rfl⟩
set_option maxRecDepth 100000 in
set_option maxHeartbeats 4000000 in
theorem a_X5_linked (l : Launch) (D : va_G) (cA : Nat → ClassId) (ad : Nat → Nat) (g0 : Nat → va_E) (i : Int32) (hSh : Shp ad cA g0) (hG : Rng g0) (i0 : 0 ≤ i.toInt) (i12 : i.toInt < 12) : CT l NN ad cA D yX5_linked cX5_linked 4 (some FieldType.int) (0, 0) [.ref (ad 3), .int i] g0 (PU g0 (fun r => True)) := by
  refine q_enterI (by decide) (Nat.le_of_ble_eq_true rfl) rfl (fun K H locs ls _ _ hM hW0 hR hC hE hl => ?_)
  have hl : lv_has ls 4 [(0, .ref (ad 3)), (1, .int i)] := hl
  have hW : WS ad cA (fun i k => False) g0 K g0 H locs := ⟨hW0, hSh, FR.rf⟩
  refine q_iconst (v := (0 : Int32)) hM dX5_linked_0 (by decide) ?_
  refine q_istore_n (lv9 := [(2, .int (0 : Int32)), (0, .ref (ad 3)), (1, .int i)]) hM dX5_linked_1 hl (by decide) rfl (fun ls hl => ?_)
  refine q_iconst (v := (0 : Int32)) hM dX5_linked_2 (by decide) ?_
  refine q_istore_n (lv9 := [(3, .int (0 : Int32)), (2, .int (0 : Int32)), (0, .ref (ad 3)), (1, .int i)]) hM dX5_linked_3 hl (by decide) rfl (fun ls hl => ?_)
  have L4 : ∀ (fu4 : Nat) (w4_2 : Int32) (w4_3 : Int32) (H : Heap) (locs : List Loc) (ls : Array Slot), (12 - w4_3.toInt).toNat < fu4 → (0 ≤ w4_3.toInt) → (w4_3.toInt ≤ 12) → lv_has ls 4 [(0, .ref (ad 3)), (1, .int i), (2, .int w4_2), (3, .int w4_3)] → WS ad cA (fun i k => False) g0 K g0 H locs → XX K 0 0 H locs 4 ls [] := by
    intro fu4
    induction fu4 with
    | zero => intro w4_2 w4_3 H locs ls h0; omega
    | succ fu4 ih4 =>
      intro w4_2 w4_3 H locs ls hm4 i4_0 i4_1 hl hW
      refine q_iload_n hM dX5_linked_4 (lv_at hl 3 rfl) ?_
      refine q_bipush (v := (12 : Int32)) hM dX5_linked_5 (by decide) ?_
      refine q_icmp_ge (tgt := 33) hM dX5_linked_7 (by decide) (rfl : w4_3.toInt = w4_3.toInt) (kc_12 : (12 : Int32).toInt = 12) (fun h7 => ?_) (fun h7 => ?_)
      · refine q_iload_n hM dX5_linked_33 (lv_at hl 2 rfl) ?_
        exact hE _ _ _ _ _ _ hW.1 ⟨_, rfl, (by trivial), rfl⟩ dX5_linked_34
      · refine q_aload_n hM dX5_linked_10 (lv_at hl 0 rfl) ?_
        refine w_get (v := .ref (ad 5)) hM hW FG_X5_17 lb_3 (rf_3_1 hW.2.1) dX5_linked_11 ?_
        refine q_iload_n hM dX5_linked_14 (lv_at hl 1 rfl) ?_
        refine w_aald hM hW lb_5 (Or.inl rfl) (i_in (by omega) (by omega)) (aq (aq_5 hW.2.1) (by omega) (by omega)) dX5_linked_15 ?_
        refine q_iload_n hM dX5_linked_16 (lv_at hl 3 rfl) ?_
        refine w_iald hM hW (lr_6 (by omega)) (i_in (by omega) (by omega)) dX5_linked_17 ?_
        refine q_top (fun y119 hy119 => ?_)
        refine q_if_le (tgt := 27) hM dX5_linked_18 (by decide) (rfl : y119.toInt = y119.toInt) (fun h18 => ?_) (fun h18 => ?_)
        · refine q_iinc (lv9 := fun z121 => [(3, .int z121), (0, .ref (ad 3)), (1, .int i), (2, .int w4_2)]) hM dX5_linked_27 hl (kq := 3) rfl (by decide) (fun _ => rfl) (fun z121 ls hz121 hl => ?_)
          first | have tz121 := i_addT hz121 (rfl : w4_3.toInt = w4_3.toInt) (kc_1 : (Int32.ofInt 1).toInt = 1) (by omega) (by omega) | skip
          refine q_goto (tgt := 4) hM dX5_linked_30 (by decide) ?_
          exact ih4 w4_2 z121 _ _ _ (by omega) (by omega) (by omega) (lv_sub hl [1, 2, 3, 0] rfl) hW
        · refine q_iload_n hM dX5_linked_21 (lv_at hl 2 rfl) ?_
          refine q_iconst (v := (1 : Int32)) hM dX5_linked_22 (by decide) ?_
          refine q_iload_n hM dX5_linked_23 (lv_at hl 3 rfl) ?_
          refine q_ishl hM dX5_linked_24 (fun z123 hz123 => ?_)
          refine q_ior hM dX5_linked_25 (fun z124 hz124 => ?_)
          refine q_istore_n (lv9 := [(2, .int z124), (0, .ref (ad 3)), (1, .int i), (3, .int w4_3)]) hM dX5_linked_26 hl (by decide) rfl (fun ls hl => ?_)
          refine q_iinc (lv9 := fun z125 => [(3, .int z125), (2, .int z124), (0, .ref (ad 3)), (1, .int i)]) hM dX5_linked_27 hl (kq := 3) rfl (by decide) (fun _ => rfl) (fun z125 ls hz125 hl => ?_)
          first | have tz125 := i_addT hz125 (rfl : w4_3.toInt = w4_3.toInt) (kc_1 : (Int32.ofInt 1).toInt = 1) (by omega) (by omega) | skip
          refine q_goto (tgt := 4) hM dX5_linked_30 (by decide) ?_
          exact ih4 z124 z125 _ _ _ (by omega) (by omega) (by omega) (lv_sub hl [2, 3, 1, 0] rfl) hW
  have := kc_0
  have := kc_0
  exact L4 _ (0 : Int32) (0 : Int32) _ _ _ (Nat.lt_succ_self _) (by omega) (by omega) (lv_sub hl [2, 3, 1, 0] rfl) hW

theorem dX5_between_0 : decode cX5_between 0 = .ok (.aload_n 0, 1) := by decide +kernel
theorem dX5_between_1 : decode cX5_between 1 = .ok (.getfield 17, 3) := by decide +kernel
theorem dX5_between_4 : decode cX5_between 4 = .ok (.iload_n 1, 1) := by decide +kernel
theorem dX5_between_5 : decode cX5_between 5 = .ok (.aaload, 1) := by decide +kernel
theorem dX5_between_6 : decode cX5_between 6 = .ok (.iload_n 2, 1) := by decide +kernel
theorem dX5_between_7 : decode cX5_between 7 = .ok (.iaload, 1) := by decide +kernel
theorem dX5_between_8 : decode cX5_between 8 = .ok (.iload_n 3, 1) := by decide +kernel
theorem dX5_between_9 : decode cX5_between 9 = .ok (.if_icmp .lt 9, 3) := by decide +kernel
theorem dX5_between_12 : decode cX5_between 12 = .ok (.sipush 4096, 3) := by decide +kernel
theorem dX5_between_15 : decode cX5_between 15 = .ok (.goto 4, 3) := by decide +kernel
theorem dX5_between_18 : decode cX5_between 18 = .ok (.iconst 0, 1) := by decide +kernel
theorem dX5_between_19 : decode cX5_between 19 = .ok (.istore 4, 2) := by decide +kernel
theorem dX5_between_21 : decode cX5_between 21 = .ok (.iconst 0, 1) := by decide +kernel
theorem dX5_between_22 : decode cX5_between 22 = .ok (.istore 5, 2) := by decide +kernel
theorem dX5_between_24 : decode cX5_between 24 = .ok (.iload 5, 2) := by decide +kernel
theorem dX5_between_26 : decode cX5_between 26 = .ok (.bipush 12, 2) := by decide +kernel
theorem dX5_between_28 : decode cX5_between 28 = .ok (.if_icmp .ge 44, 3) := by decide +kernel
theorem dX5_between_31 : decode cX5_between 31 = .ok (.aload_n 0, 1) := by decide +kernel
theorem dX5_between_32 : decode cX5_between 32 = .ok (.getfield 17, 3) := by decide +kernel
theorem dX5_between_35 : decode cX5_between 35 = .ok (.iload_n 1, 1) := by decide +kernel
theorem dX5_between_36 : decode cX5_between 36 = .ok (.aaload, 1) := by decide +kernel
theorem dX5_between_37 : decode cX5_between 37 = .ok (.iload 5, 2) := by decide +kernel
theorem dX5_between_39 : decode cX5_between 39 = .ok (.iaload, 1) := by decide +kernel
theorem dX5_between_40 : decode cX5_between 40 = .ok (.iload_n 3, 1) := by decide +kernel
theorem dX5_between_41 : decode cX5_between 41 = .ok (.if_icmp .lt 25, 3) := by decide +kernel
theorem dX5_between_44 : decode cX5_between 44 = .ok (.aload_n 0, 1) := by decide +kernel
theorem dX5_between_45 : decode cX5_between 45 = .ok (.getfield 17, 3) := by decide +kernel
theorem dX5_between_48 : decode cX5_between 48 = .ok (.iload 5, 2) := by decide +kernel
theorem dX5_between_50 : decode cX5_between 50 = .ok (.aaload, 1) := by decide +kernel
theorem dX5_between_51 : decode cX5_between 51 = .ok (.iload_n 2, 1) := by decide +kernel
theorem dX5_between_52 : decode cX5_between 52 = .ok (.iaload, 1) := by decide +kernel
theorem dX5_between_53 : decode cX5_between 53 = .ok (.iload_n 3, 1) := by decide +kernel
theorem dX5_between_54 : decode cX5_between 54 = .ok (.if_icmp .lt 12, 3) := by decide +kernel
theorem dX5_between_57 : decode cX5_between 57 = .ok (.iload 4, 2) := by decide +kernel
theorem dX5_between_59 : decode cX5_between 59 = .ok (.iconst 1, 1) := by decide +kernel
theorem dX5_between_60 : decode cX5_between 60 = .ok (.iload 5, 2) := by decide +kernel
theorem dX5_between_62 : decode cX5_between 62 = .ok (.ishl, 1) := by decide +kernel
theorem dX5_between_63 : decode cX5_between 63 = .ok (.ior, 1) := by decide +kernel
theorem dX5_between_64 : decode cX5_between 64 = .ok (.istore 4, 2) := by decide +kernel
theorem dX5_between_66 : decode cX5_between 66 = .ok (.iinc 5 1, 3) := by decide +kernel
theorem dX5_between_69 : decode cX5_between 69 = .ok (.goto (-45), 3) := by decide +kernel
theorem dX5_between_72 : decode cX5_between 72 = .ok (.iload 4, 2) := by decide +kernel
theorem dX5_between_74 : decode cX5_between 74 = .ok (.ireturn, 1) := by decide +kernel
set_option maxRecDepth 100000 in
set_option maxHeartbeats 4000000 in
theorem a_X5_between (l : Launch) (D : va_G) (cA : Nat → ClassId) (ad : Nat → Nat) (g0 : Nat → va_E) (i : Int32) (j : Int32) (le : Int32) (hSh : Shp ad cA g0) (hG : Rng g0) (i0 : 0 ≤ i.toInt) (i12 : i.toInt < 12) (j0 : 0 ≤ j.toInt) (j12 : j.toInt < 12) : CT l NN ad cA D yX5_between cX5_between 6 (some FieldType.int) (0, 0) [.ref (ad 3), .int i, .int j, .int le] g0 (PU g0 (fun r => True)) := by
  refine q_enterI (by decide) (Nat.le_of_ble_eq_true rfl) rfl (fun K H locs ls _ _ hM hW0 hR hC hE hl => ?_)
  have hl : lv_has ls 6 [(0, .ref (ad 3)), (1, .int i), (2, .int j), (3, .int le)] := hl
  have hW : WS ad cA (fun i k => False) g0 K g0 H locs := ⟨hW0, hSh, FR.rf⟩
  refine q_aload_n hM dX5_between_0 (lv_at hl 0 rfl) ?_
  refine w_get (v := .ref (ad 5)) hM hW FG_X5_17 lb_3 (rf_3_1 hW.2.1) dX5_between_1 ?_
  refine q_iload_n hM dX5_between_4 (lv_at hl 1 rfl) ?_
  refine w_aald hM hW lb_5 (Or.inl rfl) (i_in (by omega) (by omega)) (aq (aq_5 hW.2.1) (by omega) (by omega)) dX5_between_5 ?_
  refine q_iload_n hM dX5_between_6 (lv_at hl 2 rfl) ?_
  refine w_iald hM hW (lr_6 (by omega)) (i_in (by omega) (by omega)) dX5_between_7 ?_
  refine q_top (fun y126 hy126 => ?_)
  refine q_iload_n hM dX5_between_8 (lv_at hl 3 rfl) ?_
  refine q_icmp_lt (tgt := 18) hM dX5_between_9 (by decide) (rfl : y126.toInt = y126.toInt) (rfl : le.toInt = le.toInt) (fun h9 => ?_) (fun h9 => ?_)
  · refine q_iconst (v := (0 : Int32)) hM dX5_between_18 (by decide) ?_
    refine q_istore (lv9 := [(4, .int (0 : Int32)), (0, .ref (ad 3)), (1, .int i), (2, .int j), (3, .int le)]) hM dX5_between_19 hl (by decide) rfl (fun ls hl => ?_)
    refine q_iconst (v := (0 : Int32)) hM dX5_between_21 (by decide) ?_
    refine q_istore (lv9 := [(5, .int (0 : Int32)), (4, .int (0 : Int32)), (0, .ref (ad 3)), (1, .int i), (2, .int j), (3, .int le)]) hM dX5_between_22 hl (by decide) rfl (fun ls hl => ?_)
    have L24 : ∀ (fu24 : Nat) (w24_4 : Int32) (w24_5 : Int32) (H : Heap) (locs : List Loc) (ls : Array Slot), (12 - w24_5.toInt).toNat < fu24 → (0 ≤ w24_5.toInt) → (w24_5.toInt ≤ 12) → lv_has ls 6 [(0, .ref (ad 3)), (1, .int i), (2, .int j), (3, .int le), (4, .int w24_4), (5, .int w24_5)] → WS ad cA (fun i k => False) g0 K g0 H locs → XX K 0 0 H locs 24 ls [] := by
      intro fu24
      induction fu24 with
      | zero => intro w24_4 w24_5 H locs ls h0; omega
      | succ fu24 ih24 =>
        intro w24_4 w24_5 H locs ls hm24 i24_0 i24_1 hl hW
        refine q_iload hM dX5_between_24 (lv_at hl 5 rfl) ?_
        refine q_bipush (v := (12 : Int32)) hM dX5_between_26 (by decide) ?_
        refine q_icmp_ge (tgt := 72) hM dX5_between_28 (by decide) (rfl : w24_5.toInt = w24_5.toInt) (kc_12 : (12 : Int32).toInt = 12) (fun h28 => ?_) (fun h28 => ?_)
        · refine q_iload hM dX5_between_72 (lv_at hl 4 rfl) ?_
          exact hE _ _ _ _ _ _ hW.1 ⟨_, rfl, (by trivial), rfl⟩ dX5_between_74
        · refine q_aload_n hM dX5_between_31 (lv_at hl 0 rfl) ?_
          refine w_get (v := .ref (ad 5)) hM hW FG_X5_17 lb_3 (rf_3_1 hW.2.1) dX5_between_32 ?_
          refine q_iload_n hM dX5_between_35 (lv_at hl 1 rfl) ?_
          refine w_aald hM hW lb_5 (Or.inl rfl) (i_in (by omega) (by omega)) (aq (aq_5 hW.2.1) (by omega) (by omega)) dX5_between_36 ?_
          refine q_iload hM dX5_between_37 (lv_at hl 5 rfl) ?_
          refine w_iald hM hW (lr_6 (by omega)) (i_in (by omega) (by omega)) dX5_between_39 ?_
          refine q_top (fun y131 hy131 => ?_)
          refine q_iload_n hM dX5_between_40 (lv_at hl 3 rfl) ?_
          refine q_icmp_lt (tgt := 66) hM dX5_between_41 (by decide) (rfl : y131.toInt = y131.toInt) (rfl : le.toInt = le.toInt) (fun h41 => ?_) (fun h41 => ?_)
          · refine q_iinc (lv9 := fun z133 => [(5, .int z133), (0, .ref (ad 3)), (1, .int i), (2, .int j), (3, .int le), (4, .int w24_4)]) hM dX5_between_66 hl (kq := 5) rfl (by decide) (fun _ => rfl) (fun z133 ls hz133 hl => ?_)
            first | have tz133 := i_addT hz133 (rfl : w24_5.toInt = w24_5.toInt) (kc_1 : (Int32.ofInt 1).toInt = 1) (by omega) (by omega) | skip
            refine q_goto (tgt := 24) hM dX5_between_69 (by decide) ?_
            exact ih24 w24_4 z133 _ _ _ (by omega) (by omega) (by omega) (lv_sub hl [1, 2, 3, 4, 5, 0] rfl) hW
          · refine q_aload_n hM dX5_between_44 (lv_at hl 0 rfl) ?_
            refine w_get (v := .ref (ad 5)) hM hW FG_X5_17 lb_3 (rf_3_1 hW.2.1) dX5_between_45 ?_
            refine q_iload hM dX5_between_48 (lv_at hl 5 rfl) ?_
            refine w_aald hM hW lb_5 (Or.inl rfl) (i_in (by omega) (by omega)) (aq (aq_5 hW.2.1) (by omega) (by omega)) dX5_between_50 ?_
            refine q_iload_n hM dX5_between_51 (lv_at hl 2 rfl) ?_
            refine w_iald hM hW (lr_6 (by omega)) (i_in (by omega) (by omega)) dX5_between_52 ?_
            refine q_top (fun y135 hy135 => ?_)
            refine q_iload_n hM dX5_between_53 (lv_at hl 3 rfl) ?_
            refine q_icmp_lt (tgt := 66) hM dX5_between_54 (by decide) (rfl : y135.toInt = y135.toInt) (rfl : le.toInt = le.toInt) (fun h54 => ?_) (fun h54 => ?_)
            · refine q_iinc (lv9 := fun z137 => [(5, .int z137), (0, .ref (ad 3)), (1, .int i), (2, .int j), (3, .int le), (4, .int w24_4)]) hM dX5_between_66 hl (kq := 5) rfl (by decide) (fun _ => rfl) (fun z137 ls hz137 hl => ?_)
              first | have tz137 := i_addT hz137 (rfl : w24_5.toInt = w24_5.toInt) (kc_1 : (Int32.ofInt 1).toInt = 1) (by omega) (by omega) | skip
              refine q_goto (tgt := 24) hM dX5_between_69 (by decide) ?_
              exact ih24 w24_4 z137 _ _ _ (by omega) (by omega) (by omega) (lv_sub hl [1, 2, 3, 4, 5, 0] rfl) hW
            · refine q_iload hM dX5_between_57 (lv_at hl 4 rfl) ?_
              refine q_iconst (v := (1 : Int32)) hM dX5_between_59 (by decide) ?_
              refine q_iload hM dX5_between_60 (lv_at hl 5 rfl) ?_
              refine q_ishl hM dX5_between_62 (fun z139 hz139 => ?_)
              refine q_ior hM dX5_between_63 (fun z140 hz140 => ?_)
              refine q_istore (lv9 := [(4, .int z140), (0, .ref (ad 3)), (1, .int i), (2, .int j), (3, .int le), (5, .int w24_5)]) hM dX5_between_64 hl (by decide) rfl (fun ls hl => ?_)
              refine q_iinc (lv9 := fun z141 => [(5, .int z141), (4, .int z140), (0, .ref (ad 3)), (1, .int i), (2, .int j), (3, .int le)]) hM dX5_between_66 hl (kq := 5) rfl (by decide) (fun _ => rfl) (fun z141 ls hz141 hl => ?_)
              first | have tz141 := i_addT hz141 (rfl : w24_5.toInt = w24_5.toInt) (kc_1 : (Int32.ofInt 1).toInt = 1) (by omega) (by omega) | skip
              refine q_goto (tgt := 24) hM dX5_between_69 (by decide) ?_
              exact ih24 z140 z141 _ _ _ (by omega) (by omega) (by omega) (lv_sub hl [2, 3, 4, 5, 1, 0] rfl) hW
    have := kc_0
    have := kc_0
    exact L24 _ (0 : Int32) (0 : Int32) _ _ _ (Nat.lt_succ_self _) (by omega) (by omega) (lv_sub hl [2, 3, 4, 5, 1, 0] rfl) hW
  · refine q_sipush (v := (4096 : Int32)) hM dX5_between_12 (by decide) ?_
    refine q_goto (tgt := 19) hM dX5_between_15 (by decide) ?_
    refine q_istore (lv9 := [(4, .int (4096 : Int32)), (0, .ref (ad 3)), (1, .int i), (2, .int j), (3, .int le)]) hM dX5_between_19 hl (by decide) rfl (fun ls hl => ?_)
    refine q_iconst (v := (0 : Int32)) hM dX5_between_21 (by decide) ?_
    refine q_istore (lv9 := [(5, .int (0 : Int32)), (4, .int (4096 : Int32)), (0, .ref (ad 3)), (1, .int i), (2, .int j), (3, .int le)]) hM dX5_between_22 hl (by decide) rfl (fun ls hl => ?_)
    have L24 : ∀ (fu24 : Nat) (w24_4 : Int32) (w24_5 : Int32) (H : Heap) (locs : List Loc) (ls : Array Slot), (12 - w24_5.toInt).toNat < fu24 → (0 ≤ w24_5.toInt) → (w24_5.toInt ≤ 12) → lv_has ls 6 [(0, .ref (ad 3)), (1, .int i), (2, .int j), (3, .int le), (4, .int w24_4), (5, .int w24_5)] → WS ad cA (fun i k => False) g0 K g0 H locs → XX K 0 0 H locs 24 ls [] := by
      intro fu24
      induction fu24 with
      | zero => intro w24_4 w24_5 H locs ls h0; omega
      | succ fu24 ih24 =>
        intro w24_4 w24_5 H locs ls hm24 i24_0 i24_1 hl hW
        refine q_iload hM dX5_between_24 (lv_at hl 5 rfl) ?_
        refine q_bipush (v := (12 : Int32)) hM dX5_between_26 (by decide) ?_
        refine q_icmp_ge (tgt := 72) hM dX5_between_28 (by decide) (rfl : w24_5.toInt = w24_5.toInt) (kc_12 : (12 : Int32).toInt = 12) (fun h28 => ?_) (fun h28 => ?_)
        · refine q_iload hM dX5_between_72 (lv_at hl 4 rfl) ?_
          exact hE _ _ _ _ _ _ hW.1 ⟨_, rfl, (by trivial), rfl⟩ dX5_between_74
        · refine q_aload_n hM dX5_between_31 (lv_at hl 0 rfl) ?_
          refine w_get (v := .ref (ad 5)) hM hW FG_X5_17 lb_3 (rf_3_1 hW.2.1) dX5_between_32 ?_
          refine q_iload_n hM dX5_between_35 (lv_at hl 1 rfl) ?_
          refine w_aald hM hW lb_5 (Or.inl rfl) (i_in (by omega) (by omega)) (aq (aq_5 hW.2.1) (by omega) (by omega)) dX5_between_36 ?_
          refine q_iload hM dX5_between_37 (lv_at hl 5 rfl) ?_
          refine w_iald hM hW (lr_6 (by omega)) (i_in (by omega) (by omega)) dX5_between_39 ?_
          refine q_top (fun y146 hy146 => ?_)
          refine q_iload_n hM dX5_between_40 (lv_at hl 3 rfl) ?_
          refine q_icmp_lt (tgt := 66) hM dX5_between_41 (by decide) (rfl : y146.toInt = y146.toInt) (rfl : le.toInt = le.toInt) (fun h41 => ?_) (fun h41 => ?_)
          · refine q_iinc (lv9 := fun z148 => [(5, .int z148), (0, .ref (ad 3)), (1, .int i), (2, .int j), (3, .int le), (4, .int w24_4)]) hM dX5_between_66 hl (kq := 5) rfl (by decide) (fun _ => rfl) (fun z148 ls hz148 hl => ?_)
            first | have tz148 := i_addT hz148 (rfl : w24_5.toInt = w24_5.toInt) (kc_1 : (Int32.ofInt 1).toInt = 1) (by omega) (by omega) | skip
            refine q_goto (tgt := 24) hM dX5_between_69 (by decide) ?_
            exact ih24 w24_4 z148 _ _ _ (by omega) (by omega) (by omega) (lv_sub hl [1, 2, 3, 4, 5, 0] rfl) hW
          · refine q_aload_n hM dX5_between_44 (lv_at hl 0 rfl) ?_
            refine w_get (v := .ref (ad 5)) hM hW FG_X5_17 lb_3 (rf_3_1 hW.2.1) dX5_between_45 ?_
            refine q_iload hM dX5_between_48 (lv_at hl 5 rfl) ?_
            refine w_aald hM hW lb_5 (Or.inl rfl) (i_in (by omega) (by omega)) (aq (aq_5 hW.2.1) (by omega) (by omega)) dX5_between_50 ?_
            refine q_iload_n hM dX5_between_51 (lv_at hl 2 rfl) ?_
            refine w_iald hM hW (lr_6 (by omega)) (i_in (by omega) (by omega)) dX5_between_52 ?_
            refine q_top (fun y150 hy150 => ?_)
            refine q_iload_n hM dX5_between_53 (lv_at hl 3 rfl) ?_
            refine q_icmp_lt (tgt := 66) hM dX5_between_54 (by decide) (rfl : y150.toInt = y150.toInt) (rfl : le.toInt = le.toInt) (fun h54 => ?_) (fun h54 => ?_)
            · refine q_iinc (lv9 := fun z152 => [(5, .int z152), (0, .ref (ad 3)), (1, .int i), (2, .int j), (3, .int le), (4, .int w24_4)]) hM dX5_between_66 hl (kq := 5) rfl (by decide) (fun _ => rfl) (fun z152 ls hz152 hl => ?_)
              first | have tz152 := i_addT hz152 (rfl : w24_5.toInt = w24_5.toInt) (kc_1 : (Int32.ofInt 1).toInt = 1) (by omega) (by omega) | skip
              refine q_goto (tgt := 24) hM dX5_between_69 (by decide) ?_
              exact ih24 w24_4 z152 _ _ _ (by omega) (by omega) (by omega) (lv_sub hl [1, 2, 3, 4, 5, 0] rfl) hW
            · refine q_iload hM dX5_between_57 (lv_at hl 4 rfl) ?_
              refine q_iconst (v := (1 : Int32)) hM dX5_between_59 (by decide) ?_
              refine q_iload hM dX5_between_60 (lv_at hl 5 rfl) ?_
              refine q_ishl hM dX5_between_62 (fun z154 hz154 => ?_)
              refine q_ior hM dX5_between_63 (fun z155 hz155 => ?_)
              refine q_istore (lv9 := [(4, .int z155), (0, .ref (ad 3)), (1, .int i), (2, .int j), (3, .int le), (5, .int w24_5)]) hM dX5_between_64 hl (by decide) rfl (fun ls hl => ?_)
              refine q_iinc (lv9 := fun z156 => [(5, .int z156), (4, .int z155), (0, .ref (ad 3)), (1, .int i), (2, .int j), (3, .int le)]) hM dX5_between_66 hl (kq := 5) rfl (by decide) (fun _ => rfl) (fun z156 ls hz156 hl => ?_)
              first | have tz156 := i_addT hz156 (rfl : w24_5.toInt = w24_5.toInt) (kc_1 : (Int32.ofInt 1).toInt = 1) (by omega) (by omega) | skip
              refine q_goto (tgt := 24) hM dX5_between_69 (by decide) ?_
              exact ih24 z155 z156 _ _ _ (by omega) (by omega) (by omega) (lv_sub hl [2, 3, 4, 5, 1, 0] rfl) hW
    have := kc_4096
    have := kc_0
    exact L24 _ (4096 : Int32) (0 : Int32) _ _ _ (Nat.lt_succ_self _) (by omega) (by omega) (lv_sub hl [2, 3, 4, 5, 1, 0] rfl) hW

theorem dX5_reached_0 : decode cX5_reached 0 = .ok (.aload_n 0, 1) := by decide +kernel
theorem dX5_reached_1 : decode cX5_reached 1 = .ok (.iload_n 1, 1) := by decide +kernel
theorem dX5_reached_2 : decode cX5_reached 2 = .ok (.invokevirtual 24, 3) := by decide +kernel
theorem dX5_reached_5 : decode cX5_reached 5 = .ok (.iload_n 2, 1) := by decide +kernel
theorem dX5_reached_6 : decode cX5_reached 6 = .ok (.iconst (-1), 1) := by decide +kernel
theorem dX5_reached_7 : decode cX5_reached 7 = .ok (.ixor, 1) := by decide +kernel
theorem dX5_reached_8 : decode cX5_reached 8 = .ok (.iand, 1) := by decide +kernel
theorem dX5_reached_9 : decode cX5_reached 9 = .ok (.istore_n 3, 1) := by decide +kernel
theorem dX5_reached_10 : decode cX5_reached 10 = .ok (.iconst 0, 1) := by decide +kernel
theorem dX5_reached_11 : decode cX5_reached 11 = .ok (.istore 4, 2) := by decide +kernel
theorem dX5_reached_13 : decode cX5_reached 13 = .ok (.iconst 0, 1) := by decide +kernel
theorem dX5_reached_14 : decode cX5_reached 14 = .ok (.istore 5, 2) := by decide +kernel
theorem dX5_reached_16 : decode cX5_reached 16 = .ok (.iload 5, 2) := by decide +kernel
theorem dX5_reached_18 : decode cX5_reached 18 = .ok (.bipush 12, 2) := by decide +kernel
theorem dX5_reached_20 : decode cX5_reached 20 = .ok (.if_icmp .ge 65, 3) := by decide +kernel
theorem dX5_reached_23 : decode cX5_reached 23 = .ok (.iload 4, 2) := by decide +kernel
theorem dX5_reached_25 : decode cX5_reached 25 = .ok (.iload_n 3, 1) := by decide +kernel
theorem dX5_reached_26 : decode cX5_reached 26 = .ok (.if_icmp .eq 59, 3) := by decide +kernel
theorem dX5_reached_29 : decode cX5_reached 29 = .ok (.iload_n 3, 1) := by decide +kernel
theorem dX5_reached_30 : decode cX5_reached 30 = .ok (.iload 4, 2) := by decide +kernel
theorem dX5_reached_32 : decode cX5_reached 32 = .ok (.iconst (-1), 1) := by decide +kernel
theorem dX5_reached_33 : decode cX5_reached 33 = .ok (.ixor, 1) := by decide +kernel
theorem dX5_reached_34 : decode cX5_reached 34 = .ok (.iand, 1) := by decide +kernel
theorem dX5_reached_35 : decode cX5_reached 35 = .ok (.istore 6, 2) := by decide +kernel
theorem dX5_reached_37 : decode cX5_reached 37 = .ok (.iload_n 3, 1) := by decide +kernel
theorem dX5_reached_38 : decode cX5_reached 38 = .ok (.istore 4, 2) := by decide +kernel
theorem dX5_reached_40 : decode cX5_reached 40 = .ok (.iconst 0, 1) := by decide +kernel
theorem dX5_reached_41 : decode cX5_reached 41 = .ok (.istore 7, 2) := by decide +kernel
theorem dX5_reached_43 : decode cX5_reached 43 = .ok (.iload 7, 2) := by decide +kernel
theorem dX5_reached_45 : decode cX5_reached 45 = .ok (.bipush 12, 2) := by decide +kernel
theorem dX5_reached_47 : decode cX5_reached 47 = .ok (.if_icmp .ge 32, 3) := by decide +kernel
theorem dX5_reached_50 : decode cX5_reached 50 = .ok (.iload 6, 2) := by decide +kernel
theorem dX5_reached_52 : decode cX5_reached 52 = .ok (.iload 7, 2) := by decide +kernel
theorem dX5_reached_54 : decode cX5_reached 54 = .ok (.invokestatic 28, 3) := by decide +kernel
theorem dX5_reached_57 : decode cX5_reached 57 = .ok (.ifCond .eq 16, 3) := by decide +kernel
theorem dX5_reached_60 : decode cX5_reached 60 = .ok (.iload_n 3, 1) := by decide +kernel
theorem dX5_reached_61 : decode cX5_reached 61 = .ok (.aload_n 0, 1) := by decide +kernel
theorem dX5_reached_62 : decode cX5_reached 62 = .ok (.iload 7, 2) := by decide +kernel
theorem dX5_reached_64 : decode cX5_reached 64 = .ok (.invokevirtual 24, 3) := by decide +kernel
theorem dX5_reached_67 : decode cX5_reached 67 = .ok (.iload_n 2, 1) := by decide +kernel
theorem dX5_reached_68 : decode cX5_reached 68 = .ok (.iconst (-1), 1) := by decide +kernel
theorem dX5_reached_69 : decode cX5_reached 69 = .ok (.ixor, 1) := by decide +kernel
theorem dX5_reached_70 : decode cX5_reached 70 = .ok (.iand, 1) := by decide +kernel
theorem dX5_reached_71 : decode cX5_reached 71 = .ok (.ior, 1) := by decide +kernel
theorem dX5_reached_72 : decode cX5_reached 72 = .ok (.istore_n 3, 1) := by decide +kernel
theorem dX5_reached_73 : decode cX5_reached 73 = .ok (.iinc 7 1, 3) := by decide +kernel
theorem dX5_reached_76 : decode cX5_reached 76 = .ok (.goto (-33), 3) := by decide +kernel
theorem dX5_reached_79 : decode cX5_reached 79 = .ok (.iinc 5 1, 3) := by decide +kernel
theorem dX5_reached_82 : decode cX5_reached 82 = .ok (.goto (-66), 3) := by decide +kernel
theorem dX5_reached_85 : decode cX5_reached 85 = .ok (.iload_n 3, 1) := by decide +kernel
theorem dX5_reached_86 : decode cX5_reached 86 = .ok (.ireturn, 1) := by decide +kernel
theorem myX5_linked : MI yX5_linked cX5_linked 4 (some FieldType.int) 1 := ⟨kAW (v_3_8 (List.mem_of_getElem? (i := 3) rfl)) rfl, kAW (v_0_0 (List.mem_of_getElem? (i := 3) rfl)) rfl, kAW (v_3_8 (List.mem_of_getElem? (i := 1) rfl)) rfl, kAW (v_3_8 (List.mem_of_getElem? (i := 2) rfl)) rfl, by decide, by decide, by decide +kernel⟩
set_option maxRecDepth 100000 in
set_option maxHeartbeats 4000000 in
theorem a_X5_reached (l : Launch) (D : va_G) (cA : Nat → ClassId) (ad : Nat → Nat) (g0 : Nat → va_E) (i : Int32) (cu : Int32) (hSh : Shp ad cA g0) (hG : Rng g0) (i0 : 0 ≤ i.toInt) (i12 : i.toInt < 12) : CT l NN ad cA D yX5_reached cX5_reached 8 (some FieldType.int) (1, 23) [.ref (ad 3), .int i, .int cu] g0 (PU g0 (fun r => True)) := by
  refine q_enterI (by decide) (Nat.le_of_ble_eq_true rfl) rfl (fun K H locs ls _ _ hM hW0 hR hC hE hl => ?_)
  have hl : lv_has ls 8 [(0, .ref (ad 3)), (1, .int i), (2, .int cu)] := hl
  have hW : WS ad cA (fun i k => False) g0 K g0 H locs := ⟨hW0, hSh, FR.rf⟩
  refine q_aload_n hM dX5_reached_0 (lv_at hl 0 rfl) ?_
  refine q_iload_n hM dX5_reached_1 (lv_at hl 1 rfl) ?_
  refine q_callV (As := [.int i]) (rest := []) hM hW.1 hR hC myX5_linked (kAW (v_3_8 (List.mem_of_getElem? (i := 0) rfl)) rfl) (rfl : vwCl[5]? = some (RX5, TX5, 3)) rfl lb_3.1 (shO hW.2.1 lb_3) (a_X5_linked _ _ cA ad g0 i hW.2.1 hG (by  omega) (by  omega)) ⟨by decide, by decide⟩ rfl rfl hl.1 (Nat.le_of_ble_eq_true rfl) dX5_reached_2 (fun v g158 H locs hp hW1 => ?_)
  obtain ⟨r157, rfl, hr157, rfl⟩ := hp
  have hW : WS ad cA (fun i k => False) g0 K g0 H locs := ⟨hW1, hW.2.1, hW.2.2⟩
  refine q_iload_n hM dX5_reached_5 (lv_at hl 2 rfl) ?_
  refine q_iconst (v := ((-1) : Int32)) hM dX5_reached_6 (by decide) ?_
  refine q_ixor hM dX5_reached_7 (fun z159 hz159 => ?_)
  refine q_iand hM dX5_reached_8 (fun z160 hz160 => ?_)
  refine q_istore_n (lv9 := [(3, .int z160), (0, .ref (ad 3)), (1, .int i), (2, .int cu)]) hM dX5_reached_9 hl (by decide) rfl (fun ls hl => ?_)
  refine q_iconst (v := (0 : Int32)) hM dX5_reached_10 (by decide) ?_
  refine q_istore (lv9 := [(4, .int (0 : Int32)), (3, .int z160), (0, .ref (ad 3)), (1, .int i), (2, .int cu)]) hM dX5_reached_11 hl (by decide) rfl (fun ls hl => ?_)
  refine q_iconst (v := (0 : Int32)) hM dX5_reached_13 (by decide) ?_
  refine q_istore (lv9 := [(5, .int (0 : Int32)), (4, .int (0 : Int32)), (3, .int z160), (0, .ref (ad 3)), (1, .int i), (2, .int cu)]) hM dX5_reached_14 hl (by decide) rfl (fun ls hl => ?_)
  have L16 : ∀ (fu16 : Nat) (w16_4 : Int32) (w16_3 : Int32) (w16_5 : Int32) (H : Heap) (locs : List Loc) (ls : Array Slot), (12 - w16_5.toInt).toNat < fu16 → (0 ≤ w16_5.toInt) → (w16_5.toInt ≤ 12) → lv_has ls 8 [(0, .ref (ad 3)), (1, .int i), (2, .int cu), (3, .int w16_3), (4, .int w16_4), (5, .int w16_5)] → WS ad cA (fun i k => False) g0 K g0 H locs → XX K 0 0 H locs 16 ls [] := by
    intro fu16
    induction fu16 with
    | zero => intro w16_4 w16_3 w16_5 H locs ls h0; omega
    | succ fu16 ih16 =>
      intro w16_4 w16_3 w16_5 H locs ls hm16 i16_0 i16_1 hl hW
      refine q_iload hM dX5_reached_16 (lv_at hl 5 rfl) ?_
      refine q_bipush (v := (12 : Int32)) hM dX5_reached_18 (by decide) ?_
      refine q_icmp_ge (tgt := 85) hM dX5_reached_20 (by decide) (rfl : w16_5.toInt = w16_5.toInt) (kc_12 : (12 : Int32).toInt = 12) (fun h20 => ?_) (fun h20 => ?_)
      · refine q_iload_n hM dX5_reached_85 (lv_at hl 3 rfl) ?_
        exact hE _ _ _ _ _ _ hW.1 ⟨_, rfl, (by trivial), rfl⟩ dX5_reached_86
      · refine q_iload hM dX5_reached_23 (lv_at hl 4 rfl) ?_
        refine q_iload_n hM dX5_reached_25 (lv_at hl 3 rfl) ?_
        refine q_icmp_eq (tgt := 85) hM dX5_reached_26 (by decide) (rfl : w16_4.toInt = w16_4.toInt) (rfl : w16_3.toInt = w16_3.toInt) (fun h26 => ?_) (fun h26 => ?_)
        · refine q_iload_n hM dX5_reached_85 (lv_at hl 3 rfl) ?_
          exact hE _ _ _ _ _ _ hW.1 ⟨_, rfl, (by trivial), rfl⟩ dX5_reached_86
        · refine q_iload_n hM dX5_reached_29 (lv_at hl 3 rfl) ?_
          refine q_iload hM dX5_reached_30 (lv_at hl 4 rfl) ?_
          refine q_iconst (v := ((-1) : Int32)) hM dX5_reached_32 (by decide) ?_
          refine q_ixor hM dX5_reached_33 (fun z166 hz166 => ?_)
          refine q_iand hM dX5_reached_34 (fun z167 hz167 => ?_)
          refine q_istore (lv9 := [(6, .int z167), (0, .ref (ad 3)), (1, .int i), (2, .int cu), (3, .int w16_3), (4, .int w16_4), (5, .int w16_5)]) hM dX5_reached_35 hl (by decide) rfl (fun ls hl => ?_)
          refine q_iload_n hM dX5_reached_37 (lv_at hl 4 rfl) ?_
          refine q_istore (lv9 := [(4, .int w16_3), (6, .int z167), (0, .ref (ad 3)), (1, .int i), (2, .int cu), (3, .int w16_3), (5, .int w16_5)]) hM dX5_reached_38 hl (by decide) rfl (fun ls hl => ?_)
          refine q_iconst (v := (0 : Int32)) hM dX5_reached_40 (by decide) ?_
          refine q_istore (lv9 := [(7, .int (0 : Int32)), (4, .int w16_3), (6, .int z167), (0, .ref (ad 3)), (1, .int i), (2, .int cu), (3, .int w16_3), (5, .int w16_5)]) hM dX5_reached_41 hl (by decide) rfl (fun ls hl => ?_)
          have L43 : ∀ (fu43 : Nat) (w43_3 : Int32) (w43_7 : Int32) (H : Heap) (locs : List Loc) (ls : Array Slot), (12 - w43_7.toInt).toNat < fu43 → (0 ≤ w43_7.toInt) → (w43_7.toInt ≤ 12) → lv_has ls 8 [(0, .ref (ad 3)), (1, .int i), (2, .int cu), (3, .int w43_3), (4, .int w16_3), (5, .int w16_5), (6, .int z167), (7, .int w43_7)] → WS ad cA (fun i k => False) g0 K g0 H locs → XX K 0 0 H locs 43 ls [] := by
            intro fu43
            induction fu43 with
            | zero => intro w43_3 w43_7 H locs ls h0; omega
            | succ fu43 ih43 =>
              intro w43_3 w43_7 H locs ls hm43 i43_0 i43_1 hl hW
              refine q_iload hM dX5_reached_43 (lv_at hl 7 rfl) ?_
              refine q_bipush (v := (12 : Int32)) hM dX5_reached_45 (by decide) ?_
              refine q_icmp_ge (tgt := 79) hM dX5_reached_47 (by decide) (rfl : w43_7.toInt = w43_7.toInt) (kc_12 : (12 : Int32).toInt = 12) (fun h47 => ?_) (fun h47 => ?_)
              · refine q_iinc (lv9 := fun z170 => [(5, .int z170), (0, .ref (ad 3)), (1, .int i), (2, .int cu), (3, .int w43_3), (4, .int w16_3), (6, .int z167), (7, .int w43_7)]) hM dX5_reached_79 hl (kq := 5) rfl (by decide) (fun _ => rfl) (fun z170 ls hz170 hl => ?_)
                first | have tz170 := i_addT hz170 (rfl : w16_5.toInt = w16_5.toInt) (kc_1 : (Int32.ofInt 1).toInt = 1) (by omega) (by omega) | skip
                refine q_goto (tgt := 16) hM dX5_reached_82 (by decide) ?_
                exact ih16 w16_3 w43_3 z170 _ _ _ (by omega) (by omega) (by omega) (lv_sub hl [1, 2, 3, 4, 5, 0] rfl) hW
              · refine q_iload hM dX5_reached_50 (lv_at hl 6 rfl) ?_
                refine q_iload hM dX5_reached_52 (lv_at hl 7 rfl) ?_
                refine q_callN (host := "ForgetSchool") (As := [.int z167, .int w43_7]) (rest := []) hM hW.1 hR hC myX11_has (List.mem_of_getElem? (i := 9) rfl) (c_X11_has _ _ cA ad g0 z167 w43_7 hW.2.1) ⟨by decide, by decide⟩ rfl rfl hl.1 (Nat.le_of_ble_eq_true rfl) dX5_reached_54 (fun v g173 H locs hp hW1 => ?_)
                obtain ⟨r172, rfl, hr172, rfl⟩ := hp
                have hW : WS ad cA (fun i k => False) g0 K g0 H locs := ⟨hW1, hW.2.1, hW.2.2⟩
                refine q_if_eq (tgt := 73) hM dX5_reached_57 (by decide) (rfl : r172.toInt = r172.toInt) (fun h57 => ?_) (fun h57 => ?_)
                · refine q_iinc (lv9 := fun z175 => [(7, .int z175), (0, .ref (ad 3)), (1, .int i), (2, .int cu), (3, .int w43_3), (4, .int w16_3), (5, .int w16_5), (6, .int z167)]) hM dX5_reached_73 hl (kq := 7) rfl (by decide) (fun _ => rfl) (fun z175 ls hz175 hl => ?_)
                  first | have tz175 := i_addT hz175 (rfl : w43_7.toInt = w43_7.toInt) (kc_1 : (Int32.ofInt 1).toInt = 1) (by omega) (by omega) | skip
                  refine q_goto (tgt := 43) hM dX5_reached_76 (by decide) ?_
                  exact ih43 w43_3 z175 _ _ _ (by omega) (by omega) (by omega) (lv_sub hl [1, 2, 3, 4, 5, 6, 7, 0] rfl) hW
                · refine q_iload_n hM dX5_reached_60 (lv_at hl 3 rfl) ?_
                  refine q_aload_n hM dX5_reached_61 (lv_at hl 0 rfl) ?_
                  refine q_iload hM dX5_reached_62 (lv_at hl 7 rfl) ?_
                  refine q_callV (As := [.int w43_7]) (rest := [.int w43_3]) hM hW.1 hR hC myX5_linked (kAW (v_3_8 (List.mem_of_getElem? (i := 0) rfl)) rfl) (rfl : vwCl[5]? = some (RX5, TX5, 3)) rfl lb_3.1 (shO hW.2.1 lb_3) (a_X5_linked _ _ cA ad g0 w43_7 hW.2.1 hG (by  omega) (by  omega)) ⟨by decide, by decide⟩ rfl rfl hl.1 (Nat.le_of_ble_eq_true rfl) dX5_reached_64 (fun v g178 H locs hp hW1 => ?_)
                  obtain ⟨r177, rfl, hr177, rfl⟩ := hp
                  have hW : WS ad cA (fun i k => False) g0 K g0 H locs := ⟨hW1, hW.2.1, hW.2.2⟩
                  refine q_iload_n hM dX5_reached_67 (lv_at hl 2 rfl) ?_
                  refine q_iconst (v := ((-1) : Int32)) hM dX5_reached_68 (by decide) ?_
                  refine q_ixor hM dX5_reached_69 (fun z179 hz179 => ?_)
                  refine q_iand hM dX5_reached_70 (fun z180 hz180 => ?_)
                  refine q_ior hM dX5_reached_71 (fun z181 hz181 => ?_)
                  refine q_istore_n (lv9 := [(3, .int z181), (0, .ref (ad 3)), (1, .int i), (2, .int cu), (4, .int w16_3), (5, .int w16_5), (6, .int z167), (7, .int w43_7)]) hM dX5_reached_72 hl (by decide) rfl (fun ls hl => ?_)
                  refine q_iinc (lv9 := fun z182 => [(7, .int z182), (3, .int z181), (0, .ref (ad 3)), (1, .int i), (2, .int cu), (4, .int w16_3), (5, .int w16_5), (6, .int z167)]) hM dX5_reached_73 hl (kq := 7) rfl (by decide) (fun _ => rfl) (fun z182 ls hz182 hl => ?_)
                  first | have tz182 := i_addT hz182 (rfl : w43_7.toInt = w43_7.toInt) (kc_1 : (Int32.ofInt 1).toInt = 1) (by omega) (by omega) | skip
                  refine q_goto (tgt := 43) hM dX5_reached_76 (by decide) ?_
                  exact ih43 z181 z182 _ _ _ (by omega) (by omega) (by omega) (lv_sub hl [2, 3, 4, 1, 5, 6, 7, 0] rfl) hW
          have := kc_0
          exact L43 _ w16_3 (0 : Int32) _ _ _ (Nat.lt_succ_self _) (by omega) (by omega) (lv_sub hl [3, 4, 5, 6, 1, 7, 2, 0] rfl) hW
  have := kc_0
  have := kc_0
  exact L16 _ (0 : Int32) z160 (0 : Int32) _ _ _ (Nat.lt_succ_self _) (by omega) (by omega) (lv_sub hl [3, 4, 5, 2, 1, 0] rfl) hW

theorem dX5_fewestBetween_0 : decode cX5_fewestBetween 0 = .ok (.aload_n 0, 1) := by decide +kernel
theorem dX5_fewestBetween_1 : decode cX5_fewestBetween 1 = .ok (.getfield 20, 3) := by decide +kernel
theorem dX5_fewestBetween_4 : decode cX5_fewestBetween 4 = .ok (.iconst 1, 1) := by decide +kernel
theorem dX5_fewestBetween_5 : decode cX5_fewestBetween 5 = .ok (.iload_n 1, 1) := by decide +kernel
theorem dX5_fewestBetween_6 : decode cX5_fewestBetween 6 = .ok (.ishl, 1) := by decide +kernel
theorem dX5_fewestBetween_7 : decode cX5_fewestBetween 7 = .ok (.iconst (-1), 1) := by decide +kernel
theorem dX5_fewestBetween_8 : decode cX5_fewestBetween 8 = .ok (.ixor, 1) := by decide +kernel
theorem dX5_fewestBetween_9 : decode cX5_fewestBetween 9 = .ok (.iand, 1) := by decide +kernel
theorem dX5_fewestBetween_10 : decode cX5_fewestBetween 10 = .ok (.iconst 1, 1) := by decide +kernel
theorem dX5_fewestBetween_11 : decode cX5_fewestBetween 11 = .ok (.iload_n 2, 1) := by decide +kernel
theorem dX5_fewestBetween_12 : decode cX5_fewestBetween 12 = .ok (.ishl, 1) := by decide +kernel
theorem dX5_fewestBetween_13 : decode cX5_fewestBetween 13 = .ok (.iconst (-1), 1) := by decide +kernel
theorem dX5_fewestBetween_14 : decode cX5_fewestBetween 14 = .ok (.ixor, 1) := by decide +kernel
theorem dX5_fewestBetween_15 : decode cX5_fewestBetween 15 = .ok (.iand, 1) := by decide +kernel
theorem dX5_fewestBetween_16 : decode cX5_fewestBetween 16 = .ok (.istore_n 3, 1) := by decide +kernel
theorem dX5_fewestBetween_17 : decode cX5_fewestBetween 17 = .ok (.iload_n 3, 1) := by decide +kernel
theorem dX5_fewestBetween_18 : decode cX5_fewestBetween 18 = .ok (.istore 4, 2) := by decide +kernel
theorem dX5_fewestBetween_20 : decode cX5_fewestBetween 20 = .ok (.iconst 0, 1) := by decide +kernel
theorem dX5_fewestBetween_21 : decode cX5_fewestBetween 21 = .ok (.istore 5, 2) := by decide +kernel
theorem dX5_fewestBetween_23 : decode cX5_fewestBetween 23 = .ok (.iload 5, 2) := by decide +kernel
theorem dX5_fewestBetween_25 : decode cX5_fewestBetween 25 = .ok (.sipush 4096, 3) := by decide +kernel
theorem dX5_fewestBetween_28 : decode cX5_fewestBetween 28 = .ok (.if_icmp .ge 49, 3) := by decide +kernel
theorem dX5_fewestBetween_31 : decode cX5_fewestBetween 31 = .ok (.iload 5, 2) := by decide +kernel
theorem dX5_fewestBetween_33 : decode cX5_fewestBetween 33 = .ok (.iload_n 3, 1) := by decide +kernel
theorem dX5_fewestBetween_34 : decode cX5_fewestBetween 34 = .ok (.invokestatic 32, 3) := by decide +kernel
theorem dX5_fewestBetween_37 : decode cX5_fewestBetween 37 = .ok (.ifCond .eq 34, 3) := by decide +kernel
theorem dX5_fewestBetween_40 : decode cX5_fewestBetween 40 = .ok (.iload 5, 2) := by decide +kernel
theorem dX5_fewestBetween_42 : decode cX5_fewestBetween 42 = .ok (.invokestatic 35, 3) := by decide +kernel
theorem dX5_fewestBetween_45 : decode cX5_fewestBetween 45 = .ok (.iload 4, 2) := by decide +kernel
theorem dX5_fewestBetween_47 : decode cX5_fewestBetween 47 = .ok (.invokestatic 35, 3) := by decide +kernel
theorem dX5_fewestBetween_50 : decode cX5_fewestBetween 50 = .ok (.if_icmp .ge 21, 3) := by decide +kernel
theorem dX5_fewestBetween_53 : decode cX5_fewestBetween 53 = .ok (.aload_n 0, 1) := by decide +kernel
theorem dX5_fewestBetween_54 : decode cX5_fewestBetween 54 = .ok (.iload_n 1, 1) := by decide +kernel
theorem dX5_fewestBetween_55 : decode cX5_fewestBetween 55 = .ok (.iload 5, 2) := by decide +kernel
theorem dX5_fewestBetween_57 : decode cX5_fewestBetween 57 = .ok (.invokevirtual 40, 3) := by decide +kernel
theorem dX5_fewestBetween_60 : decode cX5_fewestBetween 60 = .ok (.iload_n 2, 1) := by decide +kernel
theorem dX5_fewestBetween_61 : decode cX5_fewestBetween 61 = .ok (.invokestatic 28, 3) := by decide +kernel
theorem dX5_fewestBetween_64 : decode cX5_fewestBetween 64 = .ok (.ifCond .ne 7, 3) := by decide +kernel
theorem dX5_fewestBetween_67 : decode cX5_fewestBetween 67 = .ok (.iload 5, 2) := by decide +kernel
theorem dX5_fewestBetween_69 : decode cX5_fewestBetween 69 = .ok (.istore 4, 2) := by decide +kernel
theorem dX5_fewestBetween_71 : decode cX5_fewestBetween 71 = .ok (.iinc 5 1, 3) := by decide +kernel
theorem dX5_fewestBetween_74 : decode cX5_fewestBetween 74 = .ok (.goto (-51), 3) := by decide +kernel
theorem dX5_fewestBetween_77 : decode cX5_fewestBetween 77 = .ok (.iload 4, 2) := by decide +kernel
theorem dX5_fewestBetween_79 : decode cX5_fewestBetween 79 = .ok (.ireturn, 1) := by decide +kernel
theorem FG_X5_20 : FG RX5 20 5 3 2 := ⟨RX5, TX5, rfl, wX5, by decide, kAW (v_0_3 (List.mem_of_getElem? (i := 10) rfl)) rfl, rfl⟩
theorem myX11_areOf : MS yX11_areOf cX11_areOf 2 (some FieldType.boolean) 2 := ⟨kAW (v_3_4 (List.mem_of_getElem? (i := 8) rfl)) rfl, kAW (v_0_0 (List.mem_of_getElem? (i := 1) rfl)) rfl, kAW (v_3_4 (List.mem_of_getElem? (i := 7) rfl)) rfl, by decide, by decide, by decide +kernel⟩
theorem myJ6_bitCount_0f7a4 : MS yJ6_bitCount_0f7a4 cJ6_bitCount_0f7a4 1 (some FieldType.int) 1 := ⟨kAW (v_2_11 (List.mem_of_getElem? (i := 6) rfl)) rfl, kAW (v_0_1 (List.mem_of_getElem? (i := 4) rfl)) rfl, kAW (v_2_11 (List.mem_of_getElem? (i := 5) rfl)) rfl, by decide, by decide, by decide +kernel⟩
theorem myX5_reached : MI yX5_reached cX5_reached 8 (some FieldType.int) 2 := ⟨kAW (v_3_7 (List.mem_of_getElem? (i := 15) rfl)) rfl, kAW (v_0_0 (List.mem_of_getElem? (i := 3) rfl)) rfl, kAW (v_3_7 (List.mem_of_getElem? (i := 13) rfl)) rfl, kAW (v_3_7 (List.mem_of_getElem? (i := 14) rfl)) rfl, by decide, by decide, by decide +kernel⟩
set_option maxRecDepth 100000 in
set_option maxHeartbeats 4000000 in
theorem a_X5_fewestBetween (l : Launch) (D : va_G) (cA : Nat → ClassId) (ad : Nat → Nat) (g0 : Nat → va_E) (i : Int32) (j : Int32) (hSh : Shp ad cA g0) (hG : Rng g0) (i0 : 0 ≤ i.toInt) (i12 : i.toInt < 12) : CT l NN ad cA D yX5_fewestBetween cX5_fewestBetween 6 (some FieldType.int) (2, 50) [.ref (ad 3), .int i, .int j] g0 (PU g0 (fun r => True)) := by
  refine q_enterI (by decide) (Nat.le_of_ble_eq_true rfl) rfl (fun K H locs ls _ _ hM hW0 hR hC hE hl => ?_)
  have hl : lv_has ls 6 [(0, .ref (ad 3)), (1, .int i), (2, .int j)] := hl
  have hW : WS ad cA (fun i k => False) g0 K g0 H locs := ⟨hW0, hSh, FR.rf⟩
  refine q_aload_n hM dX5_fewestBetween_0 (lv_at hl 0 rfl) ?_
  refine w_getI hM hW FG_X5_20 lb_3 (by decide) (by decide) dX5_fewestBetween_1 (fun x183 fx183 => ?_)
  have bx183 := hG.f fx183 rF_3_2 (by decide)
  refine q_iconst (v := (1 : Int32)) hM dX5_fewestBetween_4 (by decide) ?_
  refine q_iload_n hM dX5_fewestBetween_5 (lv_at hl 1 rfl) ?_
  refine q_ishl hM dX5_fewestBetween_6 (fun z184 hz184 => ?_)
  refine q_iconst (v := ((-1) : Int32)) hM dX5_fewestBetween_7 (by decide) ?_
  refine q_ixor hM dX5_fewestBetween_8 (fun z185 hz185 => ?_)
  refine q_iand hM dX5_fewestBetween_9 (fun z186 hz186 => ?_)
  refine q_iconst (v := (1 : Int32)) hM dX5_fewestBetween_10 (by decide) ?_
  refine q_iload_n hM dX5_fewestBetween_11 (lv_at hl 2 rfl) ?_
  refine q_ishl hM dX5_fewestBetween_12 (fun z187 hz187 => ?_)
  refine q_iconst (v := ((-1) : Int32)) hM dX5_fewestBetween_13 (by decide) ?_
  refine q_ixor hM dX5_fewestBetween_14 (fun z188 hz188 => ?_)
  refine q_iand hM dX5_fewestBetween_15 (fun z189 hz189 => ?_)
  refine q_istore_n (lv9 := [(3, .int z189), (0, .ref (ad 3)), (1, .int i), (2, .int j)]) hM dX5_fewestBetween_16 hl (by decide) rfl (fun ls hl => ?_)
  refine q_iload_n hM dX5_fewestBetween_17 (lv_at hl 0 rfl) ?_
  refine q_istore (lv9 := [(4, .int z189), (3, .int z189), (0, .ref (ad 3)), (1, .int i), (2, .int j)]) hM dX5_fewestBetween_18 hl (by decide) rfl (fun ls hl => ?_)
  refine q_iconst (v := (0 : Int32)) hM dX5_fewestBetween_20 (by decide) ?_
  refine q_istore (lv9 := [(5, .int (0 : Int32)), (4, .int z189), (3, .int z189), (0, .ref (ad 3)), (1, .int i), (2, .int j)]) hM dX5_fewestBetween_21 hl (by decide) rfl (fun ls hl => ?_)
  have L23 : ∀ (fu23 : Nat) (w23_4 : Int32) (w23_5 : Int32) (H : Heap) (locs : List Loc) (ls : Array Slot), (4096 - w23_5.toInt).toNat < fu23 → (0 ≤ w23_5.toInt) → (w23_5.toInt ≤ 4096) → lv_has ls 6 [(0, .ref (ad 3)), (1, .int i), (2, .int j), (3, .int z189), (4, .int w23_4), (5, .int w23_5)] → WS ad cA (fun i k => False) g0 K g0 H locs → XX K 0 0 H locs 23 ls [] := by
    intro fu23
    induction fu23 with
    | zero => intro w23_4 w23_5 H locs ls h0; omega
    | succ fu23 ih23 =>
      intro w23_4 w23_5 H locs ls hm23 i23_0 i23_1 hl hW
      refine q_iload hM dX5_fewestBetween_23 (lv_at hl 5 rfl) ?_
      refine q_sipush (v := (4096 : Int32)) hM dX5_fewestBetween_25 (by decide) ?_
      refine q_icmp_ge (tgt := 77) hM dX5_fewestBetween_28 (by decide) (rfl : w23_5.toInt = w23_5.toInt) (kc_4096 : (4096 : Int32).toInt = 4096) (fun h28 => ?_) (fun h28 => ?_)
      · refine q_iload hM dX5_fewestBetween_77 (lv_at hl 4 rfl) ?_
        exact hE _ _ _ _ _ _ hW.1 ⟨_, rfl, (by trivial), rfl⟩ dX5_fewestBetween_79
      · refine q_iload hM dX5_fewestBetween_31 (lv_at hl 5 rfl) ?_
        refine q_iload_n hM dX5_fewestBetween_33 (lv_at hl 3 rfl) ?_
        refine q_callN (host := "ForgetSchool") (As := [.int w23_5, .int z189]) (rest := []) hM hW.1 hR hC myX11_areOf (List.mem_of_getElem? (i := 8) rfl) (c_X11_areOf _ _ cA ad g0 w23_5 z189 hW.2.1) ⟨by decide, by decide⟩ rfl rfl hl.1 (Nat.le_of_ble_eq_true rfl) dX5_fewestBetween_34 (fun v g194 H locs hp hW1 => ?_)
        obtain ⟨r193, rfl, hr193, rfl⟩ := hp
        have hW : WS ad cA (fun i k => False) g0 K g0 H locs := ⟨hW1, hW.2.1, hW.2.2⟩
        refine q_if_eq (tgt := 71) hM dX5_fewestBetween_37 (by decide) (rfl : r193.toInt = r193.toInt) (fun h37 => ?_) (fun h37 => ?_)
        · refine q_iinc (lv9 := fun z196 => [(5, .int z196), (0, .ref (ad 3)), (1, .int i), (2, .int j), (3, .int z189), (4, .int w23_4)]) hM dX5_fewestBetween_71 hl (kq := 5) rfl (by decide) (fun _ => rfl) (fun z196 ls hz196 hl => ?_)
          first | have tz196 := i_addT hz196 (rfl : w23_5.toInt = w23_5.toInt) (kc_1 : (Int32.ofInt 1).toInt = 1) (by omega) (by omega) | skip
          refine q_goto (tgt := 23) hM dX5_fewestBetween_74 (by decide) ?_
          exact ih23 w23_4 z196 _ _ _ (by omega) (by omega) (by omega) (lv_sub hl [1, 2, 3, 4, 5, 0] rfl) hW
        · refine q_iload hM dX5_fewestBetween_40 (lv_at hl 5 rfl) ?_
          refine q_callS (As := [.int w23_5]) (rest := []) hM hW.1 hR hC myJ6_bitCount_0f7a4 (kAW (v_3_7 (List.mem_of_getElem? (i := 11) rfl)) rfl) (c_J6_bitCount_0f7a4 _ _ cA ad g0 w23_5 hW.2.1) ⟨by decide, by decide⟩ rfl rfl hl.1 (Nat.le_of_ble_eq_true rfl) dX5_fewestBetween_42 (fun v g199 H locs hp hW1 => ?_)
          obtain ⟨r198, rfl, hr198, rfl⟩ := hp
          have hW : WS ad cA (fun i k => False) g0 K g0 H locs := ⟨hW1, hW.2.1, hW.2.2⟩
          refine q_iload hM dX5_fewestBetween_45 (lv_at hl 4 rfl) ?_
          refine q_callS (As := [.int w23_4]) (rest := [.int r198]) hM hW.1 hR hC myJ6_bitCount_0f7a4 (kAW (v_3_7 (List.mem_of_getElem? (i := 11) rfl)) rfl) (c_J6_bitCount_0f7a4 _ _ cA ad g0 w23_4 hW.2.1) ⟨by decide, by decide⟩ rfl rfl hl.1 (Nat.le_of_ble_eq_true rfl) dX5_fewestBetween_47 (fun v g201 H locs hp hW1 => ?_)
          obtain ⟨r200, rfl, hr200, rfl⟩ := hp
          have hW : WS ad cA (fun i k => False) g0 K g0 H locs := ⟨hW1, hW.2.1, hW.2.2⟩
          refine q_icmp_ge (tgt := 71) hM dX5_fewestBetween_50 (by decide) (rfl : r198.toInt = r198.toInt) (rfl : r200.toInt = r200.toInt) (fun h50 => ?_) (fun h50 => ?_)
          · refine q_iinc (lv9 := fun z203 => [(5, .int z203), (0, .ref (ad 3)), (1, .int i), (2, .int j), (3, .int z189), (4, .int w23_4)]) hM dX5_fewestBetween_71 hl (kq := 5) rfl (by decide) (fun _ => rfl) (fun z203 ls hz203 hl => ?_)
            first | have tz203 := i_addT hz203 (rfl : w23_5.toInt = w23_5.toInt) (kc_1 : (Int32.ofInt 1).toInt = 1) (by omega) (by omega) | skip
            refine q_goto (tgt := 23) hM dX5_fewestBetween_74 (by decide) ?_
            exact ih23 w23_4 z203 _ _ _ (by omega) (by omega) (by omega) (lv_sub hl [1, 2, 3, 4, 5, 0] rfl) hW
          · refine q_aload_n hM dX5_fewestBetween_53 (lv_at hl 0 rfl) ?_
            refine q_iload_n hM dX5_fewestBetween_54 (lv_at hl 1 rfl) ?_
            refine q_iload hM dX5_fewestBetween_55 (lv_at hl 5 rfl) ?_
            refine q_callV (As := [.int i, .int w23_5]) (rest := []) hM hW.1 hR hC myX5_reached (kAW (v_3_7 (List.mem_of_getElem? (i := 12) rfl)) rfl) (rfl : vwCl[5]? = some (RX5, TX5, 3)) rfl lb_3.1 (shO hW.2.1 lb_3) (a_X5_reached _ _ cA ad g0 i w23_5 hW.2.1 hG (by  omega) (by  omega)) ⟨by decide, by decide⟩ rfl rfl hl.1 (Nat.le_of_ble_eq_true rfl) dX5_fewestBetween_57 (fun v g206 H locs hp hW1 => ?_)
            obtain ⟨r205, rfl, hr205, rfl⟩ := hp
            have hW : WS ad cA (fun i k => False) g0 K g0 H locs := ⟨hW1, hW.2.1, hW.2.2⟩
            refine q_iload_n hM dX5_fewestBetween_60 (lv_at hl 2 rfl) ?_
            refine q_callN (host := "ForgetSchool") (As := [.int r205, .int j]) (rest := []) hM hW.1 hR hC myX11_has (List.mem_of_getElem? (i := 9) rfl) (c_X11_has _ _ cA ad g0 r205 j hW.2.1) ⟨by decide, by decide⟩ rfl rfl hl.1 (Nat.le_of_ble_eq_true rfl) dX5_fewestBetween_61 (fun v g208 H locs hp hW1 => ?_)
            obtain ⟨r207, rfl, hr207, rfl⟩ := hp
            have hW : WS ad cA (fun i k => False) g0 K g0 H locs := ⟨hW1, hW.2.1, hW.2.2⟩
            refine q_if_ne (tgt := 71) hM dX5_fewestBetween_64 (by decide) (rfl : r207.toInt = r207.toInt) (fun h64 => ?_) (fun h64 => ?_)
            · refine q_iinc (lv9 := fun z210 => [(5, .int z210), (0, .ref (ad 3)), (1, .int i), (2, .int j), (3, .int z189), (4, .int w23_4)]) hM dX5_fewestBetween_71 hl (kq := 5) rfl (by decide) (fun _ => rfl) (fun z210 ls hz210 hl => ?_)
              first | have tz210 := i_addT hz210 (rfl : w23_5.toInt = w23_5.toInt) (kc_1 : (Int32.ofInt 1).toInt = 1) (by omega) (by omega) | skip
              refine q_goto (tgt := 23) hM dX5_fewestBetween_74 (by decide) ?_
              exact ih23 w23_4 z210 _ _ _ (by omega) (by omega) (by omega) (lv_sub hl [1, 2, 3, 4, 5, 0] rfl) hW
            · refine q_iload hM dX5_fewestBetween_67 (lv_at hl 5 rfl) ?_
              refine q_istore (lv9 := [(4, .int w23_5), (0, .ref (ad 3)), (1, .int i), (2, .int j), (3, .int z189), (5, .int w23_5)]) hM dX5_fewestBetween_69 hl (by decide) rfl (fun ls hl => ?_)
              refine q_iinc (lv9 := fun z212 => [(5, .int z212), (4, .int w23_5), (0, .ref (ad 3)), (1, .int i), (2, .int j), (3, .int z189)]) hM dX5_fewestBetween_71 hl (kq := 5) rfl (by decide) (fun _ => rfl) (fun z212 ls hz212 hl => ?_)
              first | have tz212 := i_addT hz212 (rfl : w23_5.toInt = w23_5.toInt) (kc_1 : (Int32.ofInt 1).toInt = 1) (by omega) (by omega) | skip
              refine q_goto (tgt := 23) hM dX5_fewestBetween_74 (by decide) ?_
              exact ih23 w23_5 z212 _ _ _ (by omega) (by omega) (by omega) (lv_sub hl [2, 3, 4, 5, 1, 0] rfl) hW
  have := kc_0
  exact L23 _ z189 (0 : Int32) _ _ _ (Nat.lt_succ_self _) (by omega) (by omega) (lv_sub hl [3, 4, 5, 2, 1, 0] rfl) hW

theorem dX5_group_0 : decode cX5_group 0 = .ok (.iconst 1, 1) := by decide +kernel
theorem dX5_group_1 : decode cX5_group 1 = .ok (.iload_n 1, 1) := by decide +kernel
theorem dX5_group_2 : decode cX5_group 2 = .ok (.ishl, 1) := by decide +kernel
theorem dX5_group_3 : decode cX5_group 3 = .ok (.istore_n 2, 1) := by decide +kernel
theorem dX5_group_4 : decode cX5_group 4 = .ok (.aload_n 0, 1) := by decide +kernel
theorem dX5_group_5 : decode cX5_group 5 = .ok (.iload_n 1, 1) := by decide +kernel
theorem dX5_group_6 : decode cX5_group 6 = .ok (.iconst 0, 1) := by decide +kernel
theorem dX5_group_7 : decode cX5_group 7 = .ok (.invokevirtual 40, 3) := by decide +kernel
theorem dX5_group_10 : decode cX5_group 10 = .ok (.istore_n 3, 1) := by decide +kernel
theorem dX5_group_11 : decode cX5_group 11 = .ok (.iconst 0, 1) := by decide +kernel
theorem dX5_group_12 : decode cX5_group 12 = .ok (.istore 4, 2) := by decide +kernel
theorem dX5_group_14 : decode cX5_group 14 = .ok (.iload 4, 2) := by decide +kernel
theorem dX5_group_16 : decode cX5_group 16 = .ok (.bipush 12, 2) := by decide +kernel
theorem dX5_group_18 : decode cX5_group 18 = .ok (.if_icmp .ge 39, 3) := by decide +kernel
theorem dX5_group_21 : decode cX5_group 21 = .ok (.iload_n 3, 1) := by decide +kernel
theorem dX5_group_22 : decode cX5_group 22 = .ok (.iload 4, 2) := by decide +kernel
theorem dX5_group_24 : decode cX5_group 24 = .ok (.invokestatic 28, 3) := by decide +kernel
theorem dX5_group_27 : decode cX5_group 27 = .ok (.ifCond .eq 24, 3) := by decide +kernel
theorem dX5_group_30 : decode cX5_group 30 = .ok (.aload_n 0, 1) := by decide +kernel
theorem dX5_group_31 : decode cX5_group 31 = .ok (.iload 4, 2) := by decide +kernel
theorem dX5_group_33 : decode cX5_group 33 = .ok (.iconst 0, 1) := by decide +kernel
theorem dX5_group_34 : decode cX5_group 34 = .ok (.invokevirtual 40, 3) := by decide +kernel
theorem dX5_group_37 : decode cX5_group 37 = .ok (.iload_n 1, 1) := by decide +kernel
theorem dX5_group_38 : decode cX5_group 38 = .ok (.invokestatic 28, 3) := by decide +kernel
theorem dX5_group_41 : decode cX5_group 41 = .ok (.ifCond .eq 10, 3) := by decide +kernel
theorem dX5_group_44 : decode cX5_group 44 = .ok (.iload_n 2, 1) := by decide +kernel
theorem dX5_group_45 : decode cX5_group 45 = .ok (.iconst 1, 1) := by decide +kernel
theorem dX5_group_46 : decode cX5_group 46 = .ok (.iload 4, 2) := by decide +kernel
theorem dX5_group_48 : decode cX5_group 48 = .ok (.ishl, 1) := by decide +kernel
theorem dX5_group_49 : decode cX5_group 49 = .ok (.ior, 1) := by decide +kernel
theorem dX5_group_50 : decode cX5_group 50 = .ok (.istore_n 2, 1) := by decide +kernel
theorem dX5_group_51 : decode cX5_group 51 = .ok (.iinc 4 1, 3) := by decide +kernel
theorem dX5_group_54 : decode cX5_group 54 = .ok (.goto (-40), 3) := by decide +kernel
theorem dX5_group_57 : decode cX5_group 57 = .ok (.iload_n 2, 1) := by decide +kernel
theorem dX5_group_58 : decode cX5_group 58 = .ok (.ireturn, 1) := by decide +kernel
set_option maxRecDepth 100000 in
set_option maxHeartbeats 4000000 in
theorem a_X5_group (l : Launch) (D : va_G) (cA : Nat → ClassId) (ad : Nat → Nat) (g0 : Nat → va_E) (i : Int32) (hSh : Shp ad cA g0) (hG : Rng g0) (i0 : 0 ≤ i.toInt) (i12 : i.toInt < 12) : CT l NN ad cA D yX5_group cX5_group 5 (some FieldType.int) (2, 50) [.ref (ad 3), .int i] g0 (PU g0 (fun r => True)) := by
  refine q_enterI (by decide) (Nat.le_of_ble_eq_true rfl) rfl (fun K H locs ls _ _ hM hW0 hR hC hE hl => ?_)
  have hl : lv_has ls 5 [(0, .ref (ad 3)), (1, .int i)] := hl
  have hW : WS ad cA (fun i k => False) g0 K g0 H locs := ⟨hW0, hSh, FR.rf⟩
  refine q_iconst (v := (1 : Int32)) hM dX5_group_0 (by decide) ?_
  refine q_iload_n hM dX5_group_1 (lv_at hl 1 rfl) ?_
  refine q_ishl hM dX5_group_2 (fun z213 hz213 => ?_)
  refine q_istore_n (lv9 := [(2, .int z213), (0, .ref (ad 3)), (1, .int i)]) hM dX5_group_3 hl (by decide) rfl (fun ls hl => ?_)
  refine q_aload_n hM dX5_group_4 (lv_at hl 1 rfl) ?_
  refine q_iload_n hM dX5_group_5 (lv_at hl 2 rfl) ?_
  refine q_iconst (v := (0 : Int32)) hM dX5_group_6 (by decide) ?_
  refine q_callV (As := [.int i, .int (0 : Int32)]) (rest := []) hM hW.1 hR hC myX5_reached (kAW (v_3_7 (List.mem_of_getElem? (i := 12) rfl)) rfl) (rfl : vwCl[5]? = some (RX5, TX5, 3)) rfl lb_3.1 (shO hW.2.1 lb_3) (a_X5_reached _ _ cA ad g0 i (0 : Int32) hW.2.1 hG (by have := kc_0; omega) (by have := kc_0; omega)) ⟨by decide, by decide⟩ rfl rfl hl.1 (Nat.le_of_ble_eq_true rfl) dX5_group_7 (fun v g215 H locs hp hW1 => ?_)
  obtain ⟨r214, rfl, hr214, rfl⟩ := hp
  have hW : WS ad cA (fun i k => False) g0 K g0 H locs := ⟨hW1, hW.2.1, hW.2.2⟩
  refine q_istore_n (lv9 := [(3, .int r214), (2, .int z213), (0, .ref (ad 3)), (1, .int i)]) hM dX5_group_10 hl (by decide) rfl (fun ls hl => ?_)
  refine q_iconst (v := (0 : Int32)) hM dX5_group_11 (by decide) ?_
  refine q_istore (lv9 := [(4, .int (0 : Int32)), (3, .int r214), (2, .int z213), (0, .ref (ad 3)), (1, .int i)]) hM dX5_group_12 hl (by decide) rfl (fun ls hl => ?_)
  have L14 : ∀ (fu14 : Nat) (w14_2 : Int32) (w14_4 : Int32) (H : Heap) (locs : List Loc) (ls : Array Slot), (12 - w14_4.toInt).toNat < fu14 → (0 ≤ w14_4.toInt) → (w14_4.toInt ≤ 12) → lv_has ls 5 [(0, .ref (ad 3)), (1, .int i), (2, .int w14_2), (3, .int r214), (4, .int w14_4)] → WS ad cA (fun i k => False) g0 K g0 H locs → XX K 0 0 H locs 14 ls [] := by
    intro fu14
    induction fu14 with
    | zero => intro w14_2 w14_4 H locs ls h0; omega
    | succ fu14 ih14 =>
      intro w14_2 w14_4 H locs ls hm14 i14_0 i14_1 hl hW
      refine q_iload hM dX5_group_14 (lv_at hl 4 rfl) ?_
      refine q_bipush (v := (12 : Int32)) hM dX5_group_16 (by decide) ?_
      refine q_icmp_ge (tgt := 57) hM dX5_group_18 (by decide) (rfl : w14_4.toInt = w14_4.toInt) (kc_12 : (12 : Int32).toInt = 12) (fun h18 => ?_) (fun h18 => ?_)
      · refine q_iload_n hM dX5_group_57 (lv_at hl 2 rfl) ?_
        exact hE _ _ _ _ _ _ hW.1 ⟨_, rfl, (by trivial), rfl⟩ dX5_group_58
      · refine q_iload_n hM dX5_group_21 (lv_at hl 3 rfl) ?_
        refine q_iload hM dX5_group_22 (lv_at hl 4 rfl) ?_
        refine q_callN (host := "ForgetSchool") (As := [.int r214, .int w14_4]) (rest := []) hM hW.1 hR hC myX11_has (List.mem_of_getElem? (i := 9) rfl) (c_X11_has _ _ cA ad g0 r214 w14_4 hW.2.1) ⟨by decide, by decide⟩ rfl rfl hl.1 (Nat.le_of_ble_eq_true rfl) dX5_group_24 (fun v g220 H locs hp hW1 => ?_)
        obtain ⟨r219, rfl, hr219, rfl⟩ := hp
        have hW : WS ad cA (fun i k => False) g0 K g0 H locs := ⟨hW1, hW.2.1, hW.2.2⟩
        refine q_if_eq (tgt := 51) hM dX5_group_27 (by decide) (rfl : r219.toInt = r219.toInt) (fun h27 => ?_) (fun h27 => ?_)
        · refine q_iinc (lv9 := fun z222 => [(4, .int z222), (0, .ref (ad 3)), (1, .int i), (2, .int w14_2), (3, .int r214)]) hM dX5_group_51 hl (kq := 4) rfl (by decide) (fun _ => rfl) (fun z222 ls hz222 hl => ?_)
          first | have tz222 := i_addT hz222 (rfl : w14_4.toInt = w14_4.toInt) (kc_1 : (Int32.ofInt 1).toInt = 1) (by omega) (by omega) | skip
          refine q_goto (tgt := 14) hM dX5_group_54 (by decide) ?_
          exact ih14 w14_2 z222 _ _ _ (by omega) (by omega) (by omega) (lv_sub hl [1, 2, 3, 4, 0] rfl) hW
        · refine q_aload_n hM dX5_group_30 (lv_at hl 0 rfl) ?_
          refine q_iload hM dX5_group_31 (lv_at hl 4 rfl) ?_
          refine q_iconst (v := (0 : Int32)) hM dX5_group_33 (by decide) ?_
          refine q_callV (As := [.int w14_4, .int (0 : Int32)]) (rest := []) hM hW.1 hR hC myX5_reached (kAW (v_3_7 (List.mem_of_getElem? (i := 12) rfl)) rfl) (rfl : vwCl[5]? = some (RX5, TX5, 3)) rfl lb_3.1 (shO hW.2.1 lb_3) (a_X5_reached _ _ cA ad g0 w14_4 (0 : Int32) hW.2.1 hG (by have := kc_0; omega) (by have := kc_0; omega)) ⟨by decide, by decide⟩ rfl rfl hl.1 (Nat.le_of_ble_eq_true rfl) dX5_group_34 (fun v g225 H locs hp hW1 => ?_)
          obtain ⟨r224, rfl, hr224, rfl⟩ := hp
          have hW : WS ad cA (fun i k => False) g0 K g0 H locs := ⟨hW1, hW.2.1, hW.2.2⟩
          refine q_iload_n hM dX5_group_37 (lv_at hl 1 rfl) ?_
          refine q_callN (host := "ForgetSchool") (As := [.int r224, .int i]) (rest := []) hM hW.1 hR hC myX11_has (List.mem_of_getElem? (i := 9) rfl) (c_X11_has _ _ cA ad g0 r224 i hW.2.1) ⟨by decide, by decide⟩ rfl rfl hl.1 (Nat.le_of_ble_eq_true rfl) dX5_group_38 (fun v g227 H locs hp hW1 => ?_)
          obtain ⟨r226, rfl, hr226, rfl⟩ := hp
          have hW : WS ad cA (fun i k => False) g0 K g0 H locs := ⟨hW1, hW.2.1, hW.2.2⟩
          refine q_if_eq (tgt := 51) hM dX5_group_41 (by decide) (rfl : r226.toInt = r226.toInt) (fun h41 => ?_) (fun h41 => ?_)
          · refine q_iinc (lv9 := fun z229 => [(4, .int z229), (0, .ref (ad 3)), (1, .int i), (2, .int w14_2), (3, .int r214)]) hM dX5_group_51 hl (kq := 4) rfl (by decide) (fun _ => rfl) (fun z229 ls hz229 hl => ?_)
            first | have tz229 := i_addT hz229 (rfl : w14_4.toInt = w14_4.toInt) (kc_1 : (Int32.ofInt 1).toInt = 1) (by omega) (by omega) | skip
            refine q_goto (tgt := 14) hM dX5_group_54 (by decide) ?_
            exact ih14 w14_2 z229 _ _ _ (by omega) (by omega) (by omega) (lv_sub hl [1, 2, 3, 4, 0] rfl) hW
          · refine q_iload_n hM dX5_group_44 (lv_at hl 2 rfl) ?_
            refine q_iconst (v := (1 : Int32)) hM dX5_group_45 (by decide) ?_
            refine q_iload hM dX5_group_46 (lv_at hl 4 rfl) ?_
            refine q_ishl hM dX5_group_48 (fun z231 hz231 => ?_)
            refine q_ior hM dX5_group_49 (fun z232 hz232 => ?_)
            refine q_istore_n (lv9 := [(2, .int z232), (0, .ref (ad 3)), (1, .int i), (3, .int r214), (4, .int w14_4)]) hM dX5_group_50 hl (by decide) rfl (fun ls hl => ?_)
            refine q_iinc (lv9 := fun z233 => [(4, .int z233), (2, .int z232), (0, .ref (ad 3)), (1, .int i), (3, .int r214)]) hM dX5_group_51 hl (kq := 4) rfl (by decide) (fun _ => rfl) (fun z233 ls hz233 hl => ?_)
            first | have tz233 := i_addT hz233 (rfl : w14_4.toInt = w14_4.toInt) (kc_1 : (Int32.ofInt 1).toInt = 1) (by omega) (by omega) | skip
            refine q_goto (tgt := 14) hM dX5_group_54 (by decide) ?_
            exact ih14 z232 z233 _ _ _ (by omega) (by omega) (by omega) (lv_sub hl [2, 3, 1, 4, 0] rfl) hW
  have := kc_0
  exact L14 _ z213 (0 : Int32) _ _ _ (Nat.lt_succ_self _) (by omega) (by omega) (lv_sub hl [3, 4, 2, 1, 0] rfl) hW

theorem dX5_groups_0 : decode cX5_groups 0 = .ok (.iconst 0, 1) := by decide +kernel
theorem dX5_groups_1 : decode cX5_groups 1 = .ok (.istore_n 1, 1) := by decide +kernel
theorem dX5_groups_2 : decode cX5_groups 2 = .ok (.iconst 0, 1) := by decide +kernel
theorem dX5_groups_3 : decode cX5_groups 3 = .ok (.istore_n 2, 1) := by decide +kernel
theorem dX5_groups_4 : decode cX5_groups 4 = .ok (.iload_n 2, 1) := by decide +kernel
theorem dX5_groups_5 : decode cX5_groups 5 = .ok (.bipush 12, 2) := by decide +kernel
theorem dX5_groups_7 : decode cX5_groups 7 = .ok (.if_icmp .ge 37, 3) := by decide +kernel
theorem dX5_groups_10 : decode cX5_groups 10 = .ok (.aload_n 0, 1) := by decide +kernel
theorem dX5_groups_11 : decode cX5_groups 11 = .ok (.getfield 20, 3) := by decide +kernel
theorem dX5_groups_14 : decode cX5_groups 14 = .ok (.iload_n 2, 1) := by decide +kernel
theorem dX5_groups_15 : decode cX5_groups 15 = .ok (.invokestatic 28, 3) := by decide +kernel
theorem dX5_groups_18 : decode cX5_groups 18 = .ok (.ifCond .eq 20, 3) := by decide +kernel
theorem dX5_groups_21 : decode cX5_groups 21 = .ok (.aload_n 0, 1) := by decide +kernel
theorem dX5_groups_22 : decode cX5_groups 22 = .ok (.iload_n 2, 1) := by decide +kernel
theorem dX5_groups_23 : decode cX5_groups 23 = .ok (.invokevirtual 44, 3) := by decide +kernel
theorem dX5_groups_26 : decode cX5_groups 26 = .ok (.invokestatic 47, 3) := by decide +kernel
theorem dX5_groups_29 : decode cX5_groups 29 = .ok (.iconst 1, 1) := by decide +kernel
theorem dX5_groups_30 : decode cX5_groups 30 = .ok (.iload_n 2, 1) := by decide +kernel
theorem dX5_groups_31 : decode cX5_groups 31 = .ok (.ishl, 1) := by decide +kernel
theorem dX5_groups_32 : decode cX5_groups 32 = .ok (.if_icmp .ne 6, 3) := by decide +kernel
theorem dX5_groups_35 : decode cX5_groups 35 = .ok (.iinc 1 1, 3) := by decide +kernel
theorem dX5_groups_38 : decode cX5_groups 38 = .ok (.iinc 2 1, 3) := by decide +kernel
theorem dX5_groups_41 : decode cX5_groups 41 = .ok (.goto (-37), 3) := by decide +kernel
theorem dX5_groups_44 : decode cX5_groups 44 = .ok (.iload_n 1, 1) := by decide +kernel
theorem dX5_groups_45 : decode cX5_groups 45 = .ok (.ireturn, 1) := by decide +kernel
theorem myX5_group : MI yX5_group cX5_group 5 (some FieldType.int) 1 := ⟨kAW (v_3_9 (List.mem_of_getElem? (i := 9) rfl)) rfl, kAW (v_0_0 (List.mem_of_getElem? (i := 3) rfl)) rfl, kAW (v_3_9 (List.mem_of_getElem? (i := 7) rfl)) rfl, kAW (v_3_9 (List.mem_of_getElem? (i := 8) rfl)) rfl, by decide, by decide, by decide +kernel⟩
theorem myX11_lowestBit : MS yX11_lowestBit cX11_lowestBit 1 (some FieldType.int) 1 := ⟨kAW (v_3_9 (List.mem_of_getElem? (i := 12) rfl)) rfl, kAW (v_0_0 (List.mem_of_getElem? (i := 1) rfl)) rfl, kAW (v_3_9 (List.mem_of_getElem? (i := 11) rfl)) rfl, by decide, by decide, by decide +kernel⟩
set_option maxRecDepth 100000 in
set_option maxHeartbeats 4000000 in
theorem a_X5_groups (l : Launch) (D : va_G) (cA : Nat → ClassId) (ad : Nat → Nat) (g0 : Nat → va_E)  (hSh : Shp ad cA g0) (hG : Rng g0) : CT l NN ad cA D yX5_groups cX5_groups 3 (some FieldType.int) (3, 74) [.ref (ad 3)] g0 (PU g0 (fun r => True)) := by
  refine q_enterI (by decide) (Nat.le_of_ble_eq_true rfl) rfl (fun K H locs ls _ _ hM hW0 hR hC hE hl => ?_)
  have hl : lv_has ls 3 [(0, .ref (ad 3))] := hl
  have hW : WS ad cA (fun i k => False) g0 K g0 H locs := ⟨hW0, hSh, FR.rf⟩
  refine q_iconst (v := (0 : Int32)) hM dX5_groups_0 (by decide) ?_
  refine q_istore_n (lv9 := [(1, .int (0 : Int32)), (0, .ref (ad 3))]) hM dX5_groups_1 hl (by decide) rfl (fun ls hl => ?_)
  refine q_iconst (v := (0 : Int32)) hM dX5_groups_2 (by decide) ?_
  refine q_istore_n (lv9 := [(2, .int (0 : Int32)), (1, .int (0 : Int32)), (0, .ref (ad 3))]) hM dX5_groups_3 hl (by decide) rfl (fun ls hl => ?_)
  have L4 : ∀ (fu4 : Nat) (w4_1 : Int32) (w4_2 : Int32) (H : Heap) (locs : List Loc) (ls : Array Slot), (12 - w4_2.toInt).toNat < fu4 → (0 ≤ w4_2.toInt) → (w4_2.toInt ≤ 12) → lv_has ls 3 [(0, .ref (ad 3)), (1, .int w4_1), (2, .int w4_2)] → WS ad cA (fun i k => False) g0 K g0 H locs → XX K 0 0 H locs 4 ls [] := by
    intro fu4
    induction fu4 with
    | zero => intro w4_1 w4_2 H locs ls h0; omega
    | succ fu4 ih4 =>
      intro w4_1 w4_2 H locs ls hm4 i4_0 i4_1 hl hW
      refine q_iload_n hM dX5_groups_4 (lv_at hl 2 rfl) ?_
      refine q_bipush (v := (12 : Int32)) hM dX5_groups_5 (by decide) ?_
      refine q_icmp_ge (tgt := 44) hM dX5_groups_7 (by decide) (rfl : w4_2.toInt = w4_2.toInt) (kc_12 : (12 : Int32).toInt = 12) (fun h7 => ?_) (fun h7 => ?_)
      · refine q_iload_n hM dX5_groups_44 (lv_at hl 1 rfl) ?_
        exact hE _ _ _ _ _ _ hW.1 ⟨_, rfl, (by trivial), rfl⟩ dX5_groups_45
      · refine q_aload_n hM dX5_groups_10 (lv_at hl 0 rfl) ?_
        refine w_getI hM hW FG_X5_20 lb_3 (by decide) (by decide) dX5_groups_11 (fun x237 fx237 => ?_)
        have bx237 := hG.f fx237 rF_3_2 (by decide)
        refine q_iload_n hM dX5_groups_14 (lv_at hl 2 rfl) ?_
        refine q_callN (host := "ForgetSchool") (As := [.int x237, .int w4_2]) (rest := []) hM hW.1 hR hC myX11_has (List.mem_of_getElem? (i := 9) rfl) (c_X11_has _ _ cA ad g0 x237 w4_2 hW.2.1) ⟨by decide, by decide⟩ rfl rfl hl.1 (Nat.le_of_ble_eq_true rfl) dX5_groups_15 (fun v g239 H locs hp hW1 => ?_)
        obtain ⟨r238, rfl, hr238, rfl⟩ := hp
        have hW : WS ad cA (fun i k => False) g0 K g0 H locs := ⟨hW1, hW.2.1, hW.2.2⟩
        refine q_if_eq (tgt := 38) hM dX5_groups_18 (by decide) (rfl : r238.toInt = r238.toInt) (fun h18 => ?_) (fun h18 => ?_)
        · refine q_iinc (lv9 := fun z241 => [(2, .int z241), (0, .ref (ad 3)), (1, .int w4_1)]) hM dX5_groups_38 hl (kq := 2) rfl (by decide) (fun _ => rfl) (fun z241 ls hz241 hl => ?_)
          first | have tz241 := i_addT hz241 (rfl : w4_2.toInt = w4_2.toInt) (kc_1 : (Int32.ofInt 1).toInt = 1) (by omega) (by omega) | skip
          refine q_goto (tgt := 4) hM dX5_groups_41 (by decide) ?_
          exact ih4 w4_1 z241 _ _ _ (by omega) (by omega) (by omega) (lv_sub hl [1, 2, 0] rfl) hW
        · refine q_aload_n hM dX5_groups_21 (lv_at hl 0 rfl) ?_
          refine q_iload_n hM dX5_groups_22 (lv_at hl 2 rfl) ?_
          refine q_callV (As := [.int w4_2]) (rest := []) hM hW.1 hR hC myX5_group (kAW (v_3_9 (List.mem_of_getElem? (i := 6) rfl)) rfl) (rfl : vwCl[5]? = some (RX5, TX5, 3)) rfl lb_3.1 (shO hW.2.1 lb_3) (a_X5_group _ _ cA ad g0 w4_2 hW.2.1 hG (by  omega) (by  omega)) ⟨by decide, by decide⟩ rfl rfl hl.1 (Nat.le_of_ble_eq_true rfl) dX5_groups_23 (fun v g244 H locs hp hW1 => ?_)
          obtain ⟨r243, rfl, hr243, rfl⟩ := hp
          have hW : WS ad cA (fun i k => False) g0 K g0 H locs := ⟨hW1, hW.2.1, hW.2.2⟩
          refine q_callN (host := "ForgetSchool") (As := [.int r243]) (rest := []) hM hW.1 hR hC myX11_lowestBit (List.mem_of_getElem? (i := 10) rfl) (a_X11_lowestBit _ _ cA ad g0 r243 hW.2.1 hG) ⟨by decide, by decide⟩ rfl rfl hl.1 (Nat.le_of_ble_eq_true rfl) dX5_groups_26 (fun v g246 H locs hp hW1 => ?_)
          obtain ⟨r245, rfl, hr245, rfl⟩ := hp
          have hW : WS ad cA (fun i k => False) g0 K g0 H locs := ⟨hW1, hW.2.1, hW.2.2⟩
          refine q_iconst (v := (1 : Int32)) hM dX5_groups_29 (by decide) ?_
          refine q_iload_n hM dX5_groups_30 (lv_at hl 2 rfl) ?_
          refine q_ishl hM dX5_groups_31 (fun z247 hz247 => ?_)
          refine q_icmp_ne (tgt := 38) hM dX5_groups_32 (by decide) (rfl : r245.toInt = r245.toInt) (rfl : z247.toInt = z247.toInt) (fun h32 => ?_) (fun h32 => ?_)
          · refine q_iinc (lv9 := fun z249 => [(2, .int z249), (0, .ref (ad 3)), (1, .int w4_1)]) hM dX5_groups_38 hl (kq := 2) rfl (by decide) (fun _ => rfl) (fun z249 ls hz249 hl => ?_)
            first | have tz249 := i_addT hz249 (rfl : w4_2.toInt = w4_2.toInt) (kc_1 : (Int32.ofInt 1).toInt = 1) (by omega) (by omega) | skip
            refine q_goto (tgt := 4) hM dX5_groups_41 (by decide) ?_
            exact ih4 w4_1 z249 _ _ _ (by omega) (by omega) (by omega) (lv_sub hl [1, 2, 0] rfl) hW
          · refine q_iinc (lv9 := fun z251 => [(1, .int z251), (0, .ref (ad 3)), (2, .int w4_2)]) hM dX5_groups_35 hl (kq := 1) rfl (by decide) (fun _ => rfl) (fun z251 ls hz251 hl => ?_)
            first | have tz251 := i_addT hz251 (rfl : w4_1.toInt = w4_1.toInt) (kc_1 : (Int32.ofInt 1).toInt = 1) (by omega) (by omega) | skip
            refine q_iinc (lv9 := fun z252 => [(2, .int z252), (1, .int z251), (0, .ref (ad 3))]) hM dX5_groups_38 hl (kq := 2) rfl (by decide) (fun _ => rfl) (fun z252 ls hz252 hl => ?_)
            first | have tz252 := i_addT hz252 (rfl : w4_2.toInt = w4_2.toInt) (kc_1 : (Int32.ofInt 1).toInt = 1) (by omega) (by omega) | skip
            refine q_goto (tgt := 4) hM dX5_groups_41 (by decide) ?_
            exact ih4 z251 z252 _ _ _ (by omega) (by omega) (by omega) (lv_sub hl [2, 1, 0] rfl) hW
  have := kc_0
  have := kc_0
  exact L4 _ (0 : Int32) (0 : Int32) _ _ _ (Nat.lt_succ_self _) (by omega) (by omega) (lv_sub hl [2, 1, 0] rfl) hW

theorem dX9_noise_0 : decode cX9_noise 0 = .ok (.iconst 0, 1) := by decide +kernel
theorem dX9_noise_1 : decode cX9_noise 1 = .ok (.istore_n 2, 1) := by decide +kernel
theorem dX9_noise_2 : decode cX9_noise 2 = .ok (.iconst 0, 1) := by decide +kernel
theorem dX9_noise_3 : decode cX9_noise 3 = .ok (.istore_n 3, 1) := by decide +kernel
theorem dX9_noise_4 : decode cX9_noise 4 = .ok (.iload_n 3, 1) := by decide +kernel
theorem dX9_noise_5 : decode cX9_noise 5 = .ok (.bipush 8, 2) := by decide +kernel
theorem dX9_noise_7 : decode cX9_noise 7 = .ok (.if_icmp .ge 56, 3) := by decide +kernel
theorem dX9_noise_10 : decode cX9_noise 10 = .ok (.iload_n 3, 1) := by decide +kernel
theorem dX9_noise_11 : decode cX9_noise 11 = .ok (.iconst 1, 1) := by decide +kernel
theorem dX9_noise_12 : decode cX9_noise 12 = .ok (.iadd, 1) := by decide +kernel
theorem dX9_noise_13 : decode cX9_noise 13 = .ok (.istore 4, 2) := by decide +kernel
theorem dX9_noise_15 : decode cX9_noise 15 = .ok (.iload 4, 2) := by decide +kernel
theorem dX9_noise_17 : decode cX9_noise 17 = .ok (.bipush 8, 2) := by decide +kernel
theorem dX9_noise_19 : decode cX9_noise 19 = .ok (.if_icmp .ge 38, 3) := by decide +kernel
theorem dX9_noise_22 : decode cX9_noise 22 = .ok (.iload_n 1, 1) := by decide +kernel
theorem dX9_noise_23 : decode cX9_noise 23 = .ok (.iload_n 3, 1) := by decide +kernel
theorem dX9_noise_24 : decode cX9_noise 24 = .ok (.invokestatic 30, 3) := by decide +kernel
theorem dX9_noise_27 : decode cX9_noise 27 = .ok (.ifCond .eq 24, 3) := by decide +kernel
theorem dX9_noise_30 : decode cX9_noise 30 = .ok (.iload_n 1, 1) := by decide +kernel
theorem dX9_noise_31 : decode cX9_noise 31 = .ok (.iload 4, 2) := by decide +kernel
theorem dX9_noise_33 : decode cX9_noise 33 = .ok (.invokestatic 30, 3) := by decide +kernel
theorem dX9_noise_36 : decode cX9_noise 36 = .ok (.ifCond .eq 15, 3) := by decide +kernel
theorem dX9_noise_39 : decode cX9_noise 39 = .ok (.iload_n 2, 1) := by decide +kernel
theorem dX9_noise_40 : decode cX9_noise 40 = .ok (.aload_n 0, 1) := by decide +kernel
theorem dX9_noise_41 : decode cX9_noise 41 = .ok (.getfield 11, 3) := by decide +kernel
theorem dX9_noise_44 : decode cX9_noise 44 = .ok (.iload_n 3, 1) := by decide +kernel
theorem dX9_noise_45 : decode cX9_noise 45 = .ok (.aaload, 1) := by decide +kernel
theorem dX9_noise_46 : decode cX9_noise 46 = .ok (.iload 4, 2) := by decide +kernel
theorem dX9_noise_48 : decode cX9_noise 48 = .ok (.iaload, 1) := by decide +kernel
theorem dX9_noise_49 : decode cX9_noise 49 = .ok (.iadd, 1) := by decide +kernel
theorem dX9_noise_50 : decode cX9_noise 50 = .ok (.istore_n 2, 1) := by decide +kernel
theorem dX9_noise_51 : decode cX9_noise 51 = .ok (.iinc 4 1, 3) := by decide +kernel
theorem dX9_noise_54 : decode cX9_noise 54 = .ok (.goto (-39), 3) := by decide +kernel
theorem dX9_noise_57 : decode cX9_noise 57 = .ok (.iinc 3 1, 3) := by decide +kernel
theorem dX9_noise_60 : decode cX9_noise 60 = .ok (.goto (-56), 3) := by decide +kernel
theorem dX9_noise_63 : decode cX9_noise 63 = .ok (.iload_n 2, 1) := by decide +kernel
theorem dX9_noise_64 : decode cX9_noise 64 = .ok (.ireturn, 1) := by decide +kernel
theorem FG_X9_11 : FG RX9 11 9 5 0 := ⟨RX9, TX9, rfl, wX9, by decide, kAW (v_1_2 (List.mem_of_getElem? (i := 5) rfl)) rfl, rfl⟩
set_option maxRecDepth 100000 in
set_option maxHeartbeats 4000000 in
theorem a_X9_noise (l : Launch) (D : va_G) (cA : Nat → ClassId) (ad : Nat → Nat) (g0 : Nat → va_E) (ro : Int32) (hSh : Shp ad cA g0) (hG : Rng g0) : CT l NN ad cA D yX9_noise cX9_noise 5 (some FieldType.int) (1, 21) [.ref (ad 102), .int ro] g0 (PU g0 (fun r => True)) := by
  refine q_enterI (by decide) (Nat.le_of_ble_eq_true rfl) rfl (fun K H locs ls _ _ hM hW0 hR hC hE hl => ?_)
  have hl : lv_has ls 5 [(0, .ref (ad 102)), (1, .int ro)] := hl
  have hW : WS ad cA (fun i k => False) g0 K g0 H locs := ⟨hW0, hSh, FR.rf⟩
  refine q_iconst (v := (0 : Int32)) hM dX9_noise_0 (by decide) ?_
  refine q_istore_n (lv9 := [(2, .int (0 : Int32)), (0, .ref (ad 102)), (1, .int ro)]) hM dX9_noise_1 hl (by decide) rfl (fun ls hl => ?_)
  refine q_iconst (v := (0 : Int32)) hM dX9_noise_2 (by decide) ?_
  refine q_istore_n (lv9 := [(3, .int (0 : Int32)), (2, .int (0 : Int32)), (0, .ref (ad 102)), (1, .int ro)]) hM dX9_noise_3 hl (by decide) rfl (fun ls hl => ?_)
  have L4 : ∀ (fu4 : Nat) (w4_2 : Int32) (w4_3 : Int32) (H : Heap) (locs : List Loc) (ls : Array Slot), (8 - w4_3.toInt).toNat < fu4 → (0 ≤ w4_3.toInt) → (w4_3.toInt ≤ 8) → lv_has ls 5 [(0, .ref (ad 102)), (1, .int ro), (2, .int w4_2), (3, .int w4_3)] → WS ad cA (fun i k => False) g0 K g0 H locs → XX K 0 0 H locs 4 ls [] := by
    intro fu4
    induction fu4 with
    | zero => intro w4_2 w4_3 H locs ls h0; omega
    | succ fu4 ih4 =>
      intro w4_2 w4_3 H locs ls hm4 i4_0 i4_1 hl hW
      refine q_iload_n hM dX9_noise_4 (lv_at hl 3 rfl) ?_
      refine q_bipush (v := (8 : Int32)) hM dX9_noise_5 (by decide) ?_
      refine q_icmp_ge (tgt := 63) hM dX9_noise_7 (by decide) (rfl : w4_3.toInt = w4_3.toInt) (kc_8 : (8 : Int32).toInt = 8) (fun h7 => ?_) (fun h7 => ?_)
      · refine q_iload_n hM dX9_noise_63 (lv_at hl 2 rfl) ?_
        exact hE _ _ _ _ _ _ hW.1 ⟨_, rfl, (by trivial), rfl⟩ dX9_noise_64
      · refine q_iload_n hM dX9_noise_10 (lv_at hl 3 rfl) ?_
        refine q_iconst (v := (1 : Int32)) hM dX9_noise_11 (by decide) ?_
        refine q_iadd hM dX9_noise_12 (fun z256 hz256 => ?_)
        first | have tz256 := i_addT hz256 (rfl : w4_3.toInt = w4_3.toInt) (kc_1 : (1 : Int32).toInt = 1) (by omega) (by omega) | skip
        refine q_istore (lv9 := [(4, .int z256), (0, .ref (ad 102)), (1, .int ro), (2, .int w4_2), (3, .int w4_3)]) hM dX9_noise_13 hl (by decide) rfl (fun ls hl => ?_)
        have L15 : ∀ (fu15 : Nat) (w15_2 : Int32) (w15_4 : Int32) (H : Heap) (locs : List Loc) (ls : Array Slot), (8 - w15_4.toInt).toNat < fu15 → (z256.toInt ≤ w15_4.toInt) → (w15_4.toInt ≤ 8) → lv_has ls 5 [(0, .ref (ad 102)), (1, .int ro), (2, .int w15_2), (3, .int w4_3), (4, .int w15_4)] → WS ad cA (fun i k => False) g0 K g0 H locs → XX K 0 0 H locs 15 ls [] := by
          intro fu15
          induction fu15 with
          | zero => intro w15_2 w15_4 H locs ls h0; omega
          | succ fu15 ih15 =>
            intro w15_2 w15_4 H locs ls hm15 i15_0 i15_1 hl hW
            refine q_iload hM dX9_noise_15 (lv_at hl 4 rfl) ?_
            refine q_bipush (v := (8 : Int32)) hM dX9_noise_17 (by decide) ?_
            refine q_icmp_ge (tgt := 57) hM dX9_noise_19 (by decide) (rfl : w15_4.toInt = w15_4.toInt) (kc_8 : (8 : Int32).toInt = 8) (fun h19 => ?_) (fun h19 => ?_)
            · refine q_iinc (lv9 := fun z259 => [(3, .int z259), (0, .ref (ad 102)), (1, .int ro), (2, .int w15_2), (4, .int w15_4)]) hM dX9_noise_57 hl (kq := 3) rfl (by decide) (fun _ => rfl) (fun z259 ls hz259 hl => ?_)
              first | have tz259 := i_addT hz259 (rfl : w4_3.toInt = w4_3.toInt) (kc_1 : (Int32.ofInt 1).toInt = 1) (by omega) (by omega) | skip
              refine q_goto (tgt := 4) hM dX9_noise_60 (by decide) ?_
              exact ih4 w15_2 z259 _ _ _ (by omega) (by omega) (by omega) (lv_sub hl [1, 2, 3, 0] rfl) hW
            · refine q_iload_n hM dX9_noise_22 (lv_at hl 1 rfl) ?_
              refine q_iload_n hM dX9_noise_23 (lv_at hl 3 rfl) ?_
              refine q_callN (host := "ForgetSchool") (As := [.int ro, .int w4_3]) (rest := []) hM hW.1 hR hC myX11_has (List.mem_of_getElem? (i := 12) rfl) (c_X11_has _ _ cA ad g0 ro w4_3 hW.2.1) ⟨by decide, by decide⟩ rfl rfl hl.1 (Nat.le_of_ble_eq_true rfl) dX9_noise_24 (fun v g262 H locs hp hW1 => ?_)
              obtain ⟨r261, rfl, hr261, rfl⟩ := hp
              have hW : WS ad cA (fun i k => False) g0 K g0 H locs := ⟨hW1, hW.2.1, hW.2.2⟩
              refine q_if_eq (tgt := 51) hM dX9_noise_27 (by decide) (rfl : r261.toInt = r261.toInt) (fun h27 => ?_) (fun h27 => ?_)
              · refine q_iinc (lv9 := fun z264 => [(4, .int z264), (0, .ref (ad 102)), (1, .int ro), (2, .int w15_2), (3, .int w4_3)]) hM dX9_noise_51 hl (kq := 4) rfl (by decide) (fun _ => rfl) (fun z264 ls hz264 hl => ?_)
                first | have tz264 := i_addT hz264 (rfl : w15_4.toInt = w15_4.toInt) (kc_1 : (Int32.ofInt 1).toInt = 1) (by omega) (by omega) | skip
                refine q_goto (tgt := 15) hM dX9_noise_54 (by decide) ?_
                exact ih15 w15_2 z264 _ _ _ (by omega) (by omega) (by omega) (lv_sub hl [1, 2, 3, 4, 0] rfl) hW
              · refine q_iload_n hM dX9_noise_30 (lv_at hl 1 rfl) ?_
                refine q_iload hM dX9_noise_31 (lv_at hl 4 rfl) ?_
                refine q_callN (host := "ForgetSchool") (As := [.int ro, .int w15_4]) (rest := []) hM hW.1 hR hC myX11_has (List.mem_of_getElem? (i := 12) rfl) (c_X11_has _ _ cA ad g0 ro w15_4 hW.2.1) ⟨by decide, by decide⟩ rfl rfl hl.1 (Nat.le_of_ble_eq_true rfl) dX9_noise_33 (fun v g267 H locs hp hW1 => ?_)
                obtain ⟨r266, rfl, hr266, rfl⟩ := hp
                have hW : WS ad cA (fun i k => False) g0 K g0 H locs := ⟨hW1, hW.2.1, hW.2.2⟩
                refine q_if_eq (tgt := 51) hM dX9_noise_36 (by decide) (rfl : r266.toInt = r266.toInt) (fun h36 => ?_) (fun h36 => ?_)
                · refine q_iinc (lv9 := fun z269 => [(4, .int z269), (0, .ref (ad 102)), (1, .int ro), (2, .int w15_2), (3, .int w4_3)]) hM dX9_noise_51 hl (kq := 4) rfl (by decide) (fun _ => rfl) (fun z269 ls hz269 hl => ?_)
                  first | have tz269 := i_addT hz269 (rfl : w15_4.toInt = w15_4.toInt) (kc_1 : (Int32.ofInt 1).toInt = 1) (by omega) (by omega) | skip
                  refine q_goto (tgt := 15) hM dX9_noise_54 (by decide) ?_
                  exact ih15 w15_2 z269 _ _ _ (by omega) (by omega) (by omega) (lv_sub hl [1, 2, 3, 4, 0] rfl) hW
                · refine q_iload_n hM dX9_noise_39 (lv_at hl 2 rfl) ?_
                  refine q_aload_n hM dX9_noise_40 (lv_at hl 0 rfl) ?_
                  refine w_get (v := .ref (ad 103)) hM hW FG_X9_11 lb_102 (rf_102_0 hW.2.1) dX9_noise_41 ?_
                  refine q_iload_n hM dX9_noise_44 (lv_at hl 3 rfl) ?_
                  refine w_aald hM hW lb_103 (Or.inl rfl) (i_in (by omega) (by omega)) (aq (aq_103 hW.2.1) (by omega) (by omega)) dX9_noise_45 ?_
                  refine q_iload hM dX9_noise_46 (lv_at hl 4 rfl) ?_
                  refine w_iald hM hW (lr_104 (by omega)) (i_in (by omega) (by omega)) dX9_noise_48 ?_
                  refine q_top (fun y271 hy271 => ?_)
                  refine q_iadd hM dX9_noise_49 (fun z272 hz272 => ?_)
                  first | have tz272 := i_addT hz272 (rfl : w15_2.toInt = w15_2.toInt) (rfl : y271.toInt = y271.toInt) (by omega) (by omega) | skip
                  refine q_istore_n (lv9 := [(2, .int z272), (0, .ref (ad 102)), (1, .int ro), (3, .int w4_3), (4, .int w15_4)]) hM dX9_noise_50 hl (by decide) rfl (fun ls hl => ?_)
                  refine q_iinc (lv9 := fun z273 => [(4, .int z273), (2, .int z272), (0, .ref (ad 102)), (1, .int ro), (3, .int w4_3)]) hM dX9_noise_51 hl (kq := 4) rfl (by decide) (fun _ => rfl) (fun z273 ls hz273 hl => ?_)
                  first | have tz273 := i_addT hz273 (rfl : w15_4.toInt = w15_4.toInt) (kc_1 : (Int32.ofInt 1).toInt = 1) (by omega) (by omega) | skip
                  refine q_goto (tgt := 15) hM dX9_noise_54 (by decide) ?_
                  exact ih15 z272 z273 _ _ _ (by omega) (by omega) (by omega) (lv_sub hl [2, 3, 1, 4, 0] rfl) hW
        exact L15 _ w4_2 z256 _ _ _ (Nat.lt_succ_self _) (by omega) (by omega) (lv_sub hl [1, 2, 3, 4, 0] rfl) hW
  have := kc_0
  have := kc_0
  exact L4 _ (0 : Int32) (0 : Int32) _ _ _ (Nat.lt_succ_self _) (by omega) (by omega) (lv_sub hl [2, 3, 1, 0] rfl) hW

theorem dX9_calmestRoom_0 : decode cX9_calmestRoom 0 = .ok (.iload_n 1, 1) := by decide +kernel
theorem dX9_calmestRoom_1 : decode cX9_calmestRoom 1 = .ok (.iload_n 1, 1) := by decide +kernel
theorem dX9_calmestRoom_2 : decode cX9_calmestRoom 2 = .ok (.invokestatic 34, 3) := by decide +kernel
theorem dX9_calmestRoom_5 : decode cX9_calmestRoom 5 = .ok (.iconst (-1), 1) := by decide +kernel
theorem dX9_calmestRoom_6 : decode cX9_calmestRoom 6 = .ok (.ixor, 1) := by decide +kernel
theorem dX9_calmestRoom_7 : decode cX9_calmestRoom 7 = .ok (.iand, 1) := by decide +kernel
theorem dX9_calmestRoom_8 : decode cX9_calmestRoom 8 = .ok (.istore_n 2, 1) := by decide +kernel
theorem dX9_calmestRoom_9 : decode cX9_calmestRoom 9 = .ok (.iload_n 2, 1) := by decide +kernel
theorem dX9_calmestRoom_10 : decode cX9_calmestRoom 10 = .ok (.istore_n 3, 1) := by decide +kernel
theorem dX9_calmestRoom_11 : decode cX9_calmestRoom 11 = .ok (.aload_n 0, 1) := by decide +kernel
theorem dX9_calmestRoom_12 : decode cX9_calmestRoom 12 = .ok (.iload_n 2, 1) := by decide +kernel
theorem dX9_calmestRoom_13 : decode cX9_calmestRoom 13 = .ok (.invokevirtual 38, 3) := by decide +kernel
theorem dX9_calmestRoom_16 : decode cX9_calmestRoom 16 = .ok (.istore 4, 2) := by decide +kernel
theorem dX9_calmestRoom_18 : decode cX9_calmestRoom 18 = .ok (.iconst 1, 1) := by decide +kernel
theorem dX9_calmestRoom_19 : decode cX9_calmestRoom 19 = .ok (.istore 5, 2) := by decide +kernel
theorem dX9_calmestRoom_21 : decode cX9_calmestRoom 21 = .ok (.iload 5, 2) := by decide +kernel
theorem dX9_calmestRoom_23 : decode cX9_calmestRoom 23 = .ok (.iload_n 2, 1) := by decide +kernel
theorem dX9_calmestRoom_24 : decode cX9_calmestRoom 24 = .ok (.if_icmp .ge 64, 3) := by decide +kernel
theorem dX9_calmestRoom_27 : decode cX9_calmestRoom 27 = .ok (.iload 5, 2) := by decide +kernel
theorem dX9_calmestRoom_29 : decode cX9_calmestRoom 29 = .ok (.iload_n 2, 1) := by decide +kernel
theorem dX9_calmestRoom_30 : decode cX9_calmestRoom 30 = .ok (.invokestatic 41, 3) := by decide +kernel
theorem dX9_calmestRoom_33 : decode cX9_calmestRoom 33 = .ok (.ifCond .eq 49, 3) := by decide +kernel
theorem dX9_calmestRoom_36 : decode cX9_calmestRoom 36 = .ok (.aload_n 0, 1) := by decide +kernel
theorem dX9_calmestRoom_37 : decode cX9_calmestRoom 37 = .ok (.iload 5, 2) := by decide +kernel
theorem dX9_calmestRoom_39 : decode cX9_calmestRoom 39 = .ok (.invokevirtual 38, 3) := by decide +kernel
theorem dX9_calmestRoom_42 : decode cX9_calmestRoom 42 = .ok (.aload_n 0, 1) := by decide +kernel
theorem dX9_calmestRoom_43 : decode cX9_calmestRoom 43 = .ok (.iload_n 1, 1) := by decide +kernel
theorem dX9_calmestRoom_44 : decode cX9_calmestRoom 44 = .ok (.iload 5, 2) := by decide +kernel
theorem dX9_calmestRoom_46 : decode cX9_calmestRoom 46 = .ok (.iconst (-1), 1) := by decide +kernel
theorem dX9_calmestRoom_47 : decode cX9_calmestRoom 47 = .ok (.ixor, 1) := by decide +kernel
theorem dX9_calmestRoom_48 : decode cX9_calmestRoom 48 = .ok (.iand, 1) := by decide +kernel
theorem dX9_calmestRoom_49 : decode cX9_calmestRoom 49 = .ok (.invokevirtual 38, 3) := by decide +kernel
theorem dX9_calmestRoom_52 : decode cX9_calmestRoom 52 = .ok (.iadd, 1) := by decide +kernel
theorem dX9_calmestRoom_53 : decode cX9_calmestRoom 53 = .ok (.istore 6, 2) := by decide +kernel
theorem dX9_calmestRoom_55 : decode cX9_calmestRoom 55 = .ok (.iload 6, 2) := by decide +kernel
theorem dX9_calmestRoom_57 : decode cX9_calmestRoom 57 = .ok (.iload 4, 2) := by decide +kernel
theorem dX9_calmestRoom_59 : decode cX9_calmestRoom 59 = .ok (.if_icmp .lt 16, 3) := by decide +kernel
theorem dX9_calmestRoom_62 : decode cX9_calmestRoom 62 = .ok (.iload 6, 2) := by decide +kernel
theorem dX9_calmestRoom_64 : decode cX9_calmestRoom 64 = .ok (.iload 4, 2) := by decide +kernel
theorem dX9_calmestRoom_66 : decode cX9_calmestRoom 66 = .ok (.if_icmp .ne 16, 3) := by decide +kernel
theorem dX9_calmestRoom_69 : decode cX9_calmestRoom 69 = .ok (.iload 5, 2) := by decide +kernel
theorem dX9_calmestRoom_71 : decode cX9_calmestRoom 71 = .ok (.iload_n 3, 1) := by decide +kernel
theorem dX9_calmestRoom_72 : decode cX9_calmestRoom 72 = .ok (.if_icmp .ge 10, 3) := by decide +kernel
theorem dX9_calmestRoom_75 : decode cX9_calmestRoom 75 = .ok (.iload 6, 2) := by decide +kernel
theorem dX9_calmestRoom_77 : decode cX9_calmestRoom 77 = .ok (.istore 4, 2) := by decide +kernel
theorem dX9_calmestRoom_79 : decode cX9_calmestRoom 79 = .ok (.iload 5, 2) := by decide +kernel
theorem dX9_calmestRoom_81 : decode cX9_calmestRoom 81 = .ok (.istore_n 3, 1) := by decide +kernel
theorem dX9_calmestRoom_82 : decode cX9_calmestRoom 82 = .ok (.iinc 5 1, 3) := by decide +kernel
theorem dX9_calmestRoom_85 : decode cX9_calmestRoom 85 = .ok (.goto (-64), 3) := by decide +kernel
theorem dX9_calmestRoom_88 : decode cX9_calmestRoom 88 = .ok (.iload_n 3, 1) := by decide +kernel
theorem dX9_calmestRoom_89 : decode cX9_calmestRoom 89 = .ok (.ireturn, 1) := by decide +kernel
theorem myX9_noise : MI yX9_noise cX9_noise 5 (some FieldType.int) 1 := ⟨kAW (v_3_11 (List.mem_of_getElem? (i := 15) rfl)) rfl, kAW (v_0_0 (List.mem_of_getElem? (i := 10) rfl)) rfl, kAW (v_3_11 (List.mem_of_getElem? (i := 13) rfl)) rfl, kAW (v_3_11 (List.mem_of_getElem? (i := 14) rfl)) rfl, by decide, by decide, by decide +kernel⟩
set_option maxRecDepth 100000 in
set_option maxHeartbeats 4000000 in
theorem a_X9_calmestRoom (l : Launch) (D : va_G) (cA : Nat → ClassId) (ad : Nat → Nat) (g0 : Nat → va_E) (so : Int32) (hSh : Shp ad cA g0) (hG : Rng g0) : CT l NN ad cA D yX9_calmestRoom cX9_calmestRoom 7 (some FieldType.int) (2, 45) [.ref (ad 102), .int so] g0 (PU g0 (fun r => True)) := by
  refine q_enterI (by decide) (Nat.le_of_ble_eq_true rfl) rfl (fun K H locs ls _ _ hM hW0 hR hC hE hl => ?_)
  have hl : lv_has ls 7 [(0, .ref (ad 102)), (1, .int so)] := hl
  have hW : WS ad cA (fun i k => False) g0 K g0 H locs := ⟨hW0, hSh, FR.rf⟩
  refine q_iload_n hM dX9_calmestRoom_0 (lv_at hl 1 rfl) ?_
  refine q_iload_n hM dX9_calmestRoom_1 (lv_at hl 1 rfl) ?_
  refine q_callN (host := "ForgetSchool") (As := [.int so]) (rest := [.int so]) hM hW.1 hR hC myX11_lowestBit (List.mem_of_getElem? (i := 11) rfl) (a_X11_lowestBit _ _ cA ad g0 so hW.2.1 hG) ⟨by decide, by decide⟩ rfl rfl hl.1 (Nat.le_of_ble_eq_true rfl) dX9_calmestRoom_2 (fun v g275 H locs hp hW1 => ?_)
  obtain ⟨r274, rfl, hr274, rfl⟩ := hp
  have hW : WS ad cA (fun i k => False) g0 K g0 H locs := ⟨hW1, hW.2.1, hW.2.2⟩
  refine q_iconst (v := ((-1) : Int32)) hM dX9_calmestRoom_5 (by decide) ?_
  refine q_ixor hM dX9_calmestRoom_6 (fun z276 hz276 => ?_)
  refine q_iand hM dX9_calmestRoom_7 (fun z277 hz277 => ?_)
  refine q_istore_n (lv9 := [(2, .int z277), (0, .ref (ad 102)), (1, .int so)]) hM dX9_calmestRoom_8 hl (by decide) rfl (fun ls hl => ?_)
  refine q_iload_n hM dX9_calmestRoom_9 (lv_at hl 0 rfl) ?_
  refine q_istore_n (lv9 := [(3, .int z277), (2, .int z277), (0, .ref (ad 102)), (1, .int so)]) hM dX9_calmestRoom_10 hl (by decide) rfl (fun ls hl => ?_)
  refine q_aload_n hM dX9_calmestRoom_11 (lv_at hl 2 rfl) ?_
  refine q_iload_n hM dX9_calmestRoom_12 (lv_at hl 1 rfl) ?_
  refine q_callV (As := [.int z277]) (rest := []) hM hW.1 hR hC myX9_noise (kAW (v_3_11 (List.mem_of_getElem? (i := 12) rfl)) rfl) (rfl : vwCl[9]? = some (RX9, TX9, 5)) rfl lb_102.1 (shO hW.2.1 lb_102) (a_X9_noise _ _ cA ad g0 z277 hW.2.1 hG) ⟨by decide, by decide⟩ rfl rfl hl.1 (Nat.le_of_ble_eq_true rfl) dX9_calmestRoom_13 (fun v g279 H locs hp hW1 => ?_)
  obtain ⟨r278, rfl, hr278, rfl⟩ := hp
  have hW : WS ad cA (fun i k => False) g0 K g0 H locs := ⟨hW1, hW.2.1, hW.2.2⟩
  refine q_istore (lv9 := [(4, .int r278), (3, .int z277), (2, .int z277), (0, .ref (ad 102)), (1, .int so)]) hM dX9_calmestRoom_16 hl (by decide) rfl (fun ls hl => ?_)
  refine q_iconst (v := (1 : Int32)) hM dX9_calmestRoom_18 (by decide) ?_
  refine q_istore (lv9 := [(5, .int (1 : Int32)), (4, .int r278), (3, .int z277), (2, .int z277), (0, .ref (ad 102)), (1, .int so)]) hM dX9_calmestRoom_19 hl (by decide) rfl (fun ls hl => ?_)
  have L21 : ∀ (fu21 : Nat) (w21_4 : Int32) (w21_3 : Int32) (w21_5 : Int32) (H : Heap) (locs : List Loc) (ls : Array Slot), (z277.toInt - w21_5.toInt + 1).toNat < fu21 → (1 ≤ w21_5.toInt) → lv_has ls 7 [(0, .ref (ad 102)), (1, .int so), (2, .int z277), (3, .int w21_3), (4, .int w21_4), (5, .int w21_5)] → WS ad cA (fun i k => False) g0 K g0 H locs → XX K 0 0 H locs 21 ls [] := by
    intro fu21
    induction fu21 with
    | zero => intro w21_4 w21_3 w21_5 H locs ls h0; omega
    | succ fu21 ih21 =>
      intro w21_4 w21_3 w21_5 H locs ls hm21 i21_0 hl hW
      have := i_rng z277
      refine q_iload hM dX9_calmestRoom_21 (lv_at hl 5 rfl) ?_
      refine q_iload_n hM dX9_calmestRoom_23 (lv_at hl 2 rfl) ?_
      refine q_icmp_ge (tgt := 88) hM dX9_calmestRoom_24 (by decide) (rfl : w21_5.toInt = w21_5.toInt) (rfl : z277.toInt = z277.toInt) (fun h24 => ?_) (fun h24 => ?_)
      · refine q_iload_n hM dX9_calmestRoom_88 (lv_at hl 3 rfl) ?_
        exact hE _ _ _ _ _ _ hW.1 ⟨_, rfl, (by trivial), rfl⟩ dX9_calmestRoom_89
      · refine q_iload hM dX9_calmestRoom_27 (lv_at hl 5 rfl) ?_
        refine q_iload_n hM dX9_calmestRoom_29 (lv_at hl 2 rfl) ?_
        refine q_callN (host := "ForgetSchool") (As := [.int w21_5, .int z277]) (rest := []) hM hW.1 hR hC myX11_areOf (List.mem_of_getElem? (i := 13) rfl) (c_X11_areOf _ _ cA ad g0 w21_5 z277 hW.2.1) ⟨by decide, by decide⟩ rfl rfl hl.1 (Nat.le_of_ble_eq_true rfl) dX9_calmestRoom_30 (fun v g284 H locs hp hW1 => ?_)
        obtain ⟨r283, rfl, hr283, rfl⟩ := hp
        have hW : WS ad cA (fun i k => False) g0 K g0 H locs := ⟨hW1, hW.2.1, hW.2.2⟩
        refine q_if_eq (tgt := 82) hM dX9_calmestRoom_33 (by decide) (rfl : r283.toInt = r283.toInt) (fun h33 => ?_) (fun h33 => ?_)
        · refine q_iinc (lv9 := fun z286 => [(5, .int z286), (0, .ref (ad 102)), (1, .int so), (2, .int z277), (3, .int w21_3), (4, .int w21_4)]) hM dX9_calmestRoom_82 hl (kq := 5) rfl (by decide) (fun _ => rfl) (fun z286 ls hz286 hl => ?_)
          first | have tz286 := i_addT hz286 (rfl : w21_5.toInt = w21_5.toInt) (kc_1 : (Int32.ofInt 1).toInt = 1) (by omega) (by omega) | skip
          refine q_goto (tgt := 21) hM dX9_calmestRoom_85 (by decide) ?_
          exact ih21 w21_4 w21_3 z286 _ _ _ (by omega) (by omega) (lv_sub hl [1, 2, 3, 4, 5, 0] rfl) hW
        · refine q_aload_n hM dX9_calmestRoom_36 (lv_at hl 0 rfl) ?_
          refine q_iload hM dX9_calmestRoom_37 (lv_at hl 5 rfl) ?_
          refine q_callV (As := [.int w21_5]) (rest := []) hM hW.1 hR hC myX9_noise (kAW (v_3_11 (List.mem_of_getElem? (i := 12) rfl)) rfl) (rfl : vwCl[9]? = some (RX9, TX9, 5)) rfl lb_102.1 (shO hW.2.1 lb_102) (a_X9_noise _ _ cA ad g0 w21_5 hW.2.1 hG) ⟨by decide, by decide⟩ rfl rfl hl.1 (Nat.le_of_ble_eq_true rfl) dX9_calmestRoom_39 (fun v g289 H locs hp hW1 => ?_)
          obtain ⟨r288, rfl, hr288, rfl⟩ := hp
          have hW : WS ad cA (fun i k => False) g0 K g0 H locs := ⟨hW1, hW.2.1, hW.2.2⟩
          refine q_aload_n hM dX9_calmestRoom_42 (lv_at hl 0 rfl) ?_
          refine q_iload_n hM dX9_calmestRoom_43 (lv_at hl 1 rfl) ?_
          refine q_iload hM dX9_calmestRoom_44 (lv_at hl 5 rfl) ?_
          refine q_iconst (v := ((-1) : Int32)) hM dX9_calmestRoom_46 (by decide) ?_
          refine q_ixor hM dX9_calmestRoom_47 (fun z290 hz290 => ?_)
          refine q_iand hM dX9_calmestRoom_48 (fun z291 hz291 => ?_)
          refine q_callV (As := [.int z291]) (rest := [.int r288]) hM hW.1 hR hC myX9_noise (kAW (v_3_11 (List.mem_of_getElem? (i := 12) rfl)) rfl) (rfl : vwCl[9]? = some (RX9, TX9, 5)) rfl lb_102.1 (shO hW.2.1 lb_102) (a_X9_noise _ _ cA ad g0 z291 hW.2.1 hG) ⟨by decide, by decide⟩ rfl rfl hl.1 (Nat.le_of_ble_eq_true rfl) dX9_calmestRoom_49 (fun v g293 H locs hp hW1 => ?_)
          obtain ⟨r292, rfl, hr292, rfl⟩ := hp
          have hW : WS ad cA (fun i k => False) g0 K g0 H locs := ⟨hW1, hW.2.1, hW.2.2⟩
          refine q_iadd hM dX9_calmestRoom_52 (fun z294 hz294 => ?_)
          first | have tz294 := i_addT hz294 (rfl : r288.toInt = r288.toInt) (rfl : r292.toInt = r292.toInt) (by omega) (by omega) | skip
          refine q_istore (lv9 := [(6, .int z294), (0, .ref (ad 102)), (1, .int so), (2, .int z277), (3, .int w21_3), (4, .int w21_4), (5, .int w21_5)]) hM dX9_calmestRoom_53 hl (by decide) rfl (fun ls hl => ?_)
          refine q_iload hM dX9_calmestRoom_55 (lv_at hl 0 rfl) ?_
          refine q_iload hM dX9_calmestRoom_57 (lv_at hl 5 rfl) ?_
          refine q_icmp_lt (tgt := 75) hM dX9_calmestRoom_59 (by decide) (rfl : z294.toInt = z294.toInt) (rfl : w21_4.toInt = w21_4.toInt) (fun h59 => ?_) (fun h59 => ?_)
          · refine q_iload hM dX9_calmestRoom_75 (lv_at hl 0 rfl) ?_
            refine q_istore (lv9 := [(4, .int z294), (6, .int z294), (0, .ref (ad 102)), (1, .int so), (2, .int z277), (3, .int w21_3), (5, .int w21_5)]) hM dX9_calmestRoom_77 hl (by decide) rfl (fun ls hl => ?_)
            refine q_iload hM dX9_calmestRoom_79 (lv_at hl 6 rfl) ?_
            refine q_istore_n (lv9 := [(3, .int w21_5), (4, .int z294), (6, .int z294), (0, .ref (ad 102)), (1, .int so), (2, .int z277), (5, .int w21_5)]) hM dX9_calmestRoom_81 hl (by decide) rfl (fun ls hl => ?_)
            refine q_iinc (lv9 := fun z296 => [(5, .int z296), (3, .int w21_5), (4, .int z294), (6, .int z294), (0, .ref (ad 102)), (1, .int so), (2, .int z277)]) hM dX9_calmestRoom_82 hl (kq := 6) rfl (by decide) (fun _ => rfl) (fun z296 ls hz296 hl => ?_)
            first | have tz296 := i_addT hz296 (rfl : w21_5.toInt = w21_5.toInt) (kc_1 : (Int32.ofInt 1).toInt = 1) (by omega) (by omega) | skip
            refine q_goto (tgt := 21) hM dX9_calmestRoom_85 (by decide) ?_
            exact ih21 z294 w21_5 z296 _ _ _ (by omega) (by omega) (lv_sub hl [4, 5, 6, 1, 2, 0] rfl) hW
          · refine q_iload hM dX9_calmestRoom_62 (lv_at hl 0 rfl) ?_
            refine q_iload hM dX9_calmestRoom_64 (lv_at hl 5 rfl) ?_
            refine q_icmp_ne (tgt := 82) hM dX9_calmestRoom_66 (by decide) (rfl : z294.toInt = z294.toInt) (rfl : w21_4.toInt = w21_4.toInt) (fun h66 => ?_) (fun h66 => ?_)
            · refine q_iinc (lv9 := fun z299 => [(5, .int z299), (6, .int z294), (0, .ref (ad 102)), (1, .int so), (2, .int z277), (3, .int w21_3), (4, .int w21_4)]) hM dX9_calmestRoom_82 hl (kq := 6) rfl (by decide) (fun _ => rfl) (fun z299 ls hz299 hl => ?_)
              first | have tz299 := i_addT hz299 (rfl : w21_5.toInt = w21_5.toInt) (kc_1 : (Int32.ofInt 1).toInt = 1) (by omega) (by omega) | skip
              refine q_goto (tgt := 21) hM dX9_calmestRoom_85 (by decide) ?_
              exact ih21 w21_4 w21_3 z299 _ _ _ (by omega) (by omega) (lv_sub hl [2, 3, 4, 5, 6, 0] rfl) hW
            · refine q_iload hM dX9_calmestRoom_69 (lv_at hl 6 rfl) ?_
              refine q_iload_n hM dX9_calmestRoom_71 (lv_at hl 4 rfl) ?_
              refine q_icmp_ge (tgt := 82) hM dX9_calmestRoom_72 (by decide) (rfl : w21_5.toInt = w21_5.toInt) (rfl : w21_3.toInt = w21_3.toInt) (fun h72 => ?_) (fun h72 => ?_)
              · refine q_iinc (lv9 := fun z302 => [(5, .int z302), (6, .int z294), (0, .ref (ad 102)), (1, .int so), (2, .int z277), (3, .int w21_3), (4, .int w21_4)]) hM dX9_calmestRoom_82 hl (kq := 6) rfl (by decide) (fun _ => rfl) (fun z302 ls hz302 hl => ?_)
                first | have tz302 := i_addT hz302 (rfl : w21_5.toInt = w21_5.toInt) (kc_1 : (Int32.ofInt 1).toInt = 1) (by omega) (by omega) | skip
                refine q_goto (tgt := 21) hM dX9_calmestRoom_85 (by decide) ?_
                exact ih21 w21_4 w21_3 z302 _ _ _ (by omega) (by omega) (lv_sub hl [2, 3, 4, 5, 6, 0] rfl) hW
              · refine q_iload hM dX9_calmestRoom_75 (lv_at hl 0 rfl) ?_
                refine q_istore (lv9 := [(4, .int z294), (6, .int z294), (0, .ref (ad 102)), (1, .int so), (2, .int z277), (3, .int w21_3), (5, .int w21_5)]) hM dX9_calmestRoom_77 hl (by decide) rfl (fun ls hl => ?_)
                refine q_iload hM dX9_calmestRoom_79 (lv_at hl 6 rfl) ?_
                refine q_istore_n (lv9 := [(3, .int w21_5), (4, .int z294), (6, .int z294), (0, .ref (ad 102)), (1, .int so), (2, .int z277), (5, .int w21_5)]) hM dX9_calmestRoom_81 hl (by decide) rfl (fun ls hl => ?_)
                refine q_iinc (lv9 := fun z304 => [(5, .int z304), (3, .int w21_5), (4, .int z294), (6, .int z294), (0, .ref (ad 102)), (1, .int so), (2, .int z277)]) hM dX9_calmestRoom_82 hl (kq := 6) rfl (by decide) (fun _ => rfl) (fun z304 ls hz304 hl => ?_)
                first | have tz304 := i_addT hz304 (rfl : w21_5.toInt = w21_5.toInt) (kc_1 : (Int32.ofInt 1).toInt = 1) (by omega) (by omega) | skip
                refine q_goto (tgt := 21) hM dX9_calmestRoom_85 (by decide) ?_
                exact ih21 z294 w21_5 z304 _ _ _ (by omega) (by omega) (lv_sub hl [4, 5, 6, 1, 2, 0] rfl) hW
  have := kc_1
  exact L21 _ r278 z277 (1 : Int32) _ _ _ (Nat.lt_succ_self _) (by omega) (lv_sub hl [4, 5, 3, 2, 1, 0] rfl) hW

theorem dX10_asBits_0 : decode cX10_asBits 0 = .ok (.iconst 0, 1) := by decide +kernel
theorem dX10_asBits_1 : decode cX10_asBits 1 = .ok (.istore_n 2, 1) := by decide +kernel
theorem dX10_asBits_2 : decode cX10_asBits 2 = .ok (.iconst 0, 1) := by decide +kernel
theorem dX10_asBits_3 : decode cX10_asBits 3 = .ok (.istore_n 3, 1) := by decide +kernel
theorem dX10_asBits_4 : decode cX10_asBits 4 = .ok (.iload_n 3, 1) := by decide +kernel
theorem dX10_asBits_5 : decode cX10_asBits 5 = .ok (.iload_n 1, 1) := by decide +kernel
theorem dX10_asBits_6 : decode cX10_asBits 6 = .ok (.if_icmp .ge 27, 3) := by decide +kernel
theorem dX10_asBits_9 : decode cX10_asBits 9 = .ok (.iload_n 3, 1) := by decide +kernel
theorem dX10_asBits_10 : decode cX10_asBits 10 = .ok (.sipush 260, 3) := by decide +kernel
theorem dX10_asBits_13 : decode cX10_asBits 13 = .ok (.if_icmp .ge 20, 3) := by decide +kernel
theorem dX10_asBits_16 : decode cX10_asBits 16 = .ok (.iload_n 2, 1) := by decide +kernel
theorem dX10_asBits_17 : decode cX10_asBits 17 = .ok (.iconst 1, 1) := by decide +kernel
theorem dX10_asBits_18 : decode cX10_asBits 18 = .ok (.aload_n 0, 1) := by decide +kernel
theorem dX10_asBits_19 : decode cX10_asBits 19 = .ok (.getfield 11, 3) := by decide +kernel
theorem dX10_asBits_22 : decode cX10_asBits 22 = .ok (.iload_n 3, 1) := by decide +kernel
theorem dX10_asBits_23 : decode cX10_asBits 23 = .ok (.iaload, 1) := by decide +kernel
theorem dX10_asBits_24 : decode cX10_asBits 24 = .ok (.ishl, 1) := by decide +kernel
theorem dX10_asBits_25 : decode cX10_asBits 25 = .ok (.ior, 1) := by decide +kernel
theorem dX10_asBits_26 : decode cX10_asBits 26 = .ok (.istore_n 2, 1) := by decide +kernel
theorem dX10_asBits_27 : decode cX10_asBits 27 = .ok (.iinc 3 1, 3) := by decide +kernel
theorem dX10_asBits_30 : decode cX10_asBits 30 = .ok (.goto (-26), 3) := by decide +kernel
theorem dX10_asBits_33 : decode cX10_asBits 33 = .ok (.iload_n 2, 1) := by decide +kernel
theorem dX10_asBits_34 : decode cX10_asBits 34 = .ok (.ireturn, 1) := by decide +kernel
theorem FG_X10_11 : FG RX10 11 10 2 0 := ⟨RX10, TX10, rfl, wX10, by decide, kAW (v_0_2 (List.mem_of_getElem? (i := 3) rfl)) rfl, rfl⟩
set_option maxRecDepth 100000 in
set_option maxHeartbeats 4000000 in
theorem a_X10_asBits (l : Launch) (D : va_G) (cA : Nat → ClassId) (ad : Nat → Nat) (g0 : Nat → va_E) (n : Int32) (hSh : Shp ad cA g0) (hG : Rng g0) : CT l NN ad cA D yX10_asBits cX10_asBits 4 (some FieldType.int) (0, 0) [.ref (ad 1), .int n] g0 (PU g0 (fun r => True)) := by
  refine q_enterI (by decide) (Nat.le_of_ble_eq_true rfl) rfl (fun K H locs ls _ _ hM hW0 hR hC hE hl => ?_)
  have hl : lv_has ls 4 [(0, .ref (ad 1)), (1, .int n)] := hl
  have hW : WS ad cA (fun i k => False) g0 K g0 H locs := ⟨hW0, hSh, FR.rf⟩
  refine q_iconst (v := (0 : Int32)) hM dX10_asBits_0 (by decide) ?_
  refine q_istore_n (lv9 := [(2, .int (0 : Int32)), (0, .ref (ad 1)), (1, .int n)]) hM dX10_asBits_1 hl (by decide) rfl (fun ls hl => ?_)
  refine q_iconst (v := (0 : Int32)) hM dX10_asBits_2 (by decide) ?_
  refine q_istore_n (lv9 := [(3, .int (0 : Int32)), (2, .int (0 : Int32)), (0, .ref (ad 1)), (1, .int n)]) hM dX10_asBits_3 hl (by decide) rfl (fun ls hl => ?_)
  have L4 : ∀ (fu4 : Nat) (w4_2 : Int32) (w4_3 : Int32) (H : Heap) (locs : List Loc) (ls : Array Slot), (n.toInt - w4_3.toInt + 1).toNat < fu4 → (0 ≤ w4_3.toInt) → lv_has ls 4 [(0, .ref (ad 1)), (1, .int n), (2, .int w4_2), (3, .int w4_3)] → WS ad cA (fun i k => False) g0 K g0 H locs → XX K 0 0 H locs 4 ls [] := by
    intro fu4
    induction fu4 with
    | zero => intro w4_2 w4_3 H locs ls h0; omega
    | succ fu4 ih4 =>
      intro w4_2 w4_3 H locs ls hm4 i4_0 hl hW
      have := i_rng n
      refine q_iload_n hM dX10_asBits_4 (lv_at hl 3 rfl) ?_
      refine q_iload_n hM dX10_asBits_5 (lv_at hl 1 rfl) ?_
      refine q_icmp_ge (tgt := 33) hM dX10_asBits_6 (by decide) (rfl : w4_3.toInt = w4_3.toInt) (rfl : n.toInt = n.toInt) (fun h6 => ?_) (fun h6 => ?_)
      · refine q_iload_n hM dX10_asBits_33 (lv_at hl 2 rfl) ?_
        exact hE _ _ _ _ _ _ hW.1 ⟨_, rfl, (by trivial), rfl⟩ dX10_asBits_34
      · refine q_iload_n hM dX10_asBits_9 (lv_at hl 3 rfl) ?_
        refine q_sipush (v := (260 : Int32)) hM dX10_asBits_10 (by decide) ?_
        refine q_icmp_ge (tgt := 33) hM dX10_asBits_13 (by decide) (rfl : w4_3.toInt = w4_3.toInt) (kc_260 : (260 : Int32).toInt = 260) (fun h13 => ?_) (fun h13 => ?_)
        · refine q_iload_n hM dX10_asBits_33 (lv_at hl 2 rfl) ?_
          exact hE _ _ _ _ _ _ hW.1 ⟨_, rfl, (by trivial), rfl⟩ dX10_asBits_34
        · refine q_iload_n hM dX10_asBits_16 (lv_at hl 2 rfl) ?_
          refine q_iconst (v := (1 : Int32)) hM dX10_asBits_17 (by decide) ?_
          refine q_aload_n hM dX10_asBits_18 (lv_at hl 0 rfl) ?_
          refine w_get (v := .ref (ad 2)) hM hW FG_X10_11 lb_1 (rf_1_0 hW.2.1) dX10_asBits_19 ?_
          refine q_iload_n hM dX10_asBits_22 (lv_at hl 3 rfl) ?_
          refine w_iald hM hW lb_2 (i_in (by omega) (by omega)) dX10_asBits_23 ?_
          refine q_top (fun y310 hy310 => ?_)
          have by310 := hG.a hy310 rA_2
          have cy310 := congrArg Int32.toInt hy310
          refine q_ishl hM dX10_asBits_24 (fun z311 hz311 => ?_)
          refine q_ior hM dX10_asBits_25 (fun z312 hz312 => ?_)
          refine q_istore_n (lv9 := [(2, .int z312), (0, .ref (ad 1)), (1, .int n), (3, .int w4_3)]) hM dX10_asBits_26 hl (by decide) rfl (fun ls hl => ?_)
          refine q_iinc (lv9 := fun z313 => [(3, .int z313), (2, .int z312), (0, .ref (ad 1)), (1, .int n)]) hM dX10_asBits_27 hl (kq := 3) rfl (by decide) (fun _ => rfl) (fun z313 ls hz313 hl => ?_)
          first | have tz313 := i_addT hz313 (rfl : w4_3.toInt = w4_3.toInt) (kc_1 : (Int32.ofInt 1).toInt = 1) (by omega) (by omega) | skip
          refine q_goto (tgt := 4) hM dX10_asBits_30 (by decide) ?_
          exact ih4 z312 z313 _ _ _ (by omega) (by omega) (lv_sub hl [2, 3, 1, 0] rfl) hW
  have := kc_0
  have := kc_0
  exact L4 _ (0 : Int32) (0 : Int32) _ _ _ (Nat.lt_succ_self _) (by omega) (lv_sub hl [2, 3, 1, 0] rfl) hW
