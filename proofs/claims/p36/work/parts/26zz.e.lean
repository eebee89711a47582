
set_option maxRecDepth 100000 in
set_option maxHeartbeats 4000000 in
theorem s_X12_recalls (l : Launch) (D : va_G) (cA : Nat → ClassId) (ad : Nat → Nat) (g0 : Nat → va_E) (a : Int32)   (hSh : Shp ad cA g0) (hG : Rng g0) : CT l NN ad cA D yX12_recalls cX12_recalls 2 (some FieldType.int) (3, 70) [.ref (ad 129), .int a] g0 (fun v g' => ∃ (r : Int32), v = some (.int r) ∧ Shp ad cA g' ∧ Rng g' ∧ FR (fun i k => False) g0 g' ∧ ((ti (arI g0 131) 12 a = 1 ∧ BS r (Rch (Lm g0) (fun q => bt 0 q = true) a.toInt.toNat)) ∨ (¬ ti (arI g0 131) 12 a = 1 ∧ r.toInt = -1))) := by
  refine q_enterI (by decide) (Nat.le_of_ble_eq_true rfl) rfl (fun K H locs ls _ _ hM hW0 hR hC hE hl => ?_)
  have hl : lv_has ls 2 [(0, .ref (ad 129)), (1, .int a)] := hl
  have hW : WS ad cA (fun i k => False) g0 K g0 H locs := ⟨hW0, hSh, FR.rf⟩
  have := kc_0
  have := kc_1
  have := kc_m1
  have := kc_m2
  refine q_aload_n hM dX12_recalls_0 (lv_at hl 0 rfl) ?_
  refine q_iload_n hM dX12_recalls_1 (lv_at hl 1 rfl) ?_
  refine q_callV (As := [.int a]) (rest := []) hM hW.1 hR hC myX12_isTold (kAW (v_5_5 (List.mem_of_getElem? (i := 6) rfl)) rfl) (rfl : vwCl[12]? = some (RX12, TX12, 86)) rfl lb_129.1 (shO hW.2.1 lb_129) (s_X12_isTold _ _ cA ad g0 a hW.2.1 hG) ⟨by decide, by decide⟩ rfl rfl hl.1 (Nat.le_of_ble_eq_true rfl) dX12_recalls_2 (fun v g13922 H locs hp hW1 => ?_)
  obtain ⟨r13921, rfl, hr13921, rfl⟩ := hp
  have hW : WS ad cA (fun i k => False) g0 K g0 H locs := ⟨hW1, hW.2.1, hW.2.2⟩
  refine q_if_eq (tgt := 17) hM dX12_recalls_5 (by decide) (rfl : r13921.toInt = r13921.toInt) (fun h5 => ?_) (fun h5 => ?_)
  · refine q_iconst (v := ((-1) : Int32)) hM dX12_recalls_17 (by decide) ?_
    exact hE _ _ _ _ _ _ hW.1 ⟨_, rfl, hW.2.1, hG, hW.2.2, (Or.inr ⟨by omega, kc_m1⟩)⟩ dX12_recalls_18
  · refine q_aload_n hM dX12_recalls_8 (lv_at hl 0 rfl) ?_
    refine q_iload_n hM dX12_recalls_9 (lv_at hl 1 rfl) ?_
    refine q_iconst (v := (0 : Int32)) hM dX12_recalls_10 (by decide) ?_
    refine q_callV (As := [.int a, .int (0 : Int32)]) (rest := []) hM hW.1 hR hC myX12_reachOf (kAW (v_5_5 (List.mem_of_getElem? (i := 15) rfl)) rfl) (rfl : vwCl[12]? = some (RX12, TX12, 86)) rfl lb_129.1 (shO hW.2.1 lb_129) (s_X12_reachOf _ _ cA ad g0 a (0 : Int32) hW.2.1 hG (by have := kc_0; omega) (by have := kc_0; omega)) ⟨by decide, by decide⟩ rfl rfl hl.1 (Nat.le_of_ble_eq_true rfl) dX12_recalls_11 (fun v g13926 H locs hp hW1 => ?_)
    obtain ⟨r13925, rfl, hr13925, rfl⟩ := hp
    have hW : WS ad cA (fun i k => False) g0 K g0 H locs := ⟨hW1, hW.2.1, hW.2.2⟩
    refine q_goto (tgt := 18) hM dX12_recalls_14 (by decide) ?_
    exact hE _ _ _ _ _ _ hW.1 ⟨_, rfl, hW.2.1, hG, hW.2.2, (Or.inl ⟨by omega, hr13925.2.2⟩)⟩ dX12_recalls_18


set_option maxRecDepth 100000 in
set_option maxHeartbeats 4000000 in
theorem s_X12_root (l : Launch) (D : va_G) (cA : Nat → ClassId) (ad : Nat → Nat) (g0 : Nat → va_E)    (hSh : Shp ad cA g0) (hG : Rng g0) : CT l NN ad cA D yX12_root cX12_root 4 (some FieldType.int) (3, 70) [.ref (ad 129)] g0 (fun v g' => ∃ (r : Int32), v = some (.int r) ∧ Shp ad cA g' ∧ Rng g' ∧ FR (fun i k => False) g0 g' ∧ (r.toInt = (bsO (tM (arI g0 131)) (cL (Lm g0)) 12).1)) := by
  refine q_enterI (by decide) (Nat.le_of_ble_eq_true rfl) rfl (fun K H locs ls _ _ hM hW0 hR hC hE hl => ?_)
  have hl : lv_has ls 4 [(0, .ref (ad 129))] := hl
  have hW : WS ad cA (fun i k => False) g0 K g0 H locs := ⟨hW0, hSh, FR.rf⟩
  have := kc_0
  have := kc_1
  have := kc_m1
  have := kc_m2
  refine q_bipush (v := ((-2) : Int32)) hM dX12_root_0 (by decide) ?_
  refine q_istore_n (lv9 := [(1, .int ((-2) : Int32)), (0, .ref (ad 129))]) hM dX12_root_2 hl (by decide) rfl (fun ls hl => ?_)
  refine q_iconst (v := ((-1) : Int32)) hM dX12_root_3 (by decide) ?_
  refine q_istore_n (lv9 := [(2, .int ((-1) : Int32)), (1, .int ((-2) : Int32)), (0, .ref (ad 129))]) hM dX12_root_4 hl (by decide) rfl (fun ls hl => ?_)
  refine q_iconst (v := (0 : Int32)) hM dX12_root_5 (by decide) ?_
  refine q_istore_n (lv9 := [(3, .int (0 : Int32)), (2, .int ((-1) : Int32)), (1, .int ((-2) : Int32)), (0, .ref (ad 129))]) hM dX12_root_6 hl (by decide) rfl (fun ls hl => ?_)
  have L7 : ∀ (fu7 : Nat) (w7_1 : Int32) (w7_2 : Int32) (w7_3 : Int32) (H : Heap) (locs : List Loc) (ls : Array Slot), (12 - w7_3.toInt).toNat < fu7 → (Rng g0) → (0 ≤ w7_3.toInt) → (w7_3.toInt ≤ 12) → (BO (tM (arI g0 131)) (cL (Lm g0)) w7_3.toInt.toNat w7_1.toInt w7_2.toInt) → lv_has ls 4 [(0, .ref (ad 129)), (1, .int w7_1), (2, .int w7_2), (3, .int w7_3)] → WS ad cA (fun i k => False) g0 K g0 H locs → XX K 0 0 H locs 7 ls [] := by
    intro fu7
    induction fu7 with
    | zero => intro w7_1 w7_2 w7_3 H locs ls h0; omega
    | succ fu7 ih7 =>
      intro w7_1 w7_2 w7_3 H locs ls hm7 i7_0 i7_1 i7_2 i7_3 hl hW
      have hG := i7_0
      refine q_iload_n hM dX12_root_7 (lv_at hl 3 rfl) ?_
      refine q_bipush (v := (12 : Int32)) hM dX12_root_8 (by decide) ?_
      refine q_icmp_ge (tgt := 56) hM dX12_root_10 (by decide) (rfl : w7_3.toInt = w7_3.toInt) (kc_12 : (12 : Int32).toInt = 12) (fun h10 => ?_) (fun h10 => ?_)
      · refine q_iload_n hM dX12_root_56 (lv_at hl 1 rfl) ?_
        exact hE _ _ _ _ _ _ hW.1 ⟨_, rfl, hW.2.1, hG, hW.2.2, (by have e9 := i7_3.1; rw [show w7_3.toInt.toNat = 12 by omega] at e9; exact e9)⟩ dX12_root_57
      · refine q_aload_n hM dX12_root_13 (lv_at hl 0 rfl) ?_
        refine w_get (v := .ref (ad 131)) hM hW FG_X12_17 lb_129 (rf_129_10 hW.2.1) dX12_root_14 ?_
        refine q_iload_n hM dX12_root_17 (lv_at hl 3 rfl) ?_
        refine w_zald hM hW lb_131 (i_in (by omega) (by omega)) dX12_root_18 ?_
        refine q_top (fun y13930 hy13930 => ?_)
        have tyy13930 : y13930.toInt = tM (arI g0 131) w7_3.toInt.toNat := congrArg Int32.toInt hy13930
        refine q_if_eq (tgt := 50) hM dX12_root_19 (by decide) (rfl : y13930.toInt = y13930.toInt) (fun h19 => ?_) (fun h19 => ?_)
        · refine q_iinc (lv9 := fun z13932 => [(3, .int z13932), (0, .ref (ad 129)), (1, .int w7_1), (2, .int w7_2)]) hM dX12_root_50 hl (kq := 3) rfl (by decide) (fun _ => rfl) (fun z13932 ls hz13932 hl => ?_)
          first | have tz13932 := i_addT hz13932 (rfl : w7_3.toInt = w7_3.toInt) (kc_1 : (Int32.ofInt 1).toInt = 1) (by omega) (by omega) | skip
          refine q_goto (tgt := 7) hM dX12_root_53 (by decide) ?_
          exact ih7 w7_1 w7_2 z13932 _ _ _ (by omega) hG (by omega) (by omega) (BO_no i7_3 (by omega) (by omega) (by omega)) (lv_sub hl [1, 2, 3, 0] rfl) hW
        · refine q_aload_n hM dX12_root_22 (lv_at hl 0 rfl) ?_
          refine q_iload_n hM dX12_root_23 (lv_at hl 3 rfl) ?_
          refine q_iconst (v := (0 : Int32)) hM dX12_root_24 (by decide) ?_
          refine q_callV (As := [.int w7_3, .int (0 : Int32)]) (rest := []) hM hW.1 hR hC myX12_reachOf (kAW (v_5_5 (List.mem_of_getElem? (i := 15) rfl)) rfl) (rfl : vwCl[12]? = some (RX12, TX12, 86)) rfl lb_129.1 (shO hW.2.1 lb_129) (s_X12_reachOf _ _ cA ad g0 w7_3 (0 : Int32) hW.2.1 hG (by have := kc_0; omega) (by have := kc_0; omega)) ⟨by decide, by decide⟩ rfl rfl hl.1 (Nat.le_of_ble_eq_true rfl) dX12_root_25 (fun v g13935 H locs hp hW1 => ?_)
          obtain ⟨r13934, rfl, hr13934, rfl⟩ := hp
          have hW : WS ad cA (fun i k => False) g0 K g0 H locs := ⟨hW1, hW.2.1, hW.2.2⟩
          refine q_callS (As := [.int r13934]) (rest := []) hM hW.1 hR hC myX12_sizeOf (kAW (v_5_6 (List.mem_of_getElem? (i := 14) rfl)) rfl) (s_X12_sizeOf _ _ cA ad g0 r13934 hW.2.1 hG (by  omega) (by  omega)) ⟨by decide, by decide⟩ rfl rfl hl.1 (Nat.le_of_ble_eq_true rfl) dX12_root_28 (fun v g13937 H locs hp hW1 => ?_)
          obtain ⟨r13936, rfl, hr13936, rfl⟩ := hp
          have hW : WS ad cA (fun i k => False) g0 K g0 H locs := ⟨hW1, hW.2.1, hW.2.2⟩
          have cnr13936 := cL_m hr13934.2.2 hr13936
          refine q_iload_n hM dX12_root_31 (lv_at hl 2 rfl) ?_
          refine q_icmp_gt (tgt := 38) hM dX12_root_32 (by decide) (rfl : r13936.toInt = r13936.toInt) (rfl : w7_2.toInt = w7_2.toInt) (fun h32 => ?_) (fun h32 => ?_)
          · refine q_iload_n hM dX12_root_38 (lv_at hl 3 rfl) ?_
            refine q_istore_n (lv9 := [(1, .int w7_3), (0, .ref (ad 129)), (2, .int w7_2), (3, .int w7_3)]) hM dX12_root_39 hl (by decide) rfl (fun ls hl => ?_)
            refine q_aload_n hM dX12_root_40 (lv_at hl 1 rfl) ?_
            refine q_iload_n hM dX12_root_41 (lv_at hl 3 rfl) ?_
            refine q_iconst (v := (0 : Int32)) hM dX12_root_42 (by decide) ?_
            refine q_callV (As := [.int w7_3, .int (0 : Int32)]) (rest := []) hM hW.1 hR hC myX12_reachOf (kAW (v_5_5 (List.mem_of_getElem? (i := 15) rfl)) rfl) (rfl : vwCl[12]? = some (RX12, TX12, 86)) rfl lb_129.1 (shO hW.2.1 lb_129) (s_X12_reachOf _ _ cA ad g0 w7_3 (0 : Int32) hW.2.1 hG (by have := kc_0; omega) (by have := kc_0; omega)) ⟨by decide, by decide⟩ rfl rfl hl.1 (Nat.le_of_ble_eq_true rfl) dX12_root_43 (fun v g13940 H locs hp hW1 => ?_)
            obtain ⟨r13939, rfl, hr13939, rfl⟩ := hp
            have hW : WS ad cA (fun i k => False) g0 K g0 H locs := ⟨hW1, hW.2.1, hW.2.2⟩
            refine q_callS (As := [.int r13939]) (rest := []) hM hW.1 hR hC myX12_sizeOf (kAW (v_5_6 (List.mem_of_getElem? (i := 14) rfl)) rfl) (s_X12_sizeOf _ _ cA ad g0 r13939 hW.2.1 hG (by  omega) (by  omega)) ⟨by decide, by decide⟩ rfl rfl hl.1 (Nat.le_of_ble_eq_true rfl) dX12_root_46 (fun v g13942 H locs hp hW1 => ?_)
            obtain ⟨r13941, rfl, hr13941, rfl⟩ := hp
            have hW : WS ad cA (fun i k => False) g0 K g0 H locs := ⟨hW1, hW.2.1, hW.2.2⟩
            have cnr13941 := cL_m hr13939.2.2 hr13941
            refine q_istore_n (lv9 := [(2, .int r13941), (1, .int w7_3), (0, .ref (ad 129)), (3, .int w7_3)]) hM dX12_root_49 hl (by decide) rfl (fun ls hl => ?_)
            refine q_iinc (lv9 := fun z13943 => [(3, .int z13943), (2, .int r13941), (1, .int w7_3), (0, .ref (ad 129))]) hM dX12_root_50 hl (kq := 3) rfl (by decide) (fun _ => rfl) (fun z13943 ls hz13943 hl => ?_)
            first | have tz13943 := i_addT hz13943 (rfl : w7_3.toInt = w7_3.toInt) (kc_1 : (Int32.ofInt 1).toInt = 1) (by omega) (by omega) | skip
            refine q_goto (tgt := 7) hM dX12_root_53 (by decide) ?_
            exact ih7 w7_3 r13941 z13943 _ _ _ (by omega) hG (by omega) (by omega) (BO_yes i7_3 (by omega) (by omega) (by omega) (by omega) (by omega)) (lv_sub hl [3, 2, 1, 0] rfl) hW
          · refine q_goto (tgt := 50) hM dX12_root_35 (by decide) ?_
            refine q_iinc (lv9 := fun z13945 => [(3, .int z13945), (0, .ref (ad 129)), (1, .int w7_1), (2, .int w7_2)]) hM dX12_root_50 hl (kq := 3) rfl (by decide) (fun _ => rfl) (fun z13945 ls hz13945 hl => ?_)
            first | have tz13945 := i_addT hz13945 (rfl : w7_3.toInt = w7_3.toInt) (kc_1 : (Int32.ofInt 1).toInt = 1) (by omega) (by omega) | skip
            refine q_goto (tgt := 7) hM dX12_root_53 (by decide) ?_
            exact ih7 w7_1 w7_2 z13945 _ _ _ (by omega) hG (by omega) (by omega) (BO_no i7_3 (by omega) (by omega) (by omega)) (lv_sub hl [1, 2, 3, 0] rfl) hW
  have := kc_m2
  have := kc_m1
  have := kc_0
  exact L7 _ ((-2) : Int32) ((-1) : Int32) (0 : Int32) _ _ _ (Nat.lt_succ_self _) hG (by omega) (by omega) (by rw [kc_0, kc_m2, kc_m1]; exact BO_0) (lv_sub hl [3, 2, 1, 0] rfl) hW


set_option maxRecDepth 100000 in
set_option maxHeartbeats 4000000 in
theorem s_X12_kinOf (l : Launch) (D : va_G) (cA : Nat → ClassId) (ad : Nat → Nat) (g0 : Nat → va_E) (i : Int32) (hSh : Shp ad cA g0) (hG : Rng g0) (i0 : 0 ≤ i.toInt) (i12 : i.toInt < 12) : CT l NN ad cA D yX12_kinOf cX12_kinOf 4 (some FieldType.int) (3, 70) [.ref (ad 129), .int i] g0 (PU g0 (fun r => 0 ≤ r.toInt ∧ r.toInt < 4096 ∧ BS r (KN (Lm g0) i.toInt.toNat))) := by
  refine q_enterI (by decide) (Nat.le_of_ble_eq_true rfl) rfl (fun K H locs ls _ _ hM hW0 hR hC hE hl => ?_)
  have hl : lv_has ls 4 [(0, .ref (ad 129)), (1, .int i)] := hl
  have hW : WS ad cA (fun i k => False) g0 K g0 H locs := ⟨hW0, hSh, FR.rf⟩
  have := kc_0
  have := kc_1
  have := kc_m1
  have := kc_m2
  refine q_iconst (v := (1 : Int32)) hM dX12_kinOf_0 (by decide) ?_
  refine q_iload_n hM dX12_kinOf_1 (lv_at hl 1 rfl) ?_
  refine q_ishl hM dX12_kinOf_2 (fun z13946 hz13946 => ?_)
  first | have sz13946 := i_shl1 12 (by decide) hz13946 (by omega) (by omega) | skip
  refine q_istore_n (lv9 := [(2, .int z13946), (0, .ref (ad 129)), (1, .int i)]) hM dX12_kinOf_3 hl (by decide) rfl (fun ls hl => ?_)
  refine q_iconst (v := (0 : Int32)) hM dX12_kinOf_4 (by decide) ?_
  refine q_istore_n (lv9 := [(3, .int (0 : Int32)), (2, .int z13946), (0, .ref (ad 129)), (1, .int i)]) hM dX12_kinOf_5 hl (by decide) rfl (fun ls hl => ?_)
  have L6 : ∀ (fu6 : Nat) (w6_2 : Int32) (w6_3 : Int32) (H : Heap) (locs : List Loc) (ls : Array Slot), (12 - w6_3.toInt).toNat < fu6 → (0 ≤ w6_3.toInt) → (w6_3.toInt ≤ 12) → (0 ≤ w6_2.toInt) → (w6_2.toInt < 4096) → (BS w6_2 (Ke (Lm g0) i.toInt.toNat w6_3.toInt)) → lv_has ls 4 [(0, .ref (ad 129)), (1, .int i), (2, .int w6_2), (3, .int w6_3)] → WS ad cA (fun i k => False) g0 K g0 H locs → XX K 0 0 H locs 6 ls [] := by
    intro fu6
    induction fu6 with
    | zero => intro w6_2 w6_3 H locs ls h0; omega
    | succ fu6 ih6 =>
      intro w6_2 w6_3 H locs ls hm6 i6_0 i6_1 i6_2 i6_3 i6_4 hl hW
      refine q_iload_n hM dX12_kinOf_6 (lv_at hl 3 rfl) ?_
      refine q_bipush (v := (12 : Int32)) hM dX12_kinOf_7 (by decide) ?_
      refine q_icmp_ge (tgt := 50) hM dX12_kinOf_9 (by decide) (rfl : w6_3.toInt = w6_3.toInt) (kc_12 : (12 : Int32).toInt = 12) (fun h9 => ?_) (fun h9 => ?_)
      · refine q_iload_n hM dX12_kinOf_50 (lv_at hl 2 rfl) ?_
        exact hE _ _ _ _ _ _ hW.1 ⟨_, rfl, ⟨by omega, by omega, Ke_end i6_4 Lmb (by omega)⟩, rfl⟩ dX12_kinOf_51
      · refine q_aload_n hM dX12_kinOf_12 (lv_at hl 0 rfl) ?_
        refine q_iload_n hM dX12_kinOf_13 (lv_at hl 1 rfl) ?_
        refine q_iconst (v := (0 : Int32)) hM dX12_kinOf_14 (by decide) ?_
        refine q_callV (As := [.int i, .int (0 : Int32)]) (rest := []) hM hW.1 hR hC myX12_reachOf (kAW (v_5_5 (List.mem_of_getElem? (i := 15) rfl)) rfl) (rfl : vwCl[12]? = some (RX12, TX12, 86)) rfl lb_129.1 (shO hW.2.1 lb_129) (s_X12_reachOf _ _ cA ad g0 i (0 : Int32) hW.2.1 hG (by have := kc_0; omega) (by have := kc_0; omega)) ⟨by decide, by decide⟩ rfl rfl hl.1 (Nat.le_of_ble_eq_true rfl) dX12_kinOf_15 (fun v g13951 H locs hp hW1 => ?_)
        obtain ⟨r13950, rfl, hr13950, rfl⟩ := hp
        have hW : WS ad cA (fun i k => False) g0 K g0 H locs := ⟨hW1, hW.2.1, hW.2.2⟩
        refine q_iload_n hM dX12_kinOf_18 (lv_at hl 3 rfl) ?_
        refine q_callS (As := [.int r13950, .int w6_3]) (rest := []) hM hW.1 hR hC myX12_has (kAW (v_5_6 (List.mem_of_getElem? (i := 7) rfl)) rfl) (c_X12_has _ _ cA ad g0 r13950 w6_3 hW.2.1 (by omega) (by omega)) ⟨by decide, by decide⟩ rfl rfl hl.1 (Nat.le_of_ble_eq_true rfl) dX12_kinOf_19 (fun v g13953 H locs hp hW1 => ?_)
        obtain ⟨r13952, rfl, hr13952, rfl⟩ := hp
        have hW : WS ad cA (fun i k => False) g0 K g0 H locs := ⟨hW1, hW.2.1, hW.2.2⟩
        refine q_if_eq (tgt := 44) hM dX12_kinOf_22 (by decide) (rfl : r13952.toInt = r13952.toInt) (fun h22 => ?_) (fun h22 => ?_)
        · refine q_iinc (lv9 := fun z13955 => [(3, .int z13955), (0, .ref (ad 129)), (1, .int i), (2, .int w6_2)]) hM dX12_kinOf_44 hl (kq := 3) rfl (by decide) (fun _ => rfl) (fun z13955 ls hz13955 hl => ?_)
          first | have tz13955 := i_addT hz13955 (rfl : w6_3.toInt = w6_3.toInt) (kc_1 : (Int32.ofInt 1).toInt = 1) (by omega) (by omega) | skip
          refine q_goto (tgt := 6) hM dX12_kinOf_47 (by decide) ?_
          exact ih6 w6_2 z13955 _ _ _ (by omega) (by omega) (by omega) (by omega) (by omega) (Ke_no i6_4 (by omega) (fun q9 => absurd ((hr13950.2.2 _ (by omega)).mpr q9.1) (bff (mh_f hr13952 (by omega)))) (by omega)) (lv_sub hl [1, 2, 3, 0] rfl) hW
        · refine q_aload_n hM dX12_kinOf_25 (lv_at hl 0 rfl) ?_
          refine q_iload_n hM dX12_kinOf_26 (lv_at hl 3 rfl) ?_
          refine q_iconst (v := (0 : Int32)) hM dX12_kinOf_27 (by decide) ?_
          refine q_callV (As := [.int w6_3, .int (0 : Int32)]) (rest := []) hM hW.1 hR hC myX12_reachOf (kAW (v_5_5 (List.mem_of_getElem? (i := 15) rfl)) rfl) (rfl : vwCl[12]? = some (RX12, TX12, 86)) rfl lb_129.1 (shO hW.2.1 lb_129) (s_X12_reachOf _ _ cA ad g0 w6_3 (0 : Int32) hW.2.1 hG (by have := kc_0; omega) (by have := kc_0; omega)) ⟨by decide, by decide⟩ rfl rfl hl.1 (Nat.le_of_ble_eq_true rfl) dX12_kinOf_28 (fun v g13958 H locs hp hW1 => ?_)
          obtain ⟨r13957, rfl, hr13957, rfl⟩ := hp
          have hW : WS ad cA (fun i k => False) g0 K g0 H locs := ⟨hW1, hW.2.1, hW.2.2⟩
          refine q_iload_n hM dX12_kinOf_31 (lv_at hl 1 rfl) ?_
          refine q_callS (As := [.int r13957, .int i]) (rest := []) hM hW.1 hR hC myX12_has (kAW (v_5_6 (List.mem_of_getElem? (i := 7) rfl)) rfl) (c_X12_has _ _ cA ad g0 r13957 i hW.2.1 (by omega) (by omega)) ⟨by decide, by decide⟩ rfl rfl hl.1 (Nat.le_of_ble_eq_true rfl) dX12_kinOf_32 (fun v g13960 H locs hp hW1 => ?_)
          obtain ⟨r13959, rfl, hr13959, rfl⟩ := hp
          have hW : WS ad cA (fun i k => False) g0 K g0 H locs := ⟨hW1, hW.2.1, hW.2.2⟩
          refine q_if_eq (tgt := 44) hM dX12_kinOf_35 (by decide) (rfl : r13959.toInt = r13959.toInt) (fun h35 => ?_) (fun h35 => ?_)
          · refine q_iinc (lv9 := fun z13962 => [(3, .int z13962), (0, .ref (ad 129)), (1, .int i), (2, .int w6_2)]) hM dX12_kinOf_44 hl (kq := 3) rfl (by decide) (fun _ => rfl) (fun z13962 ls hz13962 hl => ?_)
            first | have tz13962 := i_addT hz13962 (rfl : w6_3.toInt = w6_3.toInt) (kc_1 : (Int32.ofInt 1).toInt = 1) (by omega) (by omega) | skip
            refine q_goto (tgt := 6) hM dX12_kinOf_47 (by decide) ?_
            exact ih6 w6_2 z13962 _ _ _ (by omega) (by omega) (by omega) (by omega) (by omega) (Ke_no i6_4 (by omega) (fun q9 => absurd ((hr13957.2.2 _ (by omega)).mpr q9.2) (bff (mh_f hr13959 (by omega)))) (by omega)) (lv_sub hl [1, 2, 3, 0] rfl) hW
          · refine q_iload_n hM dX12_kinOf_38 (lv_at hl 2 rfl) ?_
            refine q_iconst (v := (1 : Int32)) hM dX12_kinOf_39 (by decide) ?_
            refine q_iload_n hM dX12_kinOf_40 (lv_at hl 3 rfl) ?_
            refine q_ishl hM dX12_kinOf_41 (fun z13964 hz13964 => ?_)
            first | have sz13964 := i_shl1 12 (by decide) hz13964 (by omega) (by omega) | skip
            refine q_ior hM dX12_kinOf_42 (fun z13965 hz13965 => ?_)
            first | have oz13965 := i_ork 12 (by decide) hz13965 (by omega) (by omega) (by omega) (by omega) | skip
            first | have ogz13965 := i_or_ge hz13965 (by omega) (by omega) | skip
            refine q_istore_n (lv9 := [(2, .int z13965), (0, .ref (ad 129)), (1, .int i), (3, .int w6_3)]) hM dX12_kinOf_43 hl (by decide) rfl (fun ls hl => ?_)
            refine q_iinc (lv9 := fun z13966 => [(3, .int z13966), (2, .int z13965), (0, .ref (ad 129)), (1, .int i)]) hM dX12_kinOf_44 hl (kq := 3) rfl (by decide) (fun _ => rfl) (fun z13966 ls hz13966 hl => ?_)
            first | have tz13966 := i_addT hz13966 (rfl : w6_3.toInt = w6_3.toInt) (kc_1 : (Int32.ofInt 1).toInt = 1) (by omega) (by omega) | skip
            refine q_goto (tgt := 6) hM dX12_kinOf_47 (by decide) ?_
            exact ih6 z13965 z13966 _ _ _ (by omega) (by omega) (by omega) (by omega) (by omega) (Ke_yes i6_4 hz13964 hz13965 (by omega) (by omega) ((hr13950.2.2 _ (by omega)).mp (mh_t hr13952 (by omega))) ((hr13957.2.2 _ (by omega)).mp (mh_t hr13959 (by omega))) (by omega)) (lv_sub hl [2, 3, 1, 0] rfl) hW
  have := kc_0
  exact L6 _ z13946 (0 : Int32) _ _ _ (Nat.lt_succ_self _) (by omega) (by omega) (by omega) (by omega) (by rw [kc_0]; exact Ke_0 hz13946 (by omega) (by omega)) (lv_sub hl [2, 3, 1, 0] rfl) hW


set_option maxRecDepth 100000 in
set_option maxHeartbeats 4000000 in
theorem s_X12_kin (l : Launch) (D : va_G) (cA : Nat → ClassId) (ad : Nat → Nat) (g0 : Nat → va_E) (a : Int32)   (hSh : Shp ad cA g0) (hG : Rng g0) : CT l NN ad cA D yX12_kin cX12_kin 4 (some FieldType.int) (4, 93) [.ref (ad 129), .int a] g0 (fun v g' => ∃ (r : Int32), v = some (.int r) ∧ Shp ad cA g' ∧ Rng g' ∧ FR (fun i k => False) g0 g' ∧ ((a.toInt = 100 ∧ r.toInt = kc9 (tM (arI g0 131)) (KP (Lm g0)) 12) ∨ (a.toInt ≠ 100 ∧ ti (arI g0 131) 12 a = 1 ∧ BS r (KN (Lm g0) a.toInt.toNat)) ∨ (a.toInt ≠ 100 ∧ ¬ ti (arI g0 131) 12 a = 1 ∧ r.toInt = -1))) := by
  refine q_enterI (by decide) (Nat.le_of_ble_eq_true rfl) rfl (fun K H locs ls _ _ hM hW0 hR hC hE hl => ?_)
  have hl : lv_has ls 4 [(0, .ref (ad 129)), (1, .int a)] := hl
  have hW : WS ad cA (fun i k => False) g0 K g0 H locs := ⟨hW0, hSh, FR.rf⟩
  have := kc_0
  have := kc_1
  have := kc_m1
  have := kc_m2
  have := kc_100
  refine q_iload_n hM dX12_kin_0 (lv_at hl 1 rfl) ?_
  refine q_bipush (v := (100 : Int32)) hM dX12_kin_1 (by decide) ?_
  refine q_icmp_eq (tgt := 24) hM dX12_kin_3 (by decide) (rfl : a.toInt = a.toInt) (kc_100 : (100 : Int32).toInt = 100) (fun h3 => ?_) (fun h3 => ?_)
  · refine q_iconst (v := (0 : Int32)) hM dX12_kin_24 (by decide) ?_
    refine q_istore_n (lv9 := [(2, .int (0 : Int32)), (0, .ref (ad 129)), (1, .int a)]) hM dX12_kin_25 hl (by decide) rfl (fun ls hl => ?_)
    refine q_iconst (v := (0 : Int32)) hM dX12_kin_26 (by decide) ?_
    refine q_istore_n (lv9 := [(3, .int (0 : Int32)), (2, .int (0 : Int32)), (0, .ref (ad 129)), (1, .int a)]) hM dX12_kin_27 hl (by decide) rfl (fun ls hl => ?_)
    have L28 : ∀ (fu28 : Nat) (w28_2 : Int32) (w28_3 : Int32) (H : Heap) (locs : List Loc) (ls : Array Slot), (12 - w28_3.toInt).toNat < fu28 → (Rng g0) → (0 ≤ w28_3.toInt) → (w28_3.toInt ≤ 12) → (0 ≤ w28_2.toInt) → (w28_2.toInt ≤ w28_3.toInt) → (w28_2.toInt = kc9 (tM (arI g0 131)) (KP (Lm g0)) w28_3.toInt.toNat) → lv_has ls 4 [(0, .ref (ad 129)), (1, .int a), (2, .int w28_2), (3, .int w28_3)] → WS ad cA (fun i k => False) g0 K g0 H locs → XX K 0 0 H locs 28 ls [] := by
      intro fu28
      induction fu28 with
      | zero => intro w28_2 w28_3 H locs ls h0; omega
      | succ fu28 ih28 =>
        intro w28_2 w28_3 H locs ls hm28 i28_0 i28_1 i28_2 i28_3 i28_4 i28_5 hl hW
        have hG := i28_0
        refine q_iload_n hM dX12_kin_28 (lv_at hl 3 rfl) ?_
        refine q_bipush (v := (12 : Int32)) hM dX12_kin_29 (by decide) ?_
        refine q_icmp_ge (tgt := 71) hM dX12_kin_31 (by decide) (rfl : w28_3.toInt = w28_3.toInt) (kc_12 : (12 : Int32).toInt = 12) (fun h31 => ?_) (fun h31 => ?_)
        · refine q_iload_n hM dX12_kin_71 (lv_at hl 2 rfl) ?_
          exact hE _ _ _ _ _ _ hW.1 ⟨_, rfl, hW.2.1, hG, hW.2.2, (Or.inl ⟨by omega, by have e9 := i28_5; rw [show w28_3.toInt.toNat = 12 by omega] at e9; exact e9⟩)⟩ dX12_kin_72
        · refine q_iload_n hM dX12_kin_34 (lv_at hl 2 rfl) ?_
          refine q_aload_n hM dX12_kin_35 (lv_at hl 0 rfl) ?_
          refine w_get (v := .ref (ad 131)) hM hW FG_X12_17 lb_129 (rf_129_10 hW.2.1) dX12_kin_36 ?_
          refine q_iload_n hM dX12_kin_39 (lv_at hl 3 rfl) ?_
          refine w_zald hM hW lb_131 (i_in (by omega) (by omega)) dX12_kin_40 ?_
          refine q_top (fun y13971 hy13971 => ?_)
          have tyy13971 : y13971.toInt = tM (arI g0 131) w28_3.toInt.toNat := congrArg Int32.toInt hy13971
          refine q_if_eq (tgt := 62) hM dX12_kin_41 (by decide) (rfl : y13971.toInt = y13971.toInt) (fun h41 => ?_) (fun h41 => ?_)
          · refine q_iconst (v := (0 : Int32)) hM dX12_kin_62 (by decide) ?_
            refine q_iadd hM dX12_kin_63 (fun z13973 hz13973 => ?_)
            first | have tz13973 := i_addT hz13973 (rfl : w28_2.toInt = w28_2.toInt) (kc_0 : (0 : Int32).toInt = 0) (by omega) (by omega) | skip
            refine q_istore_n (lv9 := [(2, .int z13973), (0, .ref (ad 129)), (1, .int a), (3, .int w28_3)]) hM dX12_kin_64 hl (by decide) rfl (fun ls hl => ?_)
            refine q_iinc (lv9 := fun z13974 => [(3, .int z13974), (2, .int z13973), (0, .ref (ad 129)), (1, .int a)]) hM dX12_kin_65 hl (kq := 3) rfl (by decide) (fun _ => rfl) (fun z13974 ls hz13974 hl => ?_)
            first | have tz13974 := i_addT hz13974 (rfl : w28_3.toInt = w28_3.toInt) (kc_1 : (Int32.ofInt 1).toInt = 1) (by omega) (by omega) | skip
            refine q_goto (tgt := 28) hM dX12_kin_68 (by decide) ?_
            exact ih28 z13973 z13974 _ _ _ (by omega) hG (by omega) (by omega) (by omega) (by omega) (kc9_no i28_5 (by omega) (by omega) (Or.inl (by omega)) (by omega)) (lv_sub hl [2, 3, 1, 0] rfl) hW
          · refine q_aload_n hM dX12_kin_44 (lv_at hl 0 rfl) ?_
            refine q_iload_n hM dX12_kin_45 (lv_at hl 3 rfl) ?_
            refine q_callV (As := [.int w28_3]) (rest := [.int w28_2]) hM hW.1 hR hC myX12_kinOf (kAW (v_5_7 (List.mem_of_getElem? (i := 5) rfl)) rfl) (rfl : vwCl[12]? = some (RX12, TX12, 86)) rfl lb_129.1 (shO hW.2.1 lb_129) (s_X12_kinOf _ _ cA ad g0 w28_3 hW.2.1 hG (by  omega) (by  omega)) ⟨by decide, by decide⟩ rfl rfl hl.1 (Nat.le_of_ble_eq_true rfl) dX12_kin_46 (fun v g13977 H locs hp hW1 => ?_)
            obtain ⟨r13976, rfl, hr13976, rfl⟩ := hp
            have hW : WS ad cA (fun i k => False) g0 K g0 H locs := ⟨hW1, hW.2.1, hW.2.2⟩
            refine q_iconst (v := (1 : Int32)) hM dX12_kin_49 (by decide) ?_
            refine q_iload_n hM dX12_kin_50 (lv_at hl 3 rfl) ?_
            refine q_ishl hM dX12_kin_51 (fun z13978 hz13978 => ?_)
            first | have sz13978 := i_shl1 12 (by decide) hz13978 (by omega) (by omega) | skip
            refine q_iconst (v := (1 : Int32)) hM dX12_kin_52 (by decide) ?_
            refine q_isub hM dX12_kin_53 (fun z13979 hz13979 => ?_)
            first | have tz13979 := i_subT hz13979 (rfl : z13978.toInt = z13978.toInt) (kc_1 : (1 : Int32).toInt = 1) (by omega) (by omega) | skip
            refine q_iand hM dX12_kin_54 (fun z13980 hz13980 => ?_)
            first | have az13980 := i_andk hz13980 (by omega) | have az13980 := i_andk (i_comm hz13980) (by omega) | skip
            refine q_if_ne (tgt := 62) hM dX12_kin_55 (by decide) (rfl : z13980.toInt = z13980.toInt) (fun h55 => ?_) (fun h55 => ?_)
            · refine q_iconst (v := (0 : Int32)) hM dX12_kin_62 (by decide) ?_
              refine q_iadd hM dX12_kin_63 (fun z13982 hz13982 => ?_)
              first | have tz13982 := i_addT hz13982 (rfl : w28_2.toInt = w28_2.toInt) (kc_0 : (0 : Int32).toInt = 0) (by omega) (by omega) | skip
              refine q_istore_n (lv9 := [(2, .int z13982), (0, .ref (ad 129)), (1, .int a), (3, .int w28_3)]) hM dX12_kin_64 hl (by decide) rfl (fun ls hl => ?_)
              refine q_iinc (lv9 := fun z13983 => [(3, .int z13983), (2, .int z13982), (0, .ref (ad 129)), (1, .int a)]) hM dX12_kin_65 hl (kq := 3) rfl (by decide) (fun _ => rfl) (fun z13983 ls hz13983 hl => ?_)
              first | have tz13983 := i_addT hz13983 (rfl : w28_3.toInt = w28_3.toInt) (kc_1 : (Int32.ofInt 1).toInt = 1) (by omega) (by omega) | skip
              refine q_goto (tgt := 28) hM dX12_kin_68 (by decide) ?_
              exact ih28 z13982 z13983 _ _ _ (by omega) hG (by omega) (by omega) (by omega) (by omega) (kc9_no i28_5 (by omega) (by omega) (Or.inr (fun q9 => h55 ((kb_iff hr13976.2.2 (by omega) (by omega) hz13978 hz13979 hz13980).mpr q9))) (by omega)) (lv_sub hl [2, 3, 1, 0] rfl) hW
            · refine q_iconst (v := (1 : Int32)) hM dX12_kin_58 (by decide) ?_
              refine q_goto (tgt := 63) hM dX12_kin_59 (by decide) ?_
              refine q_iadd hM dX12_kin_63 (fun z13985 hz13985 => ?_)
              first | have tz13985 := i_addT hz13985 (rfl : w28_2.toInt = w28_2.toInt) (kc_1 : (1 : Int32).toInt = 1) (by omega) (by omega) | skip
              refine q_istore_n (lv9 := [(2, .int z13985), (0, .ref (ad 129)), (1, .int a), (3, .int w28_3)]) hM dX12_kin_64 hl (by decide) rfl (fun ls hl => ?_)
              refine q_iinc (lv9 := fun z13986 => [(3, .int z13986), (2, .int z13985), (0, .ref (ad 129)), (1, .int a)]) hM dX12_kin_65 hl (kq := 3) rfl (by decide) (fun _ => rfl) (fun z13986 ls hz13986 hl => ?_)
              first | have tz13986 := i_addT hz13986 (rfl : w28_3.toInt = w28_3.toInt) (kc_1 : (Int32.ofInt 1).toInt = 1) (by omega) (by omega) | skip
              refine q_goto (tgt := 28) hM dX12_kin_68 (by decide) ?_
              exact ih28 z13985 z13986 _ _ _ (by omega) hG (by omega) (by omega) (by omega) (by omega) (kc9_yes i28_5 (by omega) (by omega) (by omega) ((kb_iff hr13976.2.2 (by omega) (by omega) hz13978 hz13979 hz13980).mp h55) (by omega)) (lv_sub hl [2, 3, 1, 0] rfl) hW
    have := kc_0
    have := kc_0
    exact L28 _ (0 : Int32) (0 : Int32) _ _ _ (Nat.lt_succ_self _) hG (by omega) (by omega) (by omega) (by omega) (by rw [kc_0]; rfl) (lv_sub hl [2, 3, 1, 0] rfl) hW
  · refine q_aload_n hM dX12_kin_6 (lv_at hl 0 rfl) ?_
    refine q_iload_n hM dX12_kin_7 (lv_at hl 1 rfl) ?_
    refine q_callV (As := [.int a]) (rest := []) hM hW.1 hR hC myX12_isTold (kAW (v_5_5 (List.mem_of_getElem? (i := 6) rfl)) rfl) (rfl : vwCl[12]? = some (RX12, TX12, 86)) rfl lb_129.1 (shO hW.2.1 lb_129) (s_X12_isTold _ _ cA ad g0 a hW.2.1 hG) ⟨by decide, by decide⟩ rfl rfl hl.1 (Nat.le_of_ble_eq_true rfl) dX12_kin_8 (fun v g13989 H locs hp hW1 => ?_)
    obtain ⟨r13988, rfl, hr13988, rfl⟩ := hp
    have hW : WS ad cA (fun i k => False) g0 K g0 H locs := ⟨hW1, hW.2.1, hW.2.2⟩
    refine q_if_eq (tgt := 22) hM dX12_kin_11 (by decide) (rfl : r13988.toInt = r13988.toInt) (fun h11 => ?_) (fun h11 => ?_)
    · refine q_iconst (v := ((-1) : Int32)) hM dX12_kin_22 (by decide) ?_
      exact hE _ _ _ _ _ _ hW.1 ⟨_, rfl, hW.2.1, hG, hW.2.2, (Or.inr (Or.inr ⟨by omega, by omega, kc_m1⟩))⟩ dX12_kin_23
    · refine q_aload_n hM dX12_kin_14 (lv_at hl 0 rfl) ?_
      refine q_iload_n hM dX12_kin_15 (lv_at hl 1 rfl) ?_
      refine q_callV (As := [.int a]) (rest := []) hM hW.1 hR hC myX12_kinOf (kAW (v_5_7 (List.mem_of_getElem? (i := 5) rfl)) rfl) (rfl : vwCl[12]? = some (RX12, TX12, 86)) rfl lb_129.1 (shO hW.2.1 lb_129) (s_X12_kinOf _ _ cA ad g0 a hW.2.1 hG (by  omega) (by  omega)) ⟨by decide, by decide⟩ rfl rfl hl.1 (Nat.le_of_ble_eq_true rfl) dX12_kin_16 (fun v g13993 H locs hp hW1 => ?_)
      obtain ⟨r13992, rfl, hr13992, rfl⟩ := hp
      have hW : WS ad cA (fun i k => False) g0 K g0 H locs := ⟨hW1, hW.2.1, hW.2.2⟩
      refine q_goto (tgt := 23) hM dX12_kin_19 (by decide) ?_
      exact hE _ _ _ _ _ _ hW.1 ⟨_, rfl, hW.2.1, hG, hW.2.2, (Or.inr (Or.inl ⟨by omega, by omega, hr13992.2.2⟩))⟩ dX12_kin_23


set_option maxRecDepth 100000 in
set_option maxHeartbeats 4000000 in
theorem s_X12_toldFacts (l : Launch) (D : va_G) (cA : Nat → ClassId) (ad : Nat → Nat) (g0 : Nat → va_E)  (hSh : Shp ad cA g0) (hG : Rng g0) : CT l NN ad cA D yX12_toldFacts cX12_toldFacts 3 (some FieldType.int) (0, 0) [.ref (ad 129)] g0 (PU g0 (fun r => 0 ≤ r.toInt ∧ r.toInt < 4096 ∧ BS r (fun q => (q : Int) < 12 ∧ tM (arI g0 131) q ≠ 0))) := by
  refine q_enterI (by decide) (Nat.le_of_ble_eq_true rfl) rfl (fun K H locs ls _ _ hM hW0 hR hC hE hl => ?_)
  have hl : lv_has ls 3 [(0, .ref (ad 129))] := hl
  have hW : WS ad cA (fun i k => False) g0 K g0 H locs := ⟨hW0, hSh, FR.rf⟩
  have := kc_0
  have := kc_1
  have := kc_m1
  have := kc_m2
  refine q_iconst (v := (0 : Int32)) hM dX12_toldFacts_0 (by decide) ?_
  refine q_istore_n (lv9 := [(1, .int (0 : Int32)), (0, .ref (ad 129))]) hM dX12_toldFacts_1 hl (by decide) rfl (fun ls hl => ?_)
  refine q_iconst (v := (0 : Int32)) hM dX12_toldFacts_2 (by decide) ?_
  refine q_istore_n (lv9 := [(2, .int (0 : Int32)), (1, .int (0 : Int32)), (0, .ref (ad 129))]) hM dX12_toldFacts_3 hl (by decide) rfl (fun ls hl => ?_)
  have L4 : ∀ (fu4 : Nat) (w4_1 : Int32) (w4_2 : Int32) (H : Heap) (locs : List Loc) (ls : Array Slot), (12 - w4_2.toInt).toNat < fu4 → (0 ≤ w4_2.toInt) → (w4_2.toInt ≤ 12) → (0 ≤ w4_1.toInt) → (w4_1.toInt < 4096) → (BS w4_1 (fun q => (q : Int) < w4_2.toInt ∧ tM (arI g0 131) q ≠ 0)) → lv_has ls 3 [(0, .ref (ad 129)), (1, .int w4_1), (2, .int w4_2)] → WS ad cA (fun i k => False) g0 K g0 H locs → XX K 0 0 H locs 4 ls [] := by
    intro fu4
    induction fu4 with
    | zero => intro w4_1 w4_2 H locs ls h0; omega
    | succ fu4 ih4 =>
      intro w4_1 w4_2 H locs ls hm4 i4_0 i4_1 i4_2 i4_3 i4_4 hl hW
      refine q_iload_n hM dX12_toldFacts_4 (lv_at hl 2 rfl) ?_
      refine q_bipush (v := (12 : Int32)) hM dX12_toldFacts_5 (by decide) ?_
      refine q_icmp_ge (tgt := 35) hM dX12_toldFacts_7 (by decide) (rfl : w4_2.toInt = w4_2.toInt) (kc_12 : (12 : Int32).toInt = 12) (fun h7 => ?_) (fun h7 => ?_)
      · refine q_iload_n hM dX12_toldFacts_35 (lv_at hl 1 rfl) ?_
        exact hE _ _ _ _ _ _ hW.1 ⟨_, rfl, ⟨by omega, by omega, by have e9 := i4_4; rw [show w4_2.toInt = 12 by omega] at e9; exact e9⟩, rfl⟩ dX12_toldFacts_36
      · refine q_iload_n hM dX12_toldFacts_10 (lv_at hl 1 rfl) ?_
        refine q_aload_n hM dX12_toldFacts_11 (lv_at hl 0 rfl) ?_
        refine w_get (v := .ref (ad 131)) hM hW FG_X12_17 lb_129 (rf_129_10 hW.2.1) dX12_toldFacts_12 ?_
        refine q_iload_n hM dX12_toldFacts_15 (lv_at hl 2 rfl) ?_
        refine w_zald hM hW lb_131 (i_in (by omega) (by omega)) dX12_toldFacts_16 ?_
        refine q_top (fun y13997 hy13997 => ?_)
        have tyy13997 : y13997.toInt = tM (arI g0 131) w4_2.toInt.toNat := congrArg Int32.toInt hy13997
        refine q_if_eq (tgt := 26) hM dX12_toldFacts_17 (by decide) (rfl : y13997.toInt = y13997.toInt) (fun h17 => ?_) (fun h17 => ?_)
        · refine q_iconst (v := (0 : Int32)) hM dX12_toldFacts_26 (by decide) ?_
          refine q_ior hM dX12_toldFacts_27 (fun z13999 hz13999 => ?_)
          first | have oz13999 := i_ork 12 (by decide) hz13999 (by have := kc_0; omega) (by have := kc_0; omega) (by have := kc_0; omega) (by have := kc_0; omega) | skip
          first | have ogz13999 := i_or_ge hz13999 (by have := kc_0; omega) (by have := kc_0; omega) | skip
          refine q_istore_n (lv9 := [(1, .int z13999), (0, .ref (ad 129)), (2, .int w4_2)]) hM dX12_toldFacts_28 hl (by decide) rfl (fun ls hl => ?_)
          refine q_iinc (lv9 := fun z14000 => [(2, .int z14000), (1, .int z13999), (0, .ref (ad 129))]) hM dX12_toldFacts_29 hl (kq := 2) rfl (by decide) (fun _ => rfl) (fun z14000 ls hz14000 hl => ?_)
          first | have tz14000 := i_addT hz14000 (rfl : w4_2.toInt = w4_2.toInt) (kc_1 : (Int32.ofInt 1).toInt = 1) (by omega) (by omega) | skip
          refine q_goto (tgt := 4) hM dX12_toldFacts_32 (by decide) ?_
          exact ih4 z13999 z14000 _ _ _ (by omega) (by omega) (by omega) (by omega) (by omega) (MK_or i4_4 hz13999 (by omega) (fun q9 => q9 (by omega)) (by omega)) (lv_sub hl [2, 1, 0] rfl) hW
        · refine q_iconst (v := (1 : Int32)) hM dX12_toldFacts_20 (by decide) ?_
          refine q_iload_n hM dX12_toldFacts_21 (lv_at hl 2 rfl) ?_
          refine q_ishl hM dX12_toldFacts_22 (fun z14002 hz14002 => ?_)
          first | have sz14002 := i_shl1 12 (by decide) hz14002 (by omega) (by omega) | skip
          refine q_goto (tgt := 27) hM dX12_toldFacts_23 (by decide) ?_
          refine q_ior hM dX12_toldFacts_27 (fun z14003 hz14003 => ?_)
          first | have oz14003 := i_ork 12 (by decide) hz14003 (by omega) (by omega) (by omega) (by omega) | skip
          first | have ogz14003 := i_or_ge hz14003 (by omega) (by omega) | skip
          refine q_istore_n (lv9 := [(1, .int z14003), (0, .ref (ad 129)), (2, .int w4_2)]) hM dX12_toldFacts_28 hl (by decide) rfl (fun ls hl => ?_)
          refine q_iinc (lv9 := fun z14004 => [(2, .int z14004), (1, .int z14003), (0, .ref (ad 129))]) hM dX12_toldFacts_29 hl (kq := 2) rfl (by decide) (fun _ => rfl) (fun z14004 ls hz14004 hl => ?_)
          first | have tz14004 := i_addT hz14004 (rfl : w4_2.toInt = w4_2.toInt) (kc_1 : (Int32.ofInt 1).toInt = 1) (by omega) (by omega) | skip
          refine q_goto (tgt := 4) hM dX12_toldFacts_32 (by decide) ?_
          exact ih4 z14003 z14004 _ _ _ (by omega) (by omega) (by omega) (by omega) (by omega) (MK_set i4_4 hz14002 hz14003 (by omega) (by omega) (by omega) (by omega)) (lv_sub hl [2, 1, 0] rfl) hW
  have := kc_0
  have := kc_0
  exact L4 _ (0 : Int32) (0 : Int32) _ _ _ (Nat.lt_succ_self _) (by omega) (by omega) (by omega) (by omega) (BS_0 (fun q h => absurd h.1 (by have := kc_0; omega))) (lv_sub hl [2, 1, 0] rfl) hW


set_option maxRecDepth 100000 in
set_option maxHeartbeats 4000000 in
theorem s_X12_cut (l : Launch) (D : va_G) (cA : Nat → ClassId) (ad : Nat → Nat) (g0 : Nat → va_E) (a : Int32) (b : Int32) (c : Int32)   (hSh : Shp ad cA g0) (hG : Rng g0) : CT l NN ad cA D yX12_cut cX12_cut 7 (some FieldType.int) (3, 70) [.ref (ad 129), .int a, .int b, .int c] g0 (fun v g' => ∃ (r : Int32), v = some (.int r) ∧ Shp ad cA g' ∧ Rng g' ∧ FR (fun i k => False) g0 g' ∧ ((¬ (ti (arI g0 131) 12 a = 1 ∧ ti (arI g0 131) 12 b = 1 ∧ a.toInt ≠ b.toInt ∧ 0 ≤ c.toInt ∧ c.toInt ≤ 1) ∧ r.toInt = -1) ∨ ((ti (arI g0 131) 12 a = 1 ∧ ti (arI g0 131) 12 b = 1 ∧ a.toInt ≠ b.toInt ∧ 0 ≤ c.toInt ∧ c.toInt ≤ 1) ∧ 0 < (arI g0 133 (12 * a.toInt.toNat + b.toInt.toNat)).toInt ∧ r.toInt = -2) ∨ ((ti (arI g0 131) 12 a = 1 ∧ ti (arI g0 131) 12 b = 1 ∧ a.toInt ≠ b.toInt ∧ 0 ≤ c.toInt ∧ c.toInt ≤ 1) ∧ ¬ 0 < (arI g0 133 (12 * a.toInt.toNat + b.toInt.toNat)).toInt ∧ c.toInt = 0 ∧ (∃ t9 : Int32, BS t9 (fun q => (q : Int) < 12 ∧ tM (arI g0 131) q ≠ 0) ∧ r.toInt = cb (ctB (oth t9 a b) (Av (Lm g0) a.toInt.toNat b.toInt.toNat) 4096) 12)) ∨ ((ti (arI g0 131) 12 a = 1 ∧ ti (arI g0 131) 12 b = 1 ∧ a.toInt ≠ b.toInt ∧ 0 ≤ c.toInt ∧ c.toInt ≤ 1) ∧ ¬ 0 < (arI g0 133 (12 * a.toInt.toNat + b.toInt.toNat)).toInt ∧ c.toInt ≠ 0 ∧ (∃ t9 : Int32, BS t9 (fun q => (q : Int) < 12 ∧ tM (arI g0 131) q ≠ 0) ∧ r = ctB (oth t9 a b) (Av (Lm g0) a.toInt.toNat b.toInt.toNat) 4096)))) := by
  refine q_enterI (by decide) (Nat.le_of_ble_eq_true rfl) rfl (fun K H locs ls _ _ hM hW0 hR hC hE hl => ?_)
  have hl : lv_has ls 7 [(0, .ref (ad 129)), (1, .int a), (2, .int b), (3, .int c)] := hl
  have hW : WS ad cA (fun i k => False) g0 K g0 H locs := ⟨hW0, hSh, FR.rf⟩
  have := kc_0
  have := kc_1
  have := kc_m1
  have := kc_m2
  refine q_aload_n hM dX12_cut_0 (lv_at hl 0 rfl) ?_
  refine q_iload_n hM dX12_cut_1 (lv_at hl 1 rfl) ?_
  refine q_callV (As := [.int a]) (rest := []) hM hW.1 hR hC myX12_isTold (kAW (v_5_5 (List.mem_of_getElem? (i := 6) rfl)) rfl) (rfl : vwCl[12]? = some (RX12, TX12, 86)) rfl lb_129.1 (shO hW.2.1 lb_129) (s_X12_isTold _ _ cA ad g0 a hW.2.1 hG) ⟨by decide, by decide⟩ rfl rfl hl.1 (Nat.le_of_ble_eq_true rfl) dX12_cut_2 (fun v g14006 H locs hp hW1 => ?_)
  obtain ⟨r14005, rfl, hr14005, rfl⟩ := hp
  have hW : WS ad cA (fun i k => False) g0 K g0 H locs := ⟨hW1, hW.2.1, hW.2.2⟩
  refine q_if_eq (tgt := 31) hM dX12_cut_5 (by decide) (rfl : r14005.toInt = r14005.toInt) (fun h5 => ?_) (fun h5 => ?_)
  · refine q_iconst (v := ((-1) : Int32)) hM dX12_cut_31 (by decide) ?_
    exact hE _ _ _ _ _ _ hW.1 ⟨_, rfl, hW.2.1, hG, hW.2.2, (Or.inl ⟨by omega, kc_m1⟩)⟩ dX12_cut_32
  · refine q_aload_n hM dX12_cut_8 (lv_at hl 0 rfl) ?_
    refine q_iload_n hM dX12_cut_9 (lv_at hl 2 rfl) ?_
    refine q_callV (As := [.int b]) (rest := []) hM hW.1 hR hC myX12_isTold (kAW (v_5_5 (List.mem_of_getElem? (i := 6) rfl)) rfl) (rfl : vwCl[12]? = some (RX12, TX12, 86)) rfl lb_129.1 (shO hW.2.1 lb_129) (s_X12_isTold _ _ cA ad g0 b hW.2.1 hG) ⟨by decide, by decide⟩ rfl rfl hl.1 (Nat.le_of_ble_eq_true rfl) dX12_cut_10 (fun v g14010 H locs hp hW1 => ?_)
    obtain ⟨r14009, rfl, hr14009, rfl⟩ := hp
    have hW : WS ad cA (fun i k => False) g0 K g0 H locs := ⟨hW1, hW.2.1, hW.2.2⟩
    refine q_if_eq (tgt := 31) hM dX12_cut_13 (by decide) (rfl : r14009.toInt = r14009.toInt) (fun h13 => ?_) (fun h13 => ?_)
    · refine q_iconst (v := ((-1) : Int32)) hM dX12_cut_31 (by decide) ?_
      exact hE _ _ _ _ _ _ hW.1 ⟨_, rfl, hW.2.1, hG, hW.2.2, (Or.inl ⟨by omega, kc_m1⟩)⟩ dX12_cut_32
    · refine q_iload_n hM dX12_cut_16 (lv_at hl 1 rfl) ?_
      refine q_iload_n hM dX12_cut_17 (lv_at hl 2 rfl) ?_
      refine q_icmp_eq (tgt := 31) hM dX12_cut_18 (by decide) (rfl : a.toInt = a.toInt) (rfl : b.toInt = b.toInt) (fun h18 => ?_) (fun h18 => ?_)
      · refine q_iconst (v := ((-1) : Int32)) hM dX12_cut_31 (by decide) ?_
        exact hE _ _ _ _ _ _ hW.1 ⟨_, rfl, hW.2.1, hG, hW.2.2, (Or.inl ⟨by omega, kc_m1⟩)⟩ dX12_cut_32
      · refine q_iload_n hM dX12_cut_21 (lv_at hl 3 rfl) ?_
        refine q_i2l hM dX12_cut_22 ?_
        have := l_i2l c
        refine q_lconst (v := 0) hM dX12_cut_23 (by decide) ?_
        have := kl_0
        refine q_lconst (v := 1) hM dX12_cut_24 (by decide) ?_
        have := kl_1
        refine q_callS (As := [.long c.toInt64, .long (0 : Int64), .long (1 : Int64)]) (rest := []) hM hW.1 hR hC myX12_lies (kAW (v_5_4 (List.mem_of_getElem? (i := 14) rfl)) rfl) (c_X12_lies _ _ cA ad g0 c.toInt64 (0 : Int64) (1 : Int64) hW.2.1) ⟨by decide, by decide⟩ rfl rfl hl.1 (Nat.le_of_ble_eq_true rfl) dX12_cut_25 (fun v g14016 H locs hp hW1 => ?_)
        obtain ⟨r14015, rfl, hr14015, rfl⟩ := hp
        have hW : WS ad cA (fun i k => False) g0 K g0 H locs := ⟨hW1, hW.2.1, hW.2.2⟩
        refine q_if_ne (tgt := 33) hM dX12_cut_28 (by decide) (rfl : r14015.toInt = r14015.toInt) (fun h28 => ?_) (fun h28 => ?_)
        · refine q_aload_n hM dX12_cut_33 (lv_at hl 0 rfl) ?_
          refine w_get (v := .ref (ad 133)) hM hW FG_X12_25 lb_129 (rf_129_12 hW.2.1) dX12_cut_34 ?_
          refine q_bipush (v := (12 : Int32)) hM dX12_cut_37 (by decide) ?_
          refine q_iload_n hM dX12_cut_39 (lv_at hl 1 rfl) ?_
          refine q_imul hM dX12_cut_40 (fun z14018 hz14018 => ?_)
          first | have tz14018 := i_mulT hz14018 (kc_12 : (12 : Int32).toInt = 12) (rfl : a.toInt = a.toInt) (by omega) (by omega) | skip
          refine q_iload_n hM dX12_cut_41 (lv_at hl 2 rfl) ?_
          refine q_iadd hM dX12_cut_42 (fun z14019 hz14019 => ?_)
          first | have tz14019 := i_addT hz14019 (rfl : z14018.toInt = z14018.toInt) (rfl : b.toInt = b.toInt) (by omega) (by omega) | skip
          refine w_iald hM hW lb_133 (i_in (by omega) (by omega)) dX12_cut_43 ?_
          refine q_top (fun y14020 hy14020 => ?_)
          have tyy14020 : y14020.toInt = (arI g0 133 (12 * a.toInt.toNat + b.toInt.toNat)).toInt := by rw [hy14020, show z14019.toNatClampNeg = 12 * a.toInt.toNat + b.toInt.toNat by show z14019.toInt.toNat = _; omega]
          refine q_if_le (tgt := 50) hM dX12_cut_44 (by decide) (rfl : y14020.toInt = y14020.toInt) (fun h44 => ?_) (fun h44 => ?_)
          · refine q_aload_n hM dX12_cut_50 (lv_at hl 0 rfl) ?_
            refine q_callV (As := []) (rest := []) hM hW.1 hR hC myX12_toldFacts (kAW (v_5_7 (List.mem_of_getElem? (i := 13) rfl)) rfl) (rfl : vwCl[12]? = some (RX12, TX12, 86)) rfl lb_129.1 (shO hW.2.1 lb_129) (s_X12_toldFacts _ _ cA ad g0  hW.2.1 hG) ⟨by decide, by decide⟩ rfl rfl hl.1 (Nat.le_of_ble_eq_true rfl) dX12_cut_51 (fun v g14023 H locs hp hW1 => ?_)
            obtain ⟨r14022, rfl, hr14022, rfl⟩ := hp
            have hW : WS ad cA (fun i k => False) g0 K g0 H locs := ⟨hW1, hW.2.1, hW.2.2⟩
            refine q_iconst (v := (1 : Int32)) hM dX12_cut_54 (by decide) ?_
            refine q_iload_n hM dX12_cut_55 (lv_at hl 1 rfl) ?_
            refine q_ishl hM dX12_cut_56 (fun z14024 hz14024 => ?_)
            first | have sz14024 := i_shl1 12 (by decide) hz14024 (by omega) (by omega) | skip
            refine q_iconst (v := ((-1) : Int32)) hM dX12_cut_57 (by decide) ?_
            refine q_ixor hM dX12_cut_58 (fun z14025 hz14025 => ?_)
            refine q_iand hM dX12_cut_59 (fun z14026 hz14026 => ?_)
            first | have az14026 := i_andk hz14026 (by omega) | have az14026 := i_andk (i_comm hz14026) (by omega) | skip
            refine q_iconst (v := (1 : Int32)) hM dX12_cut_60 (by decide) ?_
            refine q_iload_n hM dX12_cut_61 (lv_at hl 2 rfl) ?_
            refine q_ishl hM dX12_cut_62 (fun z14027 hz14027 => ?_)
            first | have sz14027 := i_shl1 12 (by decide) hz14027 (by omega) (by omega) | skip
            refine q_iconst (v := ((-1) : Int32)) hM dX12_cut_63 (by decide) ?_
            refine q_ixor hM dX12_cut_64 (fun z14028 hz14028 => ?_)
            refine q_iand hM dX12_cut_65 (fun z14029 hz14029 => ?_)
            first | have az14029 := i_andk hz14029 (by omega) | have az14029 := i_andk (i_comm hz14029) (by omega) | skip
            have he9 : z14029 = oth r14022 a b := by unfold oth; rw [hz14024, hz14025, hz14026, hz14027, hz14028, hz14029]
            have k9 := i_andk (i_comm hz14026) (by omega)
            have k8 := i_andk (i_comm hz14029) (by omega)
            refine q_istore (lv9 := [(4, .int z14029), (0, .ref (ad 129)), (1, .int a), (2, .int b), (3, .int c)]) hM dX12_cut_66 hl (by decide) rfl (fun ls hl => ?_)
            refine q_iload hM dX12_cut_68 (lv_at hl 0 rfl) ?_
            refine q_istore (lv9 := [(5, .int z14029), (4, .int z14029), (0, .ref (ad 129)), (1, .int a), (2, .int b), (3, .int c)]) hM dX12_cut_70 hl (by decide) rfl (fun ls hl => ?_)
            refine q_iconst (v := (0 : Int32)) hM dX12_cut_72 (by decide) ?_
            refine q_istore (lv9 := [(6, .int (0 : Int32)), (5, .int z14029), (4, .int z14029), (0, .ref (ad 129)), (1, .int a), (2, .int b), (3, .int c)]) hM dX12_cut_73 hl (by decide) rfl (fun ls hl => ?_)
            have L75 : ∀ (fu75 : Nat) (w75_5 : Int32) (w75_6 : Int32) (H : Heap) (locs : List Loc) (ls : Array Slot), (z14029.toInt - w75_6.toInt + 1).toNat < fu75 → (Rng g0) → (0 ≤ w75_6.toInt) → (w75_6.toInt ≤ z14029.toInt + 1) → (0 ≤ w75_5.toInt) → (w75_5.toInt < 4096) → (w75_5 = ctB (oth r14022 a b) (Av (Lm g0) a.toInt.toNat b.toInt.toNat) w75_6.toInt.toNat) → lv_has ls 7 [(0, .ref (ad 129)), (1, .int a), (2, .int b), (3, .int c), (4, .int z14029), (5, .int w75_5), (6, .int w75_6)] → WS ad cA (fun i k => False) g0 K g0 H locs → XX K 0 0 H locs 75 ls [] := by
              intro fu75
              induction fu75 with
              | zero => intro w75_5 w75_6 H locs ls h0; omega
              | succ fu75 ih75 =>
                intro w75_5 w75_6 H locs ls hm75 i75_0 i75_1 i75_2 i75_3 i75_4 i75_5 hl hW
                have hG := i75_0
                have := i_rng z14029
                refine q_iload hM dX12_cut_75 (lv_at hl 6 rfl) ?_
                refine q_iload hM dX12_cut_77 (lv_at hl 4 rfl) ?_
                refine q_icmp_gt (tgt := 129) hM dX12_cut_79 (by decide) (rfl : w75_6.toInt = w75_6.toInt) (rfl : z14029.toInt = z14029.toInt) (fun h79 => ?_) (fun h79 => ?_)
                · refine q_iload_n hM dX12_cut_129 (lv_at hl 3 rfl) ?_
                  refine q_if_ne (tgt := 141) hM dX12_cut_130 (by decide) (rfl : c.toInt = c.toInt) (fun h130 => ?_) (fun h130 => ?_)
                  · refine q_iload hM dX12_cut_141 (lv_at hl 5 rfl) ?_
                    exact hE _ _ _ _ _ _ hW.1 ⟨_, rfl, hW.2.1, hG, hW.2.2, (Or.inr (Or.inr (Or.inr ⟨⟨by omega, by omega, by omega, by omega, by omega⟩, by omega, by omega, r14022, hr14022.2.2, (ct_end i75_6 (by rw [← he9]; omega) (by rw [← he9]; omega) (by omega))⟩)))⟩ dX12_cut_143
                  · refine q_iload hM dX12_cut_133 (lv_at hl 5 rfl) ?_
                    refine q_callS (As := [.int w75_5]) (rest := []) hM hW.1 hR hC myX12_sizeOf (kAW (v_5_6 (List.mem_of_getElem? (i := 14) rfl)) rfl) (s_X12_sizeOf _ _ cA ad g0 w75_5 hW.2.1 hG (by  omega) (by  omega)) ⟨by decide, by decide⟩ rfl rfl hl.1 (Nat.le_of_ble_eq_true rfl) dX12_cut_135 (fun v g14035 H locs hp hW1 => ?_)
                    obtain ⟨r14034, rfl, hr14034, rfl⟩ := hp
                    have hW : WS ad cA (fun i k => False) g0 K g0 H locs := ⟨hW1, hW.2.1, hW.2.2⟩
                    refine q_goto (tgt := 143) hM dX12_cut_138 (by decide) ?_
                    exact hE _ _ _ _ _ _ hW.1 ⟨_, rfl, hW.2.1, hG, hW.2.2, (Or.inr (Or.inr (Or.inl ⟨⟨by omega, by omega, by omega, by omega, by omega⟩, by omega, by omega, r14022, hr14022.2.2, by rw [← (ct_end i75_6 (by rw [← he9]; omega) (by rw [← he9]; omega) (by omega))]; exact hr14034⟩)))⟩ dX12_cut_143
                · refine q_iload hM dX12_cut_82 (lv_at hl 6 rfl) ?_
                  refine q_iload hM dX12_cut_84 (lv_at hl 4 rfl) ?_
                  refine q_iconst (v := ((-1) : Int32)) hM dX12_cut_86 (by decide) ?_
                  refine q_ixor hM dX12_cut_87 (fun z14037 hz14037 => ?_)
                  refine q_iand hM dX12_cut_88 (fun z14038 hz14038 => ?_)
                  first | have az14038 := i_andk hz14038 (by omega) | have az14038 := i_andk (i_comm hz14038) (by omega) | skip
                  refine q_if_ne (tgt := 123) hM dX12_cut_89 (by decide) (rfl : z14038.toInt = z14038.toInt) (fun h89 => ?_) (fun h89 => ?_)
                  · refine q_iinc (lv9 := fun z14040 => [(6, .int z14040), (0, .ref (ad 129)), (1, .int a), (2, .int b), (3, .int c), (4, .int z14029), (5, .int w75_5)]) hM dX12_cut_123 hl (kq := 6) rfl (by decide) (fun _ => rfl) (fun z14040 ls hz14040 hl => ?_)
                    first | have tz14040 := i_addT hz14040 (rfl : w75_6.toInt = w75_6.toInt) (kc_1 : (Int32.ofInt 1).toInt = 1) (by omega) (by omega) | skip
                    refine q_goto (tgt := 75) hM dX12_cut_126 (by decide) ?_
                    exact ih75 w75_5 z14040 _ _ _ (by omega) hG (by omega) (by omega) (by omega) (by omega) (ct_no i75_6 (by omega) (by omega) (Or.inl (by rw [← he9]; exact z_f hz14037 hz14038 h89))) (lv_sub hl [1, 2, 3, 4, 5, 6, 0] rfl) hW
                  · refine q_iload hM dX12_cut_92 (lv_at hl 6 rfl) ?_
                    refine q_callS (As := [.int w75_6]) (rest := []) hM hW.1 hR hC myX12_sizeOf (kAW (v_5_6 (List.mem_of_getElem? (i := 14) rfl)) rfl) (s_X12_sizeOf _ _ cA ad g0 w75_6 hW.2.1 hG (by  omega) (by  omega)) ⟨by decide, by decide⟩ rfl rfl hl.1 (Nat.le_of_ble_eq_true rfl) dX12_cut_94 (fun v g14043 H locs hp hW1 => ?_)
                    obtain ⟨r14042, rfl, hr14042, rfl⟩ := hp
                    have hW : WS ad cA (fun i k => False) g0 K g0 H locs := ⟨hW1, hW.2.1, hW.2.2⟩
                    refine q_iload hM dX12_cut_97 (lv_at hl 5 rfl) ?_
                    refine q_callS (As := [.int w75_5]) (rest := [.int r14042]) hM hW.1 hR hC myX12_sizeOf (kAW (v_5_6 (List.mem_of_getElem? (i := 14) rfl)) rfl) (s_X12_sizeOf _ _ cA ad g0 w75_5 hW.2.1 hG (by  omega) (by  omega)) ⟨by decide, by decide⟩ rfl rfl hl.1 (Nat.le_of_ble_eq_true rfl) dX12_cut_99 (fun v g14045 H locs hp hW1 => ?_)
                    obtain ⟨r14044, rfl, hr14044, rfl⟩ := hp
                    have hW : WS ad cA (fun i k => False) g0 K g0 H locs := ⟨hW1, hW.2.1, hW.2.2⟩
                    refine q_icmp_ge (tgt := 123) hM dX12_cut_102 (by decide) (rfl : r14042.toInt = r14042.toInt) (rfl : r14044.toInt = r14044.toInt) (fun h102 => ?_) (fun h102 => ?_)
                    · refine q_iinc (lv9 := fun z14047 => [(6, .int z14047), (0, .ref (ad 129)), (1, .int a), (2, .int b), (3, .int c), (4, .int z14029), (5, .int w75_5)]) hM dX12_cut_123 hl (kq := 6) rfl (by decide) (fun _ => rfl) (fun z14047 ls hz14047 hl => ?_)
                      first | have tz14047 := i_addT hz14047 (rfl : w75_6.toInt = w75_6.toInt) (kc_1 : (Int32.ofInt 1).toInt = 1) (by omega) (by omega) | skip
                      refine q_goto (tgt := 75) hM dX12_cut_126 (by decide) ?_
                      exact ih75 w75_5 z14047 _ _ _ (by omega) hG (by omega) (by omega) (by omega) (by omega) (ct_no i75_6 (by omega) (by omega) (Or.inr (Or.inl (by omega)))) (lv_sub hl [1, 2, 3, 4, 5, 6, 0] rfl) hW
                    · refine q_aload_n hM dX12_cut_105 (lv_at hl 0 rfl) ?_
                      refine q_iload_n hM dX12_cut_106 (lv_at hl 1 rfl) ?_
                      refine q_iload hM dX12_cut_107 (lv_at hl 6 rfl) ?_
                      refine q_callV (As := [.int a, .int w75_6]) (rest := []) hM hW.1 hR hC myX12_reachOf (kAW (v_5_5 (List.mem_of_getElem? (i := 15) rfl)) rfl) (rfl : vwCl[12]? = some (RX12, TX12, 86)) rfl lb_129.1 (shO hW.2.1 lb_129) (s_X12_reachOf _ _ cA ad g0 a w75_6 hW.2.1 hG (by  omega) (by  omega)) ⟨by decide, by decide⟩ rfl rfl hl.1 (Nat.le_of_ble_eq_true rfl) dX12_cut_109 (fun v g14050 H locs hp hW1 => ?_)
                      obtain ⟨r14049, rfl, hr14049, rfl⟩ := hp
                      have hW : WS ad cA (fun i k => False) g0 K g0 H locs := ⟨hW1, hW.2.1, hW.2.2⟩
                      refine q_iload_n hM dX12_cut_112 (lv_at hl 2 rfl) ?_
                      refine q_callS (As := [.int r14049, .int b]) (rest := []) hM hW.1 hR hC myX12_has (kAW (v_5_6 (List.mem_of_getElem? (i := 7) rfl)) rfl) (c_X12_has _ _ cA ad g0 r14049 b hW.2.1 (by omega) (by omega)) ⟨by decide, by decide⟩ rfl rfl hl.1 (Nat.le_of_ble_eq_true rfl) dX12_cut_113 (fun v g14052 H locs hp hW1 => ?_)
                      obtain ⟨r14051, rfl, hr14051, rfl⟩ := hp
                      have hW : WS ad cA (fun i k => False) g0 K g0 H locs := ⟨hW1, hW.2.1, hW.2.2⟩
                      refine q_if_ne (tgt := 123) hM dX12_cut_116 (by decide) (rfl : r14051.toInt = r14051.toInt) (fun h116 => ?_) (fun h116 => ?_)
                      · refine q_iinc (lv9 := fun z14054 => [(6, .int z14054), (0, .ref (ad 129)), (1, .int a), (2, .int b), (3, .int c), (4, .int z14029), (5, .int w75_5)]) hM dX12_cut_123 hl (kq := 6) rfl (by decide) (fun _ => rfl) (fun z14054 ls hz14054 hl => ?_)
                        first | have tz14054 := i_addT hz14054 (rfl : w75_6.toInt = w75_6.toInt) (kc_1 : (Int32.ofInt 1).toInt = 1) (by omega) (by omega) | skip
                        refine q_goto (tgt := 75) hM dX12_cut_126 (by decide) ?_
                        exact ih75 w75_5 z14054 _ _ _ (by omega) hG (by omega) (by omega) (by omega) (by omega) (ct_no i75_6 (by omega) (by omega) (Or.inr (Or.inr (fun q9 => q9 ((hr14049.2.2 _ (by omega)).mp (mh_t hr14051 (by omega))))))) (lv_sub hl [1, 2, 3, 4, 5, 6, 0] rfl) hW
                      · refine q_iload hM dX12_cut_119 (lv_at hl 6 rfl) ?_
                        refine q_istore (lv9 := [(5, .int w75_6), (0, .ref (ad 129)), (1, .int a), (2, .int b), (3, .int c), (4, .int z14029), (6, .int w75_6)]) hM dX12_cut_121 hl (by decide) rfl (fun ls hl => ?_)
                        refine q_iinc (lv9 := fun z14056 => [(6, .int z14056), (5, .int w75_6), (0, .ref (ad 129)), (1, .int a), (2, .int b), (3, .int c), (4, .int z14029)]) hM dX12_cut_123 hl (kq := 6) rfl (by decide) (fun _ => rfl) (fun z14056 ls hz14056 hl => ?_)
                        first | have tz14056 := i_addT hz14056 (rfl : w75_6.toInt = w75_6.toInt) (kc_1 : (Int32.ofInt 1).toInt = 1) (by omega) (by omega) | skip
                        refine q_goto (tgt := 75) hM dX12_cut_126 (by decide) ?_
                        exact ih75 w75_6 z14056 _ _ _ (by omega) hG (by omega) (by omega) (by omega) (by omega) (ct_yes i75_6 (by omega) (by omega) (by rw [← he9]; exact z_t hz14037 hz14038 h89) (by omega) (fun q9 => absurd ((hr14049.2.2 _ (by omega)).mpr q9) (bff (mh_f hr14051 (by omega))))) (lv_sub hl [2, 3, 4, 5, 6, 1, 0] rfl) hW
            have := kc_0
            exact L75 _ z14029 (0 : Int32) _ _ _ (Nat.lt_succ_self _) hG (by omega) (by omega) (by omega) (by omega) (by rw [kc_0]; exact he9) (lv_sub hl [3, 4, 5, 6, 2, 1, 0] rfl) hW
          · refine q_bipush (v := ((-2) : Int32)) hM dX12_cut_47 (by decide) ?_
            exact hE _ _ _ _ _ _ hW.1 ⟨_, rfl, hW.2.1, hG, hW.2.2, (Or.inr (Or.inl ⟨⟨by omega, by omega, by omega, by omega, by omega⟩, by omega, kc_m2⟩))⟩ dX12_cut_49
        · refine q_iconst (v := ((-1) : Int32)) hM dX12_cut_31 (by decide) ?_
          exact hE _ _ _ _ _ _ hW.1 ⟨_, rfl, hW.2.1, hG, hW.2.2, (Or.inl ⟨by omega, kc_m1⟩)⟩ dX12_cut_32
