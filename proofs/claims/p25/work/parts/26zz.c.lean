
set_option maxRecDepth 100000 in
set_option maxHeartbeats 4000000 in
theorem s_X12_kinOf (l : Launch) (D : va_G) (cA : Nat → ClassId) (ad : Nat → Nat) (g0 : Nat → va_E) (i : Int32) (hSh : Shp ad cA g0) (hG : Rng g0) (i0 : 0 ≤ i.toInt) (i12 : i.toInt < 12) : CT l NN ad cA D yX12_kinOf cX12_kinOf 4 (some FieldType.int) (3, 70) [.ref (ad 129), .int i] g0 (PU g0 (fun r => 0 ≤ r.toInt ∧ r.toInt < 4096 ∧ BS r (KN (Lm g0) i.toInt.toNat))) := by
  refine q_enterI (by decide) (Nat.le_of_ble_eq_true rfl) rfl (fun K H locs ls _ _ hM hW0 hR hC hE hl => ?_)
  have hl : lv_has ls 4 [(0, .ref (ad 129)), (1, .int i)] := hl
  have hW : WS ad cA (fun i k => False) g0 K g0 H locs := ⟨hW0, hSh, FR.rf⟩
  have := kc_0
  have := kc_1
  have := kc_m1
  have := kc_m2
  refine q_iconst (v := (1 : Int32)) hM dX12_kinOf_0 (by decide) ?_
  refine q_iload_n hM dX12_kinOf_1 (lv_at hl 1 rfl) ?_
  refine q_ishl hM dX12_kinOf_2 (fun z13693 hz13693 => ?_)
  first | have sz13693 := i_shl1 12 (by decide) hz13693 (by omega) (by omega) | skip
  refine q_istore_n (lv9 := [(2, .int z13693), (0, .ref (ad 129)), (1, .int i)]) hM dX12_kinOf_3 hl (by decide) rfl (fun ls hl => ?_)
  refine q_iconst (v := (0 : Int32)) hM dX12_kinOf_4 (by decide) ?_
  refine q_istore_n (lv9 := [(3, .int (0 : Int32)), (2, .int z13693), (0, .ref (ad 129)), (1, .int i)]) hM dX12_kinOf_5 hl (by decide) rfl (fun ls hl => ?_)
  have L6 : ∀ (fu6 : Nat) (w6_2 : Int32) (w6_3 : Int32) (H : Heap) (locs : List Loc) (ls : Array Slot), (12 - w6_3.toInt).toNat < fu6 → (0 ≤ w6_3.toInt) → (w6_3.toInt ≤ 12) → (0 ≤ w6_2.toInt) → (w6_2.toInt < 4096) → (BS w6_2 (Ke (Lm g0) i.toInt.toNat w6_3.toInt)) → lv_has ls 4 [(0, .ref (ad 129)), (1, .int i), (2, .int w6_2), (3, .int w6_3)] → WS ad cA (fun i k => False) g0 K g0 H locs → XX K 0 0 H locs 6 ls [] := by
    intro fu6
    induction fu6 with
    | zero => intro w6_2 w6_3 H locs ls h0; omega
    | succ fu6 ih6 =>
      intro w6_2 w6_3 H locs ls hm6 i6_0 i6_1 i6_2 i6_3 i6_4 hl hW
      refine q_iload_n hM dX12_kinOf_6 (lv_at hl 3 rfl) ?_
      refine q_bipush (v := (12 : Int32)) hM dX12_kinOf_7 (by decide) ?_
      refine q_icmp_ge (tgt := 50) hM dX12_kinOf_9 (by decide) (rfl : w6_3.toInt = w6_3.toInt) (kc_12 : (12 : Int32).toInt = 12) (fun h9 => ?_) (fun h9 => ?_)
      · refine q_iload_n hM dX12_kinOf_50 (lv_at hl 2 rfl) ?_
        exact hE _ _ _ _ _ _ hW.1 ⟨_, rfl, ⟨by omega, by omega, Ke_end i6_4 Lmb (by omega)⟩, rfl⟩ dX12_kinOf_51
      · refine q_aload_n hM dX12_kinOf_12 (lv_at hl 0 rfl) ?_
        refine q_iload_n hM dX12_kinOf_13 (lv_at hl 1 rfl) ?_
        refine q_iconst (v := (0 : Int32)) hM dX12_kinOf_14 (by decide) ?_
        refine q_callV (As := [.int i, .int (0 : Int32)]) (rest := []) hM hW.1 hR hC myX12_reachOf (kAW (v_5_5 (List.mem_of_getElem? (i := 15) rfl)) rfl) (rfl : vwCl[12]? = some (RX12, TX12, 86)) rfl lb_129.1 (shO hW.2.1 lb_129) (s_X12_reachOf _ _ cA ad g0 i (0 : Int32) hW.2.1 hG (by have := kc_0; omega) (by have := kc_0; omega)) ⟨by decide, by decide⟩ rfl rfl hl.1 (Nat.le_of_ble_eq_true rfl) dX12_kinOf_15 (fun v g13698 H locs hp hW1 => ?_)
        obtain ⟨r13697, rfl, hr13697, rfl⟩ := hp
        have hW : WS ad cA (fun i k => False) g0 K g0 H locs := ⟨hW1, hW.2.1, hW.2.2⟩
        refine q_iload_n hM dX12_kinOf_18 (lv_at hl 3 rfl) ?_
        refine q_callS (As := [.int r13697, .int w6_3]) (rest := []) hM hW.1 hR hC myX12_has (kAW (v_5_6 (List.mem_of_getElem? (i := 7) rfl)) rfl) (c_X12_has _ _ cA ad g0 r13697 w6_3 hW.2.1 (by omega) (by omega)) ⟨by decide, by decide⟩ rfl rfl hl.1 (Nat.le_of_ble_eq_true rfl) dX12_kinOf_19 (fun v g13700 H locs hp hW1 => ?_)
        obtain ⟨r13699, rfl, hr13699, rfl⟩ := hp
        have hW : WS ad cA (fun i k => False) g0 K g0 H locs := ⟨hW1, hW.2.1, hW.2.2⟩
        refine q_if_eq (tgt := 44) hM dX12_kinOf_22 (by decide) (rfl : r13699.toInt = r13699.toInt) (fun h22 => ?_) (fun h22 => ?_)
        · refine q_iinc (lv9 := fun z13702 => [(3, .int z13702), (0, .ref (ad 129)), (1, .int i), (2, .int w6_2)]) hM dX12_kinOf_44 hl (kq := 3) rfl (by decide) (fun _ => rfl) (fun z13702 ls hz13702 hl => ?_)
          first | have tz13702 := i_addT hz13702 (rfl : w6_3.toInt = w6_3.toInt) (kc_1 : (Int32.ofInt 1).toInt = 1) (by omega) (by omega) | skip
          refine q_goto (tgt := 6) hM dX12_kinOf_47 (by decide) ?_
          exact ih6 w6_2 z13702 _ _ _ (by omega) (by omega) (by omega) (by omega) (by omega) (Ke_no i6_4 (by omega) (fun q9 => absurd ((hr13697.2.2 _ (by omega)).mpr q9.1) (bff (mh_f hr13699 (by omega)))) (by omega)) (lv_sub hl [1, 2, 3, 0] rfl) hW
        · refine q_aload_n hM dX12_kinOf_25 (lv_at hl 0 rfl) ?_
          refine q_iload_n hM dX12_kinOf_26 (lv_at hl 3 rfl) ?_
          refine q_iconst (v := (0 : Int32)) hM dX12_kinOf_27 (by decide) ?_
          refine q_callV (As := [.int w6_3, .int (0 : Int32)]) (rest := []) hM hW.1 hR hC myX12_reachOf (kAW (v_5_5 (List.mem_of_getElem? (i := 15) rfl)) rfl) (rfl : vwCl[12]? = some (RX12, TX12, 86)) rfl lb_129.1 (shO hW.2.1 lb_129) (s_X12_reachOf _ _ cA ad g0 w6_3 (0 : Int32) hW.2.1 hG (by have := kc_0; omega) (by have := kc_0; omega)) ⟨by decide, by decide⟩ rfl rfl hl.1 (Nat.le_of_ble_eq_true rfl) dX12_kinOf_28 (fun v g13705 H locs hp hW1 => ?_)
          obtain ⟨r13704, rfl, hr13704, rfl⟩ := hp
          have hW : WS ad cA (fun i k => False) g0 K g0 H locs := ⟨hW1, hW.2.1, hW.2.2⟩
          refine q_iload_n hM dX12_kinOf_31 (lv_at hl 1 rfl) ?_
          refine q_callS (As := [.int r13704, .int i]) (rest := []) hM hW.1 hR hC myX12_has (kAW (v_5_6 (List.mem_of_getElem? (i := 7) rfl)) rfl) (c_X12_has _ _ cA ad g0 r13704 i hW.2.1 (by omega) (by omega)) ⟨by decide, by decide⟩ rfl rfl hl.1 (Nat.le_of_ble_eq_true rfl) dX12_kinOf_32 (fun v g13707 H locs hp hW1 => ?_)
          obtain ⟨r13706, rfl, hr13706, rfl⟩ := hp
          have hW : WS ad cA (fun i k => False) g0 K g0 H locs := ⟨hW1, hW.2.1, hW.2.2⟩
          refine q_if_eq (tgt := 44) hM dX12_kinOf_35 (by decide) (rfl : r13706.toInt = r13706.toInt) (fun h35 => ?_) (fun h35 => ?_)
          · refine q_iinc (lv9 := fun z13709 => [(3, .int z13709), (0, .ref (ad 129)), (1, .int i), (2, .int w6_2)]) hM dX12_kinOf_44 hl (kq := 3) rfl (by decide) (fun _ => rfl) (fun z13709 ls hz13709 hl => ?_)
            first | have tz13709 := i_addT hz13709 (rfl : w6_3.toInt = w6_3.toInt) (kc_1 : (Int32.ofInt 1).toInt = 1) (by omega) (by omega) | skip
            refine q_goto (tgt := 6) hM dX12_kinOf_47 (by decide) ?_
            exact ih6 w6_2 z13709 _ _ _ (by omega) (by omega) (by omega) (by omega) (by omega) (Ke_no i6_4 (by omega) (fun q9 => absurd ((hr13704.2.2 _ (by omega)).mpr q9.2) (bff (mh_f hr13706 (by omega)))) (by omega)) (lv_sub hl [1, 2, 3, 0] rfl) hW
          · refine q_iload_n hM dX12_kinOf_38 (lv_at hl 2 rfl) ?_
            refine q_iconst (v := (1 : Int32)) hM dX12_kinOf_39 (by decide) ?_
            refine q_iload_n hM dX12_kinOf_40 (lv_at hl 3 rfl) ?_
            refine q_ishl hM dX12_kinOf_41 (fun z13711 hz13711 => ?_)
            first | have sz13711 := i_shl1 12 (by decide) hz13711 (by omega) (by omega) | skip
            refine q_ior hM dX12_kinOf_42 (fun z13712 hz13712 => ?_)
            first | have oz13712 := i_ork 12 (by decide) hz13712 (by omega) (by omega) (by omega) (by omega) | skip
            first | have ogz13712 := i_or_ge hz13712 (by omega) (by omega) | skip
            refine q_istore_n (lv9 := [(2, .int z13712), (0, .ref (ad 129)), (1, .int i), (3, .int w6_3)]) hM dX12_kinOf_43 hl (by decide) rfl (fun ls hl => ?_)
            refine q_iinc (lv9 := fun z13713 => [(3, .int z13713), (2, .int z13712), (0, .ref (ad 129)), (1, .int i)]) hM dX12_kinOf_44 hl (kq := 3) rfl (by decide) (fun _ => rfl) (fun z13713 ls hz13713 hl => ?_)
            first | have tz13713 := i_addT hz13713 (rfl : w6_3.toInt = w6_3.toInt) (kc_1 : (Int32.ofInt 1).toInt = 1) (by omega) (by omega) | skip
            refine q_goto (tgt := 6) hM dX12_kinOf_47 (by decide) ?_
            exact ih6 z13712 z13713 _ _ _ (by omega) (by omega) (by omega) (by omega) (by omega) (Ke_yes i6_4 hz13711 hz13712 (by omega) (by omega) ((hr13697.2.2 _ (by omega)).mp (mh_t hr13699 (by omega))) ((hr13704.2.2 _ (by omega)).mp (mh_t hr13706 (by omega))) (by omega)) (lv_sub hl [2, 3, 1, 0] rfl) hW
  have := kc_0
  exact L6 _ z13693 (0 : Int32) _ _ _ (Nat.lt_succ_self _) (by omega) (by omega) (by omega) (by omega) (by rw [kc_0]; exact Ke_0 hz13693 (by omega) (by omega)) (lv_sub hl [2, 3, 1, 0] rfl) hW


set_option maxRecDepth 100000 in
set_option maxHeartbeats 4000000 in
theorem s_X12_kin (l : Launch) (D : va_G) (cA : Nat → ClassId) (ad : Nat → Nat) (g0 : Nat → va_E) (a : Int32)   (hSh : Shp ad cA g0) (hG : Rng g0) : CT l NN ad cA D yX12_kin cX12_kin 4 (some FieldType.int) (4, 93) [.ref (ad 129), .int a] g0 (fun v g' => ∃ (r : Int32), v = some (.int r) ∧ Shp ad cA g' ∧ Rng g' ∧ FR (fun i k => False) g0 g' ∧ ((a.toInt = 100 ∧ r.toInt = kc9 (tM (arI g0 131)) (KP (Lm g0)) 12) ∨ (a.toInt ≠ 100 ∧ ti (arI g0 131) 12 a = 1 ∧ BS r (KN (Lm g0) a.toInt.toNat)) ∨ (a.toInt ≠ 100 ∧ ¬ ti (arI g0 131) 12 a = 1 ∧ r.toInt = -1))) := by
  refine q_enterI (by decide) (Nat.le_of_ble_eq_true rfl) rfl (fun K H locs ls _ _ hM hW0 hR hC hE hl => ?_)
  have hl : lv_has ls 4 [(0, .ref (ad 129)), (1, .int a)] := hl
  have hW : WS ad cA (fun i k => False) g0 K g0 H locs := ⟨hW0, hSh, FR.rf⟩
  have := kc_0
  have := kc_1
  have := kc_m1
  have := kc_m2
  have := kc_100
  refine q_iload_n hM dX12_kin_0 (lv_at hl 1 rfl) ?_
  refine q_bipush (v := (100 : Int32)) hM dX12_kin_1 (by decide) ?_
  refine q_icmp_eq (tgt := 24) hM dX12_kin_3 (by decide) (rfl : a.toInt = a.toInt) (kc_100 : (100 : Int32).toInt = 100) (fun h3 => ?_) (fun h3 => ?_)
  · refine q_iconst (v := (0 : Int32)) hM dX12_kin_24 (by decide) ?_
    refine q_istore_n (lv9 := [(2, .int (0 : Int32)), (0, .ref (ad 129)), (1, .int a)]) hM dX12_kin_25 hl (by decide) rfl (fun ls hl => ?_)
    refine q_iconst (v := (0 : Int32)) hM dX12_kin_26 (by decide) ?_
    refine q_istore_n (lv9 := [(3, .int (0 : Int32)), (2, .int (0 : Int32)), (0, .ref (ad 129)), (1, .int a)]) hM dX12_kin_27 hl (by decide) rfl (fun ls hl => ?_)
    have L28 : ∀ (fu28 : Nat) (w28_2 : Int32) (w28_3 : Int32) (H : Heap) (locs : List Loc) (ls : Array Slot), (12 - w28_3.toInt).toNat < fu28 → (Rng g0) → (0 ≤ w28_3.toInt) → (w28_3.toInt ≤ 12) → (0 ≤ w28_2.toInt) → (w28_2.toInt ≤ w28_3.toInt) → (w28_2.toInt = kc9 (tM (arI g0 131)) (KP (Lm g0)) w28_3.toInt.toNat) → lv_has ls 4 [(0, .ref (ad 129)), (1, .int a), (2, .int w28_2), (3, .int w28_3)] → WS ad cA (fun i k => False) g0 K g0 H locs → XX K 0 0 H locs 28 ls [] := by
      intro fu28
      induction fu28 with
      | zero => intro w28_2 w28_3 H locs ls h0; omega
      | succ fu28 ih28 =>
        intro w28_2 w28_3 H locs ls hm28 i28_0 i28_1 i28_2 i28_3 i28_4 i28_5 hl hW
        have hG := i28_0
        refine q_iload_n hM dX12_kin_28 (lv_at hl 3 rfl) ?_
        refine q_bipush (v := (12 : Int32)) hM dX12_kin_29 (by decide) ?_
        refine q_icmp_ge (tgt := 71) hM dX12_kin_31 (by decide) (rfl : w28_3.toInt = w28_3.toInt) (kc_12 : (12 : Int32).toInt = 12) (fun h31 => ?_) (fun h31 => ?_)
        · refine q_iload_n hM dX12_kin_71 (lv_at hl 2 rfl) ?_
          exact hE _ _ _ _ _ _ hW.1 ⟨_, rfl, hW.2.1, hG, hW.2.2, (Or.inl ⟨by omega, by have e9 := i28_5; rw [show w28_3.toInt.toNat = 12 by omega] at e9; exact e9⟩)⟩ dX12_kin_72
        · refine q_iload_n hM dX12_kin_34 (lv_at hl 2 rfl) ?_
          refine q_aload_n hM dX12_kin_35 (lv_at hl 0 rfl) ?_
          refine w_get (v := .ref (ad 131)) hM hW FG_X12_17 lb_129 (rf_129_10 hW.2.1) dX12_kin_36 ?_
          refine q_iload_n hM dX12_kin_39 (lv_at hl 3 rfl) ?_
          refine w_zald hM hW lb_131 (i_in (by omega) (by omega)) dX12_kin_40 ?_
          refine q_top (fun y13718 hy13718 => ?_)
          have tyy13718 : y13718.toInt = tM (arI g0 131) w28_3.toInt.toNat := congrArg Int32.toInt hy13718
          refine q_if_eq (tgt := 62) hM dX12_kin_41 (by decide) (rfl : y13718.toInt = y13718.toInt) (fun h41 => ?_) (fun h41 => ?_)
          · refine q_iconst (v := (0 : Int32)) hM dX12_kin_62 (by decide) ?_
            refine q_iadd hM dX12_kin_63 (fun z13720 hz13720 => ?_)
            first | have tz13720 := i_addT hz13720 (rfl : w28_2.toInt = w28_2.toInt) (kc_0 : (0 : Int32).toInt = 0) (by omega) (by omega) | skip
            refine q_istore_n (lv9 := [(2, .int z13720), (0, .ref (ad 129)), (1, .int a), (3, .int w28_3)]) hM dX12_kin_64 hl (by decide) rfl (fun ls hl => ?_)
            refine q_iinc (lv9 := fun z13721 => [(3, .int z13721), (2, .int z13720), (0, .ref (ad 129)), (1, .int a)]) hM dX12_kin_65 hl (kq := 3) rfl (by decide) (fun _ => rfl) (fun z13721 ls hz13721 hl => ?_)
            first | have tz13721 := i_addT hz13721 (rfl : w28_3.toInt = w28_3.toInt) (kc_1 : (Int32.ofInt 1).toInt = 1) (by omega) (by omega) | skip
            refine q_goto (tgt := 28) hM dX12_kin_68 (by decide) ?_
            exact ih28 z13720 z13721 _ _ _ (by omega) hG (by omega) (by omega) (by omega) (by omega) (kc9_no i28_5 (by omega) (by omega) (Or.inl (by omega)) (by omega)) (lv_sub hl [2, 3, 1, 0] rfl) hW
          · refine q_aload_n hM dX12_kin_44 (lv_at hl 0 rfl) ?_
            refine q_iload_n hM dX12_kin_45 (lv_at hl 3 rfl) ?_
            refine q_callV (As := [.int w28_3]) (rest := [.int w28_2]) hM hW.1 hR hC myX12_kinOf (kAW (v_5_7 (List.mem_of_getElem? (i := 5) rfl)) rfl) (rfl : vwCl[12]? = some (RX12, TX12, 86)) rfl lb_129.1 (shO hW.2.1 lb_129) (s_X12_kinOf _ _ cA ad g0 w28_3 hW.2.1 hG (by  omega) (by  omega)) ⟨by decide, by decide⟩ rfl rfl hl.1 (Nat.le_of_ble_eq_true rfl) dX12_kin_46 (fun v g13724 H locs hp hW1 => ?_)
            obtain ⟨r13723, rfl, hr13723, rfl⟩ := hp
            have hW : WS ad cA (fun i k => False) g0 K g0 H locs := ⟨hW1, hW.2.1, hW.2.2⟩
            refine q_iconst (v := (1 : Int32)) hM dX12_kin_49 (by decide) ?_
            refine q_iload_n hM dX12_kin_50 (lv_at hl 3 rfl) ?_
            refine q_ishl hM dX12_kin_51 (fun z13725 hz13725 => ?_)
            first | have sz13725 := i_shl1 12 (by decide) hz13725 (by omega) (by omega) | skip
            refine q_iconst (v := (1 : Int32)) hM dX12_kin_52 (by decide) ?_
            refine q_isub hM dX12_kin_53 (fun z13726 hz13726 => ?_)
            first | have tz13726 := i_subT hz13726 (rfl : z13725.toInt = z13725.toInt) (kc_1 : (1 : Int32).toInt = 1) (by omega) (by omega) | skip
            refine q_iand hM dX12_kin_54 (fun z13727 hz13727 => ?_)
            first | have az13727 := i_andk hz13727 (by omega) | have az13727 := i_andk (i_comm hz13727) (by omega) | skip
            refine q_if_ne (tgt := 62) hM dX12_kin_55 (by decide) (rfl : z13727.toInt = z13727.toInt) (fun h55 => ?_) (fun h55 => ?_)
            · refine q_iconst (v := (0 : Int32)) hM dX12_kin_62 (by decide) ?_
              refine q_iadd hM dX12_kin_63 (fun z13729 hz13729 => ?_)
              first | have tz13729 := i_addT hz13729 (rfl : w28_2.toInt = w28_2.toInt) (kc_0 : (0 : Int32).toInt = 0) (by omega) (by omega) | skip
              refine q_istore_n (lv9 := [(2, .int z13729), (0, .ref (ad 129)), (1, .int a), (3, .int w28_3)]) hM dX12_kin_64 hl (by decide) rfl (fun ls hl => ?_)
              refine q_iinc (lv9 := fun z13730 => [(3, .int z13730), (2, .int z13729), (0, .ref (ad 129)), (1, .int a)]) hM dX12_kin_65 hl (kq := 3) rfl (by decide) (fun _ => rfl) (fun z13730 ls hz13730 hl => ?_)
              first | have tz13730 := i_addT hz13730 (rfl : w28_3.toInt = w28_3.toInt) (kc_1 : (Int32.ofInt 1).toInt = 1) (by omega) (by omega) | skip
              refine q_goto (tgt := 28) hM dX12_kin_68 (by decide) ?_
              exact ih28 z13729 z13730 _ _ _ (by omega) hG (by omega) (by omega) (by omega) (by omega) (kc9_no i28_5 (by omega) (by omega) (Or.inr (fun q9 => h55 ((kb_iff hr13723.2.2 (by omega) (by omega) hz13725 hz13726 hz13727).mpr q9))) (by omega)) (lv_sub hl [2, 3, 1, 0] rfl) hW
            · refine q_iconst (v := (1 : Int32)) hM dX12_kin_58 (by decide) ?_
              refine q_goto (tgt := 63) hM dX12_kin_59 (by decide) ?_
              refine q_iadd hM dX12_kin_63 (fun z13732 hz13732 => ?_)
              first | have tz13732 := i_addT hz13732 (rfl : w28_2.toInt = w28_2.toInt) (kc_1 : (1 : Int32).toInt = 1) (by omega) (by omega) | skip
              refine q_istore_n (lv9 := [(2, .int z13732), (0, .ref (ad 129)), (1, .int a), (3, .int w28_3)]) hM dX12_kin_64 hl (by decide) rfl (fun ls hl => ?_)
              refine q_iinc (lv9 := fun z13733 => [(3, .int z13733), (2, .int z13732), (0, .ref (ad 129)), (1, .int a)]) hM dX12_kin_65 hl (kq := 3) rfl (by decide) (fun _ => rfl) (fun z13733 ls hz13733 hl => ?_)
              first | have tz13733 := i_addT hz13733 (rfl : w28_3.toInt = w28_3.toInt) (kc_1 : (Int32.ofInt 1).toInt = 1) (by omega) (by omega) | skip
              refine q_goto (tgt := 28) hM dX12_kin_68 (by decide) ?_
              exact ih28 z13732 z13733 _ _ _ (by omega) hG (by omega) (by omega) (by omega) (by omega) (kc9_yes i28_5 (by omega) (by omega) (by omega) ((kb_iff hr13723.2.2 (by omega) (by omega) hz13725 hz13726 hz13727).mp h55) (by omega)) (lv_sub hl [2, 3, 1, 0] rfl) hW
    have := kc_0
    have := kc_0
    exact L28 _ (0 : Int32) (0 : Int32) _ _ _ (Nat.lt_succ_self _) hG (by omega) (by omega) (by omega) (by omega) (by rw [kc_0]; rfl) (lv_sub hl [2, 3, 1, 0] rfl) hW
  · refine q_aload_n hM dX12_kin_6 (lv_at hl 0 rfl) ?_
    refine q_iload_n hM dX12_kin_7 (lv_at hl 1 rfl) ?_
    refine q_callV (As := [.int a]) (rest := []) hM hW.1 hR hC myX12_isTold (kAW (v_5_5 (List.mem_of_getElem? (i := 6) rfl)) rfl) (rfl : vwCl[12]? = some (RX12, TX12, 86)) rfl lb_129.1 (shO hW.2.1 lb_129) (s_X12_isTold _ _ cA ad g0 a hW.2.1 hG) ⟨by decide, by decide⟩ rfl rfl hl.1 (Nat.le_of_ble_eq_true rfl) dX12_kin_8 (fun v g13736 H locs hp hW1 => ?_)
    obtain ⟨r13735, rfl, hr13735, rfl⟩ := hp
    have hW : WS ad cA (fun i k => False) g0 K g0 H locs := ⟨hW1, hW.2.1, hW.2.2⟩
    refine q_if_eq (tgt := 22) hM dX12_kin_11 (by decide) (rfl : r13735.toInt = r13735.toInt) (fun h11 => ?_) (fun h11 => ?_)
    · refine q_iconst (v := ((-1) : Int32)) hM dX12_kin_22 (by decide) ?_
      exact hE _ _ _ _ _ _ hW.1 ⟨_, rfl, hW.2.1, hG, hW.2.2, (Or.inr (Or.inr ⟨by omega, by omega, kc_m1⟩))⟩ dX12_kin_23
    · refine q_aload_n hM dX12_kin_14 (lv_at hl 0 rfl) ?_
      refine q_iload_n hM dX12_kin_15 (lv_at hl 1 rfl) ?_
      refine q_callV (As := [.int a]) (rest := []) hM hW.1 hR hC myX12_kinOf (kAW (v_5_7 (List.mem_of_getElem? (i := 5) rfl)) rfl) (rfl : vwCl[12]? = some (RX12, TX12, 86)) rfl lb_129.1 (shO hW.2.1 lb_129) (s_X12_kinOf _ _ cA ad g0 a hW.2.1 hG (by  omega) (by  omega)) ⟨by decide, by decide⟩ rfl rfl hl.1 (Nat.le_of_ble_eq_true rfl) dX12_kin_16 (fun v g13740 H locs hp hW1 => ?_)
      obtain ⟨r13739, rfl, hr13739, rfl⟩ := hp
      have hW : WS ad cA (fun i k => False) g0 K g0 H locs := ⟨hW1, hW.2.1, hW.2.2⟩
      refine q_goto (tgt := 23) hM dX12_kin_19 (by decide) ?_
      exact hE _ _ _ _ _ _ hW.1 ⟨_, rfl, hW.2.1, hG, hW.2.2, (Or.inr (Or.inl ⟨by omega, by omega, hr13739.2.2⟩))⟩ dX12_kin_23
