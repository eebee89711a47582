
set_option maxRecDepth 100000 in
set_option maxHeartbeats 4000000 in
theorem s_X12_reminds (l : Launch) (D : va_G) (cA : Nat → ClassId) (ad : Nat → Nat) (g0 : Nat → va_E) (a : Int32) (b : Int32) (c : Int32)   (hSh : Shp ad cA g0) (hG : Rng g0) : CT l NN ad cA D yX12_reminds cX12_reminds 4 (some FieldType.boolean) (2, 46) [.ref (ad 129), .int a, .int b, .int c] g0 (fun v g' => ∃ (r : Int32), v = some (.int r) ∧ Shp ad cA g' ∧ Rng g' ∧ FR (fun i k => i = 175) g0 g' ∧ (((ti (arI g0 158) 8 a = 1 ∧ ti (arI g0 158) 8 b = 1 ∧ a.toInt ≠ b.toInt ∧ 0 ≤ c.toInt ∧ c.toInt ≤ 99) ∧ arI g' 175 = upd (upd (arI g0 175) (8 * a.toInt.toNat + b.toInt.toNat) c) (8 * b.toInt.toNat + a.toInt.toNat) c) ∨ (¬ (ti (arI g0 158) 8 a = 1 ∧ ti (arI g0 158) 8 b = 1 ∧ a.toInt ≠ b.toInt ∧ 0 ≤ c.toInt ∧ c.toInt ≤ 99) ∧ arI g' 175 = arI g0 175)) ∧ (r.toInt = 0 ∨ r.toInt = 1)) := by
  refine q_enterZ (by decide) (Nat.le_of_ble_eq_true rfl) (fun K H locs ls _ _ hM hW0 hR hC hE hl => ?_)
  have hl : lv_has ls 4 [(0, .ref (ad 129)), (1, .int a), (2, .int b), (3, .int c)] := hl
  have hW : WS ad cA (fun i k => i = 175) g0 K g0 H locs := ⟨hW0, hSh, FR.rf⟩
  have := kc_0
  have := kc_1
  refine q_aload_n hM dX12_reminds_0 (lv_at hl 0 rfl) ?_
  refine q_iload_n hM dX12_reminds_1 (lv_at hl 1 rfl) ?_
  refine q_callV (As := [.int a]) (rest := []) hM hW.1 hR hC myX12_isThat (kAW (v_6_2 (List.mem_of_getElem? (i := 9) rfl)) rfl) (rfl : vwCl[12]? = some (RX12, TX12, 86)) rfl lb_129.1 (shO hW.2.1 lb_129) (s_X12_isThat _ _ cA ad g0 a hW.2.1 hG) ⟨by decide, by decide⟩ rfl rfl hl.1 (Nat.le_of_ble_eq_true rfl) dX12_reminds_2 (fun v g14060 H locs hp hW1 => ?_)
  obtain ⟨r14059, rfl, hr14059, rfl⟩ := hp
  have hW : WS ad cA (fun i k => i = 175) g0 K g0 H locs := ⟨hW1, hW.2.1, hW.2.2⟩
  refine q_if_eq (tgt := 33) hM dX12_reminds_5 (by decide) (rfl : r14059.toInt = r14059.toInt) (fun h5 => ?_) (fun h5 => ?_)
  · refine q_iconst (v := (0 : Int32)) hM dX12_reminds_33 (by decide) ?_
    exact hE _ _ _ _ _ _ hW.1 nz_0 ⟨_, rfl, hW.2.1, hG, hW.2.2, (Or.inr ⟨by omega, rfl⟩), (by have := kc_0; omega)⟩ dX12_reminds_34
  · refine q_aload_n hM dX12_reminds_8 (lv_at hl 0 rfl) ?_
    refine q_iload_n hM dX12_reminds_9 (lv_at hl 2 rfl) ?_
    refine q_callV (As := [.int b]) (rest := []) hM hW.1 hR hC myX12_isThat (kAW (v_6_2 (List.mem_of_getElem? (i := 9) rfl)) rfl) (rfl : vwCl[12]? = some (RX12, TX12, 86)) rfl lb_129.1 (shO hW.2.1 lb_129) (s_X12_isThat _ _ cA ad g0 b hW.2.1 hG) ⟨by decide, by decide⟩ rfl rfl hl.1 (Nat.le_of_ble_eq_true rfl) dX12_reminds_10 (fun v g14064 H locs hp hW1 => ?_)
    obtain ⟨r14063, rfl, hr14063, rfl⟩ := hp
    have hW : WS ad cA (fun i k => i = 175) g0 K g0 H locs := ⟨hW1, hW.2.1, hW.2.2⟩
    refine q_if_eq (tgt := 33) hM dX12_reminds_13 (by decide) (rfl : r14063.toInt = r14063.toInt) (fun h13 => ?_) (fun h13 => ?_)
    · refine q_iconst (v := (0 : Int32)) hM dX12_reminds_33 (by decide) ?_
      exact hE _ _ _ _ _ _ hW.1 nz_0 ⟨_, rfl, hW.2.1, hG, hW.2.2, (Or.inr ⟨by omega, rfl⟩), (by have := kc_0; omega)⟩ dX12_reminds_34
    · refine q_iload_n hM dX12_reminds_16 (lv_at hl 1 rfl) ?_
      refine q_iload_n hM dX12_reminds_17 (lv_at hl 2 rfl) ?_
      refine q_icmp_eq (tgt := 33) hM dX12_reminds_18 (by decide) (rfl : a.toInt = a.toInt) (rfl : b.toInt = b.toInt) (fun h18 => ?_) (fun h18 => ?_)
      · refine q_iconst (v := (0 : Int32)) hM dX12_reminds_33 (by decide) ?_
        exact hE _ _ _ _ _ _ hW.1 nz_0 ⟨_, rfl, hW.2.1, hG, hW.2.2, (Or.inr ⟨by omega, rfl⟩), (by have := kc_0; omega)⟩ dX12_reminds_34
      · refine q_iload_n hM dX12_reminds_21 (lv_at hl 3 rfl) ?_
        refine q_i2l hM dX12_reminds_22 ?_
        have := l_i2l c
        refine q_lconst (v := 0) hM dX12_reminds_23 (by decide) ?_
        have := kl_0
        refine q_ldc2 (v := 99) hM (kAW (v_6_2 (List.mem_of_getElem? (i := 4) rfl)) rfl) dX12_reminds_24 ?_
        have := kl_99
        refine q_callS (As := [.long c.toInt64, .long (0 : Int64), .long (99 : Int64)]) (rest := []) hM hW.1 hR hC myX12_lies (kAW (v_5_4 (List.mem_of_getElem? (i := 14) rfl)) rfl) (c_X12_lies _ _ cA ad g0 c.toInt64 (0 : Int64) (99 : Int64) hW.2.1) ⟨by decide, by decide⟩ rfl rfl hl.1 (Nat.le_of_ble_eq_true rfl) dX12_reminds_27 (fun v g14070 H locs hp hW1 => ?_)
        obtain ⟨r14069, rfl, hr14069, rfl⟩ := hp
        have hW : WS ad cA (fun i k => i = 175) g0 K g0 H locs := ⟨hW1, hW.2.1, hW.2.2⟩
        refine q_if_ne (tgt := 35) hM dX12_reminds_30 (by decide) (rfl : r14069.toInt = r14069.toInt) (fun h30 => ?_) (fun h30 => ?_)
        · refine q_aload_n hM dX12_reminds_35 (lv_at hl 0 rfl) ?_
          refine w_get (v := .ref (ad 175)) hM hW FG_X12_151 lb_129 (rf_129_81 hW.2.1) dX12_reminds_36 ?_
          refine q_bipush (v := (8 : Int32)) hM dX12_reminds_39 (by decide) ?_
          refine q_iload_n hM dX12_reminds_41 (lv_at hl 1 rfl) ?_
          refine q_imul hM dX12_reminds_42 (fun z14072 hz14072 => ?_)
          first | have tz14072 := i_mulT hz14072 (kc_8 : (8 : Int32).toInt = 8) (rfl : a.toInt = a.toInt) (by omega) (by omega) | skip
          refine q_iload_n hM dX12_reminds_43 (lv_at hl 2 rfl) ?_
          refine q_iadd hM dX12_reminds_44 (fun z14073 hz14073 => ?_)
          first | have tz14073 := i_addT hz14073 (rfl : z14072.toInt = z14072.toInt) (rfl : b.toInt = b.toInt) (by omega) (by omega) | skip
          refine q_iload_n hM dX12_reminds_45 (lv_at hl 3 rfl) ?_
          refine w_iast hM hW lb_175 (by omega) (i_in (by omega) (by omega)) dX12_reminds_46 (fun g14074 H locs hW e1 e2 => ?_)
          have hS0 := e1
          rw [show z14073.toNatClampNeg = 8 * a.toInt.toNat + b.toInt.toNat by show z14073.toInt.toNat = _; omega] at hS0
          have hG := hG.st e1 e2 (rfl : rA 175 = (-2147483648, 2147483647)) (by have := i_rng c; omega) (by have := i_rng c; omega)
          refine q_aload_n hM dX12_reminds_47 (lv_at hl 0 rfl) ?_
          refine w_get (v := .ref (ad 175)) hM hW FG_X12_151 lb_129 (rf_129_81 hW.2.1) dX12_reminds_48 ?_
          refine q_bipush (v := (8 : Int32)) hM dX12_reminds_51 (by decide) ?_
          refine q_iload_n hM dX12_reminds_53 (lv_at hl 2 rfl) ?_
          refine q_imul hM dX12_reminds_54 (fun z14075 hz14075 => ?_)
          first | have tz14075 := i_mulT hz14075 (kc_8 : (8 : Int32).toInt = 8) (rfl : b.toInt = b.toInt) (by omega) (by omega) | skip
          refine q_iload_n hM dX12_reminds_55 (lv_at hl 1 rfl) ?_
          refine q_iadd hM dX12_reminds_56 (fun z14076 hz14076 => ?_)
          first | have tz14076 := i_addT hz14076 (rfl : z14075.toInt = z14075.toInt) (rfl : a.toInt = a.toInt) (by omega) (by omega) | skip
          refine q_iload_n hM dX12_reminds_57 (lv_at hl 3 rfl) ?_
          refine w_iast hM hW lb_175 (by omega) (i_in (by omega) (by omega)) dX12_reminds_58 (fun g14077 H locs hW e1 e2 => ?_)
          have hS1 := e1
          rw [show z14076.toNatClampNeg = 8 * b.toInt.toNat + a.toInt.toNat by show z14076.toInt.toNat = _; omega] at hS1
          have hG := hG.st e1 e2 (rfl : rA 175 = (-2147483648, 2147483647)) (by have := i_rng c; omega) (by have := i_rng c; omega)
          refine q_iconst (v := (1 : Int32)) hM dX12_reminds_59 (by decide) ?_
          exact hE _ _ _ _ _ _ hW.1 nz_1 ⟨_, rfl, hW.2.1, hG, hW.2.2, (Or.inl ⟨by omega, by rw [hS1, hS0]⟩), (by have := kc_1; omega)⟩ dX12_reminds_60
        · refine q_iconst (v := (0 : Int32)) hM dX12_reminds_33 (by decide) ?_
          exact hE _ _ _ _ _ _ hW.1 nz_0 ⟨_, rfl, hW.2.1, hG, hW.2.2, (Or.inr ⟨by omega, rfl⟩), (by have := kc_0; omega)⟩ dX12_reminds_34


set_option maxRecDepth 100000 in
set_option maxHeartbeats 4000000 in
theorem s_X12_remindedIn (l : Launch) (D : va_G) (cA : Nat → ClassId) (ad : Nat → Nat) (g0 : Nat → va_E) (s : Int32) (hSh : Shp ad cA g0) (hG : Rng g0) (hR : ∀ p q : Nat, p < 8 → q < 8 → 0 ≤ (rM g0 p q).toInt ∧ (rM g0 p q).toInt ≤ 99) : CT l NN ad cA D yX12_remindedIn cX12_remindedIn 5 (some FieldType.int) (1, 21) [.ref (ad 129), .int s] g0 (PU g0 (fun r => r.toInt = allM (rT (rM g0) s) 8 ∧ 0 ≤ r.toInt ∧ r.toInt ≤ 6400)) := by
  refine q_enterI (by decide) (Nat.le_of_ble_eq_true rfl) rfl (fun K H locs ls _ _ hM hW0 hR hC hE hl => ?_)
  have hl : lv_has ls 5 [(0, .ref (ad 129)), (1, .int s)] := hl
  have hW : WS ad cA (fun i k => False) g0 K g0 H locs := ⟨hW0, hSh, FR.rf⟩
  have := kc_0
  have := kc_1
  have := kc_m1
  refine q_iconst (v := (0 : Int32)) hM dX12_remindedIn_0 (by decide) ?_
  refine q_istore_n (lv9 := [(2, .int (0 : Int32)), (0, .ref (ad 129)), (1, .int s)]) hM dX12_remindedIn_1 hl (by decide) rfl (fun ls hl => ?_)
  refine q_iconst (v := (0 : Int32)) hM dX12_remindedIn_2 (by decide) ?_
  refine q_istore_n (lv9 := [(3, .int (0 : Int32)), (2, .int (0 : Int32)), (0, .ref (ad 129)), (1, .int s)]) hM dX12_remindedIn_3 hl (by decide) rfl (fun ls hl => ?_)
  have L4 : ∀ (fu4 : Nat) (w4_2 : Int32) (w4_3 : Int32) (H : Heap) (locs : List Loc) (ls : Array Slot), (8 - w4_3.toInt).toNat < fu4 → (0 ≤ w4_3.toInt) → (w4_3.toInt ≤ 8) → (w4_2.toInt = allM (rT (rM g0) s) w4_3.toInt.toNat) → (0 ≤ w4_2.toInt) → (w4_2.toInt ≤ 800 * w4_3.toInt) → lv_has ls 5 [(0, .ref (ad 129)), (1, .int s), (2, .int w4_2), (3, .int w4_3)] → WS ad cA (fun i k => False) g0 K g0 H locs → XX K 0 0 H locs 4 ls [] := by
    intro fu4
    induction fu4 with
    | zero => intro w4_2 w4_3 H locs ls h0; omega
    | succ fu4 ih4 =>
      intro w4_2 w4_3 H locs ls hm4 i4_0 i4_1 i4_2 i4_3 i4_4 hl hW
      refine q_iload_n hM dX12_remindedIn_4 (lv_at hl 3 rfl) ?_
      refine q_bipush (v := (8 : Int32)) hM dX12_remindedIn_5 (by decide) ?_
      refine q_icmp_ge (tgt := 67) hM dX12_remindedIn_7 (by decide) (rfl : w4_3.toInt = w4_3.toInt) (kc_8 : (8 : Int32).toInt = 8) (fun h7 => ?_) (fun h7 => ?_)
      · refine q_iload_n hM dX12_remindedIn_67 (lv_at hl 2 rfl) ?_
        exact hE _ _ _ _ _ _ hW.1 ⟨_, rfl, (by have e9 := i4_2; rw [show w4_3.toInt.toNat = 8 by omega] at e9; exact ⟨e9, by omega, by omega⟩), rfl⟩ dX12_remindedIn_68
      · refine q_iconst (v := (0 : Int32)) hM dX12_remindedIn_10 (by decide) ?_
        refine q_istore (lv9 := [(4, .int (0 : Int32)), (0, .ref (ad 129)), (1, .int s), (2, .int w4_2), (3, .int w4_3)]) hM dX12_remindedIn_11 hl (by decide) rfl (fun ls hl => ?_)
        have L13 : ∀ (fu13 : Nat) (w13_2 : Int32) (w13_4 : Int32) (H : Heap) (locs : List Loc) (ls : Array Slot), (w4_3.toInt - w13_4.toInt + 1).toNat < fu13 → (0 ≤ w13_4.toInt) → (w13_2.toInt = allM (rT (rM g0) s) w4_3.toInt.toNat + rowM (rT (rM g0) s) w4_3.toInt.toNat w13_4.toInt.toNat) → (0 ≤ w13_2.toInt) → (w13_2.toInt ≤ 800 * w4_3.toInt + 99 * w13_4.toInt) → (w13_4.toInt ≤ w4_3.toInt) → lv_has ls 5 [(0, .ref (ad 129)), (1, .int s), (2, .int w13_2), (3, .int w4_3), (4, .int w13_4)] → WS ad cA (fun i k => False) g0 K g0 H locs → XX K 0 0 H locs 13 ls [] := by
          intro fu13
          induction fu13 with
          | zero => intro w13_2 w13_4 H locs ls h0; omega
          | succ fu13 ih13 =>
            intro w13_2 w13_4 H locs ls hm13 i13_0 i13_1 i13_2 i13_3 i13_4 hl hW
            have := i_rng w4_3
            refine q_iload hM dX12_remindedIn_13 (lv_at hl 4 rfl) ?_
            refine q_iload_n hM dX12_remindedIn_15 (lv_at hl 3 rfl) ?_
            refine q_icmp_ge (tgt := 61) hM dX12_remindedIn_16 (by decide) (rfl : w13_4.toInt = w13_4.toInt) (rfl : w4_3.toInt = w4_3.toInt) (fun h16 => ?_) (fun h16 => ?_)
            · refine q_iinc (lv9 := fun z14084 => [(3, .int z14084), (0, .ref (ad 129)), (1, .int s), (2, .int w13_2), (4, .int w13_4)]) hM dX12_remindedIn_61 hl (kq := 3) rfl (by decide) (fun _ => rfl) (fun z14084 ls hz14084 hl => ?_)
              first | have tz14084 := i_addT hz14084 (rfl : w4_3.toInt = w4_3.toInt) (kc_1 : (Int32.ofInt 1).toInt = 1) (by omega) (by omega) | skip
              refine q_goto (tgt := 4) hM dX12_remindedIn_64 (by decide) ?_
              exact ih4 w13_2 z14084 _ _ _ (by omega) (by omega) (by omega) (rm_end i13_2 (by omega) (by omega) (by omega)) (by omega) (by omega) (lv_sub hl [1, 2, 3, 0] rfl) hW
            · refine q_iload_n hM dX12_remindedIn_19 (lv_at hl 2 rfl) ?_
              refine q_iload_n hM dX12_remindedIn_20 (lv_at hl 1 rfl) ?_
              refine q_iload_n hM dX12_remindedIn_21 (lv_at hl 3 rfl) ?_
              refine q_callS (As := [.int s, .int w4_3]) (rest := [.int w13_2]) hM hW.1 hR hC myX12_has (kAW (v_5_6 (List.mem_of_getElem? (i := 7) rfl)) rfl) (c_X12_has _ _ cA ad g0 s w4_3 hW.2.1 (by omega) (by omega)) ⟨by decide, by decide⟩ rfl rfl hl.1 (Nat.le_of_ble_eq_true rfl) dX12_remindedIn_22 (fun v g14087 H locs hp hW1 => ?_)
              obtain ⟨r14086, rfl, hr14086, rfl⟩ := hp
              have hW : WS ad cA (fun i k => False) g0 K g0 H locs := ⟨hW1, hW.2.1, hW.2.2⟩
              refine q_if_eq (tgt := 52) hM dX12_remindedIn_25 (by decide) (rfl : r14086.toInt = r14086.toInt) (fun h25 => ?_) (fun h25 => ?_)
              · refine q_iconst (v := (0 : Int32)) hM dX12_remindedIn_52 (by decide) ?_
                refine q_iadd hM dX12_remindedIn_53 (fun z14089 hz14089 => ?_)
                first | have tz14089 := i_addT hz14089 (rfl : w13_2.toInt = w13_2.toInt) (kc_0 : (0 : Int32).toInt = 0) (by omega) (by omega) | skip
                refine q_istore_n (lv9 := [(2, .int z14089), (0, .ref (ad 129)), (1, .int s), (3, .int w4_3), (4, .int w13_4)]) hM dX12_remindedIn_54 hl (by decide) rfl (fun ls hl => ?_)
                refine q_iinc (lv9 := fun z14090 => [(4, .int z14090), (2, .int z14089), (0, .ref (ad 129)), (1, .int s), (3, .int w4_3)]) hM dX12_remindedIn_55 hl (kq := 4) rfl (by decide) (fun _ => rfl) (fun z14090 ls hz14090 hl => ?_)
                first | have tz14090 := i_addT hz14090 (rfl : w13_4.toInt = w13_4.toInt) (kc_1 : (Int32.ofInt 1).toInt = 1) (by omega) (by omega) | skip
                refine q_goto (tgt := 13) hM dX12_remindedIn_58 (by decide) ?_
                exact ih13 z14089 z14090 _ _ _ (by omega) (by omega) (rm_st i13_2 (by omega) (by omega) (rT_a (mh_f hr14086 (by omega))) (by omega)) (by omega) (by omega) (by omega) (lv_sub hl [2, 3, 1, 4, 0] rfl) hW
              · refine q_iload_n hM dX12_remindedIn_28 (lv_at hl 1 rfl) ?_
                refine q_iload hM dX12_remindedIn_29 (lv_at hl 4 rfl) ?_
                refine q_callS (As := [.int s, .int w13_4]) (rest := [.int w13_2]) hM hW.1 hR hC myX12_has (kAW (v_5_6 (List.mem_of_getElem? (i := 7) rfl)) rfl) (c_X12_has _ _ cA ad g0 s w13_4 hW.2.1 (by omega) (by omega)) ⟨by decide, by decide⟩ rfl rfl hl.1 (Nat.le_of_ble_eq_true rfl) dX12_remindedIn_31 (fun v g14093 H locs hp hW1 => ?_)
                obtain ⟨r14092, rfl, hr14092, rfl⟩ := hp
                have hW : WS ad cA (fun i k => False) g0 K g0 H locs := ⟨hW1, hW.2.1, hW.2.2⟩
                refine q_if_eq (tgt := 52) hM dX12_remindedIn_34 (by decide) (rfl : r14092.toInt = r14092.toInt) (fun h34 => ?_) (fun h34 => ?_)
                · refine q_iconst (v := (0 : Int32)) hM dX12_remindedIn_52 (by decide) ?_
                  refine q_iadd hM dX12_remindedIn_53 (fun z14095 hz14095 => ?_)
                  first | have tz14095 := i_addT hz14095 (rfl : w13_2.toInt = w13_2.toInt) (kc_0 : (0 : Int32).toInt = 0) (by omega) (by omega) | skip
                  refine q_istore_n (lv9 := [(2, .int z14095), (0, .ref (ad 129)), (1, .int s), (3, .int w4_3), (4, .int w13_4)]) hM dX12_remindedIn_54 hl (by decide) rfl (fun ls hl => ?_)
                  refine q_iinc (lv9 := fun z14096 => [(4, .int z14096), (2, .int z14095), (0, .ref (ad 129)), (1, .int s), (3, .int w4_3)]) hM dX12_remindedIn_55 hl (kq := 4) rfl (by decide) (fun _ => rfl) (fun z14096 ls hz14096 hl => ?_)
                  first | have tz14096 := i_addT hz14096 (rfl : w13_4.toInt = w13_4.toInt) (kc_1 : (Int32.ofInt 1).toInt = 1) (by omega) (by omega) | skip
                  refine q_goto (tgt := 13) hM dX12_remindedIn_58 (by decide) ?_
                  exact ih13 z14095 z14096 _ _ _ (by omega) (by omega) (rm_st i13_2 (by omega) (by omega) (rT_b (mh_f hr14092 (by omega))) (by omega)) (by omega) (by omega) (by omega) (lv_sub hl [2, 3, 1, 4, 0] rfl) hW
                · refine q_aload_n hM dX12_remindedIn_37 (lv_at hl 0 rfl) ?_
                  refine w_get (v := .ref (ad 175)) hM hW FG_X12_151 lb_129 (rf_129_81 hW.2.1) dX12_remindedIn_38 ?_
                  refine q_bipush (v := (8 : Int32)) hM dX12_remindedIn_41 (by decide) ?_
                  refine q_iload_n hM dX12_remindedIn_43 (lv_at hl 3 rfl) ?_
                  refine q_imul hM dX12_remindedIn_44 (fun z14098 hz14098 => ?_)
                  first | have tz14098 := i_mulT hz14098 (kc_8 : (8 : Int32).toInt = 8) (rfl : w4_3.toInt = w4_3.toInt) (by omega) (by omega) | skip
                  refine q_iload hM dX12_remindedIn_45 (lv_at hl 4 rfl) ?_
                  refine q_iadd hM dX12_remindedIn_47 (fun z14099 hz14099 => ?_)
                  first | have tz14099 := i_addT hz14099 (rfl : z14098.toInt = z14098.toInt) (rfl : w13_4.toInt = w13_4.toInt) (by omega) (by omega) | skip
                  refine w_iald hM hW lb_175 (i_in (by omega) (by omega)) dX12_remindedIn_48 ?_
                  refine q_top (fun y14100 hy14100 => ?_)
                  have tyy14100 : y14100.toInt = (rM g0 w4_3.toInt.toNat w13_4.toInt.toNat).toInt := by rw [hy14100, show z14099.toNatClampNeg = 8 * w4_3.toInt.toNat + w13_4.toInt.toNat by show z14099.toInt.toNat = _; omega]; rfl
                  have rby14100 := hR w4_3.toInt.toNat w13_4.toInt.toNat (by omega) (by omega)
                  refine q_goto (tgt := 53) hM dX12_remindedIn_49 (by decide) ?_
                  refine q_iadd hM dX12_remindedIn_53 (fun z14101 hz14101 => ?_)
                  first | have tz14101 := i_addT hz14101 (rfl : w13_2.toInt = w13_2.toInt) (rfl : y14100.toInt = y14100.toInt) (by omega) (by omega) | skip
                  refine q_istore_n (lv9 := [(2, .int z14101), (0, .ref (ad 129)), (1, .int s), (3, .int w4_3), (4, .int w13_4)]) hM dX12_remindedIn_54 hl (by decide) rfl (fun ls hl => ?_)
                  refine q_iinc (lv9 := fun z14102 => [(4, .int z14102), (2, .int z14101), (0, .ref (ad 129)), (1, .int s), (3, .int w4_3)]) hM dX12_remindedIn_55 hl (kq := 4) rfl (by decide) (fun _ => rfl) (fun z14102 ls hz14102 hl => ?_)
                  first | have tz14102 := i_addT hz14102 (rfl : w13_4.toInt = w13_4.toInt) (kc_1 : (Int32.ofInt 1).toInt = 1) (by omega) (by omega) | skip
                  refine q_goto (tgt := 13) hM dX12_remindedIn_58 (by decide) ?_
                  exact ih13 z14101 z14102 _ _ _ (by omega) (by omega) (rm_st i13_2 (by omega) (by omega) (rT_c (mh_t hr14086 (by omega)) (mh_t hr14092 (by omega))) (by omega)) (by omega) (by omega) (by omega) (lv_sub hl [2, 3, 1, 4, 0] rfl) hW
        have := kc_0
        exact L13 _ w4_2 (0 : Int32) _ _ _ (Nat.lt_succ_self _) (by omega) (rm_0 i4_2 (by omega)) (by omega) (by omega) (by omega) (lv_sub hl [1, 2, 3, 4, 0] rfl) hW
  have := kc_0
  have := kc_0
  exact L4 _ (0 : Int32) (0 : Int32) _ _ _ (Nat.lt_succ_self _) (by omega) (by omega) (by rw [kc_0]; rfl) (by omega) (by omega) (lv_sub hl [2, 3, 1, 0] rfl) hW


set_option maxRecDepth 100000 in
set_option maxHeartbeats 4000000 in
theorem s_X12_arePupils (l : Launch) (D : va_G) (cA : Nat → ClassId) (ad : Nat → Nat) (g0 : Nat → va_E) (s : Int32) (hSh : Shp ad cA g0) (hG : Rng g0) : CT l NN ad cA D yX12_arePupils cX12_arePupils 3 (some FieldType.boolean) (1, 25) [.ref (ad 129), .int s] g0 (PU g0 (fun r => (r.toInt = 1 ∧ 1 ≤ s.toInt ∧ s.toInt < 256 ∧ 2 ≤ cb s 12 ∧ ∀ p : Nat, p < 8 → bt s p = true → tM (arI g0 158) p ≠ 0) ∨ (r.toInt = 0 ∧ ¬ (1 ≤ s.toInt ∧ s.toInt < 256 ∧ 2 ≤ cb s 12 ∧ ∀ p : Nat, p < 8 → bt s p = true → tM (arI g0 158) p ≠ 0)))) := by
  refine q_enterZ (by decide) (Nat.le_of_ble_eq_true rfl) (fun K H locs ls _ _ hM hW0 hR hC hE hl => ?_)
  have hl : lv_has ls 3 [(0, .ref (ad 129)), (1, .int s)] := hl
  have hW : WS ad cA (fun i k => False) g0 K g0 H locs := ⟨hW0, hSh, FR.rf⟩
  have := kc_0
  have := kc_1
  have := kc_m1
  have := kc_2
  have := i_rng s
  refine q_iload_n hM dX12_arePupils_0 (lv_at hl 1 rfl) ?_
  refine q_i2l hM dX12_arePupils_1 ?_
  have := l_i2l s
  refine q_lconst (v := 1) hM dX12_arePupils_2 (by decide) ?_
  have := kl_1
  refine q_ldc2 (v := 255) hM (kAW (v_7_0 (List.mem_of_getElem? (i := 14) rfl)) rfl) dX12_arePupils_3 ?_
  have := kl_255
  refine q_callS (As := [.long s.toInt64, .long (1 : Int64), .long (255 : Int64)]) (rest := []) hM hW.1 hR hC myX12_lies (kAW (v_5_4 (List.mem_of_getElem? (i := 14) rfl)) rfl) (c_X12_lies _ _ cA ad g0 s.toInt64 (1 : Int64) (255 : Int64) hW.2.1) ⟨by decide, by decide⟩ rfl rfl hl.1 (Nat.le_of_ble_eq_true rfl) dX12_arePupils_6 (fun v g14104 H locs hp hW1 => ?_)
  obtain ⟨r14103, rfl, hr14103, rfl⟩ := hp
  have hW : WS ad cA (fun i k => False) g0 K g0 H locs := ⟨hW1, hW.2.1, hW.2.2⟩
  refine q_if_eq (tgt := 20) hM dX12_arePupils_9 (by decide) (rfl : r14103.toInt = r14103.toInt) (fun h9 => ?_) (fun h9 => ?_)
  · refine q_iconst (v := (0 : Int32)) hM dX12_arePupils_20 (by decide) ?_
    exact hE _ _ _ _ _ _ hW.1 nz_0 ⟨_, rfl, (Or.inr ⟨by omega, fun q9 => by have q1 := q9.1; have q2 := q9.2.1; have q3 := q9.2.2.1; omega⟩), rfl⟩ dX12_arePupils_21
  · refine q_iload_n hM dX12_arePupils_12 (lv_at hl 1 rfl) ?_
    refine q_callS (As := [.int s]) (rest := []) hM hW.1 hR hC myX12_sizeOf (kAW (v_5_6 (List.mem_of_getElem? (i := 14) rfl)) rfl) (s_X12_sizeOf _ _ cA ad g0 s hW.2.1 hG (by  omega) (by  omega)) ⟨by decide, by decide⟩ rfl rfl hl.1 (Nat.le_of_ble_eq_true rfl) dX12_arePupils_13 (fun v g14108 H locs hp hW1 => ?_)
    obtain ⟨r14107, rfl, hr14107, rfl⟩ := hp
    have hW : WS ad cA (fun i k => False) g0 K g0 H locs := ⟨hW1, hW.2.1, hW.2.2⟩
    refine q_iconst (v := (2 : Int32)) hM dX12_arePupils_16 (by decide) ?_
    refine q_icmp_ge (tgt := 22) hM dX12_arePupils_17 (by decide) (rfl : r14107.toInt = r14107.toInt) (kc_2 : (2 : Int32).toInt = 2) (fun h17 => ?_) (fun h17 => ?_)
    · refine q_iconst (v := (0 : Int32)) hM dX12_arePupils_22 (by decide) ?_
      refine q_istore_n (lv9 := [(2, .int (0 : Int32)), (0, .ref (ad 129)), (1, .int s)]) hM dX12_arePupils_23 hl (by decide) rfl (fun ls hl => ?_)
      have L24 : ∀ (fu24 : Nat) (w24_2 : Int32) (H : Heap) (locs : List Loc) (ls : Array Slot), (8 - w24_2.toInt).toNat < fu24 → (0 ≤ w24_2.toInt) → (w24_2.toInt ≤ 8) → (∀ p : Nat, (p : Int) < w24_2.toInt → bt s p = true → tM (arI g0 158) p ≠ 0) → lv_has ls 3 [(0, .ref (ad 129)), (1, .int s), (2, .int w24_2)] → WS ad cA (fun i k => False) g0 K g0 H locs → XX K 0 0 H locs 24 ls [] := by
        intro fu24
        induction fu24 with
        | zero => intro w24_2 H locs ls h0; omega
        | succ fu24 ih24 =>
          intro w24_2 H locs ls hm24 i24_0 i24_1 i24_2 hl hW
          refine q_iload_n hM dX12_arePupils_24 (lv_at hl 2 rfl) ?_
          refine q_bipush (v := (8 : Int32)) hM dX12_arePupils_25 (by decide) ?_
          refine q_icmp_ge (tgt := 55) hM dX12_arePupils_27 (by decide) (rfl : w24_2.toInt = w24_2.toInt) (kc_8 : (8 : Int32).toInt = 8) (fun h27 => ?_) (fun h27 => ?_)
          · refine q_iconst (v := (1 : Int32)) hM dX12_arePupils_55 (by decide) ?_
            exact hE _ _ _ _ _ _ hW.1 nz_1 ⟨_, rfl, (Or.inl ⟨by omega, by omega, by omega, by omega, fun p hp hb => i24_2 p (by omega) hb⟩), rfl⟩ dX12_arePupils_56
          · refine q_iload_n hM dX12_arePupils_30 (lv_at hl 1 rfl) ?_
            refine q_iload_n hM dX12_arePupils_31 (lv_at hl 2 rfl) ?_
            refine q_callS (As := [.int s, .int w24_2]) (rest := []) hM hW.1 hR hC myX12_has (kAW (v_5_6 (List.mem_of_getElem? (i := 7) rfl)) rfl) (c_X12_has _ _ cA ad g0 s w24_2 hW.2.1 (by omega) (by omega)) ⟨by decide, by decide⟩ rfl rfl hl.1 (Nat.le_of_ble_eq_true rfl) dX12_arePupils_32 (fun v g14114 H locs hp hW1 => ?_)
            obtain ⟨r14113, rfl, hr14113, rfl⟩ := hp
            have hW : WS ad cA (fun i k => False) g0 K g0 H locs := ⟨hW1, hW.2.1, hW.2.2⟩
            refine q_if_eq (tgt := 49) hM dX12_arePupils_35 (by decide) (rfl : r14113.toInt = r14113.toInt) (fun h35 => ?_) (fun h35 => ?_)
            · refine q_iinc (lv9 := fun z14116 => [(2, .int z14116), (0, .ref (ad 129)), (1, .int s)]) hM dX12_arePupils_49 hl (kq := 2) rfl (by decide) (fun _ => rfl) (fun z14116 ls hz14116 hl => ?_)
              first | have tz14116 := i_addT hz14116 (rfl : w24_2.toInt = w24_2.toInt) (kc_1 : (Int32.ofInt 1).toInt = 1) (by omega) (by omega) | skip
              refine q_goto (tgt := 24) hM dX12_arePupils_52 (by decide) ?_
              exact ih24 z14116 _ _ _ (by omega) (by omega) (by omega) (fun p h1 hb => by
                  by_cases e : p = w24_2.toInt.toNat
                  · rw [e] at hb; rw [mh_f hr14113 (by omega)] at hb; exact absurd hb (by decide)
                  · exact i24_2 p (by omega) hb) (lv_sub hl [1, 2, 0] rfl) hW
            · refine q_aload_n hM dX12_arePupils_38 (lv_at hl 0 rfl) ?_
              refine w_get (v := .ref (ad 158)) hM hW FG_X12_100 lb_129 (rf_129_52 hW.2.1) dX12_arePupils_39 ?_
              refine q_iload_n hM dX12_arePupils_42 (lv_at hl 2 rfl) ?_
              refine w_zald hM hW lb_158 (i_in (by omega) (by omega)) dX12_arePupils_43 ?_
              refine q_top (fun y14118 hy14118 => ?_)
              have tyy14118 : y14118.toInt = tM (arI g0 158) w24_2.toInt.toNat := congrArg Int32.toInt hy14118
              refine q_if_ne (tgt := 49) hM dX12_arePupils_44 (by decide) (rfl : y14118.toInt = y14118.toInt) (fun h44 => ?_) (fun h44 => ?_)
              · refine q_iinc (lv9 := fun z14120 => [(2, .int z14120), (0, .ref (ad 129)), (1, .int s)]) hM dX12_arePupils_49 hl (kq := 2) rfl (by decide) (fun _ => rfl) (fun z14120 ls hz14120 hl => ?_)
                first | have tz14120 := i_addT hz14120 (rfl : w24_2.toInt = w24_2.toInt) (kc_1 : (Int32.ofInt 1).toInt = 1) (by omega) (by omega) | skip
                refine q_goto (tgt := 24) hM dX12_arePupils_52 (by decide) ?_
                exact ih24 z14120 _ _ _ (by omega) (by omega) (by omega) (fun p h1 hb => by
                    by_cases e : p = w24_2.toInt.toNat
                    · rw [e]; omega
                    · exact i24_2 p (by omega) hb) (lv_sub hl [1, 2, 0] rfl) hW
              · refine q_iconst (v := (0 : Int32)) hM dX12_arePupils_47 (by decide) ?_
                exact hE _ _ _ _ _ _ hW.1 nz_0 ⟨_, rfl, (Or.inr ⟨by omega, fun q9 => q9.2.2.2 w24_2.toInt.toNat (by omega) (mh_t hr14113 (by omega)) (by omega)⟩), rfl⟩ dX12_arePupils_48
      have := kc_0
      exact L24 _ (0 : Int32) _ _ _ (Nat.lt_succ_self _) (by omega) (by omega) (fun p h1 h2 => absurd h1 (by have := kc_0; omega)) (lv_sub hl [1, 2, 0] rfl) hW
    · refine q_iconst (v := (0 : Int32)) hM dX12_arePupils_20 (by decide) ?_
      exact hE _ _ _ _ _ _ hW.1 nz_0 ⟨_, rfl, (Or.inr ⟨by omega, fun q9 => by have q1 := q9.1; have q2 := q9.2.1; have q3 := q9.2.2.1; omega⟩), rfl⟩ dX12_arePupils_21


set_option maxRecDepth 100000 in
set_option maxHeartbeats 4000000 in
theorem s_X12_parted (l : Launch) (D : va_G) (cA : Nat → ClassId) (ad : Nat → Nat) (g0 : Nat → va_E) (a : Int32) (b : Int32)   (hSh : Shp ad cA g0) (hG : Rng g0) (hR : ∀ p q : Nat, p < 8 → q < 8 → 0 ≤ (rM g0 p q).toInt ∧ (rM g0 p q).toInt ≤ 99) : CT l NN ad cA D yX12_parted cX12_parted 8 (some FieldType.int) (2, 47) [.ref (ad 129), .int a, .int b] g0 (fun v g' => ∃ (r : Int32), v = some (.int r) ∧ Shp ad cA g' ∧ Rng g' ∧ FR (fun i k => False) g0 g' ∧ ((¬ (1 ≤ a.toInt ∧ a.toInt < 256 ∧ 2 ≤ cb a 12 ∧ (∀ p : Nat, p < 8 → bt a p = true → tM (arI g0 158) p ≠ 0) ∧ 0 ≤ b.toInt ∧ b.toInt ≤ 1) ∧ r.toInt = -1) ∨ ((1 ≤ a.toInt ∧ a.toInt < 256 ∧ 2 ≤ cb a 12 ∧ (∀ p : Nat, p < 8 → bt a p = true → tM (arI g0 158) p ≠ 0) ∧ 0 ≤ b.toInt ∧ b.toInt ≤ 1) ∧ ∃ m9 : Int32, AR (vM (rM g0) a) (a &&& (a - 1)) m9 ∧ ((b.toInt = 0 ∧ r.toInt = (vM (rM g0) a) m9) ∨ (b.toInt ≠ 0 ∧ r = m9))))) := by
  refine q_enterI (by decide) (Nat.le_of_ble_eq_true rfl) rfl (fun K H locs ls _ _ hM hW0 hR hC hE hl => ?_)
  have hl : lv_has ls 8 [(0, .ref (ad 129)), (1, .int a), (2, .int b)] := hl
  have hW : WS ad cA (fun i k => False) g0 K g0 H locs := ⟨hW0, hSh, FR.rf⟩
  have := kc_0
  have := kc_1
  have := kc_m1
  have := kc_1000000000
  refine q_aload_n hM dX12_parted_0 (lv_at hl 0 rfl) ?_
  refine q_iload_n hM dX12_parted_1 (lv_at hl 1 rfl) ?_
  refine q_callV (As := [.int a]) (rest := []) hM hW.1 hR hC myX12_arePupils (kAW (v_7_0 (List.mem_of_getElem? (i := 10) rfl)) rfl) (rfl : vwCl[12]? = some (RX12, TX12, 86)) rfl lb_129.1 (shO hW.2.1 lb_129) (s_X12_arePupils _ _ cA ad g0 a hW.2.1 hG) ⟨by decide, by decide⟩ rfl rfl hl.1 (Nat.le_of_ble_eq_true rfl) dX12_parted_2 (fun v g14124 H locs hp hW1 => ?_)
  obtain ⟨r14123, rfl, hr14123, rfl⟩ := hp
  have hW : WS ad cA (fun i k => False) g0 K g0 H locs := ⟨hW1, hW.2.1, hW.2.2⟩
  refine q_if_eq (tgt := 18) hM dX12_parted_5 (by decide) (rfl : r14123.toInt = r14123.toInt) (fun h5 => ?_) (fun h5 => ?_)
  · refine q_iconst (v := ((-1) : Int32)) hM dX12_parted_18 (by decide) ?_
    exact hE _ _ _ _ _ _ hW.1 ⟨_, rfl, hW.2.1, hG, hW.2.2, (Or.inl ⟨fun q9 => by rcases hr14123 with h | h <;> first | (have q1 := q9.2.2.2.2.1; have q2 := q9.2.2.2.2.2; omega) | exact h.2 ⟨q9.1, q9.2.1, q9.2.2.1, q9.2.2.2.1⟩, kc_m1⟩)⟩ dX12_parted_19
  · refine q_iload_n hM dX12_parted_8 (lv_at hl 2 rfl) ?_
    refine q_i2l hM dX12_parted_9 ?_
    have := l_i2l b
    refine q_lconst (v := 0) hM dX12_parted_10 (by decide) ?_
    have := kl_0
    refine q_lconst (v := 1) hM dX12_parted_11 (by decide) ?_
    have := kl_1
    refine q_callS (As := [.long b.toInt64, .long (0 : Int64), .long (1 : Int64)]) (rest := []) hM hW.1 hR hC myX12_lies (kAW (v_5_4 (List.mem_of_getElem? (i := 14) rfl)) rfl) (c_X12_lies _ _ cA ad g0 b.toInt64 (0 : Int64) (1 : Int64) hW.2.1) ⟨by decide, by decide⟩ rfl rfl hl.1 (Nat.le_of_ble_eq_true rfl) dX12_parted_12 (fun v g14128 H locs hp hW1 => ?_)
    obtain ⟨r14127, rfl, hr14127, rfl⟩ := hp
    have hW : WS ad cA (fun i k => False) g0 K g0 H locs := ⟨hW1, hW.2.1, hW.2.2⟩
    refine q_if_ne (tgt := 20) hM dX12_parted_15 (by decide) (rfl : r14127.toInt = r14127.toInt) (fun h15 => ?_) (fun h15 => ?_)
    · refine q_iload_n hM dX12_parted_20 (lv_at hl 1 rfl) ?_
      refine q_iload_n hM dX12_parted_21 (lv_at hl 1 rfl) ?_
      refine q_iconst (v := (1 : Int32)) hM dX12_parted_22 (by decide) ?_
      refine q_isub hM dX12_parted_23 (fun z14130 hz14130 => ?_)
      first | have tz14130 := i_subT hz14130 (rfl : a.toInt = a.toInt) (kc_1 : (1 : Int32).toInt = 1) (by omega) (by omega) | skip
      refine q_iand hM dX12_parted_24 (fun z14131 hz14131 => ?_)
      first | have az14131 := i_andk hz14131 (by omega) | have az14131 := i_andk (i_comm hz14131) (by omega) | skip
      have ho9 : z14131 = (a &&& (a - 1)) := by rw [hz14130, hz14131]
      have hz9 := rest_of (so := a) (by omega) (by omega) (by omega)
      rw [← ho9] at hz9
      refine q_istore_n (lv9 := [(3, .int z14131), (0, .ref (ad 129)), (1, .int a), (2, .int b)]) hM dX12_parted_25 hl (by decide) rfl (fun ls hl => ?_)
      refine q_iconst (v := (0 : Int32)) hM dX12_parted_26 (by decide) ?_
      refine q_istore (lv9 := [(4, .int (0 : Int32)), (3, .int z14131), (0, .ref (ad 129)), (1, .int a), (2, .int b)]) hM dX12_parted_27 hl (by decide) rfl (fun ls hl => ?_)
      refine q_ldcw (v := (1000000000 : Int32)) hM (kAW (v_7_1 (List.mem_of_getElem? (i := 11) rfl)) rfl) dX12_parted_29 ?_
      refine q_istore (lv9 := [(5, .int (1000000000 : Int32)), (4, .int (0 : Int32)), (3, .int z14131), (0, .ref (ad 129)), (1, .int a), (2, .int b)]) hM dX12_parted_32 hl (by decide) rfl (fun ls hl => ?_)
      refine q_iconst (v := (1 : Int32)) hM dX12_parted_34 (by decide) ?_
      refine q_istore (lv9 := [(6, .int (1 : Int32)), (5, .int (1000000000 : Int32)), (4, .int (0 : Int32)), (3, .int z14131), (0, .ref (ad 129)), (1, .int a), (2, .int b)]) hM dX12_parted_35 hl (by decide) rfl (fun ls hl => ?_)
      have L37 : ∀ (fu37 : Nat) (w37_4 : Int32) (w37_5 : Int32) (w37_6 : Int32) (H : Heap) (locs : List Loc) (ls : Array Slot), (z14131.toInt - w37_6.toInt + 1).toNat < fu37 → (Rng g0) → (1 ≤ w37_6.toInt) → (1 ≤ w37_6.toInt) → (w37_6.toInt ≤ z14131.toInt + 1) → (BM (vM (rM g0) a) (a &&& (a - 1)) w37_4 w37_5.toInt w37_6.toInt) → lv_has ls 8 [(0, .ref (ad 129)), (1, .int a), (2, .int b), (3, .int z14131), (4, .int w37_4), (5, .int w37_5), (6, .int w37_6)] → WS ad cA (fun i k => False) g0 K g0 H locs → XX K 0 0 H locs 37 ls [] := by
        intro fu37
        induction fu37 with
        | zero => intro w37_4 w37_5 w37_6 H locs ls h0; omega
        | succ fu37 ih37 =>
          intro w37_4 w37_5 w37_6 H locs ls hm37 i37_0 i37_1 i37_2 i37_3 i37_4 hl hW
          have hG := i37_0
          have := i_rng z14131
          refine q_iload hM dX12_parted_37 (lv_at hl 6 rfl) ?_
          refine q_iload_n hM dX12_parted_39 (lv_at hl 3 rfl) ?_
          refine q_icmp_gt (tgt := 98) hM dX12_parted_40 (by decide) (rfl : w37_6.toInt = w37_6.toInt) (rfl : z14131.toInt = z14131.toInt) (fun h40 => ?_) (fun h40 => ?_)
          · refine q_iload_n hM dX12_parted_98 (lv_at hl 2 rfl) ?_
            refine q_if_ne (tgt := 107) hM dX12_parted_99 (by decide) (rfl : b.toInt = b.toInt) (fun h99 => ?_) (fun h99 => ?_)
            · refine q_iload hM dX12_parted_107 (lv_at hl 4 rfl) ?_
              exact hE _ _ _ _ _ _ hW.1 ⟨_, rfl, hW.2.1, hG, hW.2.2, (Or.inr ⟨⟨by omega, by omega, by omega, by rcases hr14123 with h | h; exact h.2.2.2.2; omega, by omega, by omega⟩, w37_4, (BM_end i37_4 (by rw [← ho9]; omega) (by rw [← ho9]; omega) (vM_b hR _ _)).1, Or.inr ⟨by omega, rfl⟩⟩)⟩ dX12_parted_109
            · refine q_iload hM dX12_parted_102 (lv_at hl 5 rfl) ?_
              refine q_goto (tgt := 109) hM dX12_parted_104 (by decide) ?_
              exact hE _ _ _ _ _ _ hW.1 ⟨_, rfl, hW.2.1, hG, hW.2.2, (Or.inr ⟨⟨by omega, by omega, by omega, by rcases hr14123 with h | h; exact h.2.2.2.2; omega, by omega, by omega⟩, w37_4, (BM_end i37_4 (by rw [← ho9]; omega) (by rw [← ho9]; omega) (vM_b hR _ _)).1, Or.inl ⟨by omega, (BM_end i37_4 (by rw [← ho9]; omega) (by rw [← ho9]; omega) (vM_b hR _ _)).2⟩⟩)⟩ dX12_parted_109
          · refine q_iload hM dX12_parted_43 (lv_at hl 6 rfl) ?_
            refine q_iload_n hM dX12_parted_45 (lv_at hl 3 rfl) ?_
            refine q_iconst (v := ((-1) : Int32)) hM dX12_parted_46 (by decide) ?_
            refine q_ixor hM dX12_parted_47 (fun z14137 hz14137 => ?_)
            refine q_iand hM dX12_parted_48 (fun z14138 hz14138 => ?_)
            first | have az14138 := i_andk hz14138 (by omega) | have az14138 := i_andk (i_comm hz14138) (by omega) | skip
            refine q_if_eq (tgt := 55) hM dX12_parted_49 (by decide) (rfl : z14138.toInt = z14138.toInt) (fun h49 => ?_) (fun h49 => ?_)
            · refine q_aload_n hM dX12_parted_55 (lv_at hl 0 rfl) ?_
              refine q_iload hM dX12_parted_56 (lv_at hl 6 rfl) ?_
              refine q_callV (As := [.int w37_6]) (rest := []) hM hW.1 hR hC myX12_remindedIn (kAW (v_7_1 (List.mem_of_getElem? (i := 12) rfl)) rfl) (rfl : vwCl[12]? = some (RX12, TX12, 86)) rfl lb_129.1 (shO hW.2.1 lb_129) (s_X12_remindedIn _ _ cA ad g0 w37_6 hW.2.1 hG hR) ⟨by decide, by decide⟩ rfl rfl hl.1 (Nat.le_of_ble_eq_true rfl) dX12_parted_58 (fun v g14141 H locs hp hW1 => ?_)
              obtain ⟨r14140, rfl, hr14140, rfl⟩ := hp
              have hW : WS ad cA (fun i k => False) g0 K g0 H locs := ⟨hW1, hW.2.1, hW.2.2⟩
              refine q_aload_n hM dX12_parted_61 (lv_at hl 0 rfl) ?_
              refine q_iload_n hM dX12_parted_62 (lv_at hl 1 rfl) ?_
              refine q_iload hM dX12_parted_63 (lv_at hl 6 rfl) ?_
              refine q_iconst (v := ((-1) : Int32)) hM dX12_parted_65 (by decide) ?_
              refine q_ixor hM dX12_parted_66 (fun z14142 hz14142 => ?_)
              refine q_iand hM dX12_parted_67 (fun z14143 hz14143 => ?_)
              first | have az14143 := i_andk hz14143 (by omega) | have az14143 := i_andk (i_comm hz14143) (by omega) | skip
              refine q_callV (As := [.int z14143]) (rest := [.int r14140]) hM hW.1 hR hC myX12_remindedIn (kAW (v_7_1 (List.mem_of_getElem? (i := 12) rfl)) rfl) (rfl : vwCl[12]? = some (RX12, TX12, 86)) rfl lb_129.1 (shO hW.2.1 lb_129) (s_X12_remindedIn _ _ cA ad g0 z14143 hW.2.1 hG hR) ⟨by decide, by decide⟩ rfl rfl hl.1 (Nat.le_of_ble_eq_true rfl) dX12_parted_68 (fun v g14145 H locs hp hW1 => ?_)
              obtain ⟨r14144, rfl, hr14144, rfl⟩ := hp
              have hW : WS ad cA (fun i k => False) g0 K g0 H locs := ⟨hW1, hW.2.1, hW.2.2⟩
              refine q_iadd hM dX12_parted_71 (fun z14146 hz14146 => ?_)
              first | have tz14146 := i_addT hz14146 (rfl : r14140.toInt = r14140.toInt) (rfl : r14144.toInt = r14144.toInt) (by omega) (by omega) | skip
              refine q_istore (lv9 := [(7, .int z14146), (0, .ref (ad 129)), (1, .int a), (2, .int b), (3, .int z14131), (4, .int w37_4), (5, .int w37_5), (6, .int w37_6)]) hM dX12_parted_72 hl (by decide) rfl (fun ls hl => ?_)
              refine q_iload hM dX12_parted_74 (lv_at hl 0 rfl) ?_
              refine q_iload hM dX12_parted_76 (lv_at hl 6 rfl) ?_
              refine q_icmp_lt (tgt := 84) hM dX12_parted_78 (by decide) (rfl : z14146.toInt = z14146.toInt) (rfl : w37_5.toInt = w37_5.toInt) (fun h78 => ?_) (fun h78 => ?_)
              · refine q_iload hM dX12_parted_84 (lv_at hl 7 rfl) ?_
                refine q_istore (lv9 := [(4, .int w37_6), (7, .int z14146), (0, .ref (ad 129)), (1, .int a), (2, .int b), (3, .int z14131), (5, .int w37_5), (6, .int w37_6)]) hM dX12_parted_86 hl (by decide) rfl (fun ls hl => ?_)
                refine q_iload hM dX12_parted_88 (lv_at hl 1 rfl) ?_
                refine q_istore (lv9 := [(5, .int z14146), (4, .int w37_6), (7, .int z14146), (0, .ref (ad 129)), (1, .int a), (2, .int b), (3, .int z14131), (6, .int w37_6)]) hM dX12_parted_90 hl (by decide) rfl (fun ls hl => ?_)
                refine q_iinc (lv9 := fun z14148 => [(6, .int z14148), (5, .int z14146), (4, .int w37_6), (7, .int z14146), (0, .ref (ad 129)), (1, .int a), (2, .int b), (3, .int z14131)]) hM dX12_parted_92 hl (kq := 7) rfl (by decide) (fun _ => rfl) (fun z14148 ls hz14148 hl => ?_)
                first | have tz14148 := i_addT hz14148 (rfl : w37_6.toInt = w37_6.toInt) (kc_1 : (Int32.ofInt 1).toInt = 1) (by omega) (by omega) | skip
                refine q_goto (tgt := 37) hM dX12_parted_95 (by decide) ?_
                exact ih37 w37_6 z14146 z14148 _ _ _ (by omega) hG (by omega) (by omega) (by omega) (BM_yes i37_4 (by omega) (by omega) (by rw [← ho9]; exact z_t hz14137 hz14138 (by omega)) (by unfold vM; rw [hz14142, hz14143]; omega) (by omega)) (lv_sub hl [4, 5, 6, 7, 2, 1, 0] rfl) hW
              · refine q_goto (tgt := 92) hM dX12_parted_81 (by decide) ?_
                refine q_iinc (lv9 := fun z14150 => [(6, .int z14150), (7, .int z14146), (0, .ref (ad 129)), (1, .int a), (2, .int b), (3, .int z14131), (4, .int w37_4), (5, .int w37_5)]) hM dX12_parted_92 hl (kq := 7) rfl (by decide) (fun _ => rfl) (fun z14150 ls hz14150 hl => ?_)
                first | have tz14150 := i_addT hz14150 (rfl : w37_6.toInt = w37_6.toInt) (kc_1 : (Int32.ofInt 1).toInt = 1) (by omega) (by omega) | skip
                refine q_goto (tgt := 37) hM dX12_parted_95 (by decide) ?_
                exact ih37 w37_4 w37_5 z14150 _ _ _ (by omega) hG (by omega) (by omega) (by omega) (BM_no i37_4 (by omega) (Or.inr (by unfold vM; rw [hz14142, hz14143]; omega))) (lv_sub hl [2, 3, 4, 5, 6, 7, 0] rfl) hW
            · refine q_goto (tgt := 92) hM dX12_parted_52 (by decide) ?_
              refine q_iinc (lv9 := fun z14152 => [(6, .int z14152), (0, .ref (ad 129)), (1, .int a), (2, .int b), (3, .int z14131), (4, .int w37_4), (5, .int w37_5)]) hM dX12_parted_92 hl (kq := 6) rfl (by decide) (fun _ => rfl) (fun z14152 ls hz14152 hl => ?_)
              first | have tz14152 := i_addT hz14152 (rfl : w37_6.toInt = w37_6.toInt) (kc_1 : (Int32.ofInt 1).toInt = 1) (by omega) (by omega) | skip
              refine q_goto (tgt := 37) hM dX12_parted_95 (by decide) ?_
              exact ih37 w37_4 w37_5 z14152 _ _ _ (by omega) hG (by omega) (by omega) (by omega) (BM_no i37_4 (by omega) (Or.inl (by rw [← ho9]; exact z_f hz14137 hz14138 (by omega)))) (lv_sub hl [1, 2, 3, 4, 5, 6, 0] rfl) hW
      have := kc_0
      have := kc_1000000000
      have := kc_1
      exact L37 _ (0 : Int32) (1000000000 : Int32) (1 : Int32) _ _ _ (Nat.lt_succ_self _) hG (by omega) (by omega) (by omega) (by rw [kc_1, kc_1000000000]; exact BM_0) (lv_sub hl [4, 5, 6, 3, 2, 1, 0] rfl) hW
    · refine q_iconst (v := ((-1) : Int32)) hM dX12_parted_18 (by decide) ?_
      exact hE _ _ _ _ _ _ hW.1 ⟨_, rfl, hW.2.1, hG, hW.2.2, (Or.inl ⟨fun q9 => by rcases hr14123 with h | h <;> first | (have q1 := q9.2.2.2.2.1; have q2 := q9.2.2.2.2.2; omega) | exact h.2 ⟨q9.1, q9.2.1, q9.2.2.1, q9.2.2.2.1⟩, kc_m1⟩)⟩ dX12_parted_19


set_option maxRecDepth 100000 in
set_option maxHeartbeats 4000000 in
theorem s3_X12_link (l : Launch) (D : va_G) (cA : Nat → ClassId) (ad : Nat → Nat) (g0 : Nat → va_E) (a : Int32) (b : Int32) (c : Int32)   (hSh : Shp ad cA g0) (hG : Rng g0) : CT l NN ad cA D yX12_link cX12_link 4 (some FieldType.boolean) (2, 46) [.ref (ad 129), .int a, .int b, .int c] g0 (fun v g' => ∃ (r : Int32), v = some (.int r) ∧ Shp ad cA g' ∧ Rng g' ∧ FR (fun i k => i = 133) g0 g' ∧ ((r.toInt = 1 ∧ ti (arI g0 131) 12 a = 1 ∧ ti (arI g0 131) 12 b = 1 ∧ a.toInt ≠ b.toInt ∧ 0 ≤ c.toInt ∧ c.toInt ≤ 9) ∨ (r.toInt = 0 ∧ ¬ (ti (arI g0 131) 12 a = 1 ∧ ti (arI g0 131) 12 b = 1 ∧ a.toInt ≠ b.toInt ∧ 0 ≤ c.toInt ∧ c.toInt ≤ 9)))) := by
  refine q_enterZ (by decide) (Nat.le_of_ble_eq_true rfl) (fun K H locs ls _ _ hM hW0 hR hC hE hl => ?_)
  have hl : lv_has ls 4 [(0, .ref (ad 129)), (1, .int a), (2, .int b), (3, .int c)] := hl
  have hW : WS ad cA (fun i k => i = 133) g0 K g0 H locs := ⟨hW0, hSh, FR.rf⟩
  have := kc_0
  have := kc_1
  refine q_aload_n hM dX12_link_0 (lv_at hl 0 rfl) ?_
  refine q_iload_n hM dX12_link_1 (lv_at hl 1 rfl) ?_
  refine q_callV (As := [.int a]) (rest := []) hM hW.1 hR hC myX12_isTold (kAW (v_5_5 (List.mem_of_getElem? (i := 6) rfl)) rfl) (rfl : vwCl[12]? = some (RX12, TX12, 86)) rfl lb_129.1 (shO hW.2.1 lb_129) (s_X12_isTold _ _ cA ad g0 a hW.2.1 hG) ⟨by decide, by decide⟩ rfl rfl hl.1 (Nat.le_of_ble_eq_true rfl) dX12_link_2 (fun v g14155 H locs hp hW1 => ?_)
  obtain ⟨r14154, rfl, hr14154, rfl⟩ := hp
  have hW : WS ad cA (fun i k => i = 133) g0 K g0 H locs := ⟨hW1, hW.2.1, hW.2.2⟩
  refine q_if_eq (tgt := 33) hM dX12_link_5 (by decide) (rfl : r14154.toInt = r14154.toInt) (fun h5 => ?_) (fun h5 => ?_)
  · refine q_iconst (v := (0 : Int32)) hM dX12_link_33 (by decide) ?_
    exact hE _ _ _ _ _ _ hW.1 nz_0 ⟨_, rfl, hW.2.1, hG, hW.2.2, (by have := kc_0; omega)⟩ dX12_link_34
  · refine q_aload_n hM dX12_link_8 (lv_at hl 0 rfl) ?_
    refine q_iload_n hM dX12_link_9 (lv_at hl 2 rfl) ?_
    refine q_callV (As := [.int b]) (rest := []) hM hW.1 hR hC myX12_isTold (kAW (v_5_5 (List.mem_of_getElem? (i := 6) rfl)) rfl) (rfl : vwCl[12]? = some (RX12, TX12, 86)) rfl lb_129.1 (shO hW.2.1 lb_129) (s_X12_isTold _ _ cA ad g0 b hW.2.1 hG) ⟨by decide, by decide⟩ rfl rfl hl.1 (Nat.le_of_ble_eq_true rfl) dX12_link_10 (fun v g14159 H locs hp hW1 => ?_)
    obtain ⟨r14158, rfl, hr14158, rfl⟩ := hp
    have hW : WS ad cA (fun i k => i = 133) g0 K g0 H locs := ⟨hW1, hW.2.1, hW.2.2⟩
    refine q_if_eq (tgt := 33) hM dX12_link_13 (by decide) (rfl : r14158.toInt = r14158.toInt) (fun h13 => ?_) (fun h13 => ?_)
    · refine q_iconst (v := (0 : Int32)) hM dX12_link_33 (by decide) ?_
      exact hE _ _ _ _ _ _ hW.1 nz_0 ⟨_, rfl, hW.2.1, hG, hW.2.2, (by have := kc_0; omega)⟩ dX12_link_34
    · refine q_iload_n hM dX12_link_16 (lv_at hl 1 rfl) ?_
      refine q_iload_n hM dX12_link_17 (lv_at hl 2 rfl) ?_
      refine q_icmp_eq (tgt := 33) hM dX12_link_18 (by decide) (rfl : a.toInt = a.toInt) (rfl : b.toInt = b.toInt) (fun h18 => ?_) (fun h18 => ?_)
      · refine q_iconst (v := (0 : Int32)) hM dX12_link_33 (by decide) ?_
        exact hE _ _ _ _ _ _ hW.1 nz_0 ⟨_, rfl, hW.2.1, hG, hW.2.2, (by have := kc_0; omega)⟩ dX12_link_34
      · refine q_iload_n hM dX12_link_21 (lv_at hl 3 rfl) ?_
        refine q_i2l hM dX12_link_22 ?_
        have := l_i2l c
        refine q_lconst (v := 0) hM dX12_link_23 (by decide) ?_
        have := kl_0
        refine q_ldc2 (v := 9) hM (kAW (v_5_5 (List.mem_of_getElem? (i := 10) rfl)) rfl) dX12_link_24 ?_
        have := kl_9
        refine q_callS (As := [.long c.toInt64, .long (0 : Int64), .long (9 : Int64)]) (rest := []) hM hW.1 hR hC myX12_lies (kAW (v_5_4 (List.mem_of_getElem? (i := 14) rfl)) rfl) (c_X12_lies _ _ cA ad g0 c.toInt64 (0 : Int64) (9 : Int64) hW.2.1) ⟨by decide, by decide⟩ rfl rfl hl.1 (Nat.le_of_ble_eq_true rfl) dX12_link_27 (fun v g14165 H locs hp hW1 => ?_)
        obtain ⟨r14164, rfl, hr14164, rfl⟩ := hp
        have hW : WS ad cA (fun i k => i = 133) g0 K g0 H locs := ⟨hW1, hW.2.1, hW.2.2⟩
        refine q_if_ne (tgt := 35) hM dX12_link_30 (by decide) (rfl : r14164.toInt = r14164.toInt) (fun h30 => ?_) (fun h30 => ?_)
        · refine q_aload_n hM dX12_link_35 (lv_at hl 0 rfl) ?_
          refine w_get (v := .ref (ad 133)) hM hW FG_X12_25 lb_129 (rf_129_12 hW.2.1) dX12_link_36 ?_
          refine q_bipush (v := (12 : Int32)) hM dX12_link_39 (by decide) ?_
          refine q_iload_n hM dX12_link_41 (lv_at hl 1 rfl) ?_
          refine q_imul hM dX12_link_42 (fun z14167 hz14167 => ?_)
          first | have tz14167 := i_mulT hz14167 (kc_12 : (12 : Int32).toInt = 12) (rfl : a.toInt = a.toInt) (by omega) (by omega) | skip
          refine q_iload_n hM dX12_link_43 (lv_at hl 2 rfl) ?_
          refine q_iadd hM dX12_link_44 (fun z14168 hz14168 => ?_)
          first | have tz14168 := i_addT hz14168 (rfl : z14167.toInt = z14167.toInt) (rfl : b.toInt = b.toInt) (by omega) (by omega) | skip
          refine q_iload_n hM dX12_link_45 (lv_at hl 3 rfl) ?_
          refine w_iast hM hW lb_133 (by omega) (i_in (by omega) (by omega)) dX12_link_46 (fun g14169 H locs hW e1 e2 => ?_)
          have hG := hG.st e1 e2 (rfl : rA 133 = (-2147483648, 2147483647)) (by have := i_rng c; omega) (by have := i_rng c; omega)
          refine q_iconst (v := (1 : Int32)) hM dX12_link_47 (by decide) ?_
          exact hE _ _ _ _ _ _ hW.1 nz_1 ⟨_, rfl, hW.2.1, hG, hW.2.2, (by have := kc_1; omega)⟩ dX12_link_48
        · refine q_iconst (v := (0 : Int32)) hM dX12_link_33 (by decide) ?_
          exact hE _ _ _ _ _ _ hW.1 nz_0 ⟨_, rfl, hW.2.1, hG, hW.2.2, (by have := kc_0; omega)⟩ dX12_link_34


set_option maxRecDepth 100000 in
set_option maxHeartbeats 4000000 in
theorem s3_X12_knows (l : Launch) (D : va_G) (cA : Nat → ClassId) (ad : Nat → Nat) (g0 : Nat → va_E) (a : Int32) (b : Int32) (c : Int32)   (hSh : Shp ad cA g0) (hG : Rng g0) : CT l NN ad cA D yX12_knows cX12_knows 4 (some FieldType.boolean) (2, 46) [.ref (ad 129), .int a, .int b, .int c] g0 (fun v g' => ∃ (r : Int32), v = some (.int r) ∧ Shp ad cA g' ∧ Rng g' ∧ FR (fun i k => i = 161) g0 g' ∧ ((r.toInt = 1 ∧ ti (arI g0 158) 8 a = 1 ∧ ti (arI g0 131) 12 b = 1 ∧ 0 ≤ c.toInt ∧ c.toInt ≤ 99) ∨ (r.toInt = 0 ∧ ¬ (ti (arI g0 158) 8 a = 1 ∧ ti (arI g0 131) 12 b = 1 ∧ 0 ≤ c.toInt ∧ c.toInt ≤ 99)))) := by
  refine q_enterZ (by decide) (Nat.le_of_ble_eq_true rfl) (fun K H locs ls _ _ hM hW0 hR hC hE hl => ?_)
  have hl : lv_has ls 4 [(0, .ref (ad 129)), (1, .int a), (2, .int b), (3, .int c)] := hl
  have hW : WS ad cA (fun i k => i = 161) g0 K g0 H locs := ⟨hW0, hSh, FR.rf⟩
  have := kc_0
  have := kc_1
  refine q_aload_n hM dX12_knows_0 (lv_at hl 0 rfl) ?_
  refine q_iload_n hM dX12_knows_1 (lv_at hl 1 rfl) ?_
  refine q_callV (As := [.int a]) (rest := []) hM hW.1 hR hC myX12_isThat (kAW (v_6_2 (List.mem_of_getElem? (i := 9) rfl)) rfl) (rfl : vwCl[12]? = some (RX12, TX12, 86)) rfl lb_129.1 (shO hW.2.1 lb_129) (s_X12_isThat _ _ cA ad g0 a hW.2.1 hG) ⟨by decide, by decide⟩ rfl rfl hl.1 (Nat.le_of_ble_eq_true rfl) dX12_knows_2 (fun v g14172 H locs hp hW1 => ?_)
  obtain ⟨r14171, rfl, hr14171, rfl⟩ := hp
  have hW : WS ad cA (fun i k => i = 161) g0 K g0 H locs := ⟨hW1, hW.2.1, hW.2.2⟩
  refine q_if_eq (tgt := 28) hM dX12_knows_5 (by decide) (rfl : r14171.toInt = r14171.toInt) (fun h5 => ?_) (fun h5 => ?_)
  · refine q_iconst (v := (0 : Int32)) hM dX12_knows_28 (by decide) ?_
    exact hE _ _ _ _ _ _ hW.1 nz_0 ⟨_, rfl, hW.2.1, hG, hW.2.2, (by have := kc_0; omega)⟩ dX12_knows_29
  · refine q_aload_n hM dX12_knows_8 (lv_at hl 0 rfl) ?_
    refine q_iload_n hM dX12_knows_9 (lv_at hl 2 rfl) ?_
    refine q_callV (As := [.int b]) (rest := []) hM hW.1 hR hC myX12_isTold (kAW (v_5_5 (List.mem_of_getElem? (i := 6) rfl)) rfl) (rfl : vwCl[12]? = some (RX12, TX12, 86)) rfl lb_129.1 (shO hW.2.1 lb_129) (s_X12_isTold _ _ cA ad g0 b hW.2.1 hG) ⟨by decide, by decide⟩ rfl rfl hl.1 (Nat.le_of_ble_eq_true rfl) dX12_knows_10 (fun v g14176 H locs hp hW1 => ?_)
    obtain ⟨r14175, rfl, hr14175, rfl⟩ := hp
    have hW : WS ad cA (fun i k => i = 161) g0 K g0 H locs := ⟨hW1, hW.2.1, hW.2.2⟩
    refine q_if_eq (tgt := 28) hM dX12_knows_13 (by decide) (rfl : r14175.toInt = r14175.toInt) (fun h13 => ?_) (fun h13 => ?_)
    · refine q_iconst (v := (0 : Int32)) hM dX12_knows_28 (by decide) ?_
      exact hE _ _ _ _ _ _ hW.1 nz_0 ⟨_, rfl, hW.2.1, hG, hW.2.2, (by have := kc_0; omega)⟩ dX12_knows_29
    · refine q_iload_n hM dX12_knows_16 (lv_at hl 3 rfl) ?_
      refine q_i2l hM dX12_knows_17 ?_
      have := l_i2l c
      refine q_lconst (v := 0) hM dX12_knows_18 (by decide) ?_
      have := kl_0
      refine q_ldc2 (v := 99) hM (kAW (v_6_2 (List.mem_of_getElem? (i := 4) rfl)) rfl) dX12_knows_19 ?_
      have := kl_99
      refine q_callS (As := [.long c.toInt64, .long (0 : Int64), .long (99 : Int64)]) (rest := []) hM hW.1 hR hC myX12_lies (kAW (v_5_4 (List.mem_of_getElem? (i := 14) rfl)) rfl) (c_X12_lies _ _ cA ad g0 c.toInt64 (0 : Int64) (99 : Int64) hW.2.1) ⟨by decide, by decide⟩ rfl rfl hl.1 (Nat.le_of_ble_eq_true rfl) dX12_knows_22 (fun v g14180 H locs hp hW1 => ?_)
      obtain ⟨r14179, rfl, hr14179, rfl⟩ := hp
      have hW : WS ad cA (fun i k => i = 161) g0 K g0 H locs := ⟨hW1, hW.2.1, hW.2.2⟩
      refine q_if_ne (tgt := 30) hM dX12_knows_25 (by decide) (rfl : r14179.toInt = r14179.toInt) (fun h25 => ?_) (fun h25 => ?_)
      · refine q_aload_n hM dX12_knows_30 (lv_at hl 0 rfl) ?_
        refine w_get (v := .ref (ad 161)) hM hW FG_X12_109 lb_129 (rf_129_55 hW.2.1) dX12_knows_31 ?_
        refine q_bipush (v := (12 : Int32)) hM dX12_knows_34 (by decide) ?_
        refine q_iload_n hM dX12_knows_36 (lv_at hl 1 rfl) ?_
        refine q_imul hM dX12_knows_37 (fun z14182 hz14182 => ?_)
        first | have tz14182 := i_mulT hz14182 (kc_12 : (12 : Int32).toInt = 12) (rfl : a.toInt = a.toInt) (by omega) (by omega) | skip
        refine q_iload_n hM dX12_knows_38 (lv_at hl 2 rfl) ?_
        refine q_iadd hM dX12_knows_39 (fun z14183 hz14183 => ?_)
        first | have tz14183 := i_addT hz14183 (rfl : z14182.toInt = z14182.toInt) (rfl : b.toInt = b.toInt) (by omega) (by omega) | skip
        refine q_iload_n hM dX12_knows_40 (lv_at hl 3 rfl) ?_
        refine w_iast hM hW lb_161 (by omega) (i_in (by omega) (by omega)) dX12_knows_41 (fun g14184 H locs hW e1 e2 => ?_)
        have hG := hG.st e1 e2 (rfl : rA 161 = (-2147483648, 2147483647)) (by have := i_rng c; omega) (by have := i_rng c; omega)
        refine q_iconst (v := (1 : Int32)) hM dX12_knows_42 (by decide) ?_
        exact hE _ _ _ _ _ _ hW.1 nz_1 ⟨_, rfl, hW.2.1, hG, hW.2.2, (by have := kc_1; omega)⟩ dX12_knows_43
      · refine q_iconst (v := (0 : Int32)) hM dX12_knows_28 (by decide) ?_
        exact hE _ _ _ _ _ _ hW.1 nz_0 ⟨_, rfl, hW.2.1, hG, hW.2.2, (by have := kc_0; omega)⟩ dX12_knows_29


set_option maxRecDepth 100000 in
set_option maxHeartbeats 4000000 in
theorem s3_X12_reminds (l : Launch) (D : va_G) (cA : Nat → ClassId) (ad : Nat → Nat) (g0 : Nat → va_E) (a : Int32) (b : Int32) (c : Int32)   (hSh : Shp ad cA g0) (hG : Rng g0) : CT l NN ad cA D yX12_reminds cX12_reminds 4 (some FieldType.boolean) (2, 46) [.ref (ad 129), .int a, .int b, .int c] g0 (fun v g' => ∃ (r : Int32), v = some (.int r) ∧ Shp ad cA g' ∧ Rng g' ∧ FR (fun i k => i = 175) g0 g' ∧ ((r.toInt = 1 ∧ ti (arI g0 158) 8 a = 1 ∧ ti (arI g0 158) 8 b = 1 ∧ a.toInt ≠ b.toInt ∧ 0 ≤ c.toInt ∧ c.toInt ≤ 99) ∨ (r.toInt = 0 ∧ ¬ (ti (arI g0 158) 8 a = 1 ∧ ti (arI g0 158) 8 b = 1 ∧ a.toInt ≠ b.toInt ∧ 0 ≤ c.toInt ∧ c.toInt ≤ 99)))) := by
  refine q_enterZ (by decide) (Nat.le_of_ble_eq_true rfl) (fun K H locs ls _ _ hM hW0 hR hC hE hl => ?_)
  have hl : lv_has ls 4 [(0, .ref (ad 129)), (1, .int a), (2, .int b), (3, .int c)] := hl
  have hW : WS ad cA (fun i k => i = 175) g0 K g0 H locs := ⟨hW0, hSh, FR.rf⟩
  have := kc_0
  have := kc_1
  refine q_aload_n hM dX12_reminds_0 (lv_at hl 0 rfl) ?_
  refine q_iload_n hM dX12_reminds_1 (lv_at hl 1 rfl) ?_
  refine q_callV (As := [.int a]) (rest := []) hM hW.1 hR hC myX12_isThat (kAW (v_6_2 (List.mem_of_getElem? (i := 9) rfl)) rfl) (rfl : vwCl[12]? = some (RX12, TX12, 86)) rfl lb_129.1 (shO hW.2.1 lb_129) (s_X12_isThat _ _ cA ad g0 a hW.2.1 hG) ⟨by decide, by decide⟩ rfl rfl hl.1 (Nat.le_of_ble_eq_true rfl) dX12_reminds_2 (fun v g14187 H locs hp hW1 => ?_)
  obtain ⟨r14186, rfl, hr14186, rfl⟩ := hp
  have hW : WS ad cA (fun i k => i = 175) g0 K g0 H locs := ⟨hW1, hW.2.1, hW.2.2⟩
  refine q_if_eq (tgt := 33) hM dX12_reminds_5 (by decide) (rfl : r14186.toInt = r14186.toInt) (fun h5 => ?_) (fun h5 => ?_)
  · refine q_iconst (v := (0 : Int32)) hM dX12_reminds_33 (by decide) ?_
    exact hE _ _ _ _ _ _ hW.1 nz_0 ⟨_, rfl, hW.2.1, hG, hW.2.2, (by have := kc_0; omega)⟩ dX12_reminds_34
  · refine q_aload_n hM dX12_reminds_8 (lv_at hl 0 rfl) ?_
    refine q_iload_n hM dX12_reminds_9 (lv_at hl 2 rfl) ?_
    refine q_callV (As := [.int b]) (rest := []) hM hW.1 hR hC myX12_isThat (kAW (v_6_2 (List.mem_of_getElem? (i := 9) rfl)) rfl) (rfl : vwCl[12]? = some (RX12, TX12, 86)) rfl lb_129.1 (shO hW.2.1 lb_129) (s_X12_isThat _ _ cA ad g0 b hW.2.1 hG) ⟨by decide, by decide⟩ rfl rfl hl.1 (Nat.le_of_ble_eq_true rfl) dX12_reminds_10 (fun v g14191 H locs hp hW1 => ?_)
    obtain ⟨r14190, rfl, hr14190, rfl⟩ := hp
    have hW : WS ad cA (fun i k => i = 175) g0 K g0 H locs := ⟨hW1, hW.2.1, hW.2.2⟩
    refine q_if_eq (tgt := 33) hM dX12_reminds_13 (by decide) (rfl : r14190.toInt = r14190.toInt) (fun h13 => ?_) (fun h13 => ?_)
    · refine q_iconst (v := (0 : Int32)) hM dX12_reminds_33 (by decide) ?_
      exact hE _ _ _ _ _ _ hW.1 nz_0 ⟨_, rfl, hW.2.1, hG, hW.2.2, (by have := kc_0; omega)⟩ dX12_reminds_34
    · refine q_iload_n hM dX12_reminds_16 (lv_at hl 1 rfl) ?_
      refine q_iload_n hM dX12_reminds_17 (lv_at hl 2 rfl) ?_
      refine q_icmp_eq (tgt := 33) hM dX12_reminds_18 (by decide) (rfl : a.toInt = a.toInt) (rfl : b.toInt = b.toInt) (fun h18 => ?_) (fun h18 => ?_)
      · refine q_iconst (v := (0 : Int32)) hM dX12_reminds_33 (by decide) ?_
        exact hE _ _ _ _ _ _ hW.1 nz_0 ⟨_, rfl, hW.2.1, hG, hW.2.2, (by have := kc_0; omega)⟩ dX12_reminds_34
      · refine q_iload_n hM dX12_reminds_21 (lv_at hl 3 rfl) ?_
        refine q_i2l hM dX12_reminds_22 ?_
        have := l_i2l c
        refine q_lconst (v := 0) hM dX12_reminds_23 (by decide) ?_
        have := kl_0
        refine q_ldc2 (v := 99) hM (kAW (v_6_2 (List.mem_of_getElem? (i := 4) rfl)) rfl) dX12_reminds_24 ?_
        have := kl_99
        refine q_callS (As := [.long c.toInt64, .long (0 : Int64), .long (99 : Int64)]) (rest := []) hM hW.1 hR hC myX12_lies (kAW (v_5_4 (List.mem_of_getElem? (i := 14) rfl)) rfl) (c_X12_lies _ _ cA ad g0 c.toInt64 (0 : Int64) (99 : Int64) hW.2.1) ⟨by decide, by decide⟩ rfl rfl hl.1 (Nat.le_of_ble_eq_true rfl) dX12_reminds_27 (fun v g14197 H locs hp hW1 => ?_)
        obtain ⟨r14196, rfl, hr14196, rfl⟩ := hp
        have hW : WS ad cA (fun i k => i = 175) g0 K g0 H locs := ⟨hW1, hW.2.1, hW.2.2⟩
        refine q_if_ne (tgt := 35) hM dX12_reminds_30 (by decide) (rfl : r14196.toInt = r14196.toInt) (fun h30 => ?_) (fun h30 => ?_)
        · refine q_aload_n hM dX12_reminds_35 (lv_at hl 0 rfl) ?_
          refine w_get (v := .ref (ad 175)) hM hW FG_X12_151 lb_129 (rf_129_81 hW.2.1) dX12_reminds_36 ?_
          refine q_bipush (v := (8 : Int32)) hM dX12_reminds_39 (by decide) ?_
          refine q_iload_n hM dX12_reminds_41 (lv_at hl 1 rfl) ?_
          refine q_imul hM dX12_reminds_42 (fun z14199 hz14199 => ?_)
          first | have tz14199 := i_mulT hz14199 (kc_8 : (8 : Int32).toInt = 8) (rfl : a.toInt = a.toInt) (by omega) (by omega) | skip
          refine q_iload_n hM dX12_reminds_43 (lv_at hl 2 rfl) ?_
          refine q_iadd hM dX12_reminds_44 (fun z14200 hz14200 => ?_)
          first | have tz14200 := i_addT hz14200 (rfl : z14199.toInt = z14199.toInt) (rfl : b.toInt = b.toInt) (by omega) (by omega) | skip
          refine q_iload_n hM dX12_reminds_45 (lv_at hl 3 rfl) ?_
          refine w_iast hM hW lb_175 (by omega) (i_in (by omega) (by omega)) dX12_reminds_46 (fun g14201 H locs hW e1 e2 => ?_)
          have hG := hG.st e1 e2 (rfl : rA 175 = (-2147483648, 2147483647)) (by have := i_rng c; omega) (by have := i_rng c; omega)
          refine q_aload_n hM dX12_reminds_47 (lv_at hl 0 rfl) ?_
          refine w_get (v := .ref (ad 175)) hM hW FG_X12_151 lb_129 (rf_129_81 hW.2.1) dX12_reminds_48 ?_
          refine q_bipush (v := (8 : Int32)) hM dX12_reminds_51 (by decide) ?_
          refine q_iload_n hM dX12_reminds_53 (lv_at hl 2 rfl) ?_
          refine q_imul hM dX12_reminds_54 (fun z14202 hz14202 => ?_)
          first | have tz14202 := i_mulT hz14202 (kc_8 : (8 : Int32).toInt = 8) (rfl : b.toInt = b.toInt) (by omega) (by omega) | skip
          refine q_iload_n hM dX12_reminds_55 (lv_at hl 1 rfl) ?_
          refine q_iadd hM dX12_reminds_56 (fun z14203 hz14203 => ?_)
          first | have tz14203 := i_addT hz14203 (rfl : z14202.toInt = z14202.toInt) (rfl : a.toInt = a.toInt) (by omega) (by omega) | skip
          refine q_iload_n hM dX12_reminds_57 (lv_at hl 3 rfl) ?_
          refine w_iast hM hW lb_175 (by omega) (i_in (by omega) (by omega)) dX12_reminds_58 (fun g14204 H locs hW e1 e2 => ?_)
          have hG := hG.st e1 e2 (rfl : rA 175 = (-2147483648, 2147483647)) (by have := i_rng c; omega) (by have := i_rng c; omega)
          refine q_iconst (v := (1 : Int32)) hM dX12_reminds_59 (by decide) ?_
          exact hE _ _ _ _ _ _ hW.1 nz_1 ⟨_, rfl, hW.2.1, hG, hW.2.2, (by have := kc_1; omega)⟩ dX12_reminds_60
        · refine q_iconst (v := (0 : Int32)) hM dX12_reminds_33 (by decide) ?_
          exact hE _ _ _ _ _ _ hW.1 nz_0 ⟨_, rfl, hW.2.1, hG, hW.2.2, (by have := kc_0; omega)⟩ dX12_reminds_34
