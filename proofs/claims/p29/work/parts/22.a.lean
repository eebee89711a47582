theorem kl_48 : (48 : Int64).toInt = 48 := by decide +kernel
theorem kl_50 : (50 : Int64).toInt = 50 := by decide +kernel
theorem kl_57 : (57 : Int64).toInt = 57 := by decide +kernel
theorem kl_65 : (65 : Int64).toInt = 65 := by decide +kernel
theorem kl_73 : (73 : Int64).toInt = 73 := by decide +kernel
theorem kl_97 : (97 : Int64).toInt = 97 := by decide +kernel
theorem kl_108 : (108 : Int64).toInt = 108 := by decide +kernel

/-- the sign that the reader stands at -/
def hr (f : Nat → Int32) (pl en : Int32) : Int32 := if pl.toInt < en.toInt then f pl.toNatClampNeg &&& 255 else 0
def OA (f t p : Nat → Int32) (nm om : Int) : Prop := ∀ j : Nat, (j : Int) < om → (f j).toInt ≤ nm ∧ 1 ≤ (t j).toInt ∧ 0 ≤ (p j).toInt ∧ (p j).toInt ≤ 240
theorem OA_mono {f t p : Nat → Int32} {nm om nm1 om1 : Int} (h : OA f t p nm om) (h1 : nm ≤ nm1) (h2 : om1 ≤ om) : OA f t p nm1 om1 := by
  intro j hj
  have := h j (by omega)
  omega
theorem OA_push {f t p : Nat → Int32} {nm om : Int} {o a b c : Int32} (h : OA f t p nm om) (ho : o.toInt = om) (ho0 : 0 ≤ om) (ha : a.toInt ≤ nm) (hb : 1 ≤ b.toInt) (hc : 0 ≤ c.toInt) (hc2 : c.toInt ≤ 240) : OA (upd f o.toNatClampNeg a) (upd t o.toNatClampNeg b) (upd p o.toNatClampNeg c) nm (om + 1) := by
  intro j hj
  have e : o.toNatClampNeg = o.toInt.toNat := rfl
  unfold upd
  by_cases q : j = o.toNatClampNeg
  · simp only [q, if_true]
    omega
  · simp only [q, if_false]
    exact h j (by omega)
theorem i_mul9 {x y z : Int32} (h : x * y = z) (hx0 : 0 ≤ x.toInt) (hx : x.toInt ≤ 48) (hy0 : 1 ≤ y.toInt) (hy : y.toInt ≤ 9) : x.toInt ≤ z.toInt ∧ z.toInt ≤ 9 * x.toInt := by
  have h1 : x.toInt * 1 ≤ x.toInt * y.toInt := Int.mul_le_mul_of_nonneg_left hy0 hx0
  have h2 : x.toInt * y.toInt ≤ x.toInt * 9 := Int.mul_le_mul_of_nonneg_left hy hx0
  have e := i_mulT h (rfl : x.toInt = x.toInt) (rfl : y.toInt = y.toInt) (by omega) (by omega)
  omega
theorem byt_dec : ∀ n, n < 256 → 50 ≤ ((nI n - 128) &&& 255).toInt → ((nI n - 128) &&& 255).toInt ≤ 57 → ((nI n - 128) &&& 255).toInt = (nI n - 128).toInt := by decide +kernel
theorem byt_dig {y z : Int32} (h0 : -128 ≤ y.toInt) (h1 : y.toInt ≤ 127) (h : y &&& 255 = z) (h2 : 50 ≤ z.toInt) (h3 : z.toInt ≤ 57) : y.toInt = z.toInt := by
  obtain ⟨n, hn⟩ : ∃ n : Nat, y.toInt = (n : Int) - 128 := ⟨(y.toInt + 128).toNat, by omega⟩
  have e1 : (nI n).toInt = n := nI_toInt (by omega)
  have e : y = nI n - 128 := by
    apply Int32.toInt_inj.mp
    rw [Int32.toInt_sub, e1, show (128 : Int32).toInt = 128 from kc_128, Int.bmod_def]
    omega
  have := byt_dec n (by omega)
  rw [← e, h] at this
  have := this h2 h3
  omega

theorem dX12_here_0 : decode cX12_here 0 = .ok (.aload_n 0, 1) := by decide +kernel
theorem dX12_here_1 : decode cX12_here 1 = .ok (.getfield 173, 3) := by decide +kernel
theorem dX12_here_4 : decode cX12_here 4 = .ok (.aload_n 0, 1) := by decide +kernel
theorem dX12_here_5 : decode cX12_here 5 = .ok (.getfield 176, 3) := by decide +kernel
theorem dX12_here_8 : decode cX12_here 8 = .ok (.if_icmp .ge 19, 3) := by decide +kernel
theorem dX12_here_11 : decode cX12_here 11 = .ok (.aload_n 0, 1) := by decide +kernel
theorem dX12_here_12 : decode cX12_here 12 = .ok (.getfield 7, 3) := by decide +kernel
theorem dX12_here_15 : decode cX12_here 15 = .ok (.aload_n 0, 1) := by decide +kernel
theorem dX12_here_16 : decode cX12_here 16 = .ok (.getfield 173, 3) := by decide +kernel
theorem dX12_here_19 : decode cX12_here 19 = .ok (.baload, 1) := by decide +kernel
theorem dX12_here_20 : decode cX12_here 20 = .ok (.sipush 255, 3) := by decide +kernel
theorem dX12_here_23 : decode cX12_here 23 = .ok (.iand, 1) := by decide +kernel
theorem dX12_here_24 : decode cX12_here 24 = .ok (.goto 4, 3) := by decide +kernel
theorem dX12_here_27 : decode cX12_here 27 = .ok (.iconst 0, 1) := by decide +kernel
theorem dX12_here_28 : decode cX12_here 28 = .ok (.ireturn, 1) := by decide +kernel
theorem FG_X12_173 : FG RX12 173 12 86 3 := ⟨RX12, TX12, rfl, wX12, by decide, kAW (v_4_3 (List.mem_of_getElem? (i := 0) rfl)) rfl, rfl⟩
theorem FG_X12_176 : FG RX12 176 12 86 4 := ⟨RX12, TX12, rfl, wX12, by decide, kAW (v_4_3 (List.mem_of_getElem? (i := 1) rfl)) rfl, rfl⟩
set_option maxRecDepth 100000 in
set_option maxHeartbeats 4000000 in
theorem a_X12_here (l : Launch) (D : va_G) (cA : Nat → ClassId) (ad : Nat → Nat) (g0 : Nat → va_E)  (pl : Int32) (en : Int32) (hSh : Shp ad cA g0) (hG : Rng g0) (h_pl : fld g0 129 3 = .int pl) (h_en : fld g0 129 4 = .int en) (pl0 : 0 ≤ pl.toInt) (en1 : en.toInt ≤ 240) : CT l NN ad cA D yX12_here cX12_here 1 (some FieldType.int) (0, 0) [.ref (ad 129)] g0 (PU g0 (fun r => r.toInt = (hr (arI g0 130) pl en).toInt ∧ ((en.toInt ≤ pl.toInt ∧ r.toInt = 0) ∨ (pl.toInt < en.toInt ∧ 0 ≤ r.toInt ∧ r.toInt ≤ 255)))) := by
  refine q_enterI (by decide) (Nat.le_of_ble_eq_true rfl) rfl (fun K H locs ls _ _ hM hW0 hR hC hE hl => ?_)
  have hl : lv_has ls 1 [(0, .ref (ad 129))] := hl
  have hW : WS ad cA (fun i k => False) g0 K g0 H locs := ⟨hW0, hSh, FR.rf⟩
  refine q_aload_n hM dX12_here_0 (lv_at hl 0 rfl) ?_
  refine w_get (v := .int pl) hM hW FG_X12_173 lb_129 ((hW.2.2.1 129 3 (fun h => h)).trans h_pl) dX12_here_1 ?_
  refine q_aload_n hM dX12_here_4 (lv_at hl 0 rfl) ?_
  refine w_get (v := .int en) hM hW FG_X12_176 lb_129 ((hW.2.2.1 129 4 (fun h => h)).trans h_en) dX12_here_5 ?_
  refine q_icmp_ge (tgt := 27) hM dX12_here_8 (by decide) (rfl : pl.toInt = pl.toInt) (rfl : en.toInt = en.toInt) (fun h8 => ?_) (fun h8 => ?_)
  · refine q_iconst (v := (0 : Int32)) hM dX12_here_27 (by decide) ?_
    exact hE _ _ _ _ _ _ hW.1 ⟨_, rfl, ⟨by unfold hr; rw [if_neg (by omega)], by have := kc_0; omega⟩, rfl⟩ dX12_here_28
  · refine q_aload_n hM dX12_here_11 (lv_at hl 0 rfl) ?_
    refine w_get (v := .ref (ad 130)) hM hW FG_X12_7 lb_129 (rf_129_0 hW.2.1) dX12_here_12 ?_
    refine q_aload_n hM dX12_here_15 (lv_at hl 0 rfl) ?_
    refine w_get (v := .int pl) hM hW FG_X12_173 lb_129 ((hW.2.2.1 129 3 (fun h => h)).trans h_pl) dX12_here_16 ?_
    refine w_bald hM hW lb_130 (i_in (by omega) (by omega)) dX12_here_19 ?_
    refine q_top (fun y7990 hy7990 => ?_)
    refine q_sipush (v := (255 : Int32)) hM dX12_here_20 (by decide) ?_
    refine q_iand hM dX12_here_23 (fun z7991 hz7991 => ?_)
    have az7991 := i_andk hz7991 (by rw [kc_255]; decide)
    rw [kc_255] at az7991
    refine q_goto (tgt := 28) hM dX12_here_24 (by decide) ?_
    exact hE _ _ _ _ _ _ hW.1 ⟨_, rfl, ⟨by unfold hr; rw [if_pos (by omega), ← hz7991, hy7990], by omega⟩, rfl⟩ dX12_here_28

theorem dX12_seesFact_0 : decode cX12_seesFact 0 = .ok (.aload_n 0, 1) := by decide +kernel
theorem dX12_seesFact_1 : decode cX12_seesFact 1 = .ok (.invokevirtual 182, 3) := by decide +kernel
theorem dX12_seesFact_4 : decode cX12_seesFact 4 = .ok (.i2l, 1) := by decide +kernel
theorem dX12_seesFact_5 : decode cX12_seesFact 5 = .ok (.ldc2_w 240, 3) := by decide +kernel
theorem dX12_seesFact_8 : decode cX12_seesFact 8 = .ok (.ldc2_w 242, 3) := by decide +kernel
theorem dX12_seesFact_11 : decode cX12_seesFact 11 = .ok (.invokestatic 190, 3) := by decide +kernel
theorem dX12_seesFact_14 : decode cX12_seesFact 14 = .ok (.ireturn, 1) := by decide +kernel
theorem myX12_here : MI yX12_here cX12_here 1 (some FieldType.int) 0 := ⟨kAW (v_5_9 (List.mem_of_getElem? (i := 6) rfl)) rfl, kAW (v_0_0 (List.mem_of_getElem? (i := 13) rfl)) rfl, kAW (v_5_9 (List.mem_of_getElem? (i := 5) rfl)) rfl, kAW (tp_t2 (List.mem_of_getElem? (i := 9) rfl)) rfl, by decide, by decide, by decide +kernel⟩
set_option maxRecDepth 100000 in
set_option maxHeartbeats 4000000 in
theorem a_X12_seesFact (l : Launch) (D : va_G) (cA : Nat → ClassId) (ad : Nat → Nat) (g0 : Nat → va_E)  (pl : Int32) (en : Int32) (hSh : Shp ad cA g0) (hG : Rng g0) (h_pl : fld g0 129 3 = .int pl) (h_en : fld g0 129 4 = .int en) (pl0 : 0 ≤ pl.toInt) (en1 : en.toInt ≤ 240) : CT l NN ad cA D yX12_seesFact cX12_seesFact 1 (some FieldType.boolean) (1, 25) [.ref (ad 129)] g0 (PU g0 (fun r => (r.toInt = 1 ∧ pl.toInt < en.toInt ∧ 97 ≤ (hr (arI g0 130) pl en).toInt ∧ (hr (arI g0 130) pl en).toInt ≤ 108) ∨ (r.toInt = 0 ∧ ((hr (arI g0 130) pl en).toInt < 97 ∨ 108 < (hr (arI g0 130) pl en).toInt)))) := by
  refine q_enterZ (by decide) (Nat.le_of_ble_eq_true rfl) (fun K H locs ls _ _ hM hW0 hR hC hE hl => ?_)
  have hl : lv_has ls 1 [(0, .ref (ad 129))] := hl
  have hW : WS ad cA (fun i k => False) g0 K g0 H locs := ⟨hW0, hSh, FR.rf⟩
  refine q_aload_n hM dX12_seesFact_0 (lv_at hl 0 rfl) ?_
  refine q_callV (As := []) (rest := []) hM hW.1 hR hC myX12_here (kAW (v_5_9 (List.mem_of_getElem? (i := 3) rfl)) rfl) (rfl : vwCl[12]? = some (RX12, TX12, 86)) rfl lb_129.1 (shO hW.2.1 lb_129) (a_X12_here _ _ cA ad g0 pl en hW.2.1 hG ((hW.2.2.1 129 3 (fun h => h)).trans h_pl) ((hW.2.2.1 129 4 (fun h => h)).trans h_en) (by  omega) (by  omega)) ⟨by decide, by decide⟩ rfl rfl hl.1 (Nat.le_of_ble_eq_true rfl) dX12_seesFact_1 (fun v g7993 H locs hp hW1 => ?_)
  obtain ⟨r7992, rfl, hr7992, rfl⟩ := hp
  have hW : WS ad cA (fun i k => False) g0 K g0 H locs := ⟨hW1, hW.2.1, hW.2.2⟩
  refine q_i2l hM dX12_seesFact_4 ?_
  have := l_i2l r7992
  refine q_ldc2 (v := 97) hM (kAW (v_5_10 (List.mem_of_getElem? (i := 13) rfl)) rfl) dX12_seesFact_5 ?_
  have := kl_97
  refine q_ldc2 (v := 108) hM (kAW (v_5_10 (List.mem_of_getElem? (i := 14) rfl)) rfl) dX12_seesFact_8 ?_
  have := kl_108
  refine q_callS (As := [.long r7992.toInt64, .long (97 : Int64), .long (108 : Int64)]) (rest := []) hM hW.1 hR hC myX12_lies (kAW (v_5_4 (List.mem_of_getElem? (i := 14) rfl)) rfl) (c_X12_lies _ _ cA ad g0 r7992.toInt64 (97 : Int64) (108 : Int64) hW.2.1) ⟨by decide, by decide⟩ rfl rfl hl.1 (Nat.le_of_ble_eq_true rfl) dX12_seesFact_11 (fun v g7995 H locs hp hW1 => ?_)
  obtain ⟨r7994, rfl, hr7994, rfl⟩ := hp
  have hW : WS ad cA (fun i k => False) g0 K g0 H locs := ⟨hW1, hW.2.1, hW.2.2⟩
  exact hE _ _ _ _ _ _ hW.1 (nz_or (by omega)) ⟨_, rfl, (by omega), rfl⟩ dX12_seesFact_14

theorem dX12_seesDigit_0 : decode cX12_seesDigit 0 = .ok (.aload_n 0, 1) := by decide +kernel
theorem dX12_seesDigit_1 : decode cX12_seesDigit 1 = .ok (.invokevirtual 182, 3) := by decide +kernel
theorem dX12_seesDigit_4 : decode cX12_seesDigit 4 = .ok (.i2l, 1) := by decide +kernel
theorem dX12_seesDigit_5 : decode cX12_seesDigit 5 = .ok (.ldc2_w 186, 3) := by decide +kernel
theorem dX12_seesDigit_8 : decode cX12_seesDigit 8 = .ok (.ldc2_w 188, 3) := by decide +kernel
theorem dX12_seesDigit_11 : decode cX12_seesDigit 11 = .ok (.invokestatic 190, 3) := by decide +kernel
theorem dX12_seesDigit_14 : decode cX12_seesDigit 14 = .ok (.ireturn, 1) := by decide +kernel
set_option maxRecDepth 100000 in
set_option maxHeartbeats 4000000 in
theorem a_X12_seesDigit (l : Launch) (D : va_G) (cA : Nat → ClassId) (ad : Nat → Nat) (g0 : Nat → va_E)  (pl : Int32) (en : Int32) (hSh : Shp ad cA g0) (hG : Rng g0) (h_pl : fld g0 129 3 = .int pl) (h_en : fld g0 129 4 = .int en) (pl0 : 0 ≤ pl.toInt) (en1 : en.toInt ≤ 240) : CT l NN ad cA D yX12_seesDigit cX12_seesDigit 1 (some FieldType.boolean) (1, 25) [.ref (ad 129)] g0 (PU g0 (fun r => (r.toInt = 1 ∧ pl.toInt < en.toInt ∧ 48 ≤ (hr (arI g0 130) pl en).toInt ∧ (hr (arI g0 130) pl en).toInt ≤ 57) ∨ (r.toInt = 0 ∧ ((hr (arI g0 130) pl en).toInt < 48 ∨ 57 < (hr (arI g0 130) pl en).toInt)))) := by
  refine q_enterZ (by decide) (Nat.le_of_ble_eq_true rfl) (fun K H locs ls _ _ hM hW0 hR hC hE hl => ?_)
  have hl : lv_has ls 1 [(0, .ref (ad 129))] := hl
  have hW : WS ad cA (fun i k => False) g0 K g0 H locs := ⟨hW0, hSh, FR.rf⟩
  refine q_aload_n hM dX12_seesDigit_0 (lv_at hl 0 rfl) ?_
  refine q_callV (As := []) (rest := []) hM hW.1 hR hC myX12_here (kAW (v_5_9 (List.mem_of_getElem? (i := 3) rfl)) rfl) (rfl : vwCl[12]? = some (RX12, TX12, 86)) rfl lb_129.1 (shO hW.2.1 lb_129) (a_X12_here _ _ cA ad g0 pl en hW.2.1 hG ((hW.2.2.1 129 3 (fun h => h)).trans h_pl) ((hW.2.2.1 129 4 (fun h => h)).trans h_en) (by  omega) (by  omega)) ⟨by decide, by decide⟩ rfl rfl hl.1 (Nat.le_of_ble_eq_true rfl) dX12_seesDigit_1 (fun v g7997 H locs hp hW1 => ?_)
  obtain ⟨r7996, rfl, hr7996, rfl⟩ := hp
  have hW : WS ad cA (fun i k => False) g0 K g0 H locs := ⟨hW1, hW.2.1, hW.2.2⟩
  refine q_i2l hM dX12_seesDigit_4 ?_
  have := l_i2l r7996
  refine q_ldc2 (v := 48) hM (kAW (v_5_13 (List.mem_of_getElem? (i := 6) rfl)) rfl) dX12_seesDigit_5 ?_
  have := kl_48
  refine q_ldc2 (v := 57) hM (kAW (v_5_10 (List.mem_of_getElem? (i := 4) rfl)) rfl) dX12_seesDigit_8 ?_
  have := kl_57
  refine q_callS (As := [.long r7996.toInt64, .long (48 : Int64), .long (57 : Int64)]) (rest := []) hM hW.1 hR hC myX12_lies (kAW (v_5_4 (List.mem_of_getElem? (i := 14) rfl)) rfl) (c_X12_lies _ _ cA ad g0 r7996.toInt64 (48 : Int64) (57 : Int64) hW.2.1) ⟨by decide, by decide⟩ rfl rfl hl.1 (Nat.le_of_ble_eq_true rfl) dX12_seesDigit_11 (fun v g7999 H locs hp hW1 => ?_)
  obtain ⟨r7998, rfl, hr7998, rfl⟩ := hp
  have hW : WS ad cA (fun i k => False) g0 K g0 H locs := ⟨hW1, hW.2.1, hW.2.2⟩
  exact hE _ _ _ _ _ _ hW.1 (nz_or (by omega)) ⟨_, rfl, (by omega), rfl⟩ dX12_seesDigit_14

theorem dX12_isGood_0 : decode cX12_isGood 0 = .ok (.aload_n 0, 1) := by decide +kernel
theorem dX12_isGood_1 : decode cX12_isGood 1 = .ok (.getfield 179, 3) := by decide +kernel
theorem dX12_isGood_4 : decode cX12_isGood 4 = .ok (.ifCond .ne 7, 3) := by decide +kernel
theorem dX12_isGood_7 : decode cX12_isGood 7 = .ok (.iconst 1, 1) := by decide +kernel
theorem dX12_isGood_8 : decode cX12_isGood 8 = .ok (.goto 4, 3) := by decide +kernel
theorem dX12_isGood_11 : decode cX12_isGood 11 = .ok (.iconst 0, 1) := by decide +kernel
theorem dX12_isGood_12 : decode cX12_isGood 12 = .ok (.ireturn, 1) := by decide +kernel
theorem FG_X12_179 : FG RX12 179 12 86 5 := ⟨RX12, TX12, rfl, wX12, by decide, kAW (v_4_3 (List.mem_of_getElem? (i := 2) rfl)) rfl, rfl⟩
set_option maxRecDepth 100000 in
set_option maxHeartbeats 4000000 in
theorem a_X12_isGood (l : Launch) (D : va_G) (cA : Nat → ClassId) (ad : Nat → Nat) (g0 : Nat → va_E)  (bd : Int32) (hSh : Shp ad cA g0) (hG : Rng g0) (h_bd : fld g0 129 5 = .int bd) : CT l NN ad cA D yX12_isGood cX12_isGood 1 (some FieldType.boolean) (0, 0) [.ref (ad 129)] g0 (PU g0 (fun r => (r.toInt = 1 ∧ bd.toInt = 0) ∨ (r.toInt = 0 ∧ bd.toInt ≠ 0))) := by
  refine q_enterZ (by decide) (Nat.le_of_ble_eq_true rfl) (fun K H locs ls _ _ hM hW0 hR hC hE hl => ?_)
  have hl : lv_has ls 1 [(0, .ref (ad 129))] := hl
  have hW : WS ad cA (fun i k => False) g0 K g0 H locs := ⟨hW0, hSh, FR.rf⟩
  refine q_aload_n hM dX12_isGood_0 (lv_at hl 0 rfl) ?_
  refine w_get (v := .int bd) hM hW FG_X12_179 lb_129 ((hW.2.2.1 129 5 (fun h => h)).trans h_bd) dX12_isGood_1 ?_
  refine q_if_ne (tgt := 11) hM dX12_isGood_4 (by decide) (rfl : bd.toInt = bd.toInt) (fun h4 => ?_) (fun h4 => ?_)
  · refine q_iconst (v := (0 : Int32)) hM dX12_isGood_11 (by decide) ?_
    exact hE _ _ _ _ _ _ hW.1 nz_0 ⟨_, rfl, (by have := kc_0; omega), rfl⟩ dX12_isGood_12
  · refine q_iconst (v := (1 : Int32)) hM dX12_isGood_7 (by decide) ?_
    refine q_goto (tgt := 12) hM dX12_isGood_8 (by decide) ?_
    exact hE _ _ _ _ _ _ hW.1 nz_1 ⟨_, rfl, (by have := kc_1; omega), rfl⟩ dX12_isGood_12

theorem dX12_wrongs_0 : decode cX12_wrongs 0 = .ok (.aload_n 0, 1) := by decide +kernel
theorem dX12_wrongs_1 : decode cX12_wrongs 1 = .ok (.aload_n 0, 1) := by decide +kernel
theorem dX12_wrongs_2 : decode cX12_wrongs 2 = .ok (.getfield 179, 3) := by decide +kernel
theorem dX12_wrongs_5 : decode cX12_wrongs 5 = .ok (.ifCond .ge 10, 3) := by decide +kernel
theorem dX12_wrongs_8 : decode cX12_wrongs 8 = .ok (.aload_n 0, 1) := by decide +kernel
theorem dX12_wrongs_9 : decode cX12_wrongs 9 = .ok (.getfield 179, 3) := by decide +kernel
theorem dX12_wrongs_12 : decode cX12_wrongs 12 = .ok (.goto 10, 3) := by decide +kernel
theorem dX12_wrongs_15 : decode cX12_wrongs 15 = .ok (.sipush (-1000), 3) := by decide +kernel
theorem dX12_wrongs_18 : decode cX12_wrongs 18 = .ok (.iload_n 1, 1) := by decide +kernel
theorem dX12_wrongs_19 : decode cX12_wrongs 19 = .ok (.imul, 1) := by decide +kernel
theorem dX12_wrongs_20 : decode cX12_wrongs 20 = .ok (.iload_n 2, 1) := by decide +kernel
theorem dX12_wrongs_21 : decode cX12_wrongs 21 = .ok (.isub, 1) := by decide +kernel
theorem dX12_wrongs_22 : decode cX12_wrongs 22 = .ok (.putfield 179, 3) := by decide +kernel
theorem dX12_wrongs_25 : decode cX12_wrongs 25 = .ok (.return_, 1) := by decide +kernel
theorem FP_X12_179 : FPX RX12 179 12 86 5 .int := ⟨⟨RX12, TX12, tyX12, rfl, wX12, by decide, kAW (v_4_3 (List.mem_of_getElem? (i := 2) rfl)) rfl, rfl, tyX12_ok, nmX12, by decide +kernel, rfl⟩, by decide +kernel⟩
set_option maxRecDepth 100000 in
set_option maxHeartbeats 4000000 in
theorem a_X12_wrongs (l : Launch) (D : va_G) (cA : Nat → ClassId) (ad : Nat → Nat) (g0 : Nat → va_E) (nu : Int32) (wh : Int32) (bd : Int32)  (hSh : Shp ad cA g0) (hG : Rng g0) (h_bd : fld g0 129 5 = .int bd) (nu0 : 1 ≤ nu.toInt) (nu1 : nu.toInt ≤ 6) (wh0 : 0 ≤ wh.toInt) (wh1 : wh.toInt ≤ 300) : CT l NN ad cA D yX12_wrongs cX12_wrongs 3 none (0, 0) [.ref (ad 129), .int nu, .int wh] g0 (fun v g' => ∃ (b9 : Int32), v = none ∧ Shp ad cA g' ∧ Rng g' ∧ FR (fun i k => (i = 129 ∧ (k = 5))) g0 g' ∧ fld g' 129 5 = .int b9 ∧ (b9.toInt < 0)) := by
  refine q_enterV (by decide) (Nat.le_of_ble_eq_true rfl) (fun K H locs ls _ _ hM hW0 hR hC hE hl => ?_)
  have hl : lv_has ls 3 [(0, .ref (ad 129)), (1, .int nu), (2, .int wh)] := hl
  have hW : WS ad cA (fun i k => (i = 129 ∧ (k = 5))) g0 K g0 H locs := ⟨hW0, hSh, FR.rf⟩
  have b_bd := hG.f h_bd rF_129_5 (by decide)
  have f8002 : fld g0 129 5 = .int bd := h_bd
  refine q_aload_n hM dX12_wrongs_0 (lv_at hl 0 rfl) ?_
  refine q_aload_n hM dX12_wrongs_1 (lv_at hl 0 rfl) ?_
  refine w_get (v := .int bd) hM hW FG_X12_179 lb_129 f8002 dX12_wrongs_2 ?_
  have bbd := hG.f f8002 rF_129_5 (by decide)
  refine q_if_ge (tgt := 15) hM dX12_wrongs_5 (by decide) (rfl : bd.toInt = bd.toInt) (fun h5 => ?_) (fun h5 => ?_)
  · refine q_sipush (v := ((-1000) : Int32)) hM dX12_wrongs_15 (by decide) ?_
    refine q_iload_n hM dX12_wrongs_18 (lv_at hl 1 rfl) ?_
    refine q_imul hM dX12_wrongs_19 (fun z8004 hz8004 => ?_)
    first | have tz8004 := i_mulT hz8004 (kc_m1000 : ((-1000) : Int32).toInt = (-1000)) (rfl : nu.toInt = nu.toInt) (by omega) (by omega) | skip
    refine q_iload_n hM dX12_wrongs_20 (lv_at hl 2 rfl) ?_
    refine q_isub hM dX12_wrongs_21 (fun z8005 hz8005 => ?_)
    first | have tz8005 := i_subT hz8005 (rfl : z8004.toInt = z8004.toInt) (rfl : wh.toInt = wh.toInt) (by omega) (by omega) | skip
    refine w_put hM hW FP_X12_179 lb_129 (by omega) (Or.inl ⟨_, rfl⟩) rfl rfl dX12_wrongs_22 (fun g8006 H locs hW e1 e2 => ?_)
    have f8007 : fld g8006 129 5 = .int z8005 := e1
    have hG := hG.put e1 e2 rF_129_5 (by decide) (by have := i_rng z8005; omega) (by have := i_rng z8005; omega)
    exact hE _ _ _ _ _ hW.1 ⟨z8005, rfl, hW.2.1, hG, hW.2.2, f8007, (by omega)⟩ dX12_wrongs_25
  · refine q_aload_n hM dX12_wrongs_8 (lv_at hl 0 rfl) ?_
    refine w_get (v := .int bd) hM hW FG_X12_179 lb_129 f8002 dX12_wrongs_9 ?_
    have bbd := hG.f f8002 rF_129_5 (by decide)
    refine q_goto (tgt := 22) hM dX12_wrongs_12 (by decide) ?_
    refine w_put hM hW FP_X12_179 lb_129 (by omega) (Or.inl ⟨_, rfl⟩) rfl rfl dX12_wrongs_22 (fun g8009 H locs hW e1 e2 => ?_)
    have f8010 : fld g8009 129 5 = .int bd := e1
    have hG := hG.put e1 e2 rF_129_5 (by decide) (by have := i_rng bd; omega) (by have := i_rng bd; omega)
    exact hE _ _ _ _ _ hW.1 ⟨bd, rfl, hW.2.1, hG, hW.2.2, f8010, (by omega)⟩ dX12_wrongs_25

theorem dX12_begins_0 : decode cX12_begins 0 = .ok (.aload_n 0, 1) := by decide +kernel
theorem dX12_begins_1 : decode cX12_begins 1 = .ok (.iconst 0, 1) := by decide +kernel
theorem dX12_begins_2 : decode cX12_begins 2 = .ok (.putfield 166, 3) := by decide +kernel
theorem dX12_begins_5 : decode cX12_begins 5 = .ok (.aload_n 0, 1) := by decide +kernel
theorem dX12_begins_6 : decode cX12_begins 6 = .ok (.iconst 0, 1) := by decide +kernel
theorem dX12_begins_7 : decode cX12_begins 7 = .ok (.putfield 173, 3) := by decide +kernel
theorem dX12_begins_10 : decode cX12_begins 10 = .ok (.aload_n 0, 1) := by decide +kernel
theorem dX12_begins_11 : decode cX12_begins 11 = .ok (.iload_n 1, 1) := by decide +kernel
theorem dX12_begins_12 : decode cX12_begins 12 = .ok (.putfield 176, 3) := by decide +kernel
theorem dX12_begins_15 : decode cX12_begins 15 = .ok (.aload_n 0, 1) := by decide +kernel
theorem dX12_begins_16 : decode cX12_begins 16 = .ok (.iconst 0, 1) := by decide +kernel
theorem dX12_begins_17 : decode cX12_begins 17 = .ok (.putfield 179, 3) := by decide +kernel
theorem dX12_begins_20 : decode cX12_begins 20 = .ok (.return_, 1) := by decide +kernel
theorem FP_X12_173 : FPX RX12 173 12 86 3 .int := ⟨⟨RX12, TX12, tyX12, rfl, wX12, by decide, kAW (v_4_3 (List.mem_of_getElem? (i := 0) rfl)) rfl, rfl, tyX12_ok, nmX12, by decide +kernel, rfl⟩, by decide +kernel⟩
theorem FP_X12_176 : FPX RX12 176 12 86 4 .int := ⟨⟨RX12, TX12, tyX12, rfl, wX12, by decide, kAW (v_4_3 (List.mem_of_getElem? (i := 1) rfl)) rfl, rfl, tyX12_ok, nmX12, by decide +kernel, rfl⟩, by decide +kernel⟩
set_option maxRecDepth 100000 in
set_option maxHeartbeats 4000000 in
theorem a_X12_begins (l : Launch) (D : va_G) (cA : Nat → ClassId) (ad : Nat → Nat) (g0 : Nat → va_E) (n : Int32)   (hSh : Shp ad cA g0) (hG : Rng g0) (n0 : 0 ≤ n.toInt) (n1 : n.toInt ≤ 240) : CT l NN ad cA D yX12_begins cX12_begins 2 none (0, 0) [.ref (ad 129), .int n] g0 (fun v g' => ∃ (p9 : Int32) (e9 : Int32) (b9 : Int32), v = none ∧ Shp ad cA g' ∧ Rng g' ∧ FR (fun i k => (i = 129 ∧ (k = 1 ∨ k = 3 ∨ k = 4 ∨ k = 5))) g0 g' ∧ fld g' 129 3 = .int p9 ∧ fld g' 129 4 = .int e9 ∧ fld g' 129 5 = .int b9 ∧ (p9.toInt = 0) ∧ (e9.toInt = n.toInt) ∧ (b9.toInt = 0)) := by
  refine q_enterV (by decide) (Nat.le_of_ble_eq_true rfl) (fun K H locs ls _ _ hM hW0 hR hC hE hl => ?_)
  have hl : lv_has ls 2 [(0, .ref (ad 129)), (1, .int n)] := hl
  have hW : WS ad cA (fun i k => (i = 129 ∧ (k = 1 ∨ k = 3 ∨ k = 4 ∨ k = 5))) g0 K g0 H locs := ⟨hW0, hSh, FR.rf⟩
  refine q_aload_n hM dX12_begins_0 (lv_at hl 0 rfl) ?_
  refine q_iconst (v := (0 : Int32)) hM dX12_begins_1 (by decide) ?_
  refine w_put hM hW FP_X12_166 lb_129 (by omega) (Or.inl ⟨_, rfl⟩) rfl rfl dX12_begins_2 (fun g8011 H locs hW e1 e2 => ?_)
  have f8012 : fld g8011 129 1 = .int (0 : Int32) := e1
  have hG := hG.put e1 e2 rF_129_1 (by decide) (by have := kc_0; have := i_rng (0 : Int32); omega) (by have := kc_0; have := i_rng (0 : Int32); omega)
  refine q_aload_n hM dX12_begins_5 (lv_at hl 0 rfl) ?_
  refine q_iconst (v := (0 : Int32)) hM dX12_begins_6 (by decide) ?_
  refine w_put hM hW FP_X12_173 lb_129 (by omega) (Or.inl ⟨_, rfl⟩) rfl rfl dX12_begins_7 (fun g8013 H locs hW e1 e2 => ?_)
  have f8014 : fld g8013 129 1 = .int (0 : Int32) := (e2.1 129 1 (by unfold Only; omega)).trans f8012
  have f8015 : fld g8013 129 3 = .int (0 : Int32) := e1
  have hG := hG.put e1 e2 rF_129_3 (by decide) (by have := kc_0; have := i_rng (0 : Int32); omega) (by have := kc_0; have := i_rng (0 : Int32); omega)
  refine q_aload_n hM dX12_begins_10 (lv_at hl 0 rfl) ?_
  refine q_iload_n hM dX12_begins_11 (lv_at hl 1 rfl) ?_
  refine w_put hM hW FP_X12_176 lb_129 (by omega) (Or.inl ⟨_, rfl⟩) rfl rfl dX12_begins_12 (fun g8016 H locs hW e1 e2 => ?_)
  have f8017 : fld g8016 129 1 = .int (0 : Int32) := (e2.1 129 1 (by unfold Only; omega)).trans f8014
  have f8018 : fld g8016 129 3 = .int (0 : Int32) := (e2.1 129 3 (by unfold Only; omega)).trans f8015
  have f8019 : fld g8016 129 4 = .int n := e1
  have hG := hG.put e1 e2 rF_129_4 (by decide) (by have := i_rng n; omega) (by have := i_rng n; omega)
  refine q_aload_n hM dX12_begins_15 (lv_at hl 0 rfl) ?_
  refine q_iconst (v := (0 : Int32)) hM dX12_begins_16 (by decide) ?_
  refine w_put hM hW FP_X12_179 lb_129 (by omega) (Or.inl ⟨_, rfl⟩) rfl rfl dX12_begins_17 (fun g8020 H locs hW e1 e2 => ?_)
  have f8021 : fld g8020 129 1 = .int (0 : Int32) := (e2.1 129 1 (by unfold Only; omega)).trans f8017
  have f8022 : fld g8020 129 3 = .int (0 : Int32) := (e2.1 129 3 (by unfold Only; omega)).trans f8018
  have f8023 : fld g8020 129 4 = .int n := (e2.1 129 4 (by unfold Only; omega)).trans f8019
  have f8024 : fld g8020 129 5 = .int (0 : Int32) := e1
  have hG := hG.put e1 e2 rF_129_5 (by decide) (by have := kc_0; have := i_rng (0 : Int32); omega) (by have := kc_0; have := i_rng (0 : Int32); omega)
  exact hE _ _ _ _ _ hW.1 ⟨(0 : Int32), n, (0 : Int32), rfl, hW.2.1, hG, hW.2.2, f8022, f8023, f8024, (by have := kc_0; have := kc_0; omega), (by have := kc_0; have := kc_0; omega), (by have := kc_0; have := kc_0; omega)⟩ dX12_begins_20

theorem dX12_timesTold_0 : decode cX12_timesTold 0 = .ok (.aload_n 0, 1) := by decide +kernel
theorem dX12_timesTold_1 : decode cX12_timesTold 1 = .ok (.invokevirtual 182, 3) := by decide +kernel
theorem dX12_timesTold_4 : decode cX12_timesTold 4 = .ok (.i2l, 1) := by decide +kernel
theorem dX12_timesTold_5 : decode cX12_timesTold 5 = .ok (.ldc2_w 238, 3) := by decide +kernel
theorem dX12_timesTold_8 : decode cX12_timesTold 8 = .ok (.ldc2_w 188, 3) := by decide +kernel
theorem dX12_timesTold_11 : decode cX12_timesTold 11 = .ok (.invokestatic 190, 3) := by decide +kernel
theorem dX12_timesTold_14 : decode cX12_timesTold 14 = .ok (.ifCond .ne 5, 3) := by decide +kernel
theorem dX12_timesTold_17 : decode cX12_timesTold 17 = .ok (.iconst 1, 1) := by decide +kernel
theorem dX12_timesTold_18 : decode cX12_timesTold 18 = .ok (.ireturn, 1) := by decide +kernel
theorem dX12_timesTold_19 : decode cX12_timesTold 19 = .ok (.aload_n 0, 1) := by decide +kernel
theorem dX12_timesTold_20 : decode cX12_timesTold 20 = .ok (.dup, 1) := by decide +kernel
theorem dX12_timesTold_21 : decode cX12_timesTold 21 = .ok (.getfield 173, 3) := by decide +kernel
theorem dX12_timesTold_24 : decode cX12_timesTold 24 = .ok (.iconst 1, 1) := by decide +kernel
theorem dX12_timesTold_25 : decode cX12_timesTold 25 = .ok (.iadd, 1) := by decide +kernel
theorem dX12_timesTold_26 : decode cX12_timesTold 26 = .ok (.putfield 173, 3) := by decide +kernel
theorem dX12_timesTold_29 : decode cX12_timesTold 29 = .ok (.aload_n 0, 1) := by decide +kernel
theorem dX12_timesTold_30 : decode cX12_timesTold 30 = .ok (.getfield 7, 3) := by decide +kernel
theorem dX12_timesTold_33 : decode cX12_timesTold 33 = .ok (.aload_n 0, 1) := by decide +kernel
theorem dX12_timesTold_34 : decode cX12_timesTold 34 = .ok (.getfield 173, 3) := by decide +kernel
theorem dX12_timesTold_37 : decode cX12_timesTold 37 = .ok (.iconst 1, 1) := by decide +kernel
theorem dX12_timesTold_38 : decode cX12_timesTold 38 = .ok (.isub, 1) := by decide +kernel
theorem dX12_timesTold_39 : decode cX12_timesTold 39 = .ok (.baload, 1) := by decide +kernel
theorem dX12_timesTold_40 : decode cX12_timesTold 40 = .ok (.bipush 48, 2) := by decide +kernel
theorem dX12_timesTold_42 : decode cX12_timesTold 42 = .ok (.isub, 1) := by decide +kernel
theorem dX12_timesTold_43 : decode cX12_timesTold 43 = .ok (.ireturn, 1) := by decide +kernel
set_option maxRecDepth 100000 in
set_option maxHeartbeats 4000000 in
theorem a_X12_timesTold (l : Launch) (D : va_G) (cA : Nat → ClassId) (ad : Nat → Nat) (g0 : Nat → va_E)  (pl : Int32) (en : Int32)  (hSh : Shp ad cA g0) (hG : Rng g0) (h_pl : fld g0 129 3 = .int pl) (h_en : fld g0 129 4 = .int en) (pl0 : 0 ≤ pl.toInt) (en1 : en.toInt ≤ 240) (pl1 : pl.toInt ≤ en.toInt) (hT : TB g0) : CT l NN ad cA D yX12_timesTold cX12_timesTold 1 (some FieldType.int) (1, 25) [.ref (ad 129)] g0 (fun v g' => ∃ (p9 : Int32) (r : Int32), v = some (.int r) ∧ Shp ad cA g' ∧ Rng g' ∧ FR (fun i k => (i = 129 ∧ (k = 3))) g0 g' ∧ fld g' 129 3 = .int p9 ∧ (pl.toInt ≤ p9.toInt) ∧ (p9.toInt ≤ en.toInt) ∧ (1 ≤ r.toInt ∧ r.toInt ≤ 9)) := by
  refine q_enterI (by decide) (Nat.le_of_ble_eq_true rfl) rfl (fun K H locs ls _ _ hM hW0 hR hC hE hl => ?_)
  have hl : lv_has ls 1 [(0, .ref (ad 129))] := hl
  have hW : WS ad cA (fun i k => (i = 129 ∧ (k = 3))) g0 K g0 H locs := ⟨hW0, hSh, FR.rf⟩
  have b_pl := hG.f h_pl rF_129_3 (by decide)
  have b_en := hG.f h_en rF_129_4 (by decide)
  have := kc_1
  have f8025 : fld g0 129 3 = .int pl := h_pl
  refine q_aload_n hM dX12_timesTold_0 (lv_at hl 0 rfl) ?_
  refine q_callV (As := []) (rest := []) hM hW.1 hR hC myX12_here (kAW (v_5_9 (List.mem_of_getElem? (i := 3) rfl)) rfl) (rfl : vwCl[12]? = some (RX12, TX12, 86)) rfl lb_129.1 (shO hW.2.1 lb_129) (a_X12_here _ _ cA ad g0 pl en hW.2.1 hG f8025 ((hW.2.2.1 129 4 (by omega)).trans h_en) (by  omega) (by  omega)) ⟨by decide, by decide⟩ rfl rfl hl.1 (Nat.le_of_ble_eq_true rfl) dX12_timesTold_1 (fun v g8027 H locs hp hW1 => ?_)
  obtain ⟨r8026, rfl, hr8026, rfl⟩ := hp
  have hW : WS ad cA (fun i k => (i = 129 ∧ (k = 3))) g0 K g0 H locs := ⟨hW1, hW.2.1, hW.2.2⟩
  rw [hW.2.2.2.1 130 (by omega)] at hr8026
  refine q_i2l hM dX12_timesTold_4 ?_
  have := l_i2l r8026
  refine q_ldc2 (v := 50) hM (kAW (v_5_10 (List.mem_of_getElem? (i := 3) rfl)) rfl) dX12_timesTold_5 ?_
  have := kl_50
  refine q_ldc2 (v := 57) hM (kAW (v_5_10 (List.mem_of_getElem? (i := 4) rfl)) rfl) dX12_timesTold_8 ?_
  have := kl_57
  refine q_callS (As := [.long r8026.toInt64, .long (50 : Int64), .long (57 : Int64)]) (rest := []) hM hW.1 hR hC myX12_lies (kAW (v_5_4 (List.mem_of_getElem? (i := 14) rfl)) rfl) (c_X12_lies _ _ cA ad g0 r8026.toInt64 (50 : Int64) (57 : Int64) hW.2.1) ⟨by decide, by decide⟩ rfl rfl hl.1 (Nat.le_of_ble_eq_true rfl) dX12_timesTold_11 (fun v g8029 H locs hp hW1 => ?_)
  obtain ⟨r8028, rfl, hr8028, rfl⟩ := hp
  have hW : WS ad cA (fun i k => (i = 129 ∧ (k = 3))) g0 K g0 H locs := ⟨hW1, hW.2.1, hW.2.2⟩
  refine q_if_ne (tgt := 19) hM dX12_timesTold_14 (by decide) (rfl : r8028.toInt = r8028.toInt) (fun h14 => ?_) (fun h14 => ?_)
  · refine q_aload_n hM dX12_timesTold_19 (lv_at hl 0 rfl) ?_
    refine q_dup hM dX12_timesTold_20 rfl ?_
    refine w_get (v := .int pl) hM hW FG_X12_173 lb_129 f8025 dX12_timesTold_21 ?_
    have bpl := hG.f f8025 rF_129_3 (by decide)
    refine q_iconst (v := (1 : Int32)) hM dX12_timesTold_24 (by decide) ?_
    refine q_iadd hM dX12_timesTold_25 (fun z8031 hz8031 => ?_)
    first | have tz8031 := i_addT hz8031 (rfl : pl.toInt = pl.toInt) (kc_1 : (1 : Int32).toInt = 1) (by omega) (by omega) | skip
    refine w_put hM hW FP_X12_173 lb_129 (by omega) (Or.inl ⟨_, rfl⟩) rfl rfl dX12_timesTold_26 (fun g8032 H locs hW e1 e2 => ?_)
    have f8033 : fld g8032 129 3 = .int z8031 := e1
    have hG := hG.put e1 e2 rF_129_3 (by decide) (by have := i_rng z8031; omega) (by have := i_rng z8031; omega)
    refine q_aload_n hM dX12_timesTold_29 (lv_at hl 0 rfl) ?_
    refine w_get (v := .ref (ad 130)) hM hW FG_X12_7 lb_129 (rf_129_0 hW.2.1) dX12_timesTold_30 ?_
    refine q_aload_n hM dX12_timesTold_33 (lv_at hl 0 rfl) ?_
    refine w_get (v := .int z8031) hM hW FG_X12_173 lb_129 f8033 dX12_timesTold_34 ?_
    have bz8031 := hG.f f8033 rF_129_3 (by decide)
    refine q_iconst (v := (1 : Int32)) hM dX12_timesTold_37 (by decide) ?_
    refine q_isub hM dX12_timesTold_38 (fun z8034 hz8034 => ?_)
    first | have tz8034 := i_subT hz8034 (rfl : z8031.toInt = z8031.toInt) (kc_1 : (1 : Int32).toInt = 1) (by omega) (by omega) | skip
    refine w_bald hM hW lb_130 (i_in (by omega) (by omega)) dX12_timesTold_39 ?_
    refine q_top (fun y8035 hy8035 => ?_)
    rw [hW.2.2.2.1 130 (by omega)] at hy8035
    have ej : z8034.toNatClampNeg = pl.toNatClampNeg := by show z8034.toInt.toNat = pl.toInt.toNat; omega
    rw [ej] at hy8035
    have tb := hT pl.toNatClampNeg
    rw [← hy8035] at tb
    have hh := hr8026
    unfold hr at hh
    rw [if_pos (by omega), ← hy8035] at hh
    have bd9 := byt_dig (y := y8035) tb.1 tb.2 rfl (by omega) (by omega)
    refine q_bipush (v := (48 : Int32)) hM dX12_timesTold_40 (by decide) ?_
    refine q_isub hM dX12_timesTold_42 (fun z8036 hz8036 => ?_)
    first | have tz8036 := i_subT hz8036 (rfl : y8035.toInt = y8035.toInt) (kc_48 : (48 : Int32).toInt = 48) (by omega) (by omega) | skip
    exact hE _ _ _ _ _ _ hW.1 ⟨z8031, _, rfl, hW.2.1, hG, hW.2.2, f8033, (by omega), (by omega), (by omega)⟩ dX12_timesTold_43
  · refine q_iconst (v := (1 : Int32)) hM dX12_timesTold_17 (by decide) ?_
    exact hE _ _ _ _ _ _ hW.1 ⟨pl, _, rfl, hW.2.1, hG, hW.2.2, f8025, (by have := kc_1; omega), (by have := kc_1; omega), (by have := kc_1; omega)⟩ dX12_timesTold_18

theorem dX12_stepHere_0 : decode cX12_stepHere 0 = .ok (.aload_n 0, 1) := by decide +kernel
theorem dX12_stepHere_1 : decode cX12_stepHere 1 = .ok (.invokevirtual 182, 3) := by decide +kernel
theorem dX12_stepHere_4 : decode cX12_stepHere 4 = .ok (.istore_n 1, 1) := by decide +kernel
theorem dX12_stepHere_5 : decode cX12_stepHere 5 = .ok (.aload_n 0, 1) := by decide +kernel
theorem dX12_stepHere_6 : decode cX12_stepHere 6 = .ok (.invokevirtual 244, 3) := by decide +kernel
theorem dX12_stepHere_9 : decode cX12_stepHere 9 = .ok (.ifCond .eq 8, 3) := by decide +kernel
theorem dX12_stepHere_12 : decode cX12_stepHere 12 = .ok (.iload_n 1, 1) := by decide +kernel
theorem dX12_stepHere_13 : decode cX12_stepHere 13 = .ok (.bipush 97, 2) := by decide +kernel
theorem dX12_stepHere_15 : decode cX12_stepHere 15 = .ok (.isub, 1) := by decide +kernel
theorem dX12_stepHere_16 : decode cX12_stepHere 16 = .ok (.ireturn, 1) := by decide +kernel
theorem dX12_stepHere_17 : decode cX12_stepHere 17 = .ok (.iload_n 1, 1) := by decide +kernel
theorem dX12_stepHere_18 : decode cX12_stepHere 18 = .ok (.i2l, 1) := by decide +kernel
theorem dX12_stepHere_19 : decode cX12_stepHere 19 = .ok (.ldc2_w 247, 3) := by decide +kernel
theorem dX12_stepHere_22 : decode cX12_stepHere 22 = .ok (.ldc2_w 249, 3) := by decide +kernel
theorem dX12_stepHere_25 : decode cX12_stepHere 25 = .ok (.invokestatic 190, 3) := by decide +kernel
theorem dX12_stepHere_28 : decode cX12_stepHere 28 = .ok (.ifCond .eq 11, 3) := by decide +kernel
theorem dX12_stepHere_31 : decode cX12_stepHere 31 = .ok (.bipush 12, 2) := by decide +kernel
theorem dX12_stepHere_33 : decode cX12_stepHere 33 = .ok (.iload_n 1, 1) := by decide +kernel
theorem dX12_stepHere_34 : decode cX12_stepHere 34 = .ok (.iadd, 1) := by decide +kernel
theorem dX12_stepHere_35 : decode cX12_stepHere 35 = .ok (.bipush 65, 2) := by decide +kernel
theorem dX12_stepHere_37 : decode cX12_stepHere 37 = .ok (.isub, 1) := by decide +kernel
theorem dX12_stepHere_38 : decode cX12_stepHere 38 = .ok (.ireturn, 1) := by decide +kernel
theorem dX12_stepHere_39 : decode cX12_stepHere 39 = .ok (.iload_n 1, 1) := by decide +kernel
theorem dX12_stepHere_40 : decode cX12_stepHere 40 = .ok (.bipush 46, 2) := by decide +kernel
theorem dX12_stepHere_42 : decode cX12_stepHere 42 = .ok (.if_icmp .ne 6, 3) := by decide +kernel
theorem dX12_stepHere_45 : decode cX12_stepHere 45 = .ok (.bipush 21, 2) := by decide +kernel
theorem dX12_stepHere_47 : decode cX12_stepHere 47 = .ok (.ireturn, 1) := by decide +kernel
theorem dX12_stepHere_48 : decode cX12_stepHere 48 = .ok (.iload_n 1, 1) := by decide +kernel
theorem dX12_stepHere_49 : decode cX12_stepHere 49 = .ok (.bipush 43, 2) := by decide +kernel
theorem dX12_stepHere_51 : decode cX12_stepHere 51 = .ok (.if_icmp .eq 14, 3) := by decide +kernel
theorem dX12_stepHere_54 : decode cX12_stepHere 54 = .ok (.aload_n 0, 1) := by decide +kernel
theorem dX12_stepHere_55 : decode cX12_stepHere 55 = .ok (.iconst 1, 1) := by decide +kernel
theorem dX12_stepHere_56 : decode cX12_stepHere 56 = .ok (.aload_n 0, 1) := by decide +kernel
theorem dX12_stepHere_57 : decode cX12_stepHere 57 = .ok (.getfield 173, 3) := by decide +kernel
theorem dX12_stepHere_60 : decode cX12_stepHere 60 = .ok (.invokevirtual 230, 3) := by decide +kernel
theorem dX12_stepHere_63 : decode cX12_stepHere 63 = .ok (.iconst (-1), 1) := by decide +kernel
theorem dX12_stepHere_64 : decode cX12_stepHere 64 = .ok (.ireturn, 1) := by decide +kernel
theorem dX12_stepHere_65 : decode cX12_stepHere 65 = .ok (.aload_n 0, 1) := by decide +kernel
theorem dX12_stepHere_66 : decode cX12_stepHere 66 = .ok (.dup, 1) := by decide +kernel
theorem dX12_stepHere_67 : decode cX12_stepHere 67 = .ok (.getfield 173, 3) := by decide +kernel
theorem dX12_stepHere_70 : decode cX12_stepHere 70 = .ok (.iconst 1, 1) := by decide +kernel
theorem dX12_stepHere_71 : decode cX12_stepHere 71 = .ok (.iadd, 1) := by decide +kernel
theorem dX12_stepHere_72 : decode cX12_stepHere 72 = .ok (.putfield 173, 3) := by decide +kernel
theorem dX12_stepHere_75 : decode cX12_stepHere 75 = .ok (.aload_n 0, 1) := by decide +kernel
theorem dX12_stepHere_76 : decode cX12_stepHere 76 = .ok (.invokevirtual 244, 3) := by decide +kernel
theorem dX12_stepHere_79 : decode cX12_stepHere 79 = .ok (.ifCond .ne 12, 3) := by decide +kernel
theorem dX12_stepHere_82 : decode cX12_stepHere 82 = .ok (.aload_n 0, 1) := by decide +kernel
theorem dX12_stepHere_83 : decode cX12_stepHere 83 = .ok (.iconst 1, 1) := by decide +kernel
theorem dX12_stepHere_84 : decode cX12_stepHere 84 = .ok (.aload_n 0, 1) := by decide +kernel
theorem dX12_stepHere_85 : decode cX12_stepHere 85 = .ok (.getfield 173, 3) := by decide +kernel
theorem dX12_stepHere_88 : decode cX12_stepHere 88 = .ok (.invokevirtual 230, 3) := by decide +kernel
theorem dX12_stepHere_91 : decode cX12_stepHere 91 = .ok (.bipush 22, 2) := by decide +kernel
theorem dX12_stepHere_93 : decode cX12_stepHere 93 = .ok (.aload_n 0, 1) := by decide +kernel
theorem dX12_stepHere_94 : decode cX12_stepHere 94 = .ok (.invokevirtual 182, 3) := by decide +kernel
theorem dX12_stepHere_97 : decode cX12_stepHere 97 = .ok (.iadd, 1) := by decide +kernel
theorem dX12_stepHere_98 : decode cX12_stepHere 98 = .ok (.bipush 97, 2) := by decide +kernel
theorem dX12_stepHere_100 : decode cX12_stepHere 100 = .ok (.isub, 1) := by decide +kernel
theorem dX12_stepHere_101 : decode cX12_stepHere 101 = .ok (.ireturn, 1) := by decide +kernel
theorem myX12_seesFact : MI yX12_seesFact cX12_seesFact 1 (some FieldType.boolean) 0 := ⟨kAW (v_5_10 (List.mem_of_getElem? (i := 12) rfl)) rfl, kAW (v_0_0 (List.mem_of_getElem? (i := 13) rfl)) rfl, kAW (v_5_10 (List.mem_of_getElem? (i := 11) rfl)) rfl, kAW (tp_t2 (List.mem_of_getElem? (i := 14) rfl)) rfl, by decide, by decide, by decide +kernel⟩
theorem myX12_wrongs : MI yX12_wrongs cX12_wrongs 3 none 2 := ⟨kAW (v_5_9 (List.mem_of_getElem? (i := 14) rfl)) rfl, kAW (v_0_0 (List.mem_of_getElem? (i := 13) rfl)) rfl, kAW (v_5_9 (List.mem_of_getElem? (i := 13) rfl)) rfl, kAW (tp_t2 (List.mem_of_getElem? (i := 11) rfl)) rfl, by decide, by decide, by decide +kernel⟩
set_option maxRecDepth 100000 in
set_option maxHeartbeats 4000000 in
theorem a_X12_stepHere (l : Launch) (D : va_G) (cA : Nat → ClassId) (ad : Nat → Nat) (g0 : Nat → va_E)  (pl : Int32) (en : Int32) (bd : Int32)  (hSh : Shp ad cA g0) (hG : Rng g0) (h_pl : fld g0 129 3 = .int pl) (h_en : fld g0 129 4 = .int en) (h_bd : fld g0 129 5 = .int bd) (pl0 : 0 ≤ pl.toInt) (en1 : en.toInt ≤ 240) (pl1 : pl.toInt ≤ en.toInt) : CT l NN ad cA D yX12_stepHere cX12_stepHere 2 (some FieldType.int) (2, 45) [.ref (ad 129)] g0 (fun v g' => ∃ (p9 : Int32) (b9 : Int32) (r : Int32), v = some (.int r) ∧ Shp ad cA g' ∧ Rng g' ∧ FR (fun i k => (i = 129 ∧ (k = 3 ∨ k = 5))) g0 g' ∧ fld g' 129 3 = .int p9 ∧ fld g' 129 5 = .int b9 ∧ (pl.toInt ≤ p9.toInt) ∧ (p9.toInt ≤ en.toInt) ∧ (bd.toInt < 0 → b9.toInt < 0) ∧ (b9.toInt ≤ 0) ∧ (b9.toInt = 0 → 0 ≤ r.toInt ∧ r.toInt ≤ 33 ∧ p9.toInt < en.toInt)) := by
  refine q_enterI (by decide) (Nat.le_of_ble_eq_true rfl) rfl (fun K H locs ls _ _ hM hW0 hR hC hE hl => ?_)
  have hl : lv_has ls 2 [(0, .ref (ad 129))] := hl
  have hW : WS ad cA (fun i k => (i = 129 ∧ (k = 3 ∨ k = 5))) g0 K g0 H locs := ⟨hW0, hSh, FR.rf⟩
  have b_pl := hG.f h_pl rF_129_3 (by decide)
  have b_en := hG.f h_en rF_129_4 (by decide)
  have b_bd := hG.f h_bd rF_129_5 (by decide)
  have f8038 : fld g0 129 3 = .int pl := h_pl
  have f8039 : fld g0 129 5 = .int bd := h_bd
  refine q_aload_n hM dX12_stepHere_0 (lv_at hl 0 rfl) ?_
  refine q_callV (As := []) (rest := []) hM hW.1 hR hC myX12_here (kAW (v_5_9 (List.mem_of_getElem? (i := 3) rfl)) rfl) (rfl : vwCl[12]? = some (RX12, TX12, 86)) rfl lb_129.1 (shO hW.2.1 lb_129) (a_X12_here _ _ cA ad g0 pl en hW.2.1 hG f8038 ((hW.2.2.1 129 4 (by omega)).trans h_en) (by  omega) (by  omega)) ⟨by decide, by decide⟩ rfl rfl hl.1 (Nat.le_of_ble_eq_true rfl) dX12_stepHere_1 (fun v g8041 H locs hp hW1 => ?_)
  obtain ⟨r8040, rfl, hr8040, rfl⟩ := hp
  have hW : WS ad cA (fun i k => (i = 129 ∧ (k = 3 ∨ k = 5))) g0 K g0 H locs := ⟨hW1, hW.2.1, hW.2.2⟩
  rw [hW.2.2.2.1 130 (by omega)] at hr8040
  refine q_istore_n (lv9 := [(1, .int r8040), (0, .ref (ad 129))]) hM dX12_stepHere_4 hl (by decide) rfl (fun ls hl => ?_)
  refine q_aload_n hM dX12_stepHere_5 (lv_at hl 1 rfl) ?_
  refine q_callV (As := []) (rest := []) hM hW.1 hR hC myX12_seesFact (kAW (v_5_10 (List.mem_of_getElem? (i := 9) rfl)) rfl) (rfl : vwCl[12]? = some (RX12, TX12, 86)) rfl lb_129.1 (shO hW.2.1 lb_129) (a_X12_seesFact _ _ cA ad g0 pl en hW.2.1 hG f8038 ((hW.2.2.1 129 4 (by omega)).trans h_en) (by  omega) (by  omega)) ⟨by decide, by decide⟩ rfl rfl hl.1 (Nat.le_of_ble_eq_true rfl) dX12_stepHere_6 (fun v g8043 H locs hp hW1 => ?_)
  obtain ⟨r8042, rfl, hr8042, rfl⟩ := hp
  have hW : WS ad cA (fun i k => (i = 129 ∧ (k = 3 ∨ k = 5))) g0 K g0 H locs := ⟨hW1, hW.2.1, hW.2.2⟩
  rw [hW.2.2.2.1 130 (by omega)] at hr8042
  refine q_if_eq (tgt := 17) hM dX12_stepHere_9 (by decide) (rfl : r8042.toInt = r8042.toInt) (fun h9 => ?_) (fun h9 => ?_)
  · refine q_iload_n hM dX12_stepHere_17 (lv_at hl 0 rfl) ?_
    refine q_i2l hM dX12_stepHere_18 ?_
    have := l_i2l r8040
    refine q_ldc2 (v := 65) hM (kAW (v_5_10 (List.mem_of_getElem? (i := 15) rfl)) rfl) dX12_stepHere_19 ?_
    have := kl_65
    refine q_ldc2 (v := 73) hM (kAW (v_5_11 (List.mem_of_getElem? (i := 0) rfl)) rfl) dX12_stepHere_22 ?_
    have := kl_73
    refine q_callS (As := [.long r8040.toInt64, .long (65 : Int64), .long (73 : Int64)]) (rest := []) hM hW.1 hR hC myX12_lies (kAW (v_5_4 (List.mem_of_getElem? (i := 14) rfl)) rfl) (c_X12_lies _ _ cA ad g0 r8040.toInt64 (65 : Int64) (73 : Int64) hW.2.1) ⟨by decide, by decide⟩ rfl rfl hl.1 (Nat.le_of_ble_eq_true rfl) dX12_stepHere_25 (fun v g8046 H locs hp hW1 => ?_)
    obtain ⟨r8045, rfl, hr8045, rfl⟩ := hp
    have hW : WS ad cA (fun i k => (i = 129 ∧ (k = 3 ∨ k = 5))) g0 K g0 H locs := ⟨hW1, hW.2.1, hW.2.2⟩
    refine q_if_eq (tgt := 39) hM dX12_stepHere_28 (by decide) (rfl : r8045.toInt = r8045.toInt) (fun h28 => ?_) (fun h28 => ?_)
    · refine q_iload_n hM dX12_stepHere_39 (lv_at hl 0 rfl) ?_
      refine q_bipush (v := (46 : Int32)) hM dX12_stepHere_40 (by decide) ?_
      refine q_icmp_ne (tgt := 48) hM dX12_stepHere_42 (by decide) (rfl : r8040.toInt = r8040.toInt) (kc_46 : (46 : Int32).toInt = 46) (fun h42 => ?_) (fun h42 => ?_)
      · refine q_iload_n hM dX12_stepHere_48 (lv_at hl 0 rfl) ?_
        refine q_bipush (v := (43 : Int32)) hM dX12_stepHere_49 (by decide) ?_
        refine q_icmp_eq (tgt := 65) hM dX12_stepHere_51 (by decide) (rfl : r8040.toInt = r8040.toInt) (kc_43 : (43 : Int32).toInt = 43) (fun h51 => ?_) (fun h51 => ?_)
        · refine q_aload_n hM dX12_stepHere_65 (lv_at hl 1 rfl) ?_
          refine q_dup hM dX12_stepHere_66 rfl ?_
          refine w_get (v := .int pl) hM hW FG_X12_173 lb_129 f8038 dX12_stepHere_67 ?_
          have bpl := hG.f f8038 rF_129_3 (by decide)
          refine q_iconst (v := (1 : Int32)) hM dX12_stepHere_70 (by decide) ?_
          refine q_iadd hM dX12_stepHere_71 (fun z8050 hz8050 => ?_)
          first | have tz8050 := i_addT hz8050 (rfl : pl.toInt = pl.toInt) (kc_1 : (1 : Int32).toInt = 1) (by omega) (by omega) | skip
          refine w_put hM hW FP_X12_173 lb_129 (by omega) (Or.inl ⟨_, rfl⟩) rfl rfl dX12_stepHere_72 (fun g8051 H locs hW e1 e2 => ?_)
          have f8052 : fld g8051 129 5 = .int bd := (e2.1 129 5 (by unfold Only; omega)).trans f8039
          have f8053 : fld g8051 129 3 = .int z8050 := e1
          have hG := hG.put e1 e2 rF_129_3 (by decide) (by have := i_rng z8050; omega) (by have := i_rng z8050; omega)
          refine q_aload_n hM dX12_stepHere_75 (lv_at hl 1 rfl) ?_
          refine q_callV (As := []) (rest := []) hM hW.1 hR hC myX12_seesFact (kAW (v_5_10 (List.mem_of_getElem? (i := 9) rfl)) rfl) (rfl : vwCl[12]? = some (RX12, TX12, 86)) rfl lb_129.1 (shO hW.2.1 lb_129) (a_X12_seesFact _ _ cA ad g8051 z8050 en hW.2.1 hG f8053 ((hW.2.2.1 129 4 (by omega)).trans h_en) (by  omega) (by  omega)) ⟨by decide, by decide⟩ rfl rfl hl.1 (Nat.le_of_ble_eq_true rfl) dX12_stepHere_76 (fun v g8055 H locs hp hW1 => ?_)
          obtain ⟨r8054, rfl, hr8054, rfl⟩ := hp
          have hW : WS ad cA (fun i k => (i = 129 ∧ (k = 3 ∨ k = 5))) g0 K g8051 H locs := ⟨hW1, hW.2.1, hW.2.2⟩
          rw [hW.2.2.2.1 130 (by omega)] at hr8054
          refine q_if_ne (tgt := 91) hM dX12_stepHere_79 (by decide) (rfl : r8054.toInt = r8054.toInt) (fun h79 => ?_) (fun h79 => ?_)
          · refine q_bipush (v := (22 : Int32)) hM dX12_stepHere_91 (by decide) ?_
            refine q_aload_n hM dX12_stepHere_93 (lv_at hl 1 rfl) ?_
            refine q_callV (As := []) (rest := [.int (22 : Int32)]) hM hW.1 hR hC myX12_here (kAW (v_5_9 (List.mem_of_getElem? (i := 3) rfl)) rfl) (rfl : vwCl[12]? = some (RX12, TX12, 86)) rfl lb_129.1 (shO hW.2.1 lb_129) (a_X12_here _ _ cA ad g8051 z8050 en hW.2.1 hG f8053 ((hW.2.2.1 129 4 (by omega)).trans h_en) (by  omega) (by  omega)) ⟨by decide, by decide⟩ rfl rfl hl.1 (Nat.le_of_ble_eq_true rfl) dX12_stepHere_94 (fun v g8058 H locs hp hW1 => ?_)
            obtain ⟨r8057, rfl, hr8057, rfl⟩ := hp
            have hW : WS ad cA (fun i k => (i = 129 ∧ (k = 3 ∨ k = 5))) g0 K g8051 H locs := ⟨hW1, hW.2.1, hW.2.2⟩
            rw [hW.2.2.2.1 130 (by omega)] at hr8057
            refine q_iadd hM dX12_stepHere_97 (fun z8059 hz8059 => ?_)
            first | have tz8059 := i_addT hz8059 (kc_22 : (22 : Int32).toInt = 22) (rfl : r8057.toInt = r8057.toInt) (by omega) (by omega) | skip
            refine q_bipush (v := (97 : Int32)) hM dX12_stepHere_98 (by decide) ?_
            refine q_isub hM dX12_stepHere_100 (fun z8060 hz8060 => ?_)
            first | have tz8060 := i_subT hz8060 (rfl : z8059.toInt = z8059.toInt) (kc_97 : (97 : Int32).toInt = 97) (by omega) (by omega) | skip
            exact hE _ _ _ _ _ _ hW.1 ⟨z8050, bd, _, rfl, hW.2.1, hG, hW.2.2, f8053, f8052, (by omega), (by omega), (by omega), (by omega), (by omega)⟩ dX12_stepHere_101
          · refine q_aload_n hM dX12_stepHere_82 (lv_at hl 1 rfl) ?_
            refine q_iconst (v := (1 : Int32)) hM dX12_stepHere_83 (by decide) ?_
            refine q_aload_n hM dX12_stepHere_84 (lv_at hl 1 rfl) ?_
            refine w_get (v := .int z8050) hM hW FG_X12_173 lb_129 f8053 dX12_stepHere_85 ?_
            have bz8050 := hG.f f8053 rF_129_3 (by decide)
            refine q_callV (As := [.int (1 : Int32), .int z8050]) (rest := []) hM hW.1 hR hC myX12_wrongs (kAW (v_5_9 (List.mem_of_getElem? (i := 11) rfl)) rfl) (rfl : vwCl[12]? = some (RX12, TX12, 86)) rfl lb_129.1 (shO hW.2.1 lb_129) (a_X12_wrongs _ _ cA ad g8051 (1 : Int32) z8050 bd hW.2.1 hG f8052 (by have := kc_1; omega) (by have := kc_1; omega) (by have := kc_1; omega) (by have := kc_1; omega)) ⟨by decide, by decide⟩ rfl rfl hl.1 (Nat.le_of_ble_eq_true rfl) dX12_stepHere_88 (fun v g8065 H locs hp hW1 => ?_)
            obtain ⟨v8062, rfl, hs1, hG, hf1, q8063, e8064⟩ := hp
            have f8066 : fld g8065 129 3 = .int z8050 := (hf1.1 129 3 (by omega)).trans f8053
            have hW : WS ad cA (fun i k => (i = 129 ∧ (k = 3 ∨ k = 5))) g0 K g8065 H locs := ⟨hW1, hs1, hW.2.2.tr hf1 (fun i k h => (by omega))⟩
            refine q_bipush (v := (22 : Int32)) hM dX12_stepHere_91 (by decide) ?_
            refine q_aload_n hM dX12_stepHere_93 (lv_at hl 1 rfl) ?_
            refine q_callV (As := []) (rest := [.int (22 : Int32)]) hM hW.1 hR hC myX12_here (kAW (v_5_9 (List.mem_of_getElem? (i := 3) rfl)) rfl) (rfl : vwCl[12]? = some (RX12, TX12, 86)) rfl lb_129.1 (shO hW.2.1 lb_129) (a_X12_here _ _ cA ad g8065 z8050 en hW.2.1 hG f8066 ((hW.2.2.1 129 4 (by omega)).trans h_en) (by  omega) (by  omega)) ⟨by decide, by decide⟩ rfl rfl hl.1 (Nat.le_of_ble_eq_true rfl) dX12_stepHere_94 (fun v g8068 H locs hp hW1 => ?_)
            obtain ⟨r8067, rfl, hr8067, rfl⟩ := hp
            have hW : WS ad cA (fun i k => (i = 129 ∧ (k = 3 ∨ k = 5))) g0 K g8065 H locs := ⟨hW1, hW.2.1, hW.2.2⟩
            rw [hW.2.2.2.1 130 (by omega)] at hr8067
            refine q_iadd hM dX12_stepHere_97 (fun z8069 hz8069 => ?_)
            first | have tz8069 := i_addT hz8069 (kc_22 : (22 : Int32).toInt = 22) (rfl : r8067.toInt = r8067.toInt) (by omega) (by omega) | skip
            refine q_bipush (v := (97 : Int32)) hM dX12_stepHere_98 (by decide) ?_
            refine q_isub hM dX12_stepHere_100 (fun z8070 hz8070 => ?_)
            first | have tz8070 := i_subT hz8070 (rfl : z8069.toInt = z8069.toInt) (kc_97 : (97 : Int32).toInt = 97) (by omega) (by omega) | skip
            exact hE _ _ _ _ _ _ hW.1 ⟨z8050, v8062, _, rfl, hW.2.1, hG, hW.2.2, f8066, q8063, (by omega), (by omega), (by omega), (by omega), (by omega)⟩ dX12_stepHere_101
        · refine q_aload_n hM dX12_stepHere_54 (lv_at hl 1 rfl) ?_
          refine q_iconst (v := (1 : Int32)) hM dX12_stepHere_55 (by decide) ?_
          refine q_aload_n hM dX12_stepHere_56 (lv_at hl 1 rfl) ?_
          refine w_get (v := .int pl) hM hW FG_X12_173 lb_129 f8038 dX12_stepHere_57 ?_
          have bpl := hG.f f8038 rF_129_3 (by decide)
          refine q_callV (As := [.int (1 : Int32), .int pl]) (rest := []) hM hW.1 hR hC myX12_wrongs (kAW (v_5_9 (List.mem_of_getElem? (i := 11) rfl)) rfl) (rfl : vwCl[12]? = some (RX12, TX12, 86)) rfl lb_129.1 (shO hW.2.1 lb_129) (a_X12_wrongs _ _ cA ad g0 (1 : Int32) pl bd hW.2.1 hG f8039 (by have := kc_1; omega) (by have := kc_1; omega) (by have := kc_1; omega) (by have := kc_1; omega)) ⟨by decide, by decide⟩ rfl rfl hl.1 (Nat.le_of_ble_eq_true rfl) dX12_stepHere_60 (fun v g8075 H locs hp hW1 => ?_)
          obtain ⟨v8072, rfl, hs1, hG, hf1, q8073, e8074⟩ := hp
          have f8076 : fld g8075 129 3 = .int pl := (hf1.1 129 3 (by omega)).trans f8038
          have hW : WS ad cA (fun i k => (i = 129 ∧ (k = 3 ∨ k = 5))) g0 K g8075 H locs := ⟨hW1, hs1, hW.2.2.tr hf1 (fun i k h => (by omega))⟩
          refine q_iconst (v := ((-1) : Int32)) hM dX12_stepHere_63 (by decide) ?_
          exact hE _ _ _ _ _ _ hW.1 ⟨pl, v8072, _, rfl, hW.2.1, hG, hW.2.2, f8076, q8073, (by have := kc_m1; omega), (by have := kc_m1; omega), (by have := kc_m1; omega), (by have := kc_m1; omega), (by have := kc_m1; omega)⟩ dX12_stepHere_64
      · refine q_bipush (v := (21 : Int32)) hM dX12_stepHere_45 (by decide) ?_
        exact hE _ _ _ _ _ _ hW.1 ⟨pl, bd, _, rfl, hW.2.1, hG, hW.2.2, f8038, f8039, (by have := kc_21; omega), (by have := kc_21; omega), (by have := kc_21; omega), (by have := kc_21; omega), (by have := kc_21; omega)⟩ dX12_stepHere_47
    · refine q_bipush (v := (12 : Int32)) hM dX12_stepHere_31 (by decide) ?_
      refine q_iload_n hM dX12_stepHere_33 (lv_at hl 0 rfl) ?_
      refine q_iadd hM dX12_stepHere_34 (fun z8079 hz8079 => ?_)
      first | have tz8079 := i_addT hz8079 (kc_12 : (12 : Int32).toInt = 12) (rfl : r8040.toInt = r8040.toInt) (by omega) (by omega) | skip
      refine q_bipush (v := (65 : Int32)) hM dX12_stepHere_35 (by decide) ?_
      refine q_isub hM dX12_stepHere_37 (fun z8080 hz8080 => ?_)
      first | have tz8080 := i_subT hz8080 (rfl : z8079.toInt = z8079.toInt) (kc_65 : (65 : Int32).toInt = 65) (by omega) (by omega) | skip
      exact hE _ _ _ _ _ _ hW.1 ⟨pl, bd, _, rfl, hW.2.1, hG, hW.2.2, f8038, f8039, (by omega), (by omega), (by omega), (by omega), (by omega)⟩ dX12_stepHere_38
  · refine q_iload_n hM dX12_stepHere_12 (lv_at hl 0 rfl) ?_
    refine q_bipush (v := (97 : Int32)) hM dX12_stepHere_13 (by decide) ?_
    refine q_isub hM dX12_stepHere_15 (fun z8082 hz8082 => ?_)
    first | have tz8082 := i_subT hz8082 (rfl : r8040.toInt = r8040.toInt) (kc_97 : (97 : Int32).toInt = 97) (by omega) (by omega) | skip
    exact hE _ _ _ _ _ _ hW.1 ⟨pl, bd, _, rfl, hW.2.1, hG, hW.2.2, f8038, f8039, (by omega), (by omega), (by omega), (by omega), (by omega)⟩ dX12_stepHere_16

theorem dX12_repeats_0 : decode cX12_repeats 0 = .ok (.aload_n 0, 1) := by decide +kernel
theorem dX12_repeats_1 : decode cX12_repeats 1 = .ok (.getfield 227, 3) := by decide +kernel
theorem dX12_repeats_4 : decode cX12_repeats 4 = .ok (.iload_n 1, 1) := by decide +kernel
theorem dX12_repeats_5 : decode cX12_repeats 5 = .ok (.isub, 1) := by decide +kernel
theorem dX12_repeats_6 : decode cX12_repeats 6 = .ok (.istore 4, 2) := by decide +kernel
theorem dX12_repeats_8 : decode cX12_repeats 8 = .ok (.iload_n 1, 1) := by decide +kernel
theorem dX12_repeats_9 : decode cX12_repeats 9 = .ok (.iload 4, 2) := by decide +kernel
theorem dX12_repeats_11 : decode cX12_repeats 11 = .ok (.iload_n 2, 1) := by decide +kernel
theorem dX12_repeats_12 : decode cX12_repeats 12 = .ok (.imul, 1) := by decide +kernel
theorem dX12_repeats_13 : decode cX12_repeats 13 = .ok (.iadd, 1) := by decide +kernel
theorem dX12_repeats_14 : decode cX12_repeats 14 = .ok (.bipush 48, 2) := by decide +kernel
theorem dX12_repeats_16 : decode cX12_repeats 16 = .ok (.if_icmp .le 10, 3) := by decide +kernel
theorem dX12_repeats_19 : decode cX12_repeats 19 = .ok (.aload_n 0, 1) := by decide +kernel
theorem dX12_repeats_20 : decode cX12_repeats 20 = .ok (.bipush 6, 2) := by decide +kernel
theorem dX12_repeats_22 : decode cX12_repeats 22 = .ok (.iload_n 3, 1) := by decide +kernel
theorem dX12_repeats_23 : decode cX12_repeats 23 = .ok (.invokevirtual 230, 3) := by decide +kernel
theorem dX12_repeats_26 : decode cX12_repeats 26 = .ok (.aload_n 0, 1) := by decide +kernel
theorem dX12_repeats_27 : decode cX12_repeats 27 = .ok (.invokevirtual 234, 3) := by decide +kernel
theorem dX12_repeats_30 : decode cX12_repeats 30 = .ok (.ifCond .ne 4, 3) := by decide +kernel
theorem dX12_repeats_33 : decode cX12_repeats 33 = .ok (.return_, 1) := by decide +kernel
theorem dX12_repeats_34 : decode cX12_repeats 34 = .ok (.iload 4, 2) := by decide +kernel
theorem dX12_repeats_36 : decode cX12_repeats 36 = .ok (.istore 5, 2) := by decide +kernel
theorem dX12_repeats_38 : decode cX12_repeats 38 = .ok (.iload 5, 2) := by decide +kernel
theorem dX12_repeats_40 : decode cX12_repeats 40 = .ok (.iload 4, 2) := by decide +kernel
theorem dX12_repeats_42 : decode cX12_repeats 42 = .ok (.iload_n 2, 1) := by decide +kernel
theorem dX12_repeats_43 : decode cX12_repeats 43 = .ok (.imul, 1) := by decide +kernel
theorem dX12_repeats_44 : decode cX12_repeats 44 = .ok (.if_icmp .ge 30, 3) := by decide +kernel
theorem dX12_repeats_47 : decode cX12_repeats 47 = .ok (.aload_n 0, 1) := by decide +kernel
theorem dX12_repeats_48 : decode cX12_repeats 48 = .ok (.getfield 37, 3) := by decide +kernel
theorem dX12_repeats_51 : decode cX12_repeats 51 = .ok (.iload_n 1, 1) := by decide +kernel
theorem dX12_repeats_52 : decode cX12_repeats 52 = .ok (.iload 5, 2) := by decide +kernel
theorem dX12_repeats_54 : decode cX12_repeats 54 = .ok (.iadd, 1) := by decide +kernel
theorem dX12_repeats_55 : decode cX12_repeats 55 = .ok (.aload_n 0, 1) := by decide +kernel
theorem dX12_repeats_56 : decode cX12_repeats 56 = .ok (.getfield 37, 3) := by decide +kernel
theorem dX12_repeats_59 : decode cX12_repeats 59 = .ok (.iload_n 1, 1) := by decide +kernel
theorem dX12_repeats_60 : decode cX12_repeats 60 = .ok (.iload 5, 2) := by decide +kernel
theorem dX12_repeats_62 : decode cX12_repeats 62 = .ok (.iload 4, 2) := by decide +kernel
theorem dX12_repeats_64 : decode cX12_repeats 64 = .ok (.irem, 1) := by decide +kernel
theorem dX12_repeats_65 : decode cX12_repeats 65 = .ok (.iadd, 1) := by decide +kernel
theorem dX12_repeats_66 : decode cX12_repeats 66 = .ok (.iaload, 1) := by decide +kernel
theorem dX12_repeats_67 : decode cX12_repeats 67 = .ok (.iastore, 1) := by decide +kernel
theorem dX12_repeats_68 : decode cX12_repeats 68 = .ok (.iinc 5 1, 3) := by decide +kernel
theorem dX12_repeats_71 : decode cX12_repeats 71 = .ok (.goto (-33), 3) := by decide +kernel
theorem dX12_repeats_74 : decode cX12_repeats 74 = .ok (.aload_n 0, 1) := by decide +kernel
theorem dX12_repeats_75 : decode cX12_repeats 75 = .ok (.iload_n 1, 1) := by decide +kernel
theorem dX12_repeats_76 : decode cX12_repeats 76 = .ok (.iload 4, 2) := by decide +kernel
theorem dX12_repeats_78 : decode cX12_repeats 78 = .ok (.iload_n 2, 1) := by decide +kernel
theorem dX12_repeats_79 : decode cX12_repeats 79 = .ok (.imul, 1) := by decide +kernel
theorem dX12_repeats_80 : decode cX12_repeats 80 = .ok (.iadd, 1) := by decide +kernel
theorem dX12_repeats_81 : decode cX12_repeats 81 = .ok (.putfield 227, 3) := by decide +kernel
theorem dX12_repeats_84 : decode cX12_repeats 84 = .ok (.return_, 1) := by decide +kernel
theorem FG_X12_227 : FG RX12 227 12 86 18 := ⟨RX12, TX12, rfl, wX12, by decide, kAW (v_4_3 (List.mem_of_getElem? (i := 15) rfl)) rfl, rfl⟩
theorem myX12_isGood : MI yX12_isGood cX12_isGood 1 (some FieldType.boolean) 0 := ⟨kAW (v_5_8 (List.mem_of_getElem? (i := 14) rfl)) rfl, kAW (v_0_0 (List.mem_of_getElem? (i := 13) rfl)) rfl, kAW (v_5_8 (List.mem_of_getElem? (i := 13) rfl)) rfl, kAW (tp_t2 (List.mem_of_getElem? (i := 7) rfl)) rfl, by decide, by decide, by decide +kernel⟩
theorem FP_X12_227 : FPX RX12 227 12 86 18 .int := ⟨⟨RX12, TX12, tyX12, rfl, wX12, by decide, kAW (v_4_3 (List.mem_of_getElem? (i := 15) rfl)) rfl, rfl, tyX12_ok, nmX12, by decide +kernel, rfl⟩, by decide +kernel⟩
theorem FG_X12_37 : FG RX12 37 12 86 16 := ⟨RX12, TX12, rfl, wX12, by decide, kAW (v_4_3 (List.mem_of_getElem? (i := 13) rfl)) rfl, rfl⟩
set_option maxRecDepth 100000 in
set_option maxHeartbeats 4000000 in
theorem a_X12_repeats (l : Launch) (D : va_G) (cA : Nat → ClassId) (ad : Nat → Nat) (g0 : Nat → va_E) (fr : Int32) (ti : Int32) (wh : Int32) (bd : Int32) (nm : Int32)  (hSh : Shp ad cA g0) (hG : Rng g0) (h_bd : fld g0 129 5 = .int bd) (h_nm : fld g0 129 18 = .int nm) (fr0 : 0 ≤ fr.toInt) (fr1 : fr.toInt ≤ nm.toInt) (ti0 : 1 ≤ ti.toInt) (ti1 : ti.toInt ≤ 9) (wh0 : 0 ≤ wh.toInt) (wh1 : wh.toInt ≤ 240) : CT l NN ad cA D yX12_repeats cX12_repeats 6 none (1, 22) [.ref (ad 129), .int fr, .int ti, .int wh] g0 (fun v g' => ∃ (b9 : Int32) (n9 : Int32), v = none ∧ Shp ad cA g' ∧ Rng g' ∧ FR (fun i k => (i = 129 ∧ (k = 5 ∨ k = 18)) ∨ i = 137) g0 g' ∧ fld g' 129 5 = .int b9 ∧ fld g' 129 18 = .int n9 ∧ (nm.toInt ≤ n9.toInt) ∧ (bd.toInt < 0 → b9.toInt < 0) ∧ (b9.toInt ≤ 0)) := by
  refine q_enterV (by decide) (Nat.le_of_ble_eq_true rfl) (fun K H locs ls _ _ hM hW0 hR hC hE hl => ?_)
  have hl : lv_has ls 6 [(0, .ref (ad 129)), (1, .int fr), (2, .int ti), (3, .int wh)] := hl
  have hW : WS ad cA (fun i k => (i = 129 ∧ (k = 5 ∨ k = 18)) ∨ i = 137) g0 K g0 H locs := ⟨hW0, hSh, FR.rf⟩
  have b_bd := hG.f h_bd rF_129_5 (by decide)
  have b_nm := hG.f h_nm rF_129_18 (by decide)
  have f8083 : fld g0 129 5 = .int bd := h_bd
  have f8084 : fld g0 129 18 = .int nm := h_nm
  refine q_aload_n hM dX12_repeats_0 (lv_at hl 0 rfl) ?_
  refine w_get (v := .int nm) hM hW FG_X12_227 lb_129 f8084 dX12_repeats_1 ?_
  have bnm := hG.f f8084 rF_129_18 (by decide)
  refine q_iload_n hM dX12_repeats_4 (lv_at hl 1 rfl) ?_
  refine q_isub hM dX12_repeats_5 (fun z8085 hz8085 => ?_)
  first | have tz8085 := i_subT hz8085 (rfl : nm.toInt = nm.toInt) (rfl : fr.toInt = fr.toInt) (by omega) (by omega) | skip
  refine q_istore (lv9 := [(4, .int z8085), (0, .ref (ad 129)), (1, .int fr), (2, .int ti), (3, .int wh)]) hM dX12_repeats_6 hl (by decide) rfl (fun ls hl => ?_)
  refine q_iload_n hM dX12_repeats_8 (lv_at hl 2 rfl) ?_
  refine q_iload hM dX12_repeats_9 (lv_at hl 0 rfl) ?_
  refine q_iload_n hM dX12_repeats_11 (lv_at hl 3 rfl) ?_
  refine q_imul hM dX12_repeats_12 (fun z8086 hz8086 => ?_)
  first | have tz8086 := i_mulT hz8086 (rfl : z8085.toInt = z8085.toInt) (rfl : ti.toInt = ti.toInt) (by omega) (by omega) | skip
  have m9z8086 := i_mul9 hz8086 (by omega) (by omega) (by omega) (by omega)
  refine q_iadd hM dX12_repeats_13 (fun z8087 hz8087 => ?_)
  first | have tz8087 := i_addT hz8087 (rfl : fr.toInt = fr.toInt) (rfl : z8086.toInt = z8086.toInt) (by omega) (by omega) | skip
  refine q_bipush (v := (48 : Int32)) hM dX12_repeats_14 (by decide) ?_
  refine q_icmp_le (tgt := 26) hM dX12_repeats_16 (by decide) (rfl : z8087.toInt = z8087.toInt) (kc_48 : (48 : Int32).toInt = 48) (fun h16 => ?_) (fun h16 => ?_)
  · refine q_aload_n hM dX12_repeats_26 (lv_at hl 1 rfl) ?_
    refine q_callV (As := []) (rest := []) hM hW.1 hR hC myX12_isGood (kAW (v_5_8 (List.mem_of_getElem? (i := 11) rfl)) rfl) (rfl : vwCl[12]? = some (RX12, TX12, 86)) rfl lb_129.1 (shO hW.2.1 lb_129) (a_X12_isGood _ _ cA ad g0 bd hW.2.1 hG f8083) ⟨by decide, by decide⟩ rfl rfl hl.1 (Nat.le_of_ble_eq_true rfl) dX12_repeats_27 (fun v g8090 H locs hp hW1 => ?_)
    obtain ⟨r8089, rfl, hr8089, rfl⟩ := hp
    have hW : WS ad cA (fun i k => (i = 129 ∧ (k = 5 ∨ k = 18)) ∨ i = 137) g0 K g0 H locs := ⟨hW1, hW.2.1, hW.2.2⟩
    refine q_if_ne (tgt := 34) hM dX12_repeats_30 (by decide) (rfl : r8089.toInt = r8089.toInt) (fun h30 => ?_) (fun h30 => ?_)
    · refine q_iload hM dX12_repeats_34 (lv_at hl 0 rfl) ?_
      refine q_istore (lv9 := [(5, .int z8085), (4, .int z8085), (0, .ref (ad 129)), (1, .int fr), (2, .int ti), (3, .int wh)]) hM dX12_repeats_36 hl (by decide) rfl (fun ls hl => ?_)
      have L38 : ∀ (fu38 : Nat) (w38_5 : Int32) (g9 : Nat → va_E) (H : Heap) (locs : List Loc) (ls : Array Slot), (48 - w38_5.toInt).toNat < fu38 → (Rng g9) → (0 ≤ w38_5.toInt) → (fld g9 129 5 = .int bd) → lv_has ls 6 [(0, .ref (ad 129)), (1, .int fr), (2, .int ti), (3, .int wh), (4, .int z8085), (5, .int w38_5)] → WS ad cA (fun i k => (i = 129 ∧ (k = 5 ∨ k = 18)) ∨ i = 137) g0 K g9 H locs → XX K 0 0 H locs 38 ls [] := by
        intro fu38
        induction fu38 with
        | zero => intro w38_5 g9 H locs ls h0; omega
        | succ fu38 ih38 =>
          intro w38_5 g9 H locs ls hm38 i38_0 i38_1 c38_129_5 hl hW
          have hG := i38_0
          refine q_iload hM dX12_repeats_38 (lv_at hl 5 rfl) ?_
          refine q_iload hM dX12_repeats_40 (lv_at hl 4 rfl) ?_
          refine q_iload_n hM dX12_repeats_42 (lv_at hl 2 rfl) ?_
          refine q_imul hM dX12_repeats_43 (fun z8093 hz8093 => ?_)
          first | have tz8093 := i_mulT hz8093 (rfl : z8085.toInt = z8085.toInt) (rfl : ti.toInt = ti.toInt) (by omega) (by omega) | skip
          have m9z8093 := i_mul9 hz8093 (by omega) (by omega) (by omega) (by omega)
          have ezz8093 : z8093.toInt = z8086.toInt := by rw [← hz8093, ← hz8086]
          refine q_icmp_ge (tgt := 74) hM dX12_repeats_44 (by decide) (rfl : w38_5.toInt = w38_5.toInt) (rfl : z8093.toInt = z8093.toInt) (fun h44 => ?_) (fun h44 => ?_)
          · refine q_aload_n hM dX12_repeats_74 (lv_at hl 0 rfl) ?_
            refine q_iload_n hM dX12_repeats_75 (lv_at hl 1 rfl) ?_
            refine q_iload hM dX12_repeats_76 (lv_at hl 4 rfl) ?_
            refine q_iload_n hM dX12_repeats_78 (lv_at hl 2 rfl) ?_
            refine q_imul hM dX12_repeats_79 (fun z8095 hz8095 => ?_)
            first | have tz8095 := i_mulT hz8095 (rfl : z8085.toInt = z8085.toInt) (rfl : ti.toInt = ti.toInt) (by omega) (by omega) | skip
            have m9z8095 := i_mul9 hz8095 (by omega) (by omega) (by omega) (by omega)
            have ezz8095 : z8095.toInt = z8086.toInt := by rw [← hz8095, ← hz8086]
            refine q_iadd hM dX12_repeats_80 (fun z8096 hz8096 => ?_)
            first | have tz8096 := i_addT hz8096 (rfl : fr.toInt = fr.toInt) (rfl : z8095.toInt = z8095.toInt) (by omega) (by omega) | skip
            refine w_put hM hW FP_X12_227 lb_129 (by omega) (Or.inl ⟨_, rfl⟩) rfl rfl dX12_repeats_81 (fun g8097 H locs hW e1 e2 => ?_)
            have f8098 : fld g8097 129 5 = .int bd := (e2.1 129 5 (by unfold Only; omega)).trans c38_129_5
            have f8099 : fld g8097 129 18 = .int z8096 := e1
            have hG := hG.put e1 e2 rF_129_18 (by decide) (by have := i_rng z8096; omega) (by have := i_rng z8096; omega)
            exact hE _ _ _ _ _ hW.1 ⟨bd, z8096, rfl, hW.2.1, hG, hW.2.2, f8098, f8099, (by omega), (by omega), (by omega)⟩ dX12_repeats_84
          · refine q_aload_n hM dX12_repeats_47 (lv_at hl 0 rfl) ?_
            refine w_get (v := .ref (ad 137)) hM hW FG_X12_37 lb_129 (rf_129_16 hW.2.1) dX12_repeats_48 ?_
            refine q_iload_n hM dX12_repeats_51 (lv_at hl 1 rfl) ?_
            refine q_iload hM dX12_repeats_52 (lv_at hl 5 rfl) ?_
            refine q_iadd hM dX12_repeats_54 (fun z8101 hz8101 => ?_)
            first | have tz8101 := i_addT hz8101 (rfl : fr.toInt = fr.toInt) (rfl : w38_5.toInt = w38_5.toInt) (by omega) (by omega) | skip
            refine q_aload_n hM dX12_repeats_55 (lv_at hl 0 rfl) ?_
            refine w_get (v := .ref (ad 137)) hM hW FG_X12_37 lb_129 (rf_129_16 hW.2.1) dX12_repeats_56 ?_
            refine q_iload_n hM dX12_repeats_59 (lv_at hl 1 rfl) ?_
            refine q_iload hM dX12_repeats_60 (lv_at hl 5 rfl) ?_
            refine q_iload hM dX12_repeats_62 (lv_at hl 4 rfl) ?_
            refine q_irem hM (by intro e9; have e8 := congrArg Int32.toInt e9; have := kc_0; have e7 := kc_0; omega) dX12_repeats_64 (fun z8102 hz8102 => ?_)
            first | have tz8102 := i_remT hz8102 (rfl : w38_5.toInt = w38_5.toInt) (rfl : z8085.toInt = z8085.toInt) (by omega) (by omega) | skip
            have rm := i_remN hz8102 (by omega) (by omega)
            refine q_iadd hM dX12_repeats_65 (fun z8103 hz8103 => ?_)
            first | have tz8103 := i_addT hz8103 (rfl : fr.toInt = fr.toInt) (rfl : z8102.toInt = z8102.toInt) (by omega) (by omega) | skip
            refine w_iald hM hW lb_137 (i_in (by omega) (by omega)) dX12_repeats_66 ?_
            refine q_top (fun y8104 hy8104 => ?_)
            have by8104 := hG.a hy8104 rA_137
            refine w_iast hM hW lb_137 (by omega) (i_in (by omega) (by omega)) dX12_repeats_67 (fun g8105 H locs hW e1 e2 => ?_)
            have f8106 : fld g8105 129 5 = .int bd := (e2.1 129 5 (by unfold Only; omega)).trans c38_129_5
            have hG := hG.st e1 e2 rA_137 (by have := i_rng y8104; omega) (by have := i_rng y8104; omega)
            refine q_iinc (lv9 := fun z8107 => [(5, .int z8107), (0, .ref (ad 129)), (1, .int fr), (2, .int ti), (3, .int wh), (4, .int z8085)]) hM dX12_repeats_68 hl (kq := 5) rfl (by decide) (fun _ => rfl) (fun z8107 ls hz8107 hl => ?_)
            first | have tz8107 := i_addT hz8107 (rfl : w38_5.toInt = w38_5.toInt) (kc_1 : (Int32.ofInt 1).toInt = 1) (by omega) (by omega) | skip
            refine q_goto (tgt := 38) hM dX12_repeats_71 (by decide) ?_
            exact ih38 z8107 _ _ _ _ (by omega) hG (by omega) f8106 (lv_sub hl [1, 2, 3, 4, 5, 0] rfl) hW
      exact L38 _ z8085 _ _ _ _ (Nat.lt_succ_self _) hG (by omega) f8083 (lv_sub hl [2, 3, 4, 5, 1, 0] rfl) hW
    · exact hE _ _ _ _ _ hW.1 ⟨bd, nm, rfl, hW.2.1, hG, hW.2.2, f8083, f8084, (by omega), (by omega), (by omega)⟩ dX12_repeats_33
  · refine q_aload_n hM dX12_repeats_19 (lv_at hl 1 rfl) ?_
    refine q_bipush (v := (6 : Int32)) hM dX12_repeats_20 (by decide) ?_
    refine q_iload_n hM dX12_repeats_22 (lv_at hl 4 rfl) ?_
    refine q_callV (As := [.int (6 : Int32), .int wh]) (rest := []) hM hW.1 hR hC myX12_wrongs (kAW (v_5_9 (List.mem_of_getElem? (i := 11) rfl)) rfl) (rfl : vwCl[12]? = some (RX12, TX12, 86)) rfl lb_129.1 (shO hW.2.1 lb_129) (a_X12_wrongs _ _ cA ad g0 (6 : Int32) wh bd hW.2.1 hG f8083 (by have := kc_6; omega) (by have := kc_6; omega) (by have := kc_6; omega) (by have := kc_6; omega)) ⟨by decide, by decide⟩ rfl rfl hl.1 (Nat.le_of_ble_eq_true rfl) dX12_repeats_23 (fun v g8113 H locs hp hW1 => ?_)
    obtain ⟨v8110, rfl, hs1, hG, hf1, q8111, e8112⟩ := hp
    have f8114 : fld g8113 129 18 = .int nm := (hf1.1 129 18 (by omega)).trans f8084
    have hW : WS ad cA (fun i k => (i = 129 ∧ (k = 5 ∨ k = 18)) ∨ i = 137) g0 K g8113 H locs := ⟨hW1, hs1, hW.2.2.tr hf1 (fun i k h => (Or.inl (by omega)))⟩
    refine q_aload_n hM dX12_repeats_26 (lv_at hl 1 rfl) ?_
    refine q_callV (As := []) (rest := []) hM hW.1 hR hC myX12_isGood (kAW (v_5_8 (List.mem_of_getElem? (i := 11) rfl)) rfl) (rfl : vwCl[12]? = some (RX12, TX12, 86)) rfl lb_129.1 (shO hW.2.1 lb_129) (a_X12_isGood _ _ cA ad g8113 v8110 hW.2.1 hG q8111) ⟨by decide, by decide⟩ rfl rfl hl.1 (Nat.le_of_ble_eq_true rfl) dX12_repeats_27 (fun v g8116 H locs hp hW1 => ?_)
    obtain ⟨r8115, rfl, hr8115, rfl⟩ := hp
    have hW : WS ad cA (fun i k => (i = 129 ∧ (k = 5 ∨ k = 18)) ∨ i = 137) g0 K g8113 H locs := ⟨hW1, hW.2.1, hW.2.2⟩
    refine q_if_ne (tgt := 34) hM dX12_repeats_30 (by decide) (rfl : r8115.toInt = r8115.toInt) (fun h30 => ?_) (fun h30 => ?_)
    · refine q_iload hM dX12_repeats_34 (lv_at hl 0 rfl) ?_
      refine q_istore (lv9 := [(5, .int z8085), (4, .int z8085), (0, .ref (ad 129)), (1, .int fr), (2, .int ti), (3, .int wh)]) hM dX12_repeats_36 hl (by decide) rfl (fun ls hl => ?_)
      have L38 : ∀ (fu38 : Nat) (w38_5 : Int32) (g9 : Nat → va_E) (H : Heap) (locs : List Loc) (ls : Array Slot), (48 - w38_5.toInt).toNat < fu38 → (Rng g9) → (0 ≤ w38_5.toInt) → (fld g9 129 5 = .int v8110) → lv_has ls 6 [(0, .ref (ad 129)), (1, .int fr), (2, .int ti), (3, .int wh), (4, .int z8085), (5, .int w38_5)] → WS ad cA (fun i k => (i = 129 ∧ (k = 5 ∨ k = 18)) ∨ i = 137) g0 K g9 H locs → XX K 0 0 H locs 38 ls [] := by
        intro fu38
        induction fu38 with
        | zero => intro w38_5 g9 H locs ls h0; omega
        | succ fu38 ih38 =>
          intro w38_5 g9 H locs ls hm38 i38_0 i38_1 c38_129_5 hl hW
          have hG := i38_0
          refine q_iload hM dX12_repeats_38 (lv_at hl 5 rfl) ?_
          refine q_iload hM dX12_repeats_40 (lv_at hl 4 rfl) ?_
          refine q_iload_n hM dX12_repeats_42 (lv_at hl 2 rfl) ?_
          refine q_imul hM dX12_repeats_43 (fun z8119 hz8119 => ?_)
          first | have tz8119 := i_mulT hz8119 (rfl : z8085.toInt = z8085.toInt) (rfl : ti.toInt = ti.toInt) (by omega) (by omega) | skip
          have m9z8119 := i_mul9 hz8119 (by omega) (by omega) (by omega) (by omega)
          have ezz8119 : z8119.toInt = z8086.toInt := by rw [← hz8119, ← hz8086]
          refine q_icmp_ge (tgt := 74) hM dX12_repeats_44 (by decide) (rfl : w38_5.toInt = w38_5.toInt) (rfl : z8119.toInt = z8119.toInt) (fun h44 => ?_) (fun h44 => ?_)
          · refine q_aload_n hM dX12_repeats_74 (lv_at hl 0 rfl) ?_
            refine q_iload_n hM dX12_repeats_75 (lv_at hl 1 rfl) ?_
            refine q_iload hM dX12_repeats_76 (lv_at hl 4 rfl) ?_
            refine q_iload_n hM dX12_repeats_78 (lv_at hl 2 rfl) ?_
            refine q_imul hM dX12_repeats_79 (fun z8121 hz8121 => ?_)
            first | have tz8121 := i_mulT hz8121 (rfl : z8085.toInt = z8085.toInt) (rfl : ti.toInt = ti.toInt) (by omega) (by omega) | skip
            have m9z8121 := i_mul9 hz8121 (by omega) (by omega) (by omega) (by omega)
            have ezz8121 : z8121.toInt = z8086.toInt := by rw [← hz8121, ← hz8086]
            refine q_iadd hM dX12_repeats_80 (fun z8122 hz8122 => ?_)
            first | have tz8122 := i_addT hz8122 (rfl : fr.toInt = fr.toInt) (rfl : z8121.toInt = z8121.toInt) (by omega) (by omega) | skip
            refine w_put hM hW FP_X12_227 lb_129 (by omega) (Or.inl ⟨_, rfl⟩) rfl rfl dX12_repeats_81 (fun g8123 H locs hW e1 e2 => ?_)
            have f8124 : fld g8123 129 5 = .int v8110 := (e2.1 129 5 (by unfold Only; omega)).trans c38_129_5
            have f8125 : fld g8123 129 18 = .int z8122 := e1
            have hG := hG.put e1 e2 rF_129_18 (by decide) (by have := i_rng z8122; omega) (by have := i_rng z8122; omega)
            exact hE _ _ _ _ _ hW.1 ⟨v8110, z8122, rfl, hW.2.1, hG, hW.2.2, f8124, f8125, (by omega), (by omega), (by omega)⟩ dX12_repeats_84
          · refine q_aload_n hM dX12_repeats_47 (lv_at hl 0 rfl) ?_
            refine w_get (v := .ref (ad 137)) hM hW FG_X12_37 lb_129 (rf_129_16 hW.2.1) dX12_repeats_48 ?_
            refine q_iload_n hM dX12_repeats_51 (lv_at hl 1 rfl) ?_
            refine q_iload hM dX12_repeats_52 (lv_at hl 5 rfl) ?_
            refine q_iadd hM dX12_repeats_54 (fun z8127 hz8127 => ?_)
            first | have tz8127 := i_addT hz8127 (rfl : fr.toInt = fr.toInt) (rfl : w38_5.toInt = w38_5.toInt) (by omega) (by omega) | skip
            refine q_aload_n hM dX12_repeats_55 (lv_at hl 0 rfl) ?_
            refine w_get (v := .ref (ad 137)) hM hW FG_X12_37 lb_129 (rf_129_16 hW.2.1) dX12_repeats_56 ?_
            refine q_iload_n hM dX12_repeats_59 (lv_at hl 1 rfl) ?_
            refine q_iload hM dX12_repeats_60 (lv_at hl 5 rfl) ?_
            refine q_iload hM dX12_repeats_62 (lv_at hl 4 rfl) ?_
            refine q_irem hM (by intro e9; have e8 := congrArg Int32.toInt e9; have := kc_0; have e7 := kc_0; omega) dX12_repeats_64 (fun z8128 hz8128 => ?_)
            first | have tz8128 := i_remT hz8128 (rfl : w38_5.toInt = w38_5.toInt) (rfl : z8085.toInt = z8085.toInt) (by omega) (by omega) | skip
            have rm := i_remN hz8128 (by omega) (by omega)
            refine q_iadd hM dX12_repeats_65 (fun z8129 hz8129 => ?_)
            first | have tz8129 := i_addT hz8129 (rfl : fr.toInt = fr.toInt) (rfl : z8128.toInt = z8128.toInt) (by omega) (by omega) | skip
            refine w_iald hM hW lb_137 (i_in (by omega) (by omega)) dX12_repeats_66 ?_
            refine q_top (fun y8130 hy8130 => ?_)
            have by8130 := hG.a hy8130 rA_137
            refine w_iast hM hW lb_137 (by omega) (i_in (by omega) (by omega)) dX12_repeats_67 (fun g8131 H locs hW e1 e2 => ?_)
            have f8132 : fld g8131 129 5 = .int v8110 := (e2.1 129 5 (by unfold Only; omega)).trans c38_129_5
            have hG := hG.st e1 e2 rA_137 (by have := i_rng y8130; omega) (by have := i_rng y8130; omega)
            refine q_iinc (lv9 := fun z8133 => [(5, .int z8133), (0, .ref (ad 129)), (1, .int fr), (2, .int ti), (3, .int wh), (4, .int z8085)]) hM dX12_repeats_68 hl (kq := 5) rfl (by decide) (fun _ => rfl) (fun z8133 ls hz8133 hl => ?_)
            first | have tz8133 := i_addT hz8133 (rfl : w38_5.toInt = w38_5.toInt) (kc_1 : (Int32.ofInt 1).toInt = 1) (by omega) (by omega) | skip
            refine q_goto (tgt := 38) hM dX12_repeats_71 (by decide) ?_
            exact ih38 z8133 _ _ _ _ (by omega) hG (by omega) f8132 (lv_sub hl [1, 2, 3, 4, 5, 0] rfl) hW
      exact L38 _ z8085 _ _ _ _ (Nat.lt_succ_self _) hG (by omega) q8111 (lv_sub hl [2, 3, 4, 5, 1, 0] rfl) hW
    · exact hE _ _ _ _ _ hW.1 ⟨v8110, nm, rfl, hW.2.1, hG, hW.2.2, q8111, f8114, (by omega), (by omega), (by omega)⟩ dX12_repeats_33
