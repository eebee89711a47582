theorem has_r0m {r : Int32} {n : Nat} (h : (r.toInt = 1 ∧ bt 0 n = true) ∨ (r.toInt = 0 ∧ bt 0 n = false)) : r.toInt = 0 := by
  rcases h with h | h
  · rw [b_0] at h
    exact absurd h.2 (by decide)
  · exact h.1
theorem or_0 {x z : Int32} (h : x ||| 0 = z) : z.toInt = x.toInt := by
  have e : x ||| 0 = x := b_ext (fun i _ => by rw [b_or, b_0]; simp)
  rw [← h, e]
theorem i_and_le {x y z : Int32} (h : x &&& y = z) (hx : 0 ≤ x.toInt) (hy : 0 ≤ y.toInt) : 0 ≤ z.toInt ∧ z.toInt ≤ x.toInt ∧ z.toInt ≤ y.toInt := by
  have rx := i_rng x
  have ry := i_rng y
  obtain ⟨a, ha⟩ : ∃ a : Nat, x.toInt = a := ⟨x.toInt.toNat, by omega⟩
  obtain ⟨b, hb⟩ : ∃ b : Nat, y.toInt = b := ⟨y.toInt.toNat, by omega⟩
  have ex := nI_k ha (by omega)
  have ey := nI_k hb (by omega)
  have e : nI a &&& nI b = nI (a &&& b) := by
    apply Int32.toBitVec_inj.1
    show BitVec.ofNat 32 a &&& BitVec.ofNat 32 b = BitVec.ofNat 32 (a &&& b)
    apply BitVec.eq_of_getLsbD_eq
    intro i hi
    simp [hi]
  have h1 : a &&& b ≤ a := Nat.and_le_left
  have h2 : a &&& b ≤ b := Nat.and_le_right
  rw [ex, ey, e] at h
  rw [← h, nI_toInt (by omega)]
  omega
theorem i_subW {x y z : Int32} (h : x - y = z) {a b : Int} (hx : x.toInt = a) (hy : y.toInt = b) : (z.toInt = a - b ∨ z.toInt = a - b + 4294967296 ∨ z.toInt = a - b - 4294967296) ∧ -2147483648 ≤ z.toInt ∧ z.toInt ≤ 2147483647 ∧ -2147483648 ≤ a ∧ a ≤ 2147483647 := by
  have rx := i_rng x
  have ry := i_rng y
  have rz := i_rng z
  refine ⟨?_, rz.1, rz.2, by omega, by omega⟩
  rw [← h, Int32.toInt_sub, Int.bmod_def]
  omega
theorem tz0 {a t z w : Int32} (ht : t.toInt = 0) (h1 : t ^^^ (-1) = z) (h2 : a &&& z = w) (ha : 1 ≤ a.toInt) (hw : w.toInt = 0) : False := by
  have h0 : t = 0 := Int32.toInt_inj.mp (ht.trans kc_0.symm)
  have e : a &&& ((0 : Int32) ^^^ (-1)) = a := b_ext (fun i hi => by rw [b_and, b_xor, b_0, b_m1 i hi]; simp)
  rw [← h2, ← h1, h0, e] at hw
  omega
theorem bits8_0 : ∀ k : Nat, k < 256 → k ≠ 0 → ∃ q, q < 8 ∧ bt (nI k) q = true := by decide +kernel
theorem bits8 {s : Int32} (h1 : 1 ≤ s.toInt) (h2 : s.toInt ≤ 255) (h : ∀ q : Nat, q < 8 → bt s q = false) : False := by
  obtain ⟨a, ha⟩ : ∃ a : Nat, s.toInt = a := ⟨s.toInt.toNat, by omega⟩
  obtain ⟨q, h3, h4⟩ := bits8_0 a (by omega) (by omega)
  rw [← nI_k ha (by omega), h q h3] at h4
  exact absurd h4 (by decide)

theorem dX12_isTold_0 : decode cX12_isTold 0 = .ok (.iload_n 1, 1) := by decide +kernel
theorem dX12_isTold_1 : decode cX12_isTold 1 = .ok (.i2l, 1) := by decide +kernel
theorem dX12_isTold_2 : decode cX12_isTold 2 = .ok (.lconst 0, 1) := by decide +kernel
theorem dX12_isTold_3 : decode cX12_isTold 3 = .ok (.ldc2_w 194, 3) := by decide +kernel
theorem dX12_isTold_6 : decode cX12_isTold 6 = .ok (.invokestatic 190, 3) := by decide +kernel
theorem dX12_isTold_9 : decode cX12_isTold 9 = .ok (.ifCond .eq 16, 3) := by decide +kernel
theorem dX12_isTold_12 : decode cX12_isTold 12 = .ok (.aload_n 0, 1) := by decide +kernel
theorem dX12_isTold_13 : decode cX12_isTold 13 = .ok (.getfield 17, 3) := by decide +kernel
theorem dX12_isTold_16 : decode cX12_isTold 16 = .ok (.iload_n 1, 1) := by decide +kernel
theorem dX12_isTold_17 : decode cX12_isTold 17 = .ok (.baload, 1) := by decide +kernel
theorem dX12_isTold_18 : decode cX12_isTold 18 = .ok (.ifCond .eq 7, 3) := by decide +kernel
theorem dX12_isTold_25 : decode cX12_isTold 25 = .ok (.iconst 0, 1) := by decide +kernel
theorem dX12_isTold_26 : decode cX12_isTold 26 = .ok (.ireturn, 1) := by decide +kernel
theorem myX12_lies : MS yX12_lies cX12_lies 6 (some FieldType.boolean) 3 := ⟨kAW (v_5_5 (List.mem_of_getElem? (i := 0) rfl)) rfl, kAW (v_0_0 (List.mem_of_getElem? (i := 13) rfl)) rfl, kAW (v_5_4 (List.mem_of_getElem? (i := 15) rfl)) rfl, by decide, by decide, by decide +kernel⟩
theorem FG_X12_17 : FG RX12 17 12 86 10 := ⟨RX12, TX12, rfl, wX12, by decide, kAW (v_4_3 (List.mem_of_getElem? (i := 7) rfl)) rfl, rfl⟩
set_option maxRecDepth 100000 in
set_option maxHeartbeats 4000000 in
theorem c_X12_isTold (l : Launch) (D : va_G) (cA : Nat → ClassId) (ad : Nat → Nat) (g0 : Nat → va_E) (i : Int32) (hSh : Shp ad cA g0) (hF : (∀ i k, 129 ≤ i → fld g0 i k = fld (gF ad cA) i k) ∧ ∀ i, 129 ≤ i → arI g0 i = arI (gF ad cA) i) : CT l NN ad cA D yX12_isTold cX12_isTold 2 (some FieldType.boolean) (1, 25) [.ref (ad 129), .int i] g0 (PU g0 (fun r => r.toInt = 0)) := by
  refine q_enterZ (by decide) (Nat.le_of_ble_eq_true rfl) (fun K H locs ls _ _ hM hW0 hR hC hE hl => ?_)
  have hl : lv_has ls 2 [(0, .ref (ad 129)), (1, .int i)] := hl
  have hW : WS ad cA (fun i k => False) g0 K g0 H locs := ⟨hW0, hSh, FR.rf⟩
  refine q_iload_n hM dX12_isTold_0 (lv_at hl 1 rfl) ?_
  refine q_i2l hM dX12_isTold_1 ?_
  have := l_i2l i
  refine q_lconst (v := 0) hM dX12_isTold_2 (by decide) ?_
  have := kl_0
  refine q_ldc2 (v := 11) hM (kAW (v_5_4 (List.mem_of_getElem? (i := 13) rfl)) rfl) dX12_isTold_3 ?_
  have := kl_11
  refine q_callS (As := [.long i.toInt64, .long (0 : Int64), .long (11 : Int64)]) (rest := []) hM hW.1 hR hC myX12_lies (kAW (v_5_4 (List.mem_of_getElem? (i := 14) rfl)) rfl) (c_X12_lies _ _ cA ad g0 i.toInt64 (0 : Int64) (11 : Int64) hW.2.1) ⟨by decide, by decide⟩ rfl rfl hl.1 (Nat.le_of_ble_eq_true rfl) dX12_isTold_6 (fun v g472 H locs hp hW1 => ?_)
  obtain ⟨r471, rfl, hr471, rfl⟩ := hp
  have hW : WS ad cA (fun i k => False) g0 K g0 H locs := ⟨hW1, hW.2.1, hW.2.2⟩
  refine q_if_eq (tgt := 25) hM dX12_isTold_9 (by decide) (rfl : r471.toInt = r471.toInt) (fun h9 => ?_) (fun h9 => ?_)
  · refine q_iconst (v := (0 : Int32)) hM dX12_isTold_25 (by decide) ?_
    exact hE _ _ _ _ _ _ hW.1 nz_0 ⟨_, rfl, (by have := kc_0; exact kc_0), rfl⟩ dX12_isTold_26
  · refine q_aload_n hM dX12_isTold_12 (lv_at hl 0 rfl) ?_
    refine w_get (v := .ref (ad 131)) hM hW FG_X12_17 lb_129 (rf_129_10 hW.2.1) dX12_isTold_13 ?_
    refine q_iload_n hM dX12_isTold_16 (lv_at hl 1 rfl) ?_
    refine w_zald hM hW lb_131 (i_in (by omega) (by omega)) dX12_isTold_17 ?_
    refine q_top (fun y473 hy473 => ?_)
    have ky473 : y473.toInt = 0 := by rw [hy473, ((hW.2.2.2.1 131 (fun h => h)).trans ((hF.2 131 (by decide)).trans rfl : arI g0 131 = fun _ => 0))]; rfl
    refine q_if_eq (tgt := 25) hM dX12_isTold_18 (by decide) (ky473 : y473.toInt = 0) (fun h18 => ?_) (fun h18 => ?_)
    · refine q_iconst (v := (0 : Int32)) hM dX12_isTold_25 (by decide) ?_
      exact hE _ _ _ _ _ _ hW.1 nz_0 ⟨_, rfl, (by have := kc_0; exact kc_0), rfl⟩ dX12_isTold_26
    · omega

theorem dX12_isThere_0 : decode cX12_isThere 0 = .ok (.iload_n 1, 1) := by decide +kernel
theorem dX12_isThere_1 : decode cX12_isThere 1 = .ok (.i2l, 1) := by decide +kernel
theorem dX12_isThere_2 : decode cX12_isThere 2 = .ok (.lconst 0, 1) := by decide +kernel
theorem dX12_isThere_3 : decode cX12_isThere 3 = .ok (.ldc2_w 225, 3) := by decide +kernel
theorem dX12_isThere_6 : decode cX12_isThere 6 = .ok (.invokestatic 190, 3) := by decide +kernel
theorem dX12_isThere_9 : decode cX12_isThere 9 = .ok (.ifCond .eq 16, 3) := by decide +kernel
theorem dX12_isThere_12 : decode cX12_isThere 12 = .ok (.aload_n 0, 1) := by decide +kernel
theorem dX12_isThere_13 : decode cX12_isThere 13 = .ok (.getfield 28, 3) := by decide +kernel
theorem dX12_isThere_16 : decode cX12_isThere 16 = .ok (.iload_n 1, 1) := by decide +kernel
theorem dX12_isThere_17 : decode cX12_isThere 17 = .ok (.baload, 1) := by decide +kernel
theorem dX12_isThere_18 : decode cX12_isThere 18 = .ok (.ifCond .eq 7, 3) := by decide +kernel
theorem dX12_isThere_25 : decode cX12_isThere 25 = .ok (.iconst 0, 1) := by decide +kernel
theorem dX12_isThere_26 : decode cX12_isThere 26 = .ok (.ireturn, 1) := by decide +kernel
theorem FG_X12_28 : FG RX12 28 12 86 13 := ⟨RX12, TX12, rfl, wX12, by decide, kAW (v_4_3 (List.mem_of_getElem? (i := 10) rfl)) rfl, rfl⟩
set_option maxRecDepth 100000 in
set_option maxHeartbeats 4000000 in
theorem c_X12_isThere (l : Launch) (D : va_G) (cA : Nat → ClassId) (ad : Nat → Nat) (g0 : Nat → va_E) (i : Int32) (hSh : Shp ad cA g0) (hF : (∀ i k, 129 ≤ i → fld g0 i k = fld (gF ad cA) i k) ∧ ∀ i, 129 ≤ i → arI g0 i = arI (gF ad cA) i) : CT l NN ad cA D yX12_isThere cX12_isThere 2 (some FieldType.boolean) (1, 25) [.ref (ad 129), .int i] g0 (PU g0 (fun r => r.toInt = 0)) := by
  refine q_enterZ (by decide) (Nat.le_of_ble_eq_true rfl) (fun K H locs ls _ _ hM hW0 hR hC hE hl => ?_)
  have hl : lv_has ls 2 [(0, .ref (ad 129)), (1, .int i)] := hl
  have hW : WS ad cA (fun i k => False) g0 K g0 H locs := ⟨hW0, hSh, FR.rf⟩
  refine q_iload_n hM dX12_isThere_0 (lv_at hl 1 rfl) ?_
  refine q_i2l hM dX12_isThere_1 ?_
  have := l_i2l i
  refine q_lconst (v := 0) hM dX12_isThere_2 (by decide) ?_
  have := kl_0
  refine q_ldc2 (v := 5) hM (kAW (v_5_8 (List.mem_of_getElem? (i := 5) rfl)) rfl) dX12_isThere_3 ?_
  have := kl_5
  refine q_callS (As := [.long i.toInt64, .long (0 : Int64), .long (5 : Int64)]) (rest := []) hM hW.1 hR hC myX12_lies (kAW (v_5_4 (List.mem_of_getElem? (i := 14) rfl)) rfl) (c_X12_lies _ _ cA ad g0 i.toInt64 (0 : Int64) (5 : Int64) hW.2.1) ⟨by decide, by decide⟩ rfl rfl hl.1 (Nat.le_of_ble_eq_true rfl) dX12_isThere_6 (fun v g475 H locs hp hW1 => ?_)
  obtain ⟨r474, rfl, hr474, rfl⟩ := hp
  have hW : WS ad cA (fun i k => False) g0 K g0 H locs := ⟨hW1, hW.2.1, hW.2.2⟩
  refine q_if_eq (tgt := 25) hM dX12_isThere_9 (by decide) (rfl : r474.toInt = r474.toInt) (fun h9 => ?_) (fun h9 => ?_)
  · refine q_iconst (v := (0 : Int32)) hM dX12_isThere_25 (by decide) ?_
    exact hE _ _ _ _ _ _ hW.1 nz_0 ⟨_, rfl, (by have := kc_0; exact kc_0), rfl⟩ dX12_isThere_26
  · refine q_aload_n hM dX12_isThere_12 (lv_at hl 0 rfl) ?_
    refine w_get (v := .ref (ad 134)) hM hW FG_X12_28 lb_129 (rf_129_13 hW.2.1) dX12_isThere_13 ?_
    refine q_iload_n hM dX12_isThere_16 (lv_at hl 1 rfl) ?_
    refine w_zald hM hW lb_134 (i_in (by omega) (by omega)) dX12_isThere_17 ?_
    refine q_top (fun y476 hy476 => ?_)
    have ky476 : y476.toInt = 0 := by rw [hy476, ((hW.2.2.2.1 134 (fun h => h)).trans ((hF.2 134 (by decide)).trans rfl : arI g0 134 = fun _ => 0))]; rfl
    refine q_if_eq (tgt := 25) hM dX12_isThere_18 (by decide) (ky476 : y476.toInt = 0) (fun h18 => ?_) (fun h18 => ?_)
    · refine q_iconst (v := (0 : Int32)) hM dX12_isThere_25 (by decide) ?_
      exact hE _ _ _ _ _ _ hW.1 nz_0 ⟨_, rfl, (by have := kc_0; exact kc_0), rfl⟩ dX12_isThere_26
    · omega

theorem dX12_isThat_0 : decode cX12_isThat 0 = .ok (.iload_n 1, 1) := by decide +kernel
theorem dX12_isThat_1 : decode cX12_isThat 1 = .ok (.i2l, 1) := by decide +kernel
theorem dX12_isThat_2 : decode cX12_isThat 2 = .ok (.lconst 0, 1) := by decide +kernel
theorem dX12_isThat_3 : decode cX12_isThat 3 = .ok (.ldc2_w 411, 3) := by decide +kernel
theorem dX12_isThat_6 : decode cX12_isThat 6 = .ok (.invokestatic 190, 3) := by decide +kernel
theorem dX12_isThat_9 : decode cX12_isThat 9 = .ok (.ifCond .eq 16, 3) := by decide +kernel
theorem dX12_isThat_12 : decode cX12_isThat 12 = .ok (.aload_n 0, 1) := by decide +kernel
theorem dX12_isThat_13 : decode cX12_isThat 13 = .ok (.getfield 100, 3) := by decide +kernel
theorem dX12_isThat_16 : decode cX12_isThat 16 = .ok (.iload_n 1, 1) := by decide +kernel
theorem dX12_isThat_17 : decode cX12_isThat 17 = .ok (.baload, 1) := by decide +kernel
theorem dX12_isThat_18 : decode cX12_isThat 18 = .ok (.ifCond .eq 7, 3) := by decide +kernel
theorem dX12_isThat_25 : decode cX12_isThat 25 = .ok (.iconst 0, 1) := by decide +kernel
theorem dX12_isThat_26 : decode cX12_isThat 26 = .ok (.ireturn, 1) := by decide +kernel
theorem FG_X12_100 : FG RX12 100 12 86 52 := ⟨RX12, TX12, rfl, wX12, by decide, kAW (v_4_6 (List.mem_of_getElem? (i := 1) rfl)) rfl, rfl⟩
set_option maxRecDepth 100000 in
set_option maxHeartbeats 4000000 in
theorem c_X12_isThat (l : Launch) (D : va_G) (cA : Nat → ClassId) (ad : Nat → Nat) (g0 : Nat → va_E) (i : Int32) (hSh : Shp ad cA g0) (hF : (∀ i k, 129 ≤ i → fld g0 i k = fld (gF ad cA) i k) ∧ ∀ i, 129 ≤ i → arI g0 i = arI (gF ad cA) i) : CT l NN ad cA D yX12_isThat cX12_isThat 2 (some FieldType.boolean) (1, 25) [.ref (ad 129), .int i] g0 (PU g0 (fun r => r.toInt = 0)) := by
  refine q_enterZ (by decide) (Nat.le_of_ble_eq_true rfl) (fun K H locs ls _ _ hM hW0 hR hC hE hl => ?_)
  have hl : lv_has ls 2 [(0, .ref (ad 129)), (1, .int i)] := hl
  have hW : WS ad cA (fun i k => False) g0 K g0 H locs := ⟨hW0, hSh, FR.rf⟩
  refine q_iload_n hM dX12_isThat_0 (lv_at hl 1 rfl) ?_
  refine q_i2l hM dX12_isThat_1 ?_
  have := l_i2l i
  refine q_lconst (v := 0) hM dX12_isThat_2 (by decide) ?_
  have := kl_0
  refine q_ldc2 (v := 7) hM (kAW (v_6_2 (List.mem_of_getElem? (i := 3) rfl)) rfl) dX12_isThat_3 ?_
  have := kl_7
  refine q_callS (As := [.long i.toInt64, .long (0 : Int64), .long (7 : Int64)]) (rest := []) hM hW.1 hR hC myX12_lies (kAW (v_5_4 (List.mem_of_getElem? (i := 14) rfl)) rfl) (c_X12_lies _ _ cA ad g0 i.toInt64 (0 : Int64) (7 : Int64) hW.2.1) ⟨by decide, by decide⟩ rfl rfl hl.1 (Nat.le_of_ble_eq_true rfl) dX12_isThat_6 (fun v g478 H locs hp hW1 => ?_)
  obtain ⟨r477, rfl, hr477, rfl⟩ := hp
  have hW : WS ad cA (fun i k => False) g0 K g0 H locs := ⟨hW1, hW.2.1, hW.2.2⟩
  refine q_if_eq (tgt := 25) hM dX12_isThat_9 (by decide) (rfl : r477.toInt = r477.toInt) (fun h9 => ?_) (fun h9 => ?_)
  · refine q_iconst (v := (0 : Int32)) hM dX12_isThat_25 (by decide) ?_
    exact hE _ _ _ _ _ _ hW.1 nz_0 ⟨_, rfl, (by have := kc_0; exact kc_0), rfl⟩ dX12_isThat_26
  · refine q_aload_n hM dX12_isThat_12 (lv_at hl 0 rfl) ?_
    refine w_get (v := .ref (ad 158)) hM hW FG_X12_100 lb_129 (rf_129_52 hW.2.1) dX12_isThat_13 ?_
    refine q_iload_n hM dX12_isThat_16 (lv_at hl 1 rfl) ?_
    refine w_zald hM hW lb_158 (i_in (by omega) (by omega)) dX12_isThat_17 ?_
    refine q_top (fun y479 hy479 => ?_)
    have ky479 : y479.toInt = 0 := by rw [hy479, ((hW.2.2.2.1 158 (fun h => h)).trans ((hF.2 158 (by decide)).trans rfl : arI g0 158 = fun _ => 0))]; rfl
    refine q_if_eq (tgt := 25) hM dX12_isThat_18 (by decide) (ky479 : y479.toInt = 0) (fun h18 => ?_) (fun h18 => ?_)
    · refine q_iconst (v := (0 : Int32)) hM dX12_isThat_25 (by decide) ?_
      exact hE _ _ _ _ _ _ hW.1 nz_0 ⟨_, rfl, (by have := kc_0; exact kc_0), rfl⟩ dX12_isThat_26
    · omega

theorem dX12_push_0 : decode cX12_push 0 = .ok (.bipush 24, 2) := by decide +kernel
theorem dX12_push_2 : decode cX12_push 2 = .ok (.istore_n 2, 1) := by decide +kernel
theorem dX12_push_3 : decode cX12_push 3 = .ok (.iload_n 2, 1) := by decide +kernel
theorem dX12_push_4 : decode cX12_push 4 = .ok (.ifCond .lt 32, 3) := by decide +kernel
theorem dX12_push_7 : decode cX12_push 7 = .ok (.aload_n 0, 1) := by decide +kernel
theorem dX12_push_8 : decode cX12_push 8 = .ok (.getfield 7, 3) := by decide +kernel
theorem dX12_push_11 : decode cX12_push 11 = .ok (.aload_n 0, 1) := by decide +kernel
theorem dX12_push_12 : decode cX12_push 12 = .ok (.getfield 166, 3) := by decide +kernel
theorem dX12_push_15 : decode cX12_push 15 = .ok (.iload_n 1, 1) := by decide +kernel
theorem dX12_push_16 : decode cX12_push 16 = .ok (.iload_n 2, 1) := by decide +kernel
theorem dX12_push_17 : decode cX12_push 17 = .ok (.ishr, 1) := by decide +kernel
theorem dX12_push_18 : decode cX12_push 18 = .ok (.i2b, 1) := by decide +kernel
theorem dX12_push_19 : decode cX12_push 19 = .ok (.bastore, 1) := by decide +kernel
theorem dX12_push_20 : decode cX12_push 20 = .ok (.aload_n 0, 1) := by decide +kernel
theorem dX12_push_21 : decode cX12_push 21 = .ok (.dup, 1) := by decide +kernel
theorem dX12_push_22 : decode cX12_push 22 = .ok (.getfield 166, 3) := by decide +kernel
theorem dX12_push_25 : decode cX12_push 25 = .ok (.iconst 1, 1) := by decide +kernel
theorem dX12_push_26 : decode cX12_push 26 = .ok (.iadd, 1) := by decide +kernel
theorem dX12_push_27 : decode cX12_push 27 = .ok (.putfield 166, 3) := by decide +kernel
theorem dX12_push_30 : decode cX12_push 30 = .ok (.iinc 2 (-8), 3) := by decide +kernel
theorem dX12_push_33 : decode cX12_push 33 = .ok (.goto (-30), 3) := by decide +kernel
theorem dX12_push_36 : decode cX12_push 36 = .ok (.return_, 1) := by decide +kernel
theorem FG_X12_7 : FG RX12 7 12 86 0 := ⟨RX12, TX12, rfl, wX12, by decide, kAW (v_4_2 (List.mem_of_getElem? (i := 13) rfl)) rfl, rfl⟩
theorem FG_X12_166 : FG RX12 166 12 86 1 := ⟨RX12, TX12, rfl, wX12, by decide, kAW (v_4_2 (List.mem_of_getElem? (i := 14) rfl)) rfl, rfl⟩
theorem FP_X12_166 : FPX RX12 166 12 86 1 .int := ⟨⟨RX12, TX12, tyX12, rfl, wX12, by decide, kAW (v_4_2 (List.mem_of_getElem? (i := 14) rfl)) rfl, rfl, tyX12_ok, nmX12, by decide +kernel, rfl⟩, by decide +kernel⟩
set_option maxRecDepth 100000 in
set_option maxHeartbeats 4000000 in
theorem c_X12_push (l : Launch) (D : va_G) (cA : Nat → ClassId) (ad : Nat → Nat) (g0 : Nat → va_E) (v9 s : Int32) (hSh : Shp ad cA g0) (hs : fld g0 129 1 = .int s) (hs0 : 0 ≤ s.toInt) (hs1 : s.toInt ≤ 256) : CT l NN ad cA D yX12_push cX12_push 3 none (0, 0) [.ref (ad 129), .int v9] g0 (fun v g' => ∃ (s9 : Int32), v = none ∧ Shp ad cA g' ∧ FR (fun i k => (i = 129 ∧ (k = 1)) ∨ i = 130) g0 g' ∧ (s9.toInt = s.toInt + 4) ∧ fld g' 129 1 = .int s9) := by
  refine q_enterV (by decide) (Nat.le_of_ble_eq_true rfl) (fun K H locs ls _ _ hM hW0 hR hC hE hl => ?_)
  have hl : lv_has ls 3 [(0, .ref (ad 129)), (1, .int v9)] := hl
  have hW : WS ad cA (fun i k => (i = 129 ∧ (k = 1)) ∨ i = 130) g0 K g0 H locs := ⟨hW0, hSh, FR.rf⟩
  have f480 : fld g0 129 1 = .int s := hs
  refine q_bipush (v := (24 : Int32)) hM dX12_push_0 (by decide) ?_
  refine q_istore_n (lv9 := [(2, .int (24 : Int32)), (0, .ref (ad 129)), (1, .int v9)]) hM dX12_push_2 hl (by decide) rfl (fun ls hl => ?_)
  have L3 : ∀ (fu3 : Nat) (sh : Int32) (z : Int32) (g9 : Nat → va_E) (H : Heap) (locs : List Loc) (ls : Array Slot), (sh.toInt + 8).toNat < fu3 → (sh.toInt = 24 - 8 * (z.toInt - s.toInt)) → (s.toInt ≤ z.toInt) → (z.toInt ≤ s.toInt + 4) → (fld g9 129 1 = .int z) → lv_has ls 3 [(0, .ref (ad 129)), (1, .int v9), (2, .int sh)] → WS ad cA (fun i k => (i = 129 ∧ (k = 1)) ∨ i = 130) g0 K g9 H locs → XX K 0 0 H locs 3 ls [] := by
    intro fu3
    induction fu3 with
    | zero => intro sh z g9 H locs ls h0; omega
    | succ fu3 ih3 =>
      intro sh z g9 H locs ls hm3 i3_0 i3_1 i3_2 c3_129_1 hl hW
      refine q_iload_n hM dX12_push_3 (lv_at hl 2 rfl) ?_
      refine q_if_lt (tgt := 36) hM dX12_push_4 (by decide) (rfl : sh.toInt = sh.toInt) (fun h4 => ?_) (fun h4 => ?_)
      · exact hE _ _ _ _ _ hW.1 ⟨z, rfl, hW.2.1, hW.2.2, (by omega), c3_129_1⟩ dX12_push_36
      · refine q_aload_n hM dX12_push_7 (lv_at hl 0 rfl) ?_
        refine w_get (v := .ref (ad 130)) hM hW FG_X12_7 lb_129 (rf_129_0 hW.2.1) dX12_push_8 ?_
        refine q_aload_n hM dX12_push_11 (lv_at hl 0 rfl) ?_
        refine w_get (v := .int z) hM hW FG_X12_166 lb_129 c3_129_1 dX12_push_12 ?_
        refine q_iload_n hM dX12_push_15 (lv_at hl 1 rfl) ?_
        refine q_iload_n hM dX12_push_16 (lv_at hl 2 rfl) ?_
        refine q_ishr hM dX12_push_17 (fun z481 hz481 => ?_)
        refine q_i2b hM dX12_push_18 ?_
        refine w_bast hM hW lb_130 (by omega) (i_in (by omega) (by omega)) dX12_push_19 (fun g482 H locs hW e1 e2 => ?_)
        have f483 : fld g482 129 1 = .int z := (e2.1 129 1 (by unfold Only; omega)).trans c3_129_1
        refine q_aload_n hM dX12_push_20 (lv_at hl 0 rfl) ?_
        refine q_dup hM dX12_push_21 rfl ?_
        refine w_get (v := .int z) hM hW FG_X12_166 lb_129 f483 dX12_push_22 ?_
        refine q_iconst (v := (1 : Int32)) hM dX12_push_25 (by decide) ?_
        refine q_iadd hM dX12_push_26 (fun z484 hz484 => ?_)
        have tz484 := i_addT hz484 (rfl : z.toInt = z.toInt) (kc_1 : (1 : Int32).toInt = 1) (by omega) (by omega)
        refine w_put hM hW FP_X12_166 lb_129 (by omega) (Or.inl ⟨_, rfl⟩) rfl rfl dX12_push_27 (fun g485 H locs hW e1 e2 => ?_)
        have f486 : fld g485 129 1 = .int z484 := e1
        refine q_iinc (lv9 := fun z487 => [(2, .int z487), (0, .ref (ad 129)), (1, .int v9)]) hM dX12_push_30 hl (kq := 2) rfl (by decide) (fun _ => rfl) (fun z487 ls hz487 hl => ?_)
        have tz487 := i_addT hz487 (rfl : sh.toInt = sh.toInt) (kc_m8 : (Int32.ofInt (-8)).toInt = (-8)) (by omega) (by omega)
        refine q_goto (tgt := 3) hM dX12_push_33 (by decide) ?_
        exact ih3 z487 z484 _ _ _ _ (by omega) (by omega) (by omega) (by omega) f486 (lv_sub hl [1, 2, 0] rfl) hW
  have := kc_24
  exact L3 _ (24 : Int32) s _ _ _ _ (Nat.lt_succ_self _) (by omega) (by omega) (by omega) f480 (lv_sub hl [1, 2, 0] rfl) hW

theorem dX12_go_0 : decode cX12_go 0 = .ok (.aload_n 0, 1) := by decide +kernel
theorem dX12_go_1 : decode cX12_go 1 = .ok (.iconst 0, 1) := by decide +kernel
theorem dX12_go_2 : decode cX12_go 2 = .ok (.putfield 474, 3) := by decide +kernel
theorem dX12_go_5 : decode cX12_go 5 = .ok (.aload_n 0, 1) := by decide +kernel
theorem dX12_go_6 : decode cX12_go 6 = .ok (.iconst 0, 1) := by decide +kernel
theorem dX12_go_7 : decode cX12_go 7 = .ok (.putfield 477, 3) := by decide +kernel
theorem dX12_go_10 : decode cX12_go 10 = .ok (.aload_n 0, 1) := by decide +kernel
theorem dX12_go_11 : decode cX12_go 11 = .ok (.iconst 0, 1) := by decide +kernel
theorem dX12_go_12 : decode cX12_go 12 = .ok (.putfield 489, 3) := by decide +kernel
theorem dX12_go_15 : decode cX12_go 15 = .ok (.aload_n 0, 1) := by decide +kernel
theorem dX12_go_16 : decode cX12_go 16 = .ok (.iconst 0, 1) := by decide +kernel
theorem dX12_go_17 : decode cX12_go 17 = .ok (.putfield 468, 3) := by decide +kernel
theorem dX12_go_20 : decode cX12_go 20 = .ok (.aload_n 0, 1) := by decide +kernel
theorem dX12_go_21 : decode cX12_go 21 = .ok (.bipush (-2), 2) := by decide +kernel
theorem dX12_go_23 : decode cX12_go 23 = .ok (.putfield 495, 3) := by decide +kernel
theorem dX12_go_26 : decode cX12_go 26 = .ok (.aload_n 0, 1) := by decide +kernel
theorem dX12_go_27 : decode cX12_go 27 = .ok (.bipush (-2), 2) := by decide +kernel
theorem dX12_go_29 : decode cX12_go 29 = .ok (.putfield 498, 3) := by decide +kernel
theorem dX12_go_32 : decode cX12_go 32 = .ok (.iconst 0, 1) := by decide +kernel
theorem dX12_go_33 : decode cX12_go 33 = .ok (.istore_n 3, 1) := by decide +kernel
theorem dX12_go_34 : decode cX12_go 34 = .ok (.iconst 0, 1) := by decide +kernel
theorem dX12_go_35 : decode cX12_go 35 = .ok (.istore 4, 2) := by decide +kernel
theorem dX12_go_37 : decode cX12_go 37 = .ok (.iload 4, 2) := by decide +kernel
theorem dX12_go_39 : decode cX12_go 39 = .ok (.bipush 8, 2) := by decide +kernel
theorem dX12_go_41 : decode cX12_go 41 = .ok (.if_icmp .ge 46, 3) := by decide +kernel
theorem dX12_go_44 : decode cX12_go 44 = .ok (.aload_n 0, 1) := by decide +kernel
theorem dX12_go_45 : decode cX12_go 45 = .ok (.getfield 100, 3) := by decide +kernel
theorem dX12_go_48 : decode cX12_go 48 = .ok (.iload 4, 2) := by decide +kernel
theorem dX12_go_50 : decode cX12_go 50 = .ok (.baload, 1) := by decide +kernel
theorem dX12_go_51 : decode cX12_go 51 = .ok (.ifCond .eq 30, 3) := by decide +kernel
theorem dX12_go_81 : decode cX12_go 81 = .ok (.iinc 4 1, 3) := by decide +kernel
theorem dX12_go_84 : decode cX12_go 84 = .ok (.goto (-47), 3) := by decide +kernel
theorem dX12_go_87 : decode cX12_go 87 = .ok (.iconst 1, 1) := by decide +kernel
theorem dX12_go_88 : decode cX12_go 88 = .ok (.istore 4, 2) := by decide +kernel
theorem dX12_go_90 : decode cX12_go 90 = .ok (.iload 4, 2) := by decide +kernel
theorem dX12_go_92 : decode cX12_go 92 = .ok (.iload_n 1, 1) := by decide +kernel
theorem dX12_go_93 : decode cX12_go 93 = .ok (.if_icmp .gt 137, 3) := by decide +kernel
theorem dX12_go_96 : decode cX12_go 96 = .ok (.aload_n 0, 1) := by decide +kernel
theorem dX12_go_97 : decode cX12_go 97 = .ok (.getfield 416, 3) := by decide +kernel
theorem dX12_go_100 : decode cX12_go 100 = .ok (.sipush 9999, 3) := by decide +kernel
theorem dX12_go_103 : decode cX12_go 103 = .ok (.if_icmp .ge 127, 3) := by decide +kernel
theorem dX12_go_106 : decode cX12_go 106 = .ok (.iconst 0, 1) := by decide +kernel
theorem dX12_go_107 : decode cX12_go 107 = .ok (.istore 5, 2) := by decide +kernel
theorem dX12_go_109 : decode cX12_go 109 = .ok (.iload 5, 2) := by decide +kernel
theorem dX12_go_111 : decode cX12_go 111 = .ok (.bipush 8, 2) := by decide +kernel
theorem dX12_go_113 : decode cX12_go 113 = .ok (.if_icmp .ge 37, 3) := by decide +kernel
theorem dX12_go_116 : decode cX12_go 116 = .ok (.aload_n 0, 1) := by decide +kernel
theorem dX12_go_117 : decode cX12_go 117 = .ok (.getfield 100, 3) := by decide +kernel
theorem dX12_go_120 : decode cX12_go 120 = .ok (.iload 5, 2) := by decide +kernel
theorem dX12_go_122 : decode cX12_go 122 = .ok (.baload, 1) := by decide +kernel
theorem dX12_go_123 : decode cX12_go 123 = .ok (.ifCond .eq 21, 3) := by decide +kernel
theorem dX12_go_144 : decode cX12_go 144 = .ok (.iinc 5 1, 3) := by decide +kernel
theorem dX12_go_147 : decode cX12_go 147 = .ok (.goto (-38), 3) := by decide +kernel
theorem dX12_go_150 : decode cX12_go 150 = .ok (.iconst 0, 1) := by decide +kernel
theorem dX12_go_151 : decode cX12_go 151 = .ok (.istore 5, 2) := by decide +kernel
theorem dX12_go_153 : decode cX12_go 153 = .ok (.iload 5, 2) := by decide +kernel
theorem dX12_go_155 : decode cX12_go 155 = .ok (.bipush 8, 2) := by decide +kernel
theorem dX12_go_157 : decode cX12_go 157 = .ok (.if_icmp .ge 57, 3) := by decide +kernel
theorem dX12_go_160 : decode cX12_go 160 = .ok (.aload_n 0, 1) := by decide +kernel
theorem dX12_go_161 : decode cX12_go 161 = .ok (.getfield 495, 3) := by decide +kernel
theorem dX12_go_164 : decode cX12_go 164 = .ok (.bipush (-2), 2) := by decide +kernel
theorem dX12_go_166 : decode cX12_go 166 = .ok (.if_icmp .ne 48, 3) := by decide +kernel
theorem dX12_go_169 : decode cX12_go 169 = .ok (.iload_n 3, 1) := by decide +kernel
theorem dX12_go_170 : decode cX12_go 170 = .ok (.iload 5, 2) := by decide +kernel
theorem dX12_go_172 : decode cX12_go 172 = .ok (.invokestatic 204, 3) := by decide +kernel
theorem dX12_go_175 : decode cX12_go 175 = .ok (.ifCond .eq 33, 3) := by decide +kernel
theorem dX12_go_208 : decode cX12_go 208 = .ok (.iinc 5 1, 3) := by decide +kernel
theorem dX12_go_211 : decode cX12_go 211 = .ok (.goto (-58), 3) := by decide +kernel
theorem dX12_go_214 : decode cX12_go 214 = .ok (.aload_n 0, 1) := by decide +kernel
theorem dX12_go_215 : decode cX12_go 215 = .ok (.dup, 1) := by decide +kernel
theorem dX12_go_216 : decode cX12_go 216 = .ok (.getfield 416, 3) := by decide +kernel
theorem dX12_go_219 : decode cX12_go 219 = .ok (.iconst 1, 1) := by decide +kernel
theorem dX12_go_220 : decode cX12_go 220 = .ok (.iadd, 1) := by decide +kernel
theorem dX12_go_221 : decode cX12_go 221 = .ok (.putfield 416, 3) := by decide +kernel
theorem dX12_go_224 : decode cX12_go 224 = .ok (.iinc 4 1, 3) := by decide +kernel
theorem dX12_go_227 : decode cX12_go 227 = .ok (.goto (-137), 3) := by decide +kernel
theorem dX12_go_230 : decode cX12_go 230 = .ok (.return_, 1) := by decide +kernel
theorem FP_X12_474 : FPX RX12 474 12 86 61 .int := ⟨⟨RX12, TX12, tyX12, rfl, wX12, by decide, kAW (v_4_6 (List.mem_of_getElem? (i := 10) rfl)) rfl, rfl, tyX12_ok, nmX12, by decide +kernel, rfl⟩, by decide +kernel⟩
theorem FP_X12_477 : FPX RX12 477 12 86 62 .int := ⟨⟨RX12, TX12, tyX12, rfl, wX12, by decide, kAW (v_4_6 (List.mem_of_getElem? (i := 11) rfl)) rfl, rfl, tyX12_ok, nmX12, by decide +kernel, rfl⟩, by decide +kernel⟩
theorem FP_X12_489 : FPX RX12 489 12 86 63 .int := ⟨⟨RX12, TX12, tyX12, rfl, wX12, by decide, kAW (v_4_6 (List.mem_of_getElem? (i := 12) rfl)) rfl, rfl, tyX12_ok, nmX12, by decide +kernel, rfl⟩, by decide +kernel⟩
theorem FP_X12_468 : FPX RX12 468 12 86 64 .int := ⟨⟨RX12, TX12, tyX12, rfl, wX12, by decide, kAW (v_4_6 (List.mem_of_getElem? (i := 13) rfl)) rfl, rfl, tyX12_ok, nmX12, by decide +kernel, rfl⟩, by decide +kernel⟩
theorem FP_X12_495 : FPX RX12 495 12 86 65 .int := ⟨⟨RX12, TX12, tyX12, rfl, wX12, by decide, kAW (v_4_6 (List.mem_of_getElem? (i := 14) rfl)) rfl, rfl, tyX12_ok, nmX12, by decide +kernel, rfl⟩, by decide +kernel⟩
theorem FP_X12_498 : FPX RX12 498 12 86 66 .int := ⟨⟨RX12, TX12, tyX12, rfl, wX12, by decide, kAW (v_4_6 (List.mem_of_getElem? (i := 15) rfl)) rfl, rfl, tyX12_ok, nmX12, by decide +kernel, rfl⟩, by decide +kernel⟩
theorem FG_X12_416 : FG RX12 416 12 86 56 := ⟨RX12, TX12, rfl, wX12, by decide, kAW (v_4_6 (List.mem_of_getElem? (i := 5) rfl)) rfl, rfl⟩
theorem FP_X12_416 : FPX RX12 416 12 86 56 .int := ⟨⟨RX12, TX12, tyX12, rfl, wX12, by decide, kAW (v_4_6 (List.mem_of_getElem? (i := 5) rfl)) rfl, rfl, tyX12_ok, nmX12, by decide +kernel, rfl⟩, by decide +kernel⟩
theorem FG_X12_495 : FG RX12 495 12 86 65 := ⟨RX12, TX12, rfl, wX12, by decide, kAW (v_4_6 (List.mem_of_getElem? (i := 14) rfl)) rfl, rfl⟩
theorem myX12_has : MS yX12_has cX12_has 2 (some FieldType.boolean) 2 := ⟨kAW (v_5_6 (List.mem_of_getElem? (i := 9) rfl)) rfl, kAW (v_0_0 (List.mem_of_getElem? (i := 13) rfl)) rfl, kAW (v_5_6 (List.mem_of_getElem? (i := 8) rfl)) rfl, by decide, by decide, by decide +kernel⟩
set_option maxRecDepth 100000 in
set_option maxHeartbeats 4000000 in
theorem c_X12_go (l : Launch) (D : va_G) (cA : Nat → ClassId) (ad : Nat → Nat) (g0 : Nat → va_E) (n wk : Int32) (hSh : Shp ad cA g0) (hip : arI g0 158 = fun _ => 0) (hw : fld g0 129 56 = .int wk) (hw0 : 0 ≤ wk.toInt) (hn1 : 1 ≤ n.toInt) (hn : n.toInt ≤ 60) : CT l NN ad cA D yX12_go cX12_go 6 none (1, 21) [.ref (ad 129), .int n, .int ((-1) : Int32)] g0 (fun v g' => ∃ (w9 : Int32), v = none ∧ Shp ad cA g' ∧ FR (fun i k => (i = 129 ∧ (k = 56 ∨ k = 61 ∨ k = 62 ∨ k = 63 ∨ k = 64 ∨ k = 65 ∨ k = 66))) g0 g' ∧ fld g' 129 61 = .int (0 : Int32) ∧ fld g' 129 62 = .int (0 : Int32) ∧ fld g' 129 63 = .int (0 : Int32) ∧ fld g' 129 64 = .int (0 : Int32) ∧ fld g' 129 56 = .int w9) := by
  refine q_enterV (by decide) (Nat.le_of_ble_eq_true rfl) (fun K H locs ls _ _ hM hW0 hR hC hE hl => ?_)
  have hl : lv_has ls 6 [(0, .ref (ad 129)), (1, .int n), (2, .int ((-1) : Int32))] := hl
  have hW : WS ad cA (fun i k => (i = 129 ∧ (k = 56 ∨ k = 61 ∨ k = 62 ∨ k = 63 ∨ k = 64 ∨ k = 65 ∨ k = 66))) g0 K g0 H locs := ⟨hW0, hSh, FR.rf⟩
  have := kc_0
  have := kc_1
  have := kc_9999
  have f488 : fld g0 129 56 = .int wk := hw
  refine q_aload_n hM dX12_go_0 (lv_at hl 0 rfl) ?_
  refine q_iconst (v := (0 : Int32)) hM dX12_go_1 (by decide) ?_
  refine w_put hM hW FP_X12_474 lb_129 (by omega) (Or.inl ⟨_, rfl⟩) rfl rfl dX12_go_2 (fun g489 H locs hW e1 e2 => ?_)
  have f490 : fld g489 129 56 = .int wk := (e2.1 129 56 (by unfold Only; omega)).trans f488
  have f491 : fld g489 129 61 = .int (0 : Int32) := e1
  refine q_aload_n hM dX12_go_5 (lv_at hl 0 rfl) ?_
  refine q_iconst (v := (0 : Int32)) hM dX12_go_6 (by decide) ?_
  refine w_put hM hW FP_X12_477 lb_129 (by omega) (Or.inl ⟨_, rfl⟩) rfl rfl dX12_go_7 (fun g492 H locs hW e1 e2 => ?_)
  have f493 : fld g492 129 56 = .int wk := (e2.1 129 56 (by unfold Only; omega)).trans f490
  have f494 : fld g492 129 61 = .int (0 : Int32) := (e2.1 129 61 (by unfold Only; omega)).trans f491
  have f495 : fld g492 129 62 = .int (0 : Int32) := e1
  refine q_aload_n hM dX12_go_10 (lv_at hl 0 rfl) ?_
  refine q_iconst (v := (0 : Int32)) hM dX12_go_11 (by decide) ?_
  refine w_put hM hW FP_X12_489 lb_129 (by omega) (Or.inl ⟨_, rfl⟩) rfl rfl dX12_go_12 (fun g496 H locs hW e1 e2 => ?_)
  have f497 : fld g496 129 56 = .int wk := (e2.1 129 56 (by unfold Only; omega)).trans f493
  have f498 : fld g496 129 61 = .int (0 : Int32) := (e2.1 129 61 (by unfold Only; omega)).trans f494
  have f499 : fld g496 129 62 = .int (0 : Int32) := (e2.1 129 62 (by unfold Only; omega)).trans f495
  have f500 : fld g496 129 63 = .int (0 : Int32) := e1
  refine q_aload_n hM dX12_go_15 (lv_at hl 0 rfl) ?_
  refine q_iconst (v := (0 : Int32)) hM dX12_go_16 (by decide) ?_
  refine w_put hM hW FP_X12_468 lb_129 (by omega) (Or.inl ⟨_, rfl⟩) rfl rfl dX12_go_17 (fun g501 H locs hW e1 e2 => ?_)
  have f502 : fld g501 129 56 = .int wk := (e2.1 129 56 (by unfold Only; omega)).trans f497
  have f503 : fld g501 129 61 = .int (0 : Int32) := (e2.1 129 61 (by unfold Only; omega)).trans f498
  have f504 : fld g501 129 62 = .int (0 : Int32) := (e2.1 129 62 (by unfold Only; omega)).trans f499
  have f505 : fld g501 129 63 = .int (0 : Int32) := (e2.1 129 63 (by unfold Only; omega)).trans f500
  have f506 : fld g501 129 64 = .int (0 : Int32) := e1
  refine q_aload_n hM dX12_go_20 (lv_at hl 0 rfl) ?_
  refine q_bipush (v := ((-2) : Int32)) hM dX12_go_21 (by decide) ?_
  refine w_put hM hW FP_X12_495 lb_129 (by omega) (Or.inl ⟨_, rfl⟩) rfl rfl dX12_go_23 (fun g507 H locs hW e1 e2 => ?_)
  have f508 : fld g507 129 56 = .int wk := (e2.1 129 56 (by unfold Only; omega)).trans f502
  have f509 : fld g507 129 61 = .int (0 : Int32) := (e2.1 129 61 (by unfold Only; omega)).trans f503
  have f510 : fld g507 129 62 = .int (0 : Int32) := (e2.1 129 62 (by unfold Only; omega)).trans f504
  have f511 : fld g507 129 63 = .int (0 : Int32) := (e2.1 129 63 (by unfold Only; omega)).trans f505
  have f512 : fld g507 129 64 = .int (0 : Int32) := (e2.1 129 64 (by unfold Only; omega)).trans f506
  have f513 : fld g507 129 65 = .int ((-2) : Int32) := e1
  refine q_aload_n hM dX12_go_26 (lv_at hl 0 rfl) ?_
  refine q_bipush (v := ((-2) : Int32)) hM dX12_go_27 (by decide) ?_
  refine w_put hM hW FP_X12_498 lb_129 (by omega) (Or.inl ⟨_, rfl⟩) rfl rfl dX12_go_29 (fun g514 H locs hW e1 e2 => ?_)
  have f515 : fld g514 129 56 = .int wk := (e2.1 129 56 (by unfold Only; omega)).trans f508
  have f516 : fld g514 129 61 = .int (0 : Int32) := (e2.1 129 61 (by unfold Only; omega)).trans f509
  have f517 : fld g514 129 62 = .int (0 : Int32) := (e2.1 129 62 (by unfold Only; omega)).trans f510
  have f518 : fld g514 129 63 = .int (0 : Int32) := (e2.1 129 63 (by unfold Only; omega)).trans f511
  have f519 : fld g514 129 64 = .int (0 : Int32) := (e2.1 129 64 (by unfold Only; omega)).trans f512
  have f520 : fld g514 129 65 = .int ((-2) : Int32) := (e2.1 129 65 (by unfold Only; omega)).trans f513
  have f521 : fld g514 129 66 = .int ((-2) : Int32) := e1
  refine q_iconst (v := (0 : Int32)) hM dX12_go_32 (by decide) ?_
  refine q_istore_n (lv9 := [(3, .int (0 : Int32)), (0, .ref (ad 129)), (1, .int n), (2, .int ((-1) : Int32))]) hM dX12_go_33 hl (by decide) rfl (fun ls hl => ?_)
  refine q_iconst (v := (0 : Int32)) hM dX12_go_34 (by decide) ?_
  refine q_istore (lv9 := [(4, .int (0 : Int32)), (3, .int (0 : Int32)), (0, .ref (ad 129)), (1, .int n), (2, .int ((-1) : Int32))]) hM dX12_go_35 hl (by decide) rfl (fun ls hl => ?_)
  have L37 : ∀ (fu37 : Nat) (p : Int32) (H : Heap) (locs : List Loc) (ls : Array Slot), (8 - p.toInt).toNat < fu37 → (0 ≤ p.toInt) → (p.toInt ≤ 8) → lv_has ls 6 [(0, .ref (ad 129)), (1, .int n), (2, .int ((-1) : Int32)), (3, .int (0 : Int32)), (4, .int p)] → WS ad cA (fun i k => (i = 129 ∧ (k = 56 ∨ k = 61 ∨ k = 62 ∨ k = 63 ∨ k = 64 ∨ k = 65 ∨ k = 66))) g0 K g514 H locs → XX K 0 0 H locs 37 ls [] := by
    intro fu37
    induction fu37 with
    | zero => intro p H locs ls h0; omega
    | succ fu37 ih37 =>
      intro p H locs ls hm37 i37_0 i37_1 hl hW
      refine q_iload hM dX12_go_37 (lv_at hl 4 rfl) ?_
      refine q_bipush (v := (8 : Int32)) hM dX12_go_39 (by decide) ?_
      refine q_icmp_ge (tgt := 87) hM dX12_go_41 (by decide) (rfl : p.toInt = p.toInt) (kc_8 : (8 : Int32).toInt = 8) (fun h41 => ?_) (fun h41 => ?_)
      · refine q_iconst (v := (1 : Int32)) hM dX12_go_87 (by decide) ?_
        refine q_istore (lv9 := [(4, .int (1 : Int32)), (0, .ref (ad 129)), (1, .int n), (2, .int ((-1) : Int32)), (3, .int (0 : Int32))]) hM dX12_go_88 hl (by decide) rfl (fun ls hl => ?_)
        have L90 : ∀ (fu90 : Nat) (kk : Int32) (z : Int32) (g9 : Nat → va_E) (H : Heap) (locs : List Loc) (ls : Array Slot), (n.toInt + 1 - kk.toInt).toNat < fu90 → (1 ≤ kk.toInt) → (0 ≤ z.toInt) → (fld g9 129 56 = .int z) → (fld g9 129 61 = .int (0 : Int32)) → (fld g9 129 62 = .int (0 : Int32)) → (fld g9 129 63 = .int (0 : Int32)) → (fld g9 129 64 = .int (0 : Int32)) → (fld g9 129 65 = .int ((-2) : Int32)) → (fld g9 129 66 = .int ((-2) : Int32)) → lv_has ls 6 [(0, .ref (ad 129)), (1, .int n), (2, .int ((-1) : Int32)), (3, .int (0 : Int32)), (4, .int kk)] → WS ad cA (fun i k => (i = 129 ∧ (k = 56 ∨ k = 61 ∨ k = 62 ∨ k = 63 ∨ k = 64 ∨ k = 65 ∨ k = 66))) g0 K g9 H locs → XX K 0 0 H locs 90 ls [] := by
          intro fu90
          induction fu90 with
          | zero => intro kk z g9 H locs ls h0; omega
          | succ fu90 ih90 =>
            intro kk z g9 H locs ls hm90 i90_0 i90_1 c90_129_56 c90_129_61 c90_129_62 c90_129_63 c90_129_64 c90_129_65 c90_129_66 hl hW
            refine q_iload hM dX12_go_90 (lv_at hl 4 rfl) ?_
            refine q_iload_n hM dX12_go_92 (lv_at hl 1 rfl) ?_
            refine q_icmp_gt (tgt := 230) hM dX12_go_93 (by decide) (rfl : kk.toInt = kk.toInt) (rfl : n.toInt = n.toInt) (fun h93 => ?_) (fun h93 => ?_)
            · exact hE _ _ _ _ _ hW.1 ⟨z, rfl, hW.2.1, hW.2.2, c90_129_61, c90_129_62, c90_129_63, c90_129_64, c90_129_56⟩ dX12_go_230
            · refine q_aload_n hM dX12_go_96 (lv_at hl 0 rfl) ?_
              refine w_get (v := .int z) hM hW FG_X12_416 lb_129 c90_129_56 dX12_go_97 ?_
              refine q_sipush (v := (9999 : Int32)) hM dX12_go_100 (by decide) ?_
              refine q_icmp_ge (tgt := 230) hM dX12_go_103 (by decide) (rfl : z.toInt = z.toInt) (kc_9999 : (9999 : Int32).toInt = 9999) (fun h103 => ?_) (fun h103 => ?_)
              · exact hE _ _ _ _ _ hW.1 ⟨z, rfl, hW.2.1, hW.2.2, c90_129_61, c90_129_62, c90_129_63, c90_129_64, c90_129_56⟩ dX12_go_230
              · refine q_iconst (v := (0 : Int32)) hM dX12_go_106 (by decide) ?_
                refine q_istore (lv9 := [(5, .int (0 : Int32)), (0, .ref (ad 129)), (1, .int n), (2, .int ((-1) : Int32)), (3, .int (0 : Int32)), (4, .int kk)]) hM dX12_go_107 hl (by decide) rfl (fun ls hl => ?_)
                have L109 : ∀ (fu109 : Nat) (p : Int32) (H : Heap) (locs : List Loc) (ls : Array Slot), (8 - p.toInt).toNat < fu109 → (0 ≤ p.toInt) → (p.toInt ≤ 8) → lv_has ls 6 [(0, .ref (ad 129)), (1, .int n), (2, .int ((-1) : Int32)), (3, .int (0 : Int32)), (4, .int kk), (5, .int p)] → WS ad cA (fun i k => (i = 129 ∧ (k = 56 ∨ k = 61 ∨ k = 62 ∨ k = 63 ∨ k = 64 ∨ k = 65 ∨ k = 66))) g0 K g9 H locs → XX K 0 0 H locs 109 ls [] := by
                  intro fu109
                  induction fu109 with
                  | zero => intro p H locs ls h0; omega
                  | succ fu109 ih109 =>
                    intro p H locs ls hm109 i109_0 i109_1 hl hW
                    refine q_iload hM dX12_go_109 (lv_at hl 5 rfl) ?_
                    refine q_bipush (v := (8 : Int32)) hM dX12_go_111 (by decide) ?_
                    refine q_icmp_ge (tgt := 150) hM dX12_go_113 (by decide) (rfl : p.toInt = p.toInt) (kc_8 : (8 : Int32).toInt = 8) (fun h113 => ?_) (fun h113 => ?_)
                    · refine q_iconst (v := (0 : Int32)) hM dX12_go_150 (by decide) ?_
                      refine q_istore (lv9 := [(5, .int (0 : Int32)), (0, .ref (ad 129)), (1, .int n), (2, .int ((-1) : Int32)), (3, .int (0 : Int32)), (4, .int kk)]) hM dX12_go_151 hl (by decide) rfl (fun ls hl => ?_)
                      have L153 : ∀ (fu153 : Nat) (p : Int32) (H : Heap) (locs : List Loc) (ls : Array Slot), (8 - p.toInt).toNat < fu153 → (0 ≤ p.toInt) → (p.toInt ≤ 8) → lv_has ls 6 [(0, .ref (ad 129)), (1, .int n), (2, .int ((-1) : Int32)), (3, .int (0 : Int32)), (4, .int kk), (5, .int p)] → WS ad cA (fun i k => (i = 129 ∧ (k = 56 ∨ k = 61 ∨ k = 62 ∨ k = 63 ∨ k = 64 ∨ k = 65 ∨ k = 66))) g0 K g9 H locs → XX K 0 0 H locs 153 ls [] := by
                        intro fu153
                        induction fu153 with
                        | zero => intro p H locs ls h0; omega
                        | succ fu153 ih153 =>
                          intro p H locs ls hm153 i153_0 i153_1 hl hW
                          refine q_iload hM dX12_go_153 (lv_at hl 5 rfl) ?_
                          refine q_bipush (v := (8 : Int32)) hM dX12_go_155 (by decide) ?_
                          refine q_icmp_ge (tgt := 214) hM dX12_go_157 (by decide) (rfl : p.toInt = p.toInt) (kc_8 : (8 : Int32).toInt = 8) (fun h157 => ?_) (fun h157 => ?_)
                          · refine q_aload_n hM dX12_go_214 (lv_at hl 0 rfl) ?_
                            refine q_dup hM dX12_go_215 rfl ?_
                            refine w_get (v := .int z) hM hW FG_X12_416 lb_129 c90_129_56 dX12_go_216 ?_
                            refine q_iconst (v := (1 : Int32)) hM dX12_go_219 (by decide) ?_
                            refine q_iadd hM dX12_go_220 (fun z522 hz522 => ?_)
                            have tz522 := i_addT hz522 (rfl : z.toInt = z.toInt) (kc_1 : (1 : Int32).toInt = 1) (by omega) (by omega)
                            refine w_put hM hW FP_X12_416 lb_129 (by omega) (Or.inl ⟨_, rfl⟩) rfl rfl dX12_go_221 (fun g523 H locs hW e1 e2 => ?_)
                            have f524 : fld g523 129 61 = .int (0 : Int32) := (e2.1 129 61 (by unfold Only; omega)).trans c90_129_61
                            have f525 : fld g523 129 62 = .int (0 : Int32) := (e2.1 129 62 (by unfold Only; omega)).trans c90_129_62
                            have f526 : fld g523 129 63 = .int (0 : Int32) := (e2.1 129 63 (by unfold Only; omega)).trans c90_129_63
                            have f527 : fld g523 129 64 = .int (0 : Int32) := (e2.1 129 64 (by unfold Only; omega)).trans c90_129_64
                            have f528 : fld g523 129 65 = .int ((-2) : Int32) := (e2.1 129 65 (by unfold Only; omega)).trans c90_129_65
                            have f529 : fld g523 129 66 = .int ((-2) : Int32) := (e2.1 129 66 (by unfold Only; omega)).trans c90_129_66
                            have f530 : fld g523 129 56 = .int z522 := e1
                            refine q_iinc (lv9 := fun z531 => [(4, .int z531), (0, .ref (ad 129)), (1, .int n), (2, .int ((-1) : Int32)), (3, .int (0 : Int32)), (5, .int p)]) hM dX12_go_224 hl (kq := 4) rfl (by decide) (fun _ => rfl) (fun z531 ls hz531 hl => ?_)
                            have tz531 := i_addT hz531 (rfl : kk.toInt = kk.toInt) (kc_1 : (Int32.ofInt 1).toInt = 1) (by omega) (by omega)
                            refine q_goto (tgt := 90) hM dX12_go_227 (by decide) ?_
                            exact ih90 z531 z522 _ _ _ _ (by omega) (by omega) (by omega) f530 f524 f525 f526 f527 f528 f529 (lv_sub hl [1, 2, 3, 4, 0] rfl) hW
                          · refine q_aload_n hM dX12_go_160 (lv_at hl 0 rfl) ?_
                            refine w_get (v := .int ((-2) : Int32)) hM hW FG_X12_495 lb_129 c90_129_65 dX12_go_161 ?_
                            refine q_bipush (v := ((-2) : Int32)) hM dX12_go_164 (by decide) ?_
                            refine q_icmp_ne (tgt := 214) hM dX12_go_166 (by decide) (kc_m2 : ((-2) : Int32).toInt = (-2)) (kc_m2 : ((-2) : Int32).toInt = (-2)) (fun h166 => ?_) (fun h166 => ?_)
                            · omega
                            · refine q_iload_n hM dX12_go_169 (lv_at hl 3 rfl) ?_
                              refine q_iload hM dX12_go_170 (lv_at hl 5 rfl) ?_
                              refine q_callS (As := [.int (0 : Int32), .int p]) (rest := []) hM hW.1 hR hC myX12_has (kAW (v_5_6 (List.mem_of_getElem? (i := 7) rfl)) rfl) (c_X12_has _ _ cA ad g9 (0 : Int32) p hW.2.1 (by omega) (by omega)) ⟨by decide, by decide⟩ rfl rfl hl.1 (Nat.le_of_ble_eq_true rfl) dX12_go_172 (fun v g533 H locs hp hW1 => ?_)
                              obtain ⟨r532, rfl, hr532, rfl⟩ := hp
                              have hW : WS ad cA (fun i k => (i = 129 ∧ (k = 56 ∨ k = 61 ∨ k = 62 ∨ k = 63 ∨ k = 64 ∨ k = 65 ∨ k = 66))) g0 K g9 H locs := ⟨hW1, hW.2.1, hW.2.2⟩
                              have kr532 : r532.toInt = 0 := has_r0m hr532
                              refine q_if_eq (tgt := 208) hM dX12_go_175 (by decide) (kr532 : r532.toInt = 0) (fun h175 => ?_) (fun h175 => ?_)
                              · refine q_iinc (lv9 := fun z534 => [(5, .int z534), (0, .ref (ad 129)), (1, .int n), (2, .int ((-1) : Int32)), (3, .int (0 : Int32)), (4, .int kk)]) hM dX12_go_208 hl (kq := 5) rfl (by decide) (fun _ => rfl) (fun z534 ls hz534 hl => ?_)
                                have tz534 := i_addT hz534 (rfl : p.toInt = p.toInt) (kc_1 : (Int32.ofInt 1).toInt = 1) (by omega) (by omega)
                                refine q_goto (tgt := 153) hM dX12_go_211 (by decide) ?_
                                exact ih153 z534 _ _ _ (by omega) (by omega) (by omega) (lv_sub hl [1, 2, 3, 4, 5, 0] rfl) hW
                              · omega
                      have := kc_0
                      exact L153 _ (0 : Int32) _ _ _ (Nat.lt_succ_self _) (by omega) (by omega) (lv_sub hl [1, 2, 3, 4, 5, 0] rfl) hW
                    · refine q_aload_n hM dX12_go_116 (lv_at hl 0 rfl) ?_
                      refine w_get (v := .ref (ad 158)) hM hW FG_X12_100 lb_129 (rf_129_52 hW.2.1) dX12_go_117 ?_
                      refine q_iload hM dX12_go_120 (lv_at hl 5 rfl) ?_
                      refine w_zald hM hW lb_158 (i_in (by omega) (by omega)) dX12_go_122 ?_
                      refine q_top (fun y535 hy535 => ?_)
                      have ky535 : y535.toInt = 0 := by rw [hy535, ((hW.2.2.2.1 158 (by omega)).trans hip)]; rfl
                      refine q_if_eq (tgt := 144) hM dX12_go_123 (by decide) (ky535 : y535.toInt = 0) (fun h123 => ?_) (fun h123 => ?_)
                      · refine q_iinc (lv9 := fun z536 => [(5, .int z536), (0, .ref (ad 129)), (1, .int n), (2, .int ((-1) : Int32)), (3, .int (0 : Int32)), (4, .int kk)]) hM dX12_go_144 hl (kq := 5) rfl (by decide) (fun _ => rfl) (fun z536 ls hz536 hl => ?_)
                        have tz536 := i_addT hz536 (rfl : p.toInt = p.toInt) (kc_1 : (Int32.ofInt 1).toInt = 1) (by omega) (by omega)
                        refine q_goto (tgt := 109) hM dX12_go_147 (by decide) ?_
                        exact ih109 z536 _ _ _ (by omega) (by omega) (by omega) (lv_sub hl [1, 2, 3, 4, 5, 0] rfl) hW
                      · omega
                have := kc_0
                exact L109 _ (0 : Int32) _ _ _ (Nat.lt_succ_self _) (by omega) (by omega) (lv_sub hl [1, 2, 3, 4, 5, 0] rfl) hW
        have := kc_1
        exact L90 _ (1 : Int32) wk _ _ _ _ (Nat.lt_succ_self _) (by omega) (by omega) f515 f516 f517 f518 f519 f520 f521 (lv_sub hl [1, 2, 3, 4, 0] rfl) hW
      · refine q_aload_n hM dX12_go_44 (lv_at hl 0 rfl) ?_
        refine w_get (v := .ref (ad 158)) hM hW FG_X12_100 lb_129 (rf_129_52 hW.2.1) dX12_go_45 ?_
        refine q_iload hM dX12_go_48 (lv_at hl 4 rfl) ?_
        refine w_zald hM hW lb_158 (i_in (by omega) (by omega)) dX12_go_50 ?_
        refine q_top (fun y537 hy537 => ?_)
        have ky537 : y537.toInt = 0 := by rw [hy537, ((hW.2.2.2.1 158 (by omega)).trans hip)]; rfl
        refine q_if_eq (tgt := 81) hM dX12_go_51 (by decide) (ky537 : y537.toInt = 0) (fun h51 => ?_) (fun h51 => ?_)
        · refine q_iinc (lv9 := fun z538 => [(4, .int z538), (0, .ref (ad 129)), (1, .int n), (2, .int ((-1) : Int32)), (3, .int (0 : Int32))]) hM dX12_go_81 hl (kq := 4) rfl (by decide) (fun _ => rfl) (fun z538 ls hz538 hl => ?_)
          have tz538 := i_addT hz538 (rfl : p.toInt = p.toInt) (kc_1 : (Int32.ofInt 1).toInt = 1) (by omega) (by omega)
          refine q_goto (tgt := 37) hM dX12_go_84 (by decide) ?_
          exact ih37 z538 _ _ _ (by omega) (by omega) (by omega) (lv_sub hl [1, 2, 3, 4, 0] rfl) hW
        · omega
  have := kc_0
  exact L37 _ (0 : Int32) _ _ _ (Nat.lt_succ_self _) (by omega) (by omega) (lv_sub hl [2, 3, 4, 1, 0] rfl) hW

theorem dX12_laysAside_0 : decode cX12_laysAside 0 = .ok (.iconst 0, 1) := by decide +kernel
theorem dX12_laysAside_1 : decode cX12_laysAside 1 = .ok (.istore_n 2, 1) := by decide +kernel
theorem dX12_laysAside_2 : decode cX12_laysAside 2 = .ok (.iload_n 2, 1) := by decide +kernel
theorem dX12_laysAside_3 : decode cX12_laysAside 3 = .ok (.bipush 8, 2) := by decide +kernel
theorem dX12_laysAside_5 : decode cX12_laysAside 5 = .ok (.if_icmp .ge 60, 3) := by decide +kernel
theorem dX12_laysAside_8 : decode cX12_laysAside 8 = .ok (.aload_n 0, 1) := by decide +kernel
theorem dX12_laysAside_9 : decode cX12_laysAside 9 = .ok (.getfield 112, 3) := by decide +kernel
theorem dX12_laysAside_12 : decode cX12_laysAside 12 = .ok (.bipush 8, 2) := by decide +kernel
theorem dX12_laysAside_14 : decode cX12_laysAside 14 = .ok (.iload_n 1, 1) := by decide +kernel
theorem dX12_laysAside_15 : decode cX12_laysAside 15 = .ok (.imul, 1) := by decide +kernel
theorem dX12_laysAside_16 : decode cX12_laysAside 16 = .ok (.iload_n 2, 1) := by decide +kernel
theorem dX12_laysAside_17 : decode cX12_laysAside 17 = .ok (.iadd, 1) := by decide +kernel
theorem dX12_laysAside_18 : decode cX12_laysAside 18 = .ok (.aload_n 0, 1) := by decide +kernel
theorem dX12_laysAside_19 : decode cX12_laysAside 19 = .ok (.getfield 100, 3) := by decide +kernel
theorem dX12_laysAside_22 : decode cX12_laysAside 22 = .ok (.iload_n 2, 1) := by decide +kernel
theorem dX12_laysAside_23 : decode cX12_laysAside 23 = .ok (.baload, 1) := by decide +kernel
theorem dX12_laysAside_24 : decode cX12_laysAside 24 = .ok (.bastore, 1) := by decide +kernel
theorem dX12_laysAside_25 : decode cX12_laysAside 25 = .ok (.aload_n 0, 1) := by decide +kernel
theorem dX12_laysAside_26 : decode cX12_laysAside 26 = .ok (.getfield 115, 3) := by decide +kernel
theorem dX12_laysAside_29 : decode cX12_laysAside 29 = .ok (.bipush 8, 2) := by decide +kernel
theorem dX12_laysAside_31 : decode cX12_laysAside 31 = .ok (.iload_n 1, 1) := by decide +kernel
theorem dX12_laysAside_32 : decode cX12_laysAside 32 = .ok (.imul, 1) := by decide +kernel
theorem dX12_laysAside_33 : decode cX12_laysAside 33 = .ok (.iload_n 2, 1) := by decide +kernel
theorem dX12_laysAside_34 : decode cX12_laysAside 34 = .ok (.iadd, 1) := by decide +kernel
theorem dX12_laysAside_35 : decode cX12_laysAside 35 = .ok (.aload_n 0, 1) := by decide +kernel
theorem dX12_laysAside_36 : decode cX12_laysAside 36 = .ok (.getfield 103, 3) := by decide +kernel
theorem dX12_laysAside_39 : decode cX12_laysAside 39 = .ok (.iload_n 2, 1) := by decide +kernel
theorem dX12_laysAside_40 : decode cX12_laysAside 40 = .ok (.iaload, 1) := by decide +kernel
theorem dX12_laysAside_41 : decode cX12_laysAside 41 = .ok (.iastore, 1) := by decide +kernel
theorem dX12_laysAside_42 : decode cX12_laysAside 42 = .ok (.aload_n 0, 1) := by decide +kernel
theorem dX12_laysAside_43 : decode cX12_laysAside 43 = .ok (.getfield 118, 3) := by decide +kernel
theorem dX12_laysAside_46 : decode cX12_laysAside 46 = .ok (.bipush 8, 2) := by decide +kernel
theorem dX12_laysAside_48 : decode cX12_laysAside 48 = .ok (.iload_n 1, 1) := by decide +kernel
theorem dX12_laysAside_49 : decode cX12_laysAside 49 = .ok (.imul, 1) := by decide +kernel
theorem dX12_laysAside_50 : decode cX12_laysAside 50 = .ok (.iload_n 2, 1) := by decide +kernel
theorem dX12_laysAside_51 : decode cX12_laysAside 51 = .ok (.iadd, 1) := by decide +kernel
theorem dX12_laysAside_52 : decode cX12_laysAside 52 = .ok (.aload_n 0, 1) := by decide +kernel
theorem dX12_laysAside_53 : decode cX12_laysAside 53 = .ok (.getfield 106, 3) := by decide +kernel
theorem dX12_laysAside_56 : decode cX12_laysAside 56 = .ok (.iload_n 2, 1) := by decide +kernel
theorem dX12_laysAside_57 : decode cX12_laysAside 57 = .ok (.iaload, 1) := by decide +kernel
theorem dX12_laysAside_58 : decode cX12_laysAside 58 = .ok (.iastore, 1) := by decide +kernel
theorem dX12_laysAside_59 : decode cX12_laysAside 59 = .ok (.iinc 2 1, 3) := by decide +kernel
theorem dX12_laysAside_62 : decode cX12_laysAside 62 = .ok (.goto (-60), 3) := by decide +kernel
theorem dX12_laysAside_65 : decode cX12_laysAside 65 = .ok (.iconst 0, 1) := by decide +kernel
theorem dX12_laysAside_66 : decode cX12_laysAside 66 = .ok (.istore_n 2, 1) := by decide +kernel
theorem dX12_laysAside_67 : decode cX12_laysAside 67 = .ok (.iload_n 2, 1) := by decide +kernel
theorem dX12_laysAside_68 : decode cX12_laysAside 68 = .ok (.bipush 96, 2) := by decide +kernel
theorem dX12_laysAside_70 : decode cX12_laysAside 70 = .ok (.if_icmp .ge 26, 3) := by decide +kernel
theorem dX12_laysAside_73 : decode cX12_laysAside 73 = .ok (.aload_n 0, 1) := by decide +kernel
theorem dX12_laysAside_74 : decode cX12_laysAside 74 = .ok (.getfield 121, 3) := by decide +kernel
theorem dX12_laysAside_77 : decode cX12_laysAside 77 = .ok (.bipush 96, 2) := by decide +kernel
theorem dX12_laysAside_79 : decode cX12_laysAside 79 = .ok (.iload_n 1, 1) := by decide +kernel
theorem dX12_laysAside_80 : decode cX12_laysAside 80 = .ok (.imul, 1) := by decide +kernel
theorem dX12_laysAside_81 : decode cX12_laysAside 81 = .ok (.iload_n 2, 1) := by decide +kernel
theorem dX12_laysAside_82 : decode cX12_laysAside 82 = .ok (.iadd, 1) := by decide +kernel
theorem dX12_laysAside_83 : decode cX12_laysAside 83 = .ok (.aload_n 0, 1) := by decide +kernel
theorem dX12_laysAside_84 : decode cX12_laysAside 84 = .ok (.getfield 109, 3) := by decide +kernel
theorem dX12_laysAside_87 : decode cX12_laysAside 87 = .ok (.iload_n 2, 1) := by decide +kernel
theorem dX12_laysAside_88 : decode cX12_laysAside 88 = .ok (.iaload, 1) := by decide +kernel
theorem dX12_laysAside_89 : decode cX12_laysAside 89 = .ok (.iastore, 1) := by decide +kernel
theorem dX12_laysAside_90 : decode cX12_laysAside 90 = .ok (.iinc 2 1, 3) := by decide +kernel
theorem dX12_laysAside_93 : decode cX12_laysAside 93 = .ok (.goto (-26), 3) := by decide +kernel
theorem dX12_laysAside_96 : decode cX12_laysAside 96 = .ok (.aload_n 0, 1) := by decide +kernel
theorem dX12_laysAside_97 : decode cX12_laysAside 97 = .ok (.getfield 124, 3) := by decide +kernel
theorem dX12_laysAside_100 : decode cX12_laysAside 100 = .ok (.iload_n 1, 1) := by decide +kernel
theorem dX12_laysAside_101 : decode cX12_laysAside 101 = .ok (.aload_n 0, 1) := by decide +kernel
theorem dX12_laysAside_102 : decode cX12_laysAside 102 = .ok (.getfield 416, 3) := by decide +kernel
theorem dX12_laysAside_105 : decode cX12_laysAside 105 = .ok (.iastore, 1) := by decide +kernel
theorem dX12_laysAside_106 : decode cX12_laysAside 106 = .ok (.aload_n 0, 1) := by decide +kernel
theorem dX12_laysAside_107 : decode cX12_laysAside 107 = .ok (.getfield 127, 3) := by decide +kernel
theorem dX12_laysAside_110 : decode cX12_laysAside 110 = .ok (.iload_n 1, 1) := by decide +kernel
theorem dX12_laysAside_111 : decode cX12_laysAside 111 = .ok (.aload_n 0, 1) := by decide +kernel
theorem dX12_laysAside_112 : decode cX12_laysAside 112 = .ok (.getfield 471, 3) := by decide +kernel
theorem dX12_laysAside_115 : decode cX12_laysAside 115 = .ok (.iastore, 1) := by decide +kernel
theorem dX12_laysAside_116 : decode cX12_laysAside 116 = .ok (.aload_n 0, 1) := by decide +kernel
theorem dX12_laysAside_117 : decode cX12_laysAside 117 = .ok (.getfield 130, 3) := by decide +kernel
theorem dX12_laysAside_120 : decode cX12_laysAside 120 = .ok (.iload_n 1, 1) := by decide +kernel
theorem dX12_laysAside_121 : decode cX12_laysAside 121 = .ok (.aload_n 0, 1) := by decide +kernel
theorem dX12_laysAside_122 : decode cX12_laysAside 122 = .ok (.getfield 486, 3) := by decide +kernel
theorem dX12_laysAside_125 : decode cX12_laysAside 125 = .ok (.iastore, 1) := by decide +kernel
theorem dX12_laysAside_126 : decode cX12_laysAside 126 = .ok (.aload_n 0, 1) := by decide +kernel
theorem dX12_laysAside_127 : decode cX12_laysAside 127 = .ok (.getfield 133, 3) := by decide +kernel
theorem dX12_laysAside_130 : decode cX12_laysAside 130 = .ok (.iload_n 1, 1) := by decide +kernel
theorem dX12_laysAside_131 : decode cX12_laysAside 131 = .ok (.aload_n 0, 1) := by decide +kernel
theorem dX12_laysAside_132 : decode cX12_laysAside 132 = .ok (.getfield 13, 3) := by decide +kernel
theorem dX12_laysAside_135 : decode cX12_laysAside 135 = .ok (.iastore, 1) := by decide +kernel
theorem dX12_laysAside_136 : decode cX12_laysAside 136 = .ok (.return_, 1) := by decide +kernel
theorem FG_X12_124 : FG RX12 124 12 86 71 := ⟨RX12, TX12, rfl, wX12, by decide, kAW (v_4_7 (List.mem_of_getElem? (i := 4) rfl)) rfl, rfl⟩
theorem FG_X12_127 : FG RX12 127 12 86 72 := ⟨RX12, TX12, rfl, wX12, by decide, kAW (v_4_7 (List.mem_of_getElem? (i := 5) rfl)) rfl, rfl⟩
theorem FG_X12_471 : FG RX12 471 12 86 57 := ⟨RX12, TX12, rfl, wX12, by decide, kAW (v_4_6 (List.mem_of_getElem? (i := 6) rfl)) rfl, rfl⟩
theorem FG_X12_130 : FG RX12 130 12 86 73 := ⟨RX12, TX12, rfl, wX12, by decide, kAW (v_4_7 (List.mem_of_getElem? (i := 6) rfl)) rfl, rfl⟩
theorem FG_X12_486 : FG RX12 486 12 86 58 := ⟨RX12, TX12, rfl, wX12, by decide, kAW (v_4_6 (List.mem_of_getElem? (i := 7) rfl)) rfl, rfl⟩
theorem FG_X12_133 : FG RX12 133 12 86 74 := ⟨RX12, TX12, rfl, wX12, by decide, kAW (v_4_7 (List.mem_of_getElem? (i := 7) rfl)) rfl, rfl⟩
theorem FG_X12_13 : FG RX12 13 12 86 2 := ⟨RX12, TX12, rfl, wX12, by decide, kAW (v_4_2 (List.mem_of_getElem? (i := 15) rfl)) rfl, rfl⟩
theorem FG_X12_121 : FG RX12 121 12 86 70 := ⟨RX12, TX12, rfl, wX12, by decide, kAW (v_4_7 (List.mem_of_getElem? (i := 3) rfl)) rfl, rfl⟩
theorem FG_X12_109 : FG RX12 109 12 86 55 := ⟨RX12, TX12, rfl, wX12, by decide, kAW (v_4_6 (List.mem_of_getElem? (i := 4) rfl)) rfl, rfl⟩
theorem FG_X12_112 : FG RX12 112 12 86 67 := ⟨RX12, TX12, rfl, wX12, by decide, kAW (v_4_7 (List.mem_of_getElem? (i := 0) rfl)) rfl, rfl⟩
theorem FG_X12_115 : FG RX12 115 12 86 68 := ⟨RX12, TX12, rfl, wX12, by decide, kAW (v_4_7 (List.mem_of_getElem? (i := 1) rfl)) rfl, rfl⟩
theorem FG_X12_103 : FG RX12 103 12 86 53 := ⟨RX12, TX12, rfl, wX12, by decide, kAW (v_4_6 (List.mem_of_getElem? (i := 2) rfl)) rfl, rfl⟩
theorem FG_X12_118 : FG RX12 118 12 86 69 := ⟨RX12, TX12, rfl, wX12, by decide, kAW (v_4_7 (List.mem_of_getElem? (i := 2) rfl)) rfl, rfl⟩
theorem FG_X12_106 : FG RX12 106 12 86 54 := ⟨RX12, TX12, rfl, wX12, by decide, kAW (v_4_6 (List.mem_of_getElem? (i := 3) rfl)) rfl, rfl⟩
set_option maxRecDepth 100000 in
set_option maxHeartbeats 4000000 in
theorem c_X12_laysAside (l : Launch) (D : va_G) (cA : Nat → ClassId) (ad : Nat → Nat) (g0 : Nat → va_E) (rr : Int32) (hSh : Shp ad cA g0) (r0 : 0 ≤ rr.toInt) (r1 : rr.toInt ≤ 1) : CT l NN ad cA D yX12_laysAside cX12_laysAside 3 none (0, 0) [.ref (ad 129), .int rr] g0 (fun v g' => v = none ∧ Shp ad cA g' ∧ FR (fun i k => (162 ≤ i ∧ i < 170)) g0 g') := by
  refine q_enterV (by decide) (Nat.le_of_ble_eq_true rfl) (fun K H locs ls _ _ hM hW0 hR hC hE hl => ?_)
  have hl : lv_has ls 3 [(0, .ref (ad 129)), (1, .int rr)] := hl
  have hW : WS ad cA (fun i k => (162 ≤ i ∧ i < 170)) g0 K g0 H locs := ⟨hW0, hSh, FR.rf⟩
  refine q_iconst (v := (0 : Int32)) hM dX12_laysAside_0 (by decide) ?_
  refine q_istore_n (lv9 := [(2, .int (0 : Int32)), (0, .ref (ad 129)), (1, .int rr)]) hM dX12_laysAside_1 hl (by decide) rfl (fun ls hl => ?_)
  have L2 : ∀ (fu2 : Nat) (p : Int32) (g9 : Nat → va_E) (H : Heap) (locs : List Loc) (ls : Array Slot), (8 - p.toInt).toNat < fu2 → (0 ≤ p.toInt) → (p.toInt ≤ 8) → lv_has ls 3 [(0, .ref (ad 129)), (1, .int rr), (2, .int p)] → WS ad cA (fun i k => (162 ≤ i ∧ i < 170)) g0 K g9 H locs → XX K 0 0 H locs 2 ls [] := by
    intro fu2
    induction fu2 with
    | zero => intro p g9 H locs ls h0; omega
    | succ fu2 ih2 =>
      intro p g9 H locs ls hm2 i2_0 i2_1 hl hW
      refine q_iload_n hM dX12_laysAside_2 (lv_at hl 2 rfl) ?_
      refine q_bipush (v := (8 : Int32)) hM dX12_laysAside_3 (by decide) ?_
      refine q_icmp_ge (tgt := 65) hM dX12_laysAside_5 (by decide) (rfl : p.toInt = p.toInt) (kc_8 : (8 : Int32).toInt = 8) (fun h5 => ?_) (fun h5 => ?_)
      · refine q_iconst (v := (0 : Int32)) hM dX12_laysAside_65 (by decide) ?_
        refine q_istore_n (lv9 := [(2, .int (0 : Int32)), (0, .ref (ad 129)), (1, .int rr)]) hM dX12_laysAside_66 hl (by decide) rfl (fun ls hl => ?_)
        have L67 : ∀ (fu67 : Nat) (p : Int32) (g9 : Nat → va_E) (H : Heap) (locs : List Loc) (ls : Array Slot), (96 - p.toInt).toNat < fu67 → (0 ≤ p.toInt) → (p.toInt ≤ 96) → lv_has ls 3 [(0, .ref (ad 129)), (1, .int rr), (2, .int p)] → WS ad cA (fun i k => (162 ≤ i ∧ i < 170)) g0 K g9 H locs → XX K 0 0 H locs 67 ls [] := by
          intro fu67
          induction fu67 with
          | zero => intro p g9 H locs ls h0; omega
          | succ fu67 ih67 =>
            intro p g9 H locs ls hm67 i67_0 i67_1 hl hW
            refine q_iload_n hM dX12_laysAside_67 (lv_at hl 2 rfl) ?_
            refine q_bipush (v := (96 : Int32)) hM dX12_laysAside_68 (by decide) ?_
            refine q_icmp_ge (tgt := 96) hM dX12_laysAside_70 (by decide) (rfl : p.toInt = p.toInt) (kc_96 : (96 : Int32).toInt = 96) (fun h70 => ?_) (fun h70 => ?_)
            · refine q_aload_n hM dX12_laysAside_96 (lv_at hl 0 rfl) ?_
              refine w_get (v := .ref (ad 166)) hM hW FG_X12_124 lb_129 (rf_129_71 hW.2.1) dX12_laysAside_97 ?_
              refine q_iload_n hM dX12_laysAside_100 (lv_at hl 1 rfl) ?_
              refine q_aload_n hM dX12_laysAside_101 (lv_at hl 0 rfl) ?_
              refine w_getI hM hW FG_X12_416 lb_129 (by decide) (by decide) dX12_laysAside_102 (fun x539 fx539 => ?_)
              refine w_iast hM hW lb_166 (by omega) (i_in (by omega) (by omega)) dX12_laysAside_105 (fun g540 H locs hW e1 e2 => ?_)
              have f541 : fld g540 129 56 = .int x539 := (e2.1 129 56 (by unfold Only; omega)).trans fx539
              refine q_aload_n hM dX12_laysAside_106 (lv_at hl 0 rfl) ?_
              refine w_get (v := .ref (ad 167)) hM hW FG_X12_127 lb_129 (rf_129_72 hW.2.1) dX12_laysAside_107 ?_
              refine q_iload_n hM dX12_laysAside_110 (lv_at hl 1 rfl) ?_
              refine q_aload_n hM dX12_laysAside_111 (lv_at hl 0 rfl) ?_
              refine w_getI hM hW FG_X12_471 lb_129 (by decide) (by decide) dX12_laysAside_112 (fun x542 fx542 => ?_)
              refine w_iast hM hW lb_167 (by omega) (i_in (by omega) (by omega)) dX12_laysAside_115 (fun g543 H locs hW e1 e2 => ?_)
              have f544 : fld g543 129 56 = .int x539 := (e2.1 129 56 (by unfold Only; omega)).trans f541
              have f545 : fld g543 129 57 = .int x542 := (e2.1 129 57 (by unfold Only; omega)).trans fx542
              refine q_aload_n hM dX12_laysAside_116 (lv_at hl 0 rfl) ?_
              refine w_get (v := .ref (ad 168)) hM hW FG_X12_130 lb_129 (rf_129_73 hW.2.1) dX12_laysAside_117 ?_
              refine q_iload_n hM dX12_laysAside_120 (lv_at hl 1 rfl) ?_
              refine q_aload_n hM dX12_laysAside_121 (lv_at hl 0 rfl) ?_
              refine w_getI hM hW FG_X12_486 lb_129 (by decide) (by decide) dX12_laysAside_122 (fun x546 fx546 => ?_)
              refine w_iast hM hW lb_168 (by omega) (i_in (by omega) (by omega)) dX12_laysAside_125 (fun g547 H locs hW e1 e2 => ?_)
              have f548 : fld g547 129 56 = .int x539 := (e2.1 129 56 (by unfold Only; omega)).trans f544
              have f549 : fld g547 129 57 = .int x542 := (e2.1 129 57 (by unfold Only; omega)).trans f545
              have f550 : fld g547 129 58 = .int x546 := (e2.1 129 58 (by unfold Only; omega)).trans fx546
              refine q_aload_n hM dX12_laysAside_126 (lv_at hl 0 rfl) ?_
              refine w_get (v := .ref (ad 169)) hM hW FG_X12_133 lb_129 (rf_129_74 hW.2.1) dX12_laysAside_127 ?_
              refine q_iload_n hM dX12_laysAside_130 (lv_at hl 1 rfl) ?_
              refine q_aload_n hM dX12_laysAside_131 (lv_at hl 0 rfl) ?_
              refine w_getI hM hW FG_X12_13 lb_129 (by decide) (by decide) dX12_laysAside_132 (fun x551 fx551 => ?_)
              refine w_iast hM hW lb_169 (by omega) (i_in (by omega) (by omega)) dX12_laysAside_135 (fun g552 H locs hW e1 e2 => ?_)
              have f553 : fld g552 129 56 = .int x539 := (e2.1 129 56 (by unfold Only; omega)).trans f548
              have f554 : fld g552 129 57 = .int x542 := (e2.1 129 57 (by unfold Only; omega)).trans f549
              have f555 : fld g552 129 58 = .int x546 := (e2.1 129 58 (by unfold Only; omega)).trans f550
              have f556 : fld g552 129 2 = .int x551 := (e2.1 129 2 (by unfold Only; omega)).trans fx551
              exact hE _ _ _ _ _ hW.1 ⟨rfl, hW.2.1, hW.2.2⟩ dX12_laysAside_136
            · refine q_aload_n hM dX12_laysAside_73 (lv_at hl 0 rfl) ?_
              refine w_get (v := .ref (ad 165)) hM hW FG_X12_121 lb_129 (rf_129_70 hW.2.1) dX12_laysAside_74 ?_
              refine q_bipush (v := (96 : Int32)) hM dX12_laysAside_77 (by decide) ?_
              refine q_iload_n hM dX12_laysAside_79 (lv_at hl 1 rfl) ?_
              refine q_imul hM dX12_laysAside_80 (fun z557 hz557 => ?_)
              have tz557 := i_mulT hz557 (kc_96 : (96 : Int32).toInt = 96) (rfl : rr.toInt = rr.toInt) (by omega) (by omega)
              refine q_iload_n hM dX12_laysAside_81 (lv_at hl 2 rfl) ?_
              refine q_iadd hM dX12_laysAside_82 (fun z558 hz558 => ?_)
              have tz558 := i_addT hz558 (rfl : z557.toInt = z557.toInt) (rfl : p.toInt = p.toInt) (by omega) (by omega)
              refine q_aload_n hM dX12_laysAside_83 (lv_at hl 0 rfl) ?_
              refine w_get (v := .ref (ad 161)) hM hW FG_X12_109 lb_129 (rf_129_55 hW.2.1) dX12_laysAside_84 ?_
              refine q_iload_n hM dX12_laysAside_87 (lv_at hl 2 rfl) ?_
              refine w_iald hM hW lb_161 (i_in (by omega) (by omega)) dX12_laysAside_88 ?_
              refine q_top (fun y559 hy559 => ?_)
              refine w_iast hM hW lb_165 (by omega) (i_in (by omega) (by omega)) dX12_laysAside_89 (fun g560 H locs hW e1 e2 => ?_)
              refine q_iinc (lv9 := fun z561 => [(2, .int z561), (0, .ref (ad 129)), (1, .int rr)]) hM dX12_laysAside_90 hl (kq := 2) rfl (by decide) (fun _ => rfl) (fun z561 ls hz561 hl => ?_)
              have tz561 := i_addT hz561 (rfl : p.toInt = p.toInt) (kc_1 : (Int32.ofInt 1).toInt = 1) (by omega) (by omega)
              refine q_goto (tgt := 67) hM dX12_laysAside_93 (by decide) ?_
              exact ih67 z561 _ _ _ _ (by omega) (by omega) (by omega) (lv_sub hl [1, 2, 0] rfl) hW
        have := kc_0
        exact L67 _ (0 : Int32) _ _ _ _ (Nat.lt_succ_self _) (by omega) (by omega) (lv_sub hl [1, 2, 0] rfl) hW
      · refine q_aload_n hM dX12_laysAside_8 (lv_at hl 0 rfl) ?_
        refine w_get (v := .ref (ad 162)) hM hW FG_X12_112 lb_129 (rf_129_67 hW.2.1) dX12_laysAside_9 ?_
        refine q_bipush (v := (8 : Int32)) hM dX12_laysAside_12 (by decide) ?_
        refine q_iload_n hM dX12_laysAside_14 (lv_at hl 1 rfl) ?_
        refine q_imul hM dX12_laysAside_15 (fun z562 hz562 => ?_)
        have tz562 := i_mulT hz562 (kc_8 : (8 : Int32).toInt = 8) (rfl : rr.toInt = rr.toInt) (by omega) (by omega)
        refine q_iload_n hM dX12_laysAside_16 (lv_at hl 2 rfl) ?_
        refine q_iadd hM dX12_laysAside_17 (fun z563 hz563 => ?_)
        have tz563 := i_addT hz563 (rfl : z562.toInt = z562.toInt) (rfl : p.toInt = p.toInt) (by omega) (by omega)
        refine q_aload_n hM dX12_laysAside_18 (lv_at hl 0 rfl) ?_
        refine w_get (v := .ref (ad 158)) hM hW FG_X12_100 lb_129 (rf_129_52 hW.2.1) dX12_laysAside_19 ?_
        refine q_iload_n hM dX12_laysAside_22 (lv_at hl 2 rfl) ?_
        refine w_zald hM hW lb_158 (i_in (by omega) (by omega)) dX12_laysAside_23 ?_
        refine q_top (fun y564 hy564 => ?_)
        refine w_zast hM hW lb_162 (by omega) (i_in (by omega) (by omega)) dX12_laysAside_24 (fun g565 H locs hW e1 e2 => ?_)
        refine q_aload_n hM dX12_laysAside_25 (lv_at hl 0 rfl) ?_
        refine w_get (v := .ref (ad 163)) hM hW FG_X12_115 lb_129 (rf_129_68 hW.2.1) dX12_laysAside_26 ?_
        refine q_bipush (v := (8 : Int32)) hM dX12_laysAside_29 (by decide) ?_
        refine q_iload_n hM dX12_laysAside_31 (lv_at hl 1 rfl) ?_
        refine q_imul hM dX12_laysAside_32 (fun z566 hz566 => ?_)
        have tz566 := i_mulT hz566 (kc_8 : (8 : Int32).toInt = 8) (rfl : rr.toInt = rr.toInt) (by omega) (by omega)
        refine q_iload_n hM dX12_laysAside_33 (lv_at hl 2 rfl) ?_
        refine q_iadd hM dX12_laysAside_34 (fun z567 hz567 => ?_)
        have tz567 := i_addT hz567 (rfl : z566.toInt = z566.toInt) (rfl : p.toInt = p.toInt) (by omega) (by omega)
        refine q_aload_n hM dX12_laysAside_35 (lv_at hl 0 rfl) ?_
        refine w_get (v := .ref (ad 159)) hM hW FG_X12_103 lb_129 (rf_129_53 hW.2.1) dX12_laysAside_36 ?_
        refine q_iload_n hM dX12_laysAside_39 (lv_at hl 2 rfl) ?_
        refine w_iald hM hW lb_159 (i_in (by omega) (by omega)) dX12_laysAside_40 ?_
        refine q_top (fun y568 hy568 => ?_)
        refine w_iast hM hW lb_163 (by omega) (i_in (by omega) (by omega)) dX12_laysAside_41 (fun g569 H locs hW e1 e2 => ?_)
        refine q_aload_n hM dX12_laysAside_42 (lv_at hl 0 rfl) ?_
        refine w_get (v := .ref (ad 164)) hM hW FG_X12_118 lb_129 (rf_129_69 hW.2.1) dX12_laysAside_43 ?_
        refine q_bipush (v := (8 : Int32)) hM dX12_laysAside_46 (by decide) ?_
        refine q_iload_n hM dX12_laysAside_48 (lv_at hl 1 rfl) ?_
        refine q_imul hM dX12_laysAside_49 (fun z570 hz570 => ?_)
        have tz570 := i_mulT hz570 (kc_8 : (8 : Int32).toInt = 8) (rfl : rr.toInt = rr.toInt) (by omega) (by omega)
        refine q_iload_n hM dX12_laysAside_50 (lv_at hl 2 rfl) ?_
        refine q_iadd hM dX12_laysAside_51 (fun z571 hz571 => ?_)
        have tz571 := i_addT hz571 (rfl : z570.toInt = z570.toInt) (rfl : p.toInt = p.toInt) (by omega) (by omega)
        refine q_aload_n hM dX12_laysAside_52 (lv_at hl 0 rfl) ?_
        refine w_get (v := .ref (ad 160)) hM hW FG_X12_106 lb_129 (rf_129_54 hW.2.1) dX12_laysAside_53 ?_
        refine q_iload_n hM dX12_laysAside_56 (lv_at hl 2 rfl) ?_
        refine w_iald hM hW lb_160 (i_in (by omega) (by omega)) dX12_laysAside_57 ?_
        refine q_top (fun y572 hy572 => ?_)
        refine w_iast hM hW lb_164 (by omega) (i_in (by omega) (by omega)) dX12_laysAside_58 (fun g573 H locs hW e1 e2 => ?_)
        refine q_iinc (lv9 := fun z574 => [(2, .int z574), (0, .ref (ad 129)), (1, .int rr)]) hM dX12_laysAside_59 hl (kq := 2) rfl (by decide) (fun _ => rfl) (fun z574 ls hz574 hl => ?_)
        have tz574 := i_addT hz574 (rfl : p.toInt = p.toInt) (kc_1 : (Int32.ofInt 1).toInt = 1) (by omega) (by omega)
        refine q_goto (tgt := 2) hM dX12_laysAside_62 (by decide) ?_
        exact ih2 z574 _ _ _ _ (by omega) (by omega) (by omega) (lv_sub hl [1, 2, 0] rfl) hW
  have := kc_0
  exact L2 _ (0 : Int32) _ _ _ _ (Nat.lt_succ_self _) (by omega) (by omega) (lv_sub hl [1, 2, 0] rfl) hW

theorem dX12_bringsBack_0 : decode cX12_bringsBack 0 = .ok (.iconst 0, 1) := by decide +kernel
theorem dX12_bringsBack_1 : decode cX12_bringsBack 1 = .ok (.istore_n 2, 1) := by decide +kernel
theorem dX12_bringsBack_2 : decode cX12_bringsBack 2 = .ok (.iload_n 2, 1) := by decide +kernel
theorem dX12_bringsBack_3 : decode cX12_bringsBack 3 = .ok (.bipush 8, 2) := by decide +kernel
theorem dX12_bringsBack_5 : decode cX12_bringsBack 5 = .ok (.if_icmp .ge 60, 3) := by decide +kernel
theorem dX12_bringsBack_8 : decode cX12_bringsBack 8 = .ok (.aload_n 0, 1) := by decide +kernel
theorem dX12_bringsBack_9 : decode cX12_bringsBack 9 = .ok (.getfield 100, 3) := by decide +kernel
theorem dX12_bringsBack_12 : decode cX12_bringsBack 12 = .ok (.iload_n 2, 1) := by decide +kernel
theorem dX12_bringsBack_13 : decode cX12_bringsBack 13 = .ok (.aload_n 0, 1) := by decide +kernel
theorem dX12_bringsBack_14 : decode cX12_bringsBack 14 = .ok (.getfield 112, 3) := by decide +kernel
theorem dX12_bringsBack_17 : decode cX12_bringsBack 17 = .ok (.bipush 8, 2) := by decide +kernel
theorem dX12_bringsBack_19 : decode cX12_bringsBack 19 = .ok (.iload_n 1, 1) := by decide +kernel
theorem dX12_bringsBack_20 : decode cX12_bringsBack 20 = .ok (.imul, 1) := by decide +kernel
theorem dX12_bringsBack_21 : decode cX12_bringsBack 21 = .ok (.iload_n 2, 1) := by decide +kernel
theorem dX12_bringsBack_22 : decode cX12_bringsBack 22 = .ok (.iadd, 1) := by decide +kernel
theorem dX12_bringsBack_23 : decode cX12_bringsBack 23 = .ok (.baload, 1) := by decide +kernel
theorem dX12_bringsBack_24 : decode cX12_bringsBack 24 = .ok (.bastore, 1) := by decide +kernel
theorem dX12_bringsBack_25 : decode cX12_bringsBack 25 = .ok (.aload_n 0, 1) := by decide +kernel
theorem dX12_bringsBack_26 : decode cX12_bringsBack 26 = .ok (.getfield 103, 3) := by decide +kernel
theorem dX12_bringsBack_29 : decode cX12_bringsBack 29 = .ok (.iload_n 2, 1) := by decide +kernel
theorem dX12_bringsBack_30 : decode cX12_bringsBack 30 = .ok (.aload_n 0, 1) := by decide +kernel
theorem dX12_bringsBack_31 : decode cX12_bringsBack 31 = .ok (.getfield 115, 3) := by decide +kernel
theorem dX12_bringsBack_34 : decode cX12_bringsBack 34 = .ok (.bipush 8, 2) := by decide +kernel
theorem dX12_bringsBack_36 : decode cX12_bringsBack 36 = .ok (.iload_n 1, 1) := by decide +kernel
theorem dX12_bringsBack_37 : decode cX12_bringsBack 37 = .ok (.imul, 1) := by decide +kernel
theorem dX12_bringsBack_38 : decode cX12_bringsBack 38 = .ok (.iload_n 2, 1) := by decide +kernel
theorem dX12_bringsBack_39 : decode cX12_bringsBack 39 = .ok (.iadd, 1) := by decide +kernel
theorem dX12_bringsBack_40 : decode cX12_bringsBack 40 = .ok (.iaload, 1) := by decide +kernel
theorem dX12_bringsBack_41 : decode cX12_bringsBack 41 = .ok (.iastore, 1) := by decide +kernel
theorem dX12_bringsBack_42 : decode cX12_bringsBack 42 = .ok (.aload_n 0, 1) := by decide +kernel
theorem dX12_bringsBack_43 : decode cX12_bringsBack 43 = .ok (.getfield 106, 3) := by decide +kernel
theorem dX12_bringsBack_46 : decode cX12_bringsBack 46 = .ok (.iload_n 2, 1) := by decide +kernel
theorem dX12_bringsBack_47 : decode cX12_bringsBack 47 = .ok (.aload_n 0, 1) := by decide +kernel
theorem dX12_bringsBack_48 : decode cX12_bringsBack 48 = .ok (.getfield 118, 3) := by decide +kernel
theorem dX12_bringsBack_51 : decode cX12_bringsBack 51 = .ok (.bipush 8, 2) := by decide +kernel
theorem dX12_bringsBack_53 : decode cX12_bringsBack 53 = .ok (.iload_n 1, 1) := by decide +kernel
theorem dX12_bringsBack_54 : decode cX12_bringsBack 54 = .ok (.imul, 1) := by decide +kernel
theorem dX12_bringsBack_55 : decode cX12_bringsBack 55 = .ok (.iload_n 2, 1) := by decide +kernel
theorem dX12_bringsBack_56 : decode cX12_bringsBack 56 = .ok (.iadd, 1) := by decide +kernel
theorem dX12_bringsBack_57 : decode cX12_bringsBack 57 = .ok (.iaload, 1) := by decide +kernel
theorem dX12_bringsBack_58 : decode cX12_bringsBack 58 = .ok (.iastore, 1) := by decide +kernel
theorem dX12_bringsBack_59 : decode cX12_bringsBack 59 = .ok (.iinc 2 1, 3) := by decide +kernel
theorem dX12_bringsBack_62 : decode cX12_bringsBack 62 = .ok (.goto (-60), 3) := by decide +kernel
theorem dX12_bringsBack_65 : decode cX12_bringsBack 65 = .ok (.iconst 0, 1) := by decide +kernel
theorem dX12_bringsBack_66 : decode cX12_bringsBack 66 = .ok (.istore_n 2, 1) := by decide +kernel
theorem dX12_bringsBack_67 : decode cX12_bringsBack 67 = .ok (.iload_n 2, 1) := by decide +kernel
theorem dX12_bringsBack_68 : decode cX12_bringsBack 68 = .ok (.bipush 96, 2) := by decide +kernel
theorem dX12_bringsBack_70 : decode cX12_bringsBack 70 = .ok (.if_icmp .ge 26, 3) := by decide +kernel
theorem dX12_bringsBack_73 : decode cX12_bringsBack 73 = .ok (.aload_n 0, 1) := by decide +kernel
theorem dX12_bringsBack_74 : decode cX12_bringsBack 74 = .ok (.getfield 109, 3) := by decide +kernel
theorem dX12_bringsBack_77 : decode cX12_bringsBack 77 = .ok (.iload_n 2, 1) := by decide +kernel
theorem dX12_bringsBack_78 : decode cX12_bringsBack 78 = .ok (.aload_n 0, 1) := by decide +kernel
theorem dX12_bringsBack_79 : decode cX12_bringsBack 79 = .ok (.getfield 121, 3) := by decide +kernel
theorem dX12_bringsBack_82 : decode cX12_bringsBack 82 = .ok (.bipush 96, 2) := by decide +kernel
theorem dX12_bringsBack_84 : decode cX12_bringsBack 84 = .ok (.iload_n 1, 1) := by decide +kernel
theorem dX12_bringsBack_85 : decode cX12_bringsBack 85 = .ok (.imul, 1) := by decide +kernel
theorem dX12_bringsBack_86 : decode cX12_bringsBack 86 = .ok (.iload_n 2, 1) := by decide +kernel
theorem dX12_bringsBack_87 : decode cX12_bringsBack 87 = .ok (.iadd, 1) := by decide +kernel
theorem dX12_bringsBack_88 : decode cX12_bringsBack 88 = .ok (.iaload, 1) := by decide +kernel
theorem dX12_bringsBack_89 : decode cX12_bringsBack 89 = .ok (.iastore, 1) := by decide +kernel
theorem dX12_bringsBack_90 : decode cX12_bringsBack 90 = .ok (.iinc 2 1, 3) := by decide +kernel
theorem dX12_bringsBack_93 : decode cX12_bringsBack 93 = .ok (.goto (-26), 3) := by decide +kernel
theorem dX12_bringsBack_96 : decode cX12_bringsBack 96 = .ok (.aload_n 0, 1) := by decide +kernel
theorem dX12_bringsBack_97 : decode cX12_bringsBack 97 = .ok (.aload_n 0, 1) := by decide +kernel
theorem dX12_bringsBack_98 : decode cX12_bringsBack 98 = .ok (.getfield 124, 3) := by decide +kernel
theorem dX12_bringsBack_101 : decode cX12_bringsBack 101 = .ok (.iload_n 1, 1) := by decide +kernel
theorem dX12_bringsBack_102 : decode cX12_bringsBack 102 = .ok (.iaload, 1) := by decide +kernel
theorem dX12_bringsBack_103 : decode cX12_bringsBack 103 = .ok (.putfield 416, 3) := by decide +kernel
theorem dX12_bringsBack_106 : decode cX12_bringsBack 106 = .ok (.aload_n 0, 1) := by decide +kernel
theorem dX12_bringsBack_107 : decode cX12_bringsBack 107 = .ok (.aload_n 0, 1) := by decide +kernel
theorem dX12_bringsBack_108 : decode cX12_bringsBack 108 = .ok (.getfield 127, 3) := by decide +kernel
theorem dX12_bringsBack_111 : decode cX12_bringsBack 111 = .ok (.iload_n 1, 1) := by decide +kernel
theorem dX12_bringsBack_112 : decode cX12_bringsBack 112 = .ok (.iaload, 1) := by decide +kernel
theorem dX12_bringsBack_113 : decode cX12_bringsBack 113 = .ok (.putfield 471, 3) := by decide +kernel
theorem dX12_bringsBack_116 : decode cX12_bringsBack 116 = .ok (.aload_n 0, 1) := by decide +kernel
theorem dX12_bringsBack_117 : decode cX12_bringsBack 117 = .ok (.aload_n 0, 1) := by decide +kernel
theorem dX12_bringsBack_118 : decode cX12_bringsBack 118 = .ok (.getfield 130, 3) := by decide +kernel
theorem dX12_bringsBack_121 : decode cX12_bringsBack 121 = .ok (.iload_n 1, 1) := by decide +kernel
theorem dX12_bringsBack_122 : decode cX12_bringsBack 122 = .ok (.iaload, 1) := by decide +kernel
theorem dX12_bringsBack_123 : decode cX12_bringsBack 123 = .ok (.putfield 486, 3) := by decide +kernel
theorem dX12_bringsBack_126 : decode cX12_bringsBack 126 = .ok (.aload_n 0, 1) := by decide +kernel
theorem dX12_bringsBack_127 : decode cX12_bringsBack 127 = .ok (.aload_n 0, 1) := by decide +kernel
theorem dX12_bringsBack_128 : decode cX12_bringsBack 128 = .ok (.getfield 133, 3) := by decide +kernel
theorem dX12_bringsBack_131 : decode cX12_bringsBack 131 = .ok (.iload_n 1, 1) := by decide +kernel
theorem dX12_bringsBack_132 : decode cX12_bringsBack 132 = .ok (.iaload, 1) := by decide +kernel
theorem dX12_bringsBack_133 : decode cX12_bringsBack 133 = .ok (.putfield 13, 3) := by decide +kernel
theorem dX12_bringsBack_136 : decode cX12_bringsBack 136 = .ok (.return_, 1) := by decide +kernel
theorem FP_X12_471 : FPX RX12 471 12 86 57 .int := ⟨⟨RX12, TX12, tyX12, rfl, wX12, by decide, kAW (v_4_6 (List.mem_of_getElem? (i := 6) rfl)) rfl, rfl, tyX12_ok, nmX12, by decide +kernel, rfl⟩, by decide +kernel⟩
theorem FP_X12_486 : FPX RX12 486 12 86 58 .int := ⟨⟨RX12, TX12, tyX12, rfl, wX12, by decide, kAW (v_4_6 (List.mem_of_getElem? (i := 7) rfl)) rfl, rfl, tyX12_ok, nmX12, by decide +kernel, rfl⟩, by decide +kernel⟩
theorem FP_X12_13 : FPX RX12 13 12 86 2 .int := ⟨⟨RX12, TX12, tyX12, rfl, wX12, by decide, kAW (v_4_2 (List.mem_of_getElem? (i := 15) rfl)) rfl, rfl, tyX12_ok, nmX12, by decide +kernel, rfl⟩, by decide +kernel⟩
set_option maxRecDepth 100000 in
set_option maxHeartbeats 4000000 in
theorem c_X12_bringsBack (l : Launch) (D : va_G) (cA : Nat → ClassId) (ad : Nat → Nat) (g0 : Nat → va_E) (rr : Int32) (hSh : Shp ad cA g0) (r0 : 0 ≤ rr.toInt) (r1 : rr.toInt ≤ 1) : CT l NN ad cA D yX12_bringsBack cX12_bringsBack 3 none (0, 0) [.ref (ad 129), .int rr] g0 (fun v g' => v = none ∧ Shp ad cA g' ∧ FR (fun i k => (158 ≤ i ∧ i < 162) ∨ (i = 129 ∧ (k = 2 ∨ k = 56 ∨ k = 57 ∨ k = 58))) g0 g') := by
  refine q_enterV (by decide) (Nat.le_of_ble_eq_true rfl) (fun K H locs ls _ _ hM hW0 hR hC hE hl => ?_)
  have hl : lv_has ls 3 [(0, .ref (ad 129)), (1, .int rr)] := hl
  have hW : WS ad cA (fun i k => (158 ≤ i ∧ i < 162) ∨ (i = 129 ∧ (k = 2 ∨ k = 56 ∨ k = 57 ∨ k = 58))) g0 K g0 H locs := ⟨hW0, hSh, FR.rf⟩
  refine q_iconst (v := (0 : Int32)) hM dX12_bringsBack_0 (by decide) ?_
  refine q_istore_n (lv9 := [(2, .int (0 : Int32)), (0, .ref (ad 129)), (1, .int rr)]) hM dX12_bringsBack_1 hl (by decide) rfl (fun ls hl => ?_)
  have L2 : ∀ (fu2 : Nat) (p : Int32) (g9 : Nat → va_E) (H : Heap) (locs : List Loc) (ls : Array Slot), (8 - p.toInt).toNat < fu2 → (0 ≤ p.toInt) → (p.toInt ≤ 8) → lv_has ls 3 [(0, .ref (ad 129)), (1, .int rr), (2, .int p)] → WS ad cA (fun i k => (158 ≤ i ∧ i < 162) ∨ (i = 129 ∧ (k = 2 ∨ k = 56 ∨ k = 57 ∨ k = 58))) g0 K g9 H locs → XX K 0 0 H locs 2 ls [] := by
    intro fu2
    induction fu2 with
    | zero => intro p g9 H locs ls h0; omega
    | succ fu2 ih2 =>
      intro p g9 H locs ls hm2 i2_0 i2_1 hl hW
      refine q_iload_n hM dX12_bringsBack_2 (lv_at hl 2 rfl) ?_
      refine q_bipush (v := (8 : Int32)) hM dX12_bringsBack_3 (by decide) ?_
      refine q_icmp_ge (tgt := 65) hM dX12_bringsBack_5 (by decide) (rfl : p.toInt = p.toInt) (kc_8 : (8 : Int32).toInt = 8) (fun h5 => ?_) (fun h5 => ?_)
      · refine q_iconst (v := (0 : Int32)) hM dX12_bringsBack_65 (by decide) ?_
        refine q_istore_n (lv9 := [(2, .int (0 : Int32)), (0, .ref (ad 129)), (1, .int rr)]) hM dX12_bringsBack_66 hl (by decide) rfl (fun ls hl => ?_)
        have L67 : ∀ (fu67 : Nat) (p : Int32) (g9 : Nat → va_E) (H : Heap) (locs : List Loc) (ls : Array Slot), (96 - p.toInt).toNat < fu67 → (0 ≤ p.toInt) → (p.toInt ≤ 96) → lv_has ls 3 [(0, .ref (ad 129)), (1, .int rr), (2, .int p)] → WS ad cA (fun i k => (158 ≤ i ∧ i < 162) ∨ (i = 129 ∧ (k = 2 ∨ k = 56 ∨ k = 57 ∨ k = 58))) g0 K g9 H locs → XX K 0 0 H locs 67 ls [] := by
          intro fu67
          induction fu67 with
          | zero => intro p g9 H locs ls h0; omega
          | succ fu67 ih67 =>
            intro p g9 H locs ls hm67 i67_0 i67_1 hl hW
            refine q_iload_n hM dX12_bringsBack_67 (lv_at hl 2 rfl) ?_
            refine q_bipush (v := (96 : Int32)) hM dX12_bringsBack_68 (by decide) ?_
            refine q_icmp_ge (tgt := 96) hM dX12_bringsBack_70 (by decide) (rfl : p.toInt = p.toInt) (kc_96 : (96 : Int32).toInt = 96) (fun h70 => ?_) (fun h70 => ?_)
            · refine q_aload_n hM dX12_bringsBack_96 (lv_at hl 0 rfl) ?_
              refine q_aload_n hM dX12_bringsBack_97 (lv_at hl 0 rfl) ?_
              refine w_get (v := .ref (ad 166)) hM hW FG_X12_124 lb_129 (rf_129_71 hW.2.1) dX12_bringsBack_98 ?_
              refine q_iload_n hM dX12_bringsBack_101 (lv_at hl 1 rfl) ?_
              refine w_iald hM hW lb_166 (i_in (by omega) (by omega)) dX12_bringsBack_102 ?_
              refine q_top (fun y575 hy575 => ?_)
              refine w_put hM hW FP_X12_416 lb_129 (by omega) (Or.inl ⟨_, rfl⟩) rfl rfl dX12_bringsBack_103 (fun g576 H locs hW e1 e2 => ?_)
              have f577 : fld g576 129 56 = .int y575 := e1
              refine q_aload_n hM dX12_bringsBack_106 (lv_at hl 0 rfl) ?_
              refine q_aload_n hM dX12_bringsBack_107 (lv_at hl 0 rfl) ?_
              refine w_get (v := .ref (ad 167)) hM hW FG_X12_127 lb_129 (rf_129_72 hW.2.1) dX12_bringsBack_108 ?_
              refine q_iload_n hM dX12_bringsBack_111 (lv_at hl 1 rfl) ?_
              refine w_iald hM hW lb_167 (i_in (by omega) (by omega)) dX12_bringsBack_112 ?_
              refine q_top (fun y578 hy578 => ?_)
              refine w_put hM hW FP_X12_471 lb_129 (by omega) (Or.inl ⟨_, rfl⟩) rfl rfl dX12_bringsBack_113 (fun g579 H locs hW e1 e2 => ?_)
              have f580 : fld g579 129 56 = .int y575 := (e2.1 129 56 (by unfold Only; omega)).trans f577
              have f581 : fld g579 129 57 = .int y578 := e1
              refine q_aload_n hM dX12_bringsBack_116 (lv_at hl 0 rfl) ?_
              refine q_aload_n hM dX12_bringsBack_117 (lv_at hl 0 rfl) ?_
              refine w_get (v := .ref (ad 168)) hM hW FG_X12_130 lb_129 (rf_129_73 hW.2.1) dX12_bringsBack_118 ?_
              refine q_iload_n hM dX12_bringsBack_121 (lv_at hl 1 rfl) ?_
              refine w_iald hM hW lb_168 (i_in (by omega) (by omega)) dX12_bringsBack_122 ?_
              refine q_top (fun y582 hy582 => ?_)
              refine w_put hM hW FP_X12_486 lb_129 (by omega) (Or.inl ⟨_, rfl⟩) rfl rfl dX12_bringsBack_123 (fun g583 H locs hW e1 e2 => ?_)
              have f584 : fld g583 129 56 = .int y575 := (e2.1 129 56 (by unfold Only; omega)).trans f580
              have f585 : fld g583 129 57 = .int y578 := (e2.1 129 57 (by unfold Only; omega)).trans f581
              have f586 : fld g583 129 58 = .int y582 := e1
              refine q_aload_n hM dX12_bringsBack_126 (lv_at hl 0 rfl) ?_
              refine q_aload_n hM dX12_bringsBack_127 (lv_at hl 0 rfl) ?_
              refine w_get (v := .ref (ad 169)) hM hW FG_X12_133 lb_129 (rf_129_74 hW.2.1) dX12_bringsBack_128 ?_
              refine q_iload_n hM dX12_bringsBack_131 (lv_at hl 1 rfl) ?_
              refine w_iald hM hW lb_169 (i_in (by omega) (by omega)) dX12_bringsBack_132 ?_
              refine q_top (fun y587 hy587 => ?_)
              refine w_put hM hW FP_X12_13 lb_129 (by omega) (Or.inl ⟨_, rfl⟩) rfl rfl dX12_bringsBack_133 (fun g588 H locs hW e1 e2 => ?_)
              have f589 : fld g588 129 56 = .int y575 := (e2.1 129 56 (by unfold Only; omega)).trans f584
              have f590 : fld g588 129 57 = .int y578 := (e2.1 129 57 (by unfold Only; omega)).trans f585
              have f591 : fld g588 129 58 = .int y582 := (e2.1 129 58 (by unfold Only; omega)).trans f586
              have f592 : fld g588 129 2 = .int y587 := e1
              exact hE _ _ _ _ _ hW.1 ⟨rfl, hW.2.1, hW.2.2⟩ dX12_bringsBack_136
            · refine q_aload_n hM dX12_bringsBack_73 (lv_at hl 0 rfl) ?_
              refine w_get (v := .ref (ad 161)) hM hW FG_X12_109 lb_129 (rf_129_55 hW.2.1) dX12_bringsBack_74 ?_
              refine q_iload_n hM dX12_bringsBack_77 (lv_at hl 2 rfl) ?_
              refine q_aload_n hM dX12_bringsBack_78 (lv_at hl 0 rfl) ?_
              refine w_get (v := .ref (ad 165)) hM hW FG_X12_121 lb_129 (rf_129_70 hW.2.1) dX12_bringsBack_79 ?_
              refine q_bipush (v := (96 : Int32)) hM dX12_bringsBack_82 (by decide) ?_
              refine q_iload_n hM dX12_bringsBack_84 (lv_at hl 1 rfl) ?_
              refine q_imul hM dX12_bringsBack_85 (fun z593 hz593 => ?_)
              have tz593 := i_mulT hz593 (kc_96 : (96 : Int32).toInt = 96) (rfl : rr.toInt = rr.toInt) (by omega) (by omega)
              refine q_iload_n hM dX12_bringsBack_86 (lv_at hl 2 rfl) ?_
              refine q_iadd hM dX12_bringsBack_87 (fun z594 hz594 => ?_)
              have tz594 := i_addT hz594 (rfl : z593.toInt = z593.toInt) (rfl : p.toInt = p.toInt) (by omega) (by omega)
              refine w_iald hM hW lb_165 (i_in (by omega) (by omega)) dX12_bringsBack_88 ?_
              refine q_top (fun y595 hy595 => ?_)
              refine w_iast hM hW lb_161 (by omega) (i_in (by omega) (by omega)) dX12_bringsBack_89 (fun g596 H locs hW e1 e2 => ?_)
              refine q_iinc (lv9 := fun z597 => [(2, .int z597), (0, .ref (ad 129)), (1, .int rr)]) hM dX12_bringsBack_90 hl (kq := 2) rfl (by decide) (fun _ => rfl) (fun z597 ls hz597 hl => ?_)
              have tz597 := i_addT hz597 (rfl : p.toInt = p.toInt) (kc_1 : (Int32.ofInt 1).toInt = 1) (by omega) (by omega)
              refine q_goto (tgt := 67) hM dX12_bringsBack_93 (by decide) ?_
              exact ih67 z597 _ _ _ _ (by omega) (by omega) (by omega) (lv_sub hl [1, 2, 0] rfl) hW
        have := kc_0
        exact L67 _ (0 : Int32) _ _ _ _ (Nat.lt_succ_self _) (by omega) (by omega) (lv_sub hl [1, 2, 0] rfl) hW
      · refine q_aload_n hM dX12_bringsBack_8 (lv_at hl 0 rfl) ?_
        refine w_get (v := .ref (ad 158)) hM hW FG_X12_100 lb_129 (rf_129_52 hW.2.1) dX12_bringsBack_9 ?_
        refine q_iload_n hM dX12_bringsBack_12 (lv_at hl 2 rfl) ?_
        refine q_aload_n hM dX12_bringsBack_13 (lv_at hl 0 rfl) ?_
        refine w_get (v := .ref (ad 162)) hM hW FG_X12_112 lb_129 (rf_129_67 hW.2.1) dX12_bringsBack_14 ?_
        refine q_bipush (v := (8 : Int32)) hM dX12_bringsBack_17 (by decide) ?_
        refine q_iload_n hM dX12_bringsBack_19 (lv_at hl 1 rfl) ?_
        refine q_imul hM dX12_bringsBack_20 (fun z598 hz598 => ?_)
        have tz598 := i_mulT hz598 (kc_8 : (8 : Int32).toInt = 8) (rfl : rr.toInt = rr.toInt) (by omega) (by omega)
        refine q_iload_n hM dX12_bringsBack_21 (lv_at hl 2 rfl) ?_
        refine q_iadd hM dX12_bringsBack_22 (fun z599 hz599 => ?_)
        have tz599 := i_addT hz599 (rfl : z598.toInt = z598.toInt) (rfl : p.toInt = p.toInt) (by omega) (by omega)
        refine w_zald hM hW lb_162 (i_in (by omega) (by omega)) dX12_bringsBack_23 ?_
        refine q_top (fun y600 hy600 => ?_)
        refine w_zast hM hW lb_158 (by omega) (i_in (by omega) (by omega)) dX12_bringsBack_24 (fun g601 H locs hW e1 e2 => ?_)
        refine q_aload_n hM dX12_bringsBack_25 (lv_at hl 0 rfl) ?_
        refine w_get (v := .ref (ad 159)) hM hW FG_X12_103 lb_129 (rf_129_53 hW.2.1) dX12_bringsBack_26 ?_
        refine q_iload_n hM dX12_bringsBack_29 (lv_at hl 2 rfl) ?_
        refine q_aload_n hM dX12_bringsBack_30 (lv_at hl 0 rfl) ?_
        refine w_get (v := .ref (ad 163)) hM hW FG_X12_115 lb_129 (rf_129_68 hW.2.1) dX12_bringsBack_31 ?_
        refine q_bipush (v := (8 : Int32)) hM dX12_bringsBack_34 (by decide) ?_
        refine q_iload_n hM dX12_bringsBack_36 (lv_at hl 1 rfl) ?_
        refine q_imul hM dX12_bringsBack_37 (fun z602 hz602 => ?_)
        have tz602 := i_mulT hz602 (kc_8 : (8 : Int32).toInt = 8) (rfl : rr.toInt = rr.toInt) (by omega) (by omega)
        refine q_iload_n hM dX12_bringsBack_38 (lv_at hl 2 rfl) ?_
        refine q_iadd hM dX12_bringsBack_39 (fun z603 hz603 => ?_)
        have tz603 := i_addT hz603 (rfl : z602.toInt = z602.toInt) (rfl : p.toInt = p.toInt) (by omega) (by omega)
        refine w_iald hM hW lb_163 (i_in (by omega) (by omega)) dX12_bringsBack_40 ?_
        refine q_top (fun y604 hy604 => ?_)
        refine w_iast hM hW lb_159 (by omega) (i_in (by omega) (by omega)) dX12_bringsBack_41 (fun g605 H locs hW e1 e2 => ?_)
        refine q_aload_n hM dX12_bringsBack_42 (lv_at hl 0 rfl) ?_
        refine w_get (v := .ref (ad 160)) hM hW FG_X12_106 lb_129 (rf_129_54 hW.2.1) dX12_bringsBack_43 ?_
        refine q_iload_n hM dX12_bringsBack_46 (lv_at hl 2 rfl) ?_
        refine q_aload_n hM dX12_bringsBack_47 (lv_at hl 0 rfl) ?_
        refine w_get (v := .ref (ad 164)) hM hW FG_X12_118 lb_129 (rf_129_69 hW.2.1) dX12_bringsBack_48 ?_
        refine q_bipush (v := (8 : Int32)) hM dX12_bringsBack_51 (by decide) ?_
        refine q_iload_n hM dX12_bringsBack_53 (lv_at hl 1 rfl) ?_
        refine q_imul hM dX12_bringsBack_54 (fun z606 hz606 => ?_)
        have tz606 := i_mulT hz606 (kc_8 : (8 : Int32).toInt = 8) (rfl : rr.toInt = rr.toInt) (by omega) (by omega)
        refine q_iload_n hM dX12_bringsBack_55 (lv_at hl 2 rfl) ?_
        refine q_iadd hM dX12_bringsBack_56 (fun z607 hz607 => ?_)
        have tz607 := i_addT hz607 (rfl : z606.toInt = z606.toInt) (rfl : p.toInt = p.toInt) (by omega) (by omega)
        refine w_iald hM hW lb_164 (i_in (by omega) (by omega)) dX12_bringsBack_57 ?_
        refine q_top (fun y608 hy608 => ?_)
        refine w_iast hM hW lb_160 (by omega) (i_in (by omega) (by omega)) dX12_bringsBack_58 (fun g609 H locs hW e1 e2 => ?_)
        refine q_iinc (lv9 := fun z610 => [(2, .int z610), (0, .ref (ad 129)), (1, .int rr)]) hM dX12_bringsBack_59 hl (kq := 2) rfl (by decide) (fun _ => rfl) (fun z610 ls hz610 hl => ?_)
        have tz610 := i_addT hz610 (rfl : p.toInt = p.toInt) (kc_1 : (Int32.ofInt 1).toInt = 1) (by omega) (by omega)
        refine q_goto (tgt := 2) hM dX12_bringsBack_62 (by decide) ?_
        exact ih2 z610 _ _ _ _ (by omega) (by omega) (by omega) (lv_sub hl [1, 2, 0] rfl) hW
  have := kc_0
  exact L2 _ (0 : Int32) _ _ _ _ (Nat.lt_succ_self _) (by omega) (by omega) (lv_sub hl [1, 2, 0] rfl) hW

theorem dX12_triedBy_0 : decode cX12_triedBy 0 = .ok (.iload_n 2, 1) := by decide +kernel
theorem dX12_triedBy_1 : decode cX12_triedBy 1 = .ok (.i2l, 1) := by decide +kernel
theorem dX12_triedBy_2 : decode cX12_triedBy 2 = .ok (.lconst 1, 1) := by decide +kernel
theorem dX12_triedBy_3 : decode cX12_triedBy 3 = .ok (.ldc2_w 268, 3) := by decide +kernel
theorem dX12_triedBy_6 : decode cX12_triedBy 6 = .ok (.invokestatic 190, 3) := by decide +kernel
theorem dX12_triedBy_9 : decode cX12_triedBy 9 = .ok (.ifCond .eq 48, 3) := by decide +kernel
theorem dX12_triedBy_12 : decode cX12_triedBy 12 = .ok (.iload_n 3, 1) := by decide +kernel
theorem dX12_triedBy_13 : decode cX12_triedBy 13 = .ok (.i2l, 1) := by decide +kernel
theorem dX12_triedBy_14 : decode cX12_triedBy 14 = .ok (.lconst 0, 1) := by decide +kernel
theorem dX12_triedBy_15 : decode cX12_triedBy 15 = .ok (.ldc2_w 507, 3) := by decide +kernel
theorem dX12_triedBy_18 : decode cX12_triedBy 18 = .ok (.invokestatic 190, 3) := by decide +kernel
theorem dX12_triedBy_21 : decode cX12_triedBy 21 = .ok (.ifCond .ne 38, 3) := by decide +kernel
theorem dX12_triedBy_24 : decode cX12_triedBy 24 = .ok (.aload_n 0, 1) := by decide +kernel
theorem dX12_triedBy_25 : decode cX12_triedBy 25 = .ok (.iload_n 3, 1) := by decide +kernel
theorem dX12_triedBy_26 : decode cX12_triedBy 26 = .ok (.bipush 10, 2) := by decide +kernel
theorem dX12_triedBy_28 : decode cX12_triedBy 28 = .ok (.isub, 1) := by decide +kernel
theorem dX12_triedBy_29 : decode cX12_triedBy 29 = .ok (.invokevirtual 421, 3) := by decide +kernel
theorem dX12_triedBy_32 : decode cX12_triedBy 32 = .ok (.ifCond .ne 27, 3) := by decide +kernel
theorem dX12_triedBy_35 : decode cX12_triedBy 35 = .ok (.aload_n 0, 1) := by decide +kernel
theorem dX12_triedBy_36 : decode cX12_triedBy 36 = .ok (.iload_n 3, 1) := by decide +kernel
theorem dX12_triedBy_37 : decode cX12_triedBy 37 = .ok (.bipush 20, 2) := by decide +kernel
theorem dX12_triedBy_39 : decode cX12_triedBy 39 = .ok (.isub, 1) := by decide +kernel
theorem dX12_triedBy_40 : decode cX12_triedBy 40 = .ok (.invokevirtual 421, 3) := by decide +kernel
theorem dX12_triedBy_43 : decode cX12_triedBy 43 = .ok (.ifCond .ne 16, 3) := by decide +kernel
theorem dX12_triedBy_46 : decode cX12_triedBy 46 = .ok (.aload_n 0, 1) := by decide +kernel
theorem dX12_triedBy_47 : decode cX12_triedBy 47 = .ok (.iload_n 3, 1) := by decide +kernel
theorem dX12_triedBy_48 : decode cX12_triedBy 48 = .ok (.bipush 30, 2) := by decide +kernel
theorem dX12_triedBy_50 : decode cX12_triedBy 50 = .ok (.isub, 1) := by decide +kernel
theorem dX12_triedBy_51 : decode cX12_triedBy 51 = .ok (.invokevirtual 198, 3) := by decide +kernel
theorem dX12_triedBy_54 : decode cX12_triedBy 54 = .ok (.ifCond .ne 5, 3) := by decide +kernel
theorem dX12_triedBy_57 : decode cX12_triedBy 57 = .ok (.iconst (-1), 1) := by decide +kernel
theorem dX12_triedBy_58 : decode cX12_triedBy 58 = .ok (.ireturn, 1) := by decide +kernel
theorem dX12_triedBy_59 : decode cX12_triedBy 59 = .ok (.aload_n 0, 1) := by decide +kernel
theorem dX12_triedBy_60 : decode cX12_triedBy 60 = .ok (.iconst 0, 1) := by decide +kernel
theorem dX12_triedBy_61 : decode cX12_triedBy 61 = .ok (.invokevirtual 509, 3) := by decide +kernel
theorem dX12_triedBy_64 : decode cX12_triedBy 64 = .ok (.aload_n 0, 1) := by decide +kernel
theorem dX12_triedBy_65 : decode cX12_triedBy 65 = .ok (.iload_n 1, 1) := by decide +kernel
theorem dX12_triedBy_66 : decode cX12_triedBy 66 = .ok (.putfield 402, 3) := by decide +kernel
theorem dX12_triedBy_69 : decode cX12_triedBy 69 = .ok (.aload_n 0, 1) := by decide +kernel
theorem dX12_triedBy_70 : decode cX12_triedBy 70 = .ok (.iload_n 2, 1) := by decide +kernel
theorem dX12_triedBy_71 : decode cX12_triedBy 71 = .ok (.iconst (-1), 1) := by decide +kernel
theorem dX12_triedBy_72 : decode cX12_triedBy 72 = .ok (.invokevirtual 504, 3) := by decide +kernel
theorem dX12_triedBy_75 : decode cX12_triedBy 75 = .ok (.aload_n 0, 1) := by decide +kernel
theorem dX12_triedBy_76 : decode cX12_triedBy 76 = .ok (.iconst 0, 1) := by decide +kernel
theorem dX12_triedBy_77 : decode cX12_triedBy 77 = .ok (.putfield 402, 3) := by decide +kernel
theorem dX12_triedBy_80 : decode cX12_triedBy 80 = .ok (.iload_n 3, 1) := by decide +kernel
theorem dX12_triedBy_81 : decode cX12_triedBy 81 = .ok (.tableswitch 67 0 3 #[31, 40, 49, 58], 31) := by decide +kernel
theorem dX12_triedBy_112 : decode cX12_triedBy 112 = .ok (.aload_n 0, 1) := by decide +kernel
theorem dX12_triedBy_113 : decode cX12_triedBy 113 = .ok (.getfield 474, 3) := by decide +kernel
theorem dX12_triedBy_116 : decode cX12_triedBy 116 = .ok (.istore 4, 2) := by decide +kernel
theorem dX12_triedBy_118 : decode cX12_triedBy 118 = .ok (.goto 78, 3) := by decide +kernel
theorem dX12_triedBy_121 : decode cX12_triedBy 121 = .ok (.aload_n 0, 1) := by decide +kernel
theorem dX12_triedBy_122 : decode cX12_triedBy 122 = .ok (.getfield 477, 3) := by decide +kernel
theorem dX12_triedBy_125 : decode cX12_triedBy 125 = .ok (.istore 4, 2) := by decide +kernel
theorem dX12_triedBy_127 : decode cX12_triedBy 127 = .ok (.goto 69, 3) := by decide +kernel
theorem dX12_triedBy_130 : decode cX12_triedBy 130 = .ok (.aload_n 0, 1) := by decide +kernel
theorem dX12_triedBy_131 : decode cX12_triedBy 131 = .ok (.getfield 489, 3) := by decide +kernel
theorem dX12_triedBy_134 : decode cX12_triedBy 134 = .ok (.istore 4, 2) := by decide +kernel
theorem dX12_triedBy_136 : decode cX12_triedBy 136 = .ok (.goto 60, 3) := by decide +kernel
theorem dX12_triedBy_139 : decode cX12_triedBy 139 = .ok (.aload_n 0, 1) := by decide +kernel
theorem dX12_triedBy_140 : decode cX12_triedBy 140 = .ok (.getfield 468, 3) := by decide +kernel
theorem dX12_triedBy_143 : decode cX12_triedBy 143 = .ok (.istore 4, 2) := by decide +kernel
theorem dX12_triedBy_145 : decode cX12_triedBy 145 = .ok (.goto 51, 3) := by decide +kernel
theorem dX12_triedBy_196 : decode cX12_triedBy 196 = .ok (.aload_n 0, 1) := by decide +kernel
theorem dX12_triedBy_197 : decode cX12_triedBy 197 = .ok (.iconst 0, 1) := by decide +kernel
theorem dX12_triedBy_198 : decode cX12_triedBy 198 = .ok (.invokevirtual 515, 3) := by decide +kernel
theorem dX12_triedBy_201 : decode cX12_triedBy 201 = .ok (.iload 4, 2) := by decide +kernel
theorem dX12_triedBy_203 : decode cX12_triedBy 203 = .ok (.ireturn, 1) := by decide +kernel
theorem myX12_laysAside : MI yX12_laysAside cX12_laysAside 3 none 1 := ⟨kAW (v_6_10 (List.mem_of_getElem? (i := 5) rfl)) rfl, kAW (v_0_0 (List.mem_of_getElem? (i := 13) rfl)) rfl, kAW (v_6_10 (List.mem_of_getElem? (i := 4) rfl)) rfl, kAW (tp_t5 (List.mem_of_getElem? (i := 5) rfl)) rfl, by decide, by decide, by decide +kernel⟩
theorem FP_X12_402 : FPX RX12 402 12 86 31 .int := ⟨⟨RX12, TX12, tyX12, rfl, wX12, by decide, kAW (v_4_4 (List.mem_of_getElem? (i := 12) rfl)) rfl, rfl, tyX12_ok, nmX12, by decide +kernel, rfl⟩, by decide +kernel⟩
theorem myX12_go : MI yX12_go cX12_go 6 none 2 := ⟨kAW (v_6_8 (List.mem_of_getElem? (i := 0) rfl)) rfl, kAW (v_0_0 (List.mem_of_getElem? (i := 13) rfl)) rfl, kAW (v_6_7 (List.mem_of_getElem? (i := 15) rfl)) rfl, kAW (tp_t4 (List.mem_of_getElem? (i := 14) rfl)) rfl, by decide, by decide, by decide +kernel⟩
theorem FG_X12_474 : FG RX12 474 12 86 61 := ⟨RX12, TX12, rfl, wX12, by decide, kAW (v_4_6 (List.mem_of_getElem? (i := 10) rfl)) rfl, rfl⟩
theorem myX12_bringsBack : MI yX12_bringsBack cX12_bringsBack 3 none 1 := ⟨kAW (v_6_10 (List.mem_of_getElem? (i := 13) rfl)) rfl, kAW (v_0_0 (List.mem_of_getElem? (i := 13) rfl)) rfl, kAW (v_6_10 (List.mem_of_getElem? (i := 12) rfl)) rfl, kAW (tp_t5 (List.mem_of_getElem? (i := 7) rfl)) rfl, by decide, by decide, by decide +kernel⟩
theorem FG_X12_477 : FG RX12 477 12 86 62 := ⟨RX12, TX12, rfl, wX12, by decide, kAW (v_4_6 (List.mem_of_getElem? (i := 11) rfl)) rfl, rfl⟩
theorem FG_X12_489 : FG RX12 489 12 86 63 := ⟨RX12, TX12, rfl, wX12, by decide, kAW (v_4_6 (List.mem_of_getElem? (i := 12) rfl)) rfl, rfl⟩
theorem FG_X12_468 : FG RX12 468 12 86 64 := ⟨RX12, TX12, rfl, wX12, by decide, kAW (v_4_6 (List.mem_of_getElem? (i := 13) rfl)) rfl, rfl⟩
theorem myX12_isThat : MI yX12_isThat cX12_isThat 2 (some FieldType.boolean) 1 := ⟨kAW (v_6_2 (List.mem_of_getElem? (i := 12) rfl)) rfl, kAW (v_0_0 (List.mem_of_getElem? (i := 13) rfl)) rfl, kAW (v_6_2 (List.mem_of_getElem? (i := 11) rfl)) rfl, kAW (tp_t3 (List.mem_of_getElem? (i := 15) rfl)) rfl, by decide, by decide, by decide +kernel⟩
theorem myX12_isTold : MI yX12_isTold cX12_isTold 2 (some FieldType.boolean) 1 := ⟨kAW (v_5_5 (List.mem_of_getElem? (i := 9) rfl)) rfl, kAW (v_0_0 (List.mem_of_getElem? (i := 13) rfl)) rfl, kAW (v_5_5 (List.mem_of_getElem? (i := 8) rfl)) rfl, kAW (tp_t2 (List.mem_of_getElem? (i := 1) rfl)) rfl, by decide, by decide, by decide +kernel⟩
set_option maxRecDepth 100000 in
set_option maxHeartbeats 4000000 in
theorem c_X12_triedBy (l : Launch) (D : va_G) (cA : Nat → ClassId) (ad : Nat → Nat) (g0 : Nat → va_E) (wh n what : Int32) (hSh : Shp ad cA g0) (hF : (∀ i k, 129 ≤ i → fld g0 i k = fld (gF ad cA) i k) ∧ ∀ i, 129 ≤ i → arI g0 i = arI (gF ad cA) i) : CT l NN ad cA D yX12_triedBy cX12_triedBy 5 (some FieldType.int) (2, 46) [.ref (ad 129), .int wh, .int n, .int what] g0 (fun v g' => ∃ (r : Int32), v = some (.int r) ∧ Shp ad cA g' ∧ FR (fun i k => (162 ≤ i ∧ i < 170) ∨ (158 ≤ i ∧ i < 162) ∨ (i = 129 ∧ (k = 56 ∨ k = 61 ∨ k = 62 ∨ k = 63 ∨ k = 64 ∨ k = 65 ∨ k = 66 ∨ k = 2 ∨ k = 57 ∨ k = 58 ∨ k = 31))) g0 g' ∧ (((1 ≤ n.toInt ∧ n.toInt ≤ 60 ∧ 0 ≤ what.toInt ∧ what.toInt ≤ 3) ∧ r.toInt = 0) ∨ (¬ (1 ≤ n.toInt ∧ n.toInt ≤ 60 ∧ 0 ≤ what.toInt ∧ what.toInt ≤ 3) ∧ r.toInt = -1))) := by
  refine q_enterI (by decide) (Nat.le_of_ble_eq_true rfl) rfl (fun K H locs ls _ _ hM hW0 hR hC hE hl => ?_)
  have hl : lv_has ls 5 [(0, .ref (ad 129)), (1, .int wh), (2, .int n), (3, .int what)] := hl
  have hW : WS ad cA (fun i k => (162 ≤ i ∧ i < 170) ∨ (158 ≤ i ∧ i < 162) ∨ (i = 129 ∧ (k = 56 ∨ k = 61 ∨ k = 62 ∨ k = 63 ∨ k = 64 ∨ k = 65 ∨ k = 66 ∨ k = 2 ∨ k = 57 ∨ k = 58 ∨ k = 31))) g0 K g0 H locs := ⟨hW0, hSh, FR.rf⟩
  have := kc_0
  have := kc_1
  have := kc_3
  have := kc_60
  have := kc_m1
  have hip : arI g0 158 = fun _ => 0 := (hF.2 158 (by decide)).trans rfl
  have f611 : fld g0 129 56 = .int (0 : Int32) := ((hF.1 129 56 (by decide)).trans rfl : fld g0 129 56 = .int (0 : Int32))
  have f612 : fld g0 129 61 = .int (0 : Int32) := ((hF.1 129 61 (by decide)).trans rfl : fld g0 129 61 = .int (0 : Int32))
  have f613 : fld g0 129 62 = .int (0 : Int32) := ((hF.1 129 62 (by decide)).trans rfl : fld g0 129 62 = .int (0 : Int32))
  have f614 : fld g0 129 63 = .int (0 : Int32) := ((hF.1 129 63 (by decide)).trans rfl : fld g0 129 63 = .int (0 : Int32))
  have f615 : fld g0 129 64 = .int (0 : Int32) := ((hF.1 129 64 (by decide)).trans rfl : fld g0 129 64 = .int (0 : Int32))
  have f616 : fld g0 129 65 = .int (0 : Int32) := ((hF.1 129 65 (by decide)).trans rfl : fld g0 129 65 = .int (0 : Int32))
  have f617 : fld g0 129 66 = .int (0 : Int32) := ((hF.1 129 66 (by decide)).trans rfl : fld g0 129 66 = .int (0 : Int32))
  have f618 : fld g0 129 2 = .int (1 : Int32) := ((hF.1 129 2 (by decide)).trans rfl : fld g0 129 2 = .int (1 : Int32))
  have f619 : fld g0 129 57 = .int (0 : Int32) := ((hF.1 129 57 (by decide)).trans rfl : fld g0 129 57 = .int (0 : Int32))
  have f620 : fld g0 129 58 = .int (0 : Int32) := ((hF.1 129 58 (by decide)).trans rfl : fld g0 129 58 = .int (0 : Int32))
  have f621 : fld g0 129 31 = .int (0 : Int32) := ((hF.1 129 31 (by decide)).trans rfl : fld g0 129 31 = .int (0 : Int32))
  refine q_iload_n hM dX12_triedBy_0 (lv_at hl 2 rfl) ?_
  refine q_i2l hM dX12_triedBy_1 ?_
  have := l_i2l n
  refine q_lconst (v := 1) hM dX12_triedBy_2 (by decide) ?_
  have := kl_1
  refine q_ldc2 (v := 60) hM (kAW (v_5_8 (List.mem_of_getElem? (i := 6) rfl)) rfl) dX12_triedBy_3 ?_
  have := kl_60
  refine q_callS (As := [.long n.toInt64, .long (1 : Int64), .long (60 : Int64)]) (rest := []) hM hW.1 hR hC myX12_lies (kAW (v_5_4 (List.mem_of_getElem? (i := 14) rfl)) rfl) (c_X12_lies _ _ cA ad g0 n.toInt64 (1 : Int64) (60 : Int64) hW.2.1) ⟨by decide, by decide⟩ rfl rfl hl.1 (Nat.le_of_ble_eq_true rfl) dX12_triedBy_6 (fun v g623 H locs hp hW1 => ?_)
  obtain ⟨r622, rfl, hr622, rfl⟩ := hp
  have hW : WS ad cA (fun i k => (162 ≤ i ∧ i < 170) ∨ (158 ≤ i ∧ i < 162) ∨ (i = 129 ∧ (k = 56 ∨ k = 61 ∨ k = 62 ∨ k = 63 ∨ k = 64 ∨ k = 65 ∨ k = 66 ∨ k = 2 ∨ k = 57 ∨ k = 58 ∨ k = 31))) g0 K g0 H locs := ⟨hW1, hW.2.1, hW.2.2⟩
  refine q_if_eq (tgt := 57) hM dX12_triedBy_9 (by decide) (rfl : r622.toInt = r622.toInt) (fun h9 => ?_) (fun h9 => ?_)
  · refine q_iconst (v := ((-1) : Int32)) hM dX12_triedBy_57 (by decide) ?_
    exact hE _ _ _ _ _ _ hW.1 ⟨_, rfl, hW.2.1, hW.2.2, (by have := kc_m1; have := kc_m1; omega)⟩ dX12_triedBy_58
  · refine q_iload_n hM dX12_triedBy_12 (lv_at hl 3 rfl) ?_
    refine q_i2l hM dX12_triedBy_13 ?_
    have := l_i2l what
    refine q_lconst (v := 0) hM dX12_triedBy_14 (by decide) ?_
    have := kl_0
    refine q_ldc2 (v := 3) hM (kAW (v_6_10 (List.mem_of_getElem? (i := 1) rfl)) rfl) dX12_triedBy_15 ?_
    have := kl_3
    refine q_callS (As := [.long what.toInt64, .long (0 : Int64), .long (3 : Int64)]) (rest := []) hM hW.1 hR hC myX12_lies (kAW (v_5_4 (List.mem_of_getElem? (i := 14) rfl)) rfl) (c_X12_lies _ _ cA ad g0 what.toInt64 (0 : Int64) (3 : Int64) hW.2.1) ⟨by decide, by decide⟩ rfl rfl hl.1 (Nat.le_of_ble_eq_true rfl) dX12_triedBy_18 (fun v g625 H locs hp hW1 => ?_)
    obtain ⟨r624, rfl, hr624, rfl⟩ := hp
    have hW : WS ad cA (fun i k => (162 ≤ i ∧ i < 170) ∨ (158 ≤ i ∧ i < 162) ∨ (i = 129 ∧ (k = 56 ∨ k = 61 ∨ k = 62 ∨ k = 63 ∨ k = 64 ∨ k = 65 ∨ k = 66 ∨ k = 2 ∨ k = 57 ∨ k = 58 ∨ k = 31))) g0 K g0 H locs := ⟨hW1, hW.2.1, hW.2.2⟩
    refine q_if_ne (tgt := 59) hM dX12_triedBy_21 (by decide) (rfl : r624.toInt = r624.toInt) (fun h21 => ?_) (fun h21 => ?_)
    · refine q_aload_n hM dX12_triedBy_59 (lv_at hl 0 rfl) ?_
      refine q_iconst (v := (0 : Int32)) hM dX12_triedBy_60 (by decide) ?_
      refine q_callV (As := [.int (0 : Int32)]) (rest := []) hM hW.1 hR hC myX12_laysAside (kAW (v_6_10 (List.mem_of_getElem? (i := 2) rfl)) rfl) (rfl : vwCl[12]? = some (RX12, TX12, 86)) rfl lb_129.1 (shO hW.2.1 lb_129) (c_X12_laysAside _ _ cA ad g0 (0 : Int32) hW.2.1 (by have := kc_0; omega) (by have := kc_0; omega)) ⟨by decide, by decide⟩ rfl rfl hl.1 (Nat.le_of_ble_eq_true rfl) dX12_triedBy_61 (fun v g626 H locs hp hW1 => ?_)
      obtain ⟨rfl, hs1, hf1⟩ := hp
      have f627 : arI g626 158 = fun _ => 0 := (hf1.2.1 158 (by omega)).trans hip
      have f628 : fld g626 129 56 = .int (0 : Int32) := (hf1.1 129 56 (by omega)).trans f611
      have f629 : fld g626 129 61 = .int (0 : Int32) := (hf1.1 129 61 (by omega)).trans f612
      have f630 : fld g626 129 62 = .int (0 : Int32) := (hf1.1 129 62 (by omega)).trans f613
      have f631 : fld g626 129 63 = .int (0 : Int32) := (hf1.1 129 63 (by omega)).trans f614
      have f632 : fld g626 129 64 = .int (0 : Int32) := (hf1.1 129 64 (by omega)).trans f615
      have f633 : fld g626 129 65 = .int (0 : Int32) := (hf1.1 129 65 (by omega)).trans f616
      have f634 : fld g626 129 66 = .int (0 : Int32) := (hf1.1 129 66 (by omega)).trans f617
      have f635 : fld g626 129 2 = .int (1 : Int32) := (hf1.1 129 2 (by omega)).trans f618
      have f636 : fld g626 129 57 = .int (0 : Int32) := (hf1.1 129 57 (by omega)).trans f619
      have f637 : fld g626 129 58 = .int (0 : Int32) := (hf1.1 129 58 (by omega)).trans f620
      have f638 : fld g626 129 31 = .int (0 : Int32) := (hf1.1 129 31 (by omega)).trans f621
      have hW : WS ad cA (fun i k => (162 ≤ i ∧ i < 170) ∨ (158 ≤ i ∧ i < 162) ∨ (i = 129 ∧ (k = 56 ∨ k = 61 ∨ k = 62 ∨ k = 63 ∨ k = 64 ∨ k = 65 ∨ k = 66 ∨ k = 2 ∨ k = 57 ∨ k = 58 ∨ k = 31))) g0 K g626 H locs := ⟨hW1, hs1, hW.2.2.tr hf1 (fun i k h => by omega)⟩
      refine q_aload_n hM dX12_triedBy_64 (lv_at hl 0 rfl) ?_
      refine q_iload_n hM dX12_triedBy_65 (lv_at hl 1 rfl) ?_
      refine w_put hM hW FP_X12_402 lb_129 (by omega) (Or.inl ⟨_, rfl⟩) rfl rfl dX12_triedBy_66 (fun g639 H locs hW e1 e2 => ?_)
      have f640 : arI g639 158 = fun _ => 0 := (e2.2.1 158 (by unfold Only; omega)).trans f627
      have f641 : fld g639 129 56 = .int (0 : Int32) := (e2.1 129 56 (by unfold Only; omega)).trans f628
      have f642 : fld g639 129 61 = .int (0 : Int32) := (e2.1 129 61 (by unfold Only; omega)).trans f629
      have f643 : fld g639 129 62 = .int (0 : Int32) := (e2.1 129 62 (by unfold Only; omega)).trans f630
      have f644 : fld g639 129 63 = .int (0 : Int32) := (e2.1 129 63 (by unfold Only; omega)).trans f631
      have f645 : fld g639 129 64 = .int (0 : Int32) := (e2.1 129 64 (by unfold Only; omega)).trans f632
      have f646 : fld g639 129 65 = .int (0 : Int32) := (e2.1 129 65 (by unfold Only; omega)).trans f633
      have f647 : fld g639 129 66 = .int (0 : Int32) := (e2.1 129 66 (by unfold Only; omega)).trans f634
      have f648 : fld g639 129 2 = .int (1 : Int32) := (e2.1 129 2 (by unfold Only; omega)).trans f635
      have f649 : fld g639 129 57 = .int (0 : Int32) := (e2.1 129 57 (by unfold Only; omega)).trans f636
      have f650 : fld g639 129 58 = .int (0 : Int32) := (e2.1 129 58 (by unfold Only; omega)).trans f637
      have f651 : fld g639 129 31 = .int wh := e1
      refine q_aload_n hM dX12_triedBy_69 (lv_at hl 0 rfl) ?_
      refine q_iload_n hM dX12_triedBy_70 (lv_at hl 2 rfl) ?_
      refine q_iconst (v := ((-1) : Int32)) hM dX12_triedBy_71 (by decide) ?_
      refine q_callV (As := [.int n, .int ((-1) : Int32)]) (rest := []) hM hW.1 hR hC myX12_go (kAW (v_6_7 (List.mem_of_getElem? (i := 13) rfl)) rfl) (rfl : vwCl[12]? = some (RX12, TX12, 86)) rfl lb_129.1 (shO hW.2.1 lb_129) (c_X12_go _ _ cA ad g639 n (0 : Int32) hW.2.1 f640 f641 (by have := kc_0; omega) (by omega) (by omega)) ⟨by decide, by decide⟩ rfl rfl hl.1 (Nat.le_of_ble_eq_true rfl) dX12_triedBy_72 (fun v g658 H locs hp hW1 => ?_)
      obtain ⟨v652, rfl, hs1, hf1, q653, q654, q655, q656, q657⟩ := hp
      have f659 : arI g658 158 = fun _ => 0 := (hf1.2.1 158 (by omega)).trans f640
      have f660 : fld g658 129 2 = .int (1 : Int32) := (hf1.1 129 2 (by omega)).trans f648
      have f661 : fld g658 129 57 = .int (0 : Int32) := (hf1.1 129 57 (by omega)).trans f649
      have f662 : fld g658 129 58 = .int (0 : Int32) := (hf1.1 129 58 (by omega)).trans f650
      have f663 : fld g658 129 31 = .int wh := (hf1.1 129 31 (by omega)).trans f651
      have hW : WS ad cA (fun i k => (162 ≤ i ∧ i < 170) ∨ (158 ≤ i ∧ i < 162) ∨ (i = 129 ∧ (k = 56 ∨ k = 61 ∨ k = 62 ∨ k = 63 ∨ k = 64 ∨ k = 65 ∨ k = 66 ∨ k = 2 ∨ k = 57 ∨ k = 58 ∨ k = 31))) g0 K g658 H locs := ⟨hW1, hs1, hW.2.2.tr hf1 (fun i k h => by omega)⟩
      refine q_aload_n hM dX12_triedBy_75 (lv_at hl 0 rfl) ?_
      refine q_iconst (v := (0 : Int32)) hM dX12_triedBy_76 (by decide) ?_
      refine w_put hM hW FP_X12_402 lb_129 (by omega) (Or.inl ⟨_, rfl⟩) rfl rfl dX12_triedBy_77 (fun g664 H locs hW e1 e2 => ?_)
      have f665 : arI g664 158 = fun _ => 0 := (e2.2.1 158 (by unfold Only; omega)).trans f659
      have f666 : fld g664 129 2 = .int (1 : Int32) := (e2.1 129 2 (by unfold Only; omega)).trans f660
      have f667 : fld g664 129 57 = .int (0 : Int32) := (e2.1 129 57 (by unfold Only; omega)).trans f661
      have f668 : fld g664 129 58 = .int (0 : Int32) := (e2.1 129 58 (by unfold Only; omega)).trans f662
      have f669 : fld g664 129 61 = .int (0 : Int32) := (e2.1 129 61 (by unfold Only; omega)).trans q653
      have f670 : fld g664 129 62 = .int (0 : Int32) := (e2.1 129 62 (by unfold Only; omega)).trans q654
      have f671 : fld g664 129 63 = .int (0 : Int32) := (e2.1 129 63 (by unfold Only; omega)).trans q655
      have f672 : fld g664 129 64 = .int (0 : Int32) := (e2.1 129 64 (by unfold Only; omega)).trans q656
      have f673 : fld g664 129 56 = .int v652 := (e2.1 129 56 (by unfold Only; omega)).trans q657
      have f674 : fld g664 129 31 = .int (0 : Int32) := e1
      refine q_iload_n hM dX12_triedBy_80 (lv_at hl 3 rfl) ?_
      rcases (show what.toInt < 0 ∨ 3 < what.toInt ∨ what.toInt = 0 ∨ what.toInt = 1 ∨ what.toInt = 2 ∨ what.toInt = 3 from by omega) with h81 | h81 | h81 | h81 | h81 | h81
      · omega
      · omega
      · refine q_tableIn (tgt := 112) hM dX12_triedBy_81 ((rfl : what.toInt = _).trans h81) (by decide) (by decide) rfl (by decide) ?_
        refine q_aload_n hM dX12_triedBy_112 (lv_at hl 0 rfl) ?_
        refine w_get (v := .int (0 : Int32)) hM hW FG_X12_474 lb_129 f669 dX12_triedBy_113 ?_
        refine q_istore (lv9 := [(4, .int (0 : Int32)), (0, .ref (ad 129)), (1, .int wh), (2, .int n), (3, .int what)]) hM dX12_triedBy_116 hl (by decide) rfl (fun ls hl => ?_)
        refine q_goto (tgt := 196) hM dX12_triedBy_118 (by decide) ?_
        refine q_aload_n hM dX12_triedBy_196 (lv_at hl 1 rfl) ?_
        refine q_iconst (v := (0 : Int32)) hM dX12_triedBy_197 (by decide) ?_
        refine q_callV (As := [.int (0 : Int32)]) (rest := []) hM hW.1 hR hC myX12_bringsBack (kAW (v_6_10 (List.mem_of_getElem? (i := 10) rfl)) rfl) (rfl : vwCl[12]? = some (RX12, TX12, 86)) rfl lb_129.1 (shO hW.2.1 lb_129) (c_X12_bringsBack _ _ cA ad g664 (0 : Int32) hW.2.1 (by have := kc_0; omega) (by have := kc_0; omega)) ⟨by decide, by decide⟩ rfl rfl hl.1 (Nat.le_of_ble_eq_true rfl) dX12_triedBy_198 (fun v g675 H locs hp hW1 => ?_)
        obtain ⟨rfl, hs1, hf1⟩ := hp
        have f676 : fld g675 129 61 = .int (0 : Int32) := (hf1.1 129 61 (by omega)).trans f669
        have f677 : fld g675 129 62 = .int (0 : Int32) := (hf1.1 129 62 (by omega)).trans f670
        have f678 : fld g675 129 63 = .int (0 : Int32) := (hf1.1 129 63 (by omega)).trans f671
        have f679 : fld g675 129 64 = .int (0 : Int32) := (hf1.1 129 64 (by omega)).trans f672
        have f680 : fld g675 129 31 = .int (0 : Int32) := (hf1.1 129 31 (by omega)).trans f674
        have hW : WS ad cA (fun i k => (162 ≤ i ∧ i < 170) ∨ (158 ≤ i ∧ i < 162) ∨ (i = 129 ∧ (k = 56 ∨ k = 61 ∨ k = 62 ∨ k = 63 ∨ k = 64 ∨ k = 65 ∨ k = 66 ∨ k = 2 ∨ k = 57 ∨ k = 58 ∨ k = 31))) g0 K g675 H locs := ⟨hW1, hs1, hW.2.2.tr hf1 (fun i k h => by omega)⟩
        refine q_iload hM dX12_triedBy_201 (lv_at hl 0 rfl) ?_
        exact hE _ _ _ _ _ _ hW.1 ⟨_, rfl, hW.2.1, hW.2.2, (by have := kc_0; have := kc_0; omega)⟩ dX12_triedBy_203
      · refine q_tableIn (tgt := 121) hM dX12_triedBy_81 ((rfl : what.toInt = _).trans h81) (by decide) (by decide) rfl (by decide) ?_
        refine q_aload_n hM dX12_triedBy_121 (lv_at hl 0 rfl) ?_
        refine w_get (v := .int (0 : Int32)) hM hW FG_X12_477 lb_129 f670 dX12_triedBy_122 ?_
        refine q_istore (lv9 := [(4, .int (0 : Int32)), (0, .ref (ad 129)), (1, .int wh), (2, .int n), (3, .int what)]) hM dX12_triedBy_125 hl (by decide) rfl (fun ls hl => ?_)
        refine q_goto (tgt := 196) hM dX12_triedBy_127 (by decide) ?_
        refine q_aload_n hM dX12_triedBy_196 (lv_at hl 1 rfl) ?_
        refine q_iconst (v := (0 : Int32)) hM dX12_triedBy_197 (by decide) ?_
        refine q_callV (As := [.int (0 : Int32)]) (rest := []) hM hW.1 hR hC myX12_bringsBack (kAW (v_6_10 (List.mem_of_getElem? (i := 10) rfl)) rfl) (rfl : vwCl[12]? = some (RX12, TX12, 86)) rfl lb_129.1 (shO hW.2.1 lb_129) (c_X12_bringsBack _ _ cA ad g664 (0 : Int32) hW.2.1 (by have := kc_0; omega) (by have := kc_0; omega)) ⟨by decide, by decide⟩ rfl rfl hl.1 (Nat.le_of_ble_eq_true rfl) dX12_triedBy_198 (fun v g681 H locs hp hW1 => ?_)
        obtain ⟨rfl, hs1, hf1⟩ := hp
        have f682 : fld g681 129 61 = .int (0 : Int32) := (hf1.1 129 61 (by omega)).trans f669
        have f683 : fld g681 129 62 = .int (0 : Int32) := (hf1.1 129 62 (by omega)).trans f670
        have f684 : fld g681 129 63 = .int (0 : Int32) := (hf1.1 129 63 (by omega)).trans f671
        have f685 : fld g681 129 64 = .int (0 : Int32) := (hf1.1 129 64 (by omega)).trans f672
        have f686 : fld g681 129 31 = .int (0 : Int32) := (hf1.1 129 31 (by omega)).trans f674
        have hW : WS ad cA (fun i k => (162 ≤ i ∧ i < 170) ∨ (158 ≤ i ∧ i < 162) ∨ (i = 129 ∧ (k = 56 ∨ k = 61 ∨ k = 62 ∨ k = 63 ∨ k = 64 ∨ k = 65 ∨ k = 66 ∨ k = 2 ∨ k = 57 ∨ k = 58 ∨ k = 31))) g0 K g681 H locs := ⟨hW1, hs1, hW.2.2.tr hf1 (fun i k h => by omega)⟩
        refine q_iload hM dX12_triedBy_201 (lv_at hl 0 rfl) ?_
        exact hE _ _ _ _ _ _ hW.1 ⟨_, rfl, hW.2.1, hW.2.2, (by have := kc_0; have := kc_0; omega)⟩ dX12_triedBy_203
      · refine q_tableIn (tgt := 130) hM dX12_triedBy_81 ((rfl : what.toInt = _).trans h81) (by decide) (by decide) rfl (by decide) ?_
        refine q_aload_n hM dX12_triedBy_130 (lv_at hl 0 rfl) ?_
        refine w_get (v := .int (0 : Int32)) hM hW FG_X12_489 lb_129 f671 dX12_triedBy_131 ?_
        refine q_istore (lv9 := [(4, .int (0 : Int32)), (0, .ref (ad 129)), (1, .int wh), (2, .int n), (3, .int what)]) hM dX12_triedBy_134 hl (by decide) rfl (fun ls hl => ?_)
        refine q_goto (tgt := 196) hM dX12_triedBy_136 (by decide) ?_
        refine q_aload_n hM dX12_triedBy_196 (lv_at hl 1 rfl) ?_
        refine q_iconst (v := (0 : Int32)) hM dX12_triedBy_197 (by decide) ?_
        refine q_callV (As := [.int (0 : Int32)]) (rest := []) hM hW.1 hR hC myX12_bringsBack (kAW (v_6_10 (List.mem_of_getElem? (i := 10) rfl)) rfl) (rfl : vwCl[12]? = some (RX12, TX12, 86)) rfl lb_129.1 (shO hW.2.1 lb_129) (c_X12_bringsBack _ _ cA ad g664 (0 : Int32) hW.2.1 (by have := kc_0; omega) (by have := kc_0; omega)) ⟨by decide, by decide⟩ rfl rfl hl.1 (Nat.le_of_ble_eq_true rfl) dX12_triedBy_198 (fun v g687 H locs hp hW1 => ?_)
        obtain ⟨rfl, hs1, hf1⟩ := hp
        have f688 : fld g687 129 61 = .int (0 : Int32) := (hf1.1 129 61 (by omega)).trans f669
        have f689 : fld g687 129 62 = .int (0 : Int32) := (hf1.1 129 62 (by omega)).trans f670
        have f690 : fld g687 129 63 = .int (0 : Int32) := (hf1.1 129 63 (by omega)).trans f671
        have f691 : fld g687 129 64 = .int (0 : Int32) := (hf1.1 129 64 (by omega)).trans f672
        have f692 : fld g687 129 31 = .int (0 : Int32) := (hf1.1 129 31 (by omega)).trans f674
        have hW : WS ad cA (fun i k => (162 ≤ i ∧ i < 170) ∨ (158 ≤ i ∧ i < 162) ∨ (i = 129 ∧ (k = 56 ∨ k = 61 ∨ k = 62 ∨ k = 63 ∨ k = 64 ∨ k = 65 ∨ k = 66 ∨ k = 2 ∨ k = 57 ∨ k = 58 ∨ k = 31))) g0 K g687 H locs := ⟨hW1, hs1, hW.2.2.tr hf1 (fun i k h => by omega)⟩
        refine q_iload hM dX12_triedBy_201 (lv_at hl 0 rfl) ?_
        exact hE _ _ _ _ _ _ hW.1 ⟨_, rfl, hW.2.1, hW.2.2, (by have := kc_0; have := kc_0; omega)⟩ dX12_triedBy_203
      · refine q_tableIn (tgt := 139) hM dX12_triedBy_81 ((rfl : what.toInt = _).trans h81) (by decide) (by decide) rfl (by decide) ?_
        refine q_aload_n hM dX12_triedBy_139 (lv_at hl 0 rfl) ?_
        refine w_get (v := .int (0 : Int32)) hM hW FG_X12_468 lb_129 f672 dX12_triedBy_140 ?_
        refine q_istore (lv9 := [(4, .int (0 : Int32)), (0, .ref (ad 129)), (1, .int wh), (2, .int n), (3, .int what)]) hM dX12_triedBy_143 hl (by decide) rfl (fun ls hl => ?_)
        refine q_goto (tgt := 196) hM dX12_triedBy_145 (by decide) ?_
        refine q_aload_n hM dX12_triedBy_196 (lv_at hl 1 rfl) ?_
        refine q_iconst (v := (0 : Int32)) hM dX12_triedBy_197 (by decide) ?_
        refine q_callV (As := [.int (0 : Int32)]) (rest := []) hM hW.1 hR hC myX12_bringsBack (kAW (v_6_10 (List.mem_of_getElem? (i := 10) rfl)) rfl) (rfl : vwCl[12]? = some (RX12, TX12, 86)) rfl lb_129.1 (shO hW.2.1 lb_129) (c_X12_bringsBack _ _ cA ad g664 (0 : Int32) hW.2.1 (by have := kc_0; omega) (by have := kc_0; omega)) ⟨by decide, by decide⟩ rfl rfl hl.1 (Nat.le_of_ble_eq_true rfl) dX12_triedBy_198 (fun v g693 H locs hp hW1 => ?_)
        obtain ⟨rfl, hs1, hf1⟩ := hp
        have f694 : fld g693 129 61 = .int (0 : Int32) := (hf1.1 129 61 (by omega)).trans f669
        have f695 : fld g693 129 62 = .int (0 : Int32) := (hf1.1 129 62 (by omega)).trans f670
        have f696 : fld g693 129 63 = .int (0 : Int32) := (hf1.1 129 63 (by omega)).trans f671
        have f697 : fld g693 129 64 = .int (0 : Int32) := (hf1.1 129 64 (by omega)).trans f672
        have f698 : fld g693 129 31 = .int (0 : Int32) := (hf1.1 129 31 (by omega)).trans f674
        have hW : WS ad cA (fun i k => (162 ≤ i ∧ i < 170) ∨ (158 ≤ i ∧ i < 162) ∨ (i = 129 ∧ (k = 56 ∨ k = 61 ∨ k = 62 ∨ k = 63 ∨ k = 64 ∨ k = 65 ∨ k = 66 ∨ k = 2 ∨ k = 57 ∨ k = 58 ∨ k = 31))) g0 K g693 H locs := ⟨hW1, hs1, hW.2.2.tr hf1 (fun i k h => by omega)⟩
        refine q_iload hM dX12_triedBy_201 (lv_at hl 0 rfl) ?_
        exact hE _ _ _ _ _ _ hW.1 ⟨_, rfl, hW.2.1, hW.2.2, (by have := kc_0; have := kc_0; omega)⟩ dX12_triedBy_203
    · refine q_aload_n hM dX12_triedBy_24 (lv_at hl 0 rfl) ?_
      refine q_iload_n hM dX12_triedBy_25 (lv_at hl 3 rfl) ?_
      refine q_bipush (v := (10 : Int32)) hM dX12_triedBy_26 (by decide) ?_
      refine q_isub hM dX12_triedBy_28 (fun z699 hz699 => ?_)
      refine q_callV (As := [.int z699]) (rest := []) hM hW.1 hR hC myX12_isThat (kAW (v_6_2 (List.mem_of_getElem? (i := 9) rfl)) rfl) (rfl : vwCl[12]? = some (RX12, TX12, 86)) rfl lb_129.1 (shO hW.2.1 lb_129) (c_X12_isThat _ _ cA ad g0 z699 hW.2.1 hF) ⟨by decide, by decide⟩ rfl rfl hl.1 (Nat.le_of_ble_eq_true rfl) dX12_triedBy_29 (fun v g701 H locs hp hW1 => ?_)
      obtain ⟨r700, rfl, hr700, rfl⟩ := hp
      have hW : WS ad cA (fun i k => (162 ≤ i ∧ i < 170) ∨ (158 ≤ i ∧ i < 162) ∨ (i = 129 ∧ (k = 56 ∨ k = 61 ∨ k = 62 ∨ k = 63 ∨ k = 64 ∨ k = 65 ∨ k = 66 ∨ k = 2 ∨ k = 57 ∨ k = 58 ∨ k = 31))) g0 K g0 H locs := ⟨hW1, hW.2.1, hW.2.2⟩
      refine q_if_ne (tgt := 59) hM dX12_triedBy_32 (by decide) (hr700 : r700.toInt = 0) (fun h32 => ?_) (fun h32 => ?_)
      · omega
      · refine q_aload_n hM dX12_triedBy_35 (lv_at hl 0 rfl) ?_
        refine q_iload_n hM dX12_triedBy_36 (lv_at hl 3 rfl) ?_
        refine q_bipush (v := (20 : Int32)) hM dX12_triedBy_37 (by decide) ?_
        refine q_isub hM dX12_triedBy_39 (fun z702 hz702 => ?_)
        refine q_callV (As := [.int z702]) (rest := []) hM hW.1 hR hC myX12_isThat (kAW (v_6_2 (List.mem_of_getElem? (i := 9) rfl)) rfl) (rfl : vwCl[12]? = some (RX12, TX12, 86)) rfl lb_129.1 (shO hW.2.1 lb_129) (c_X12_isThat _ _ cA ad g0 z702 hW.2.1 hF) ⟨by decide, by decide⟩ rfl rfl hl.1 (Nat.le_of_ble_eq_true rfl) dX12_triedBy_40 (fun v g704 H locs hp hW1 => ?_)
        obtain ⟨r703, rfl, hr703, rfl⟩ := hp
        have hW : WS ad cA (fun i k => (162 ≤ i ∧ i < 170) ∨ (158 ≤ i ∧ i < 162) ∨ (i = 129 ∧ (k = 56 ∨ k = 61 ∨ k = 62 ∨ k = 63 ∨ k = 64 ∨ k = 65 ∨ k = 66 ∨ k = 2 ∨ k = 57 ∨ k = 58 ∨ k = 31))) g0 K g0 H locs := ⟨hW1, hW.2.1, hW.2.2⟩
        refine q_if_ne (tgt := 59) hM dX12_triedBy_43 (by decide) (hr703 : r703.toInt = 0) (fun h43 => ?_) (fun h43 => ?_)
        · omega
        · refine q_aload_n hM dX12_triedBy_46 (lv_at hl 0 rfl) ?_
          refine q_iload_n hM dX12_triedBy_47 (lv_at hl 3 rfl) ?_
          refine q_bipush (v := (30 : Int32)) hM dX12_triedBy_48 (by decide) ?_
          refine q_isub hM dX12_triedBy_50 (fun z705 hz705 => ?_)
          refine q_callV (As := [.int z705]) (rest := []) hM hW.1 hR hC myX12_isTold (kAW (v_5_5 (List.mem_of_getElem? (i := 6) rfl)) rfl) (rfl : vwCl[12]? = some (RX12, TX12, 86)) rfl lb_129.1 (shO hW.2.1 lb_129) (c_X12_isTold _ _ cA ad g0 z705 hW.2.1 hF) ⟨by decide, by decide⟩ rfl rfl hl.1 (Nat.le_of_ble_eq_true rfl) dX12_triedBy_51 (fun v g707 H locs hp hW1 => ?_)
          obtain ⟨r706, rfl, hr706, rfl⟩ := hp
          have hW : WS ad cA (fun i k => (162 ≤ i ∧ i < 170) ∨ (158 ≤ i ∧ i < 162) ∨ (i = 129 ∧ (k = 56 ∨ k = 61 ∨ k = 62 ∨ k = 63 ∨ k = 64 ∨ k = 65 ∨ k = 66 ∨ k = 2 ∨ k = 57 ∨ k = 58 ∨ k = 31))) g0 K g0 H locs := ⟨hW1, hW.2.1, hW.2.2⟩
          refine q_if_ne (tgt := 59) hM dX12_triedBy_54 (by decide) (hr706 : r706.toInt = 0) (fun h54 => ?_) (fun h54 => ?_)
          · omega
          · refine q_iconst (v := ((-1) : Int32)) hM dX12_triedBy_57 (by decide) ?_
            exact hE _ _ _ _ _ _ hW.1 ⟨_, rfl, hW.2.1, hW.2.2, (by have := kc_m1; have := kc_m1; omega)⟩ dX12_triedBy_58

theorem dX12_sizeOf_0 : decode cX12_sizeOf 0 = .ok (.iconst 0, 1) := by decide +kernel
theorem dX12_sizeOf_1 : decode cX12_sizeOf 1 = .ok (.istore_n 1, 1) := by decide +kernel
theorem dX12_sizeOf_2 : decode cX12_sizeOf 2 = .ok (.iload_n 0, 1) := by decide +kernel
theorem dX12_sizeOf_3 : decode cX12_sizeOf 3 = .ok (.istore_n 2, 1) := by decide +kernel
theorem dX12_sizeOf_4 : decode cX12_sizeOf 4 = .ok (.iload_n 2, 1) := by decide +kernel
theorem dX12_sizeOf_5 : decode cX12_sizeOf 5 = .ok (.ifCond .eq 15, 3) := by decide +kernel
theorem dX12_sizeOf_8 : decode cX12_sizeOf 8 = .ok (.iinc 1 1, 3) := by decide +kernel
theorem dX12_sizeOf_11 : decode cX12_sizeOf 11 = .ok (.iload_n 2, 1) := by decide +kernel
theorem dX12_sizeOf_12 : decode cX12_sizeOf 12 = .ok (.iload_n 2, 1) := by decide +kernel
theorem dX12_sizeOf_13 : decode cX12_sizeOf 13 = .ok (.iconst 1, 1) := by decide +kernel
theorem dX12_sizeOf_14 : decode cX12_sizeOf 14 = .ok (.isub, 1) := by decide +kernel
theorem dX12_sizeOf_15 : decode cX12_sizeOf 15 = .ok (.iand, 1) := by decide +kernel
theorem dX12_sizeOf_16 : decode cX12_sizeOf 16 = .ok (.istore_n 2, 1) := by decide +kernel
theorem dX12_sizeOf_17 : decode cX12_sizeOf 17 = .ok (.goto (-13), 3) := by decide +kernel
theorem dX12_sizeOf_20 : decode cX12_sizeOf 20 = .ok (.iload_n 1, 1) := by decide +kernel
theorem dX12_sizeOf_21 : decode cX12_sizeOf 21 = .ok (.ireturn, 1) := by decide +kernel
set_option maxRecDepth 100000 in
set_option maxHeartbeats 4000000 in
theorem c_X12_sizeOf (l : Launch) (D : va_G) (cA : Nat → ClassId) (ad : Nat → Nat) (g0 : Nat → va_E) (s : Int32) (hSh : Shp ad cA g0) (h0 : 0 ≤ s.toInt) : CT l NN ad cA D yX12_sizeOf cX12_sizeOf 3 (some FieldType.int) (0, 0) [.int s] g0 (PU g0 (fun r => True)) := by
  refine q_enterI (by decide) (Nat.le_of_ble_eq_true rfl) rfl (fun K H locs ls _ _ hM hW0 hR hC hE hl => ?_)
  have hl : lv_has ls 3 [(0, .int s)] := hl
  have hW : WS ad cA (fun i k => False) g0 K g0 H locs := ⟨hW0, hSh, FR.rf⟩
  refine q_iconst (v := (0 : Int32)) hM dX12_sizeOf_0 (by decide) ?_
  refine q_istore_n (lv9 := [(1, .int (0 : Int32)), (0, .int s)]) hM dX12_sizeOf_1 hl (by decide) rfl (fun ls hl => ?_)
  refine q_iload_n hM dX12_sizeOf_2 (lv_at hl 1 rfl) ?_
  refine q_istore_n (lv9 := [(2, .int s), (1, .int (0 : Int32)), (0, .int s)]) hM dX12_sizeOf_3 hl (by decide) rfl (fun ls hl => ?_)
  have L4 : ∀ (fu4 : Nat) (cn : Int32) (v : Int32) (H : Heap) (locs : List Loc) (ls : Array Slot), v.toInt.toNat < fu4 → (0 ≤ v.toInt) → lv_has ls 3 [(0, .int s), (1, .int cn), (2, .int v)] → WS ad cA (fun i k => False) g0 K g0 H locs → XX K 0 0 H locs 4 ls [] := by
    intro fu4
    induction fu4 with
    | zero => intro cn v H locs ls h0; omega
    | succ fu4 ih4 =>
      intro cn v H locs ls hm4 i4_0 hl hW
      have := i_rng v
      refine q_iload_n hM dX12_sizeOf_4 (lv_at hl 2 rfl) ?_
      refine q_if_eq (tgt := 20) hM dX12_sizeOf_5 (by decide) (rfl : v.toInt = v.toInt) (fun h5 => ?_) (fun h5 => ?_)
      · refine q_iload_n hM dX12_sizeOf_20 (lv_at hl 1 rfl) ?_
        exact hE _ _ _ _ _ _ hW.1 ⟨_, rfl, trivial, rfl⟩ dX12_sizeOf_21
      · refine q_iinc (lv9 := fun z708 => [(1, .int z708), (0, .int s), (2, .int v)]) hM dX12_sizeOf_8 hl (kq := 1) rfl (by decide) (fun _ => rfl) (fun z708 ls hz708 hl => ?_)
        refine q_iload_n hM dX12_sizeOf_11 (lv_at hl 2 rfl) ?_
        refine q_iload_n hM dX12_sizeOf_12 (lv_at hl 2 rfl) ?_
        refine q_iconst (v := (1 : Int32)) hM dX12_sizeOf_13 (by decide) ?_
        refine q_isub hM dX12_sizeOf_14 (fun z709 hz709 => ?_)
        have tz709 := i_subT hz709 (rfl : v.toInt = v.toInt) (kc_1 : (1 : Int32).toInt = 1) (by omega) (by omega)
        refine q_iand hM dX12_sizeOf_15 (fun z710 hz710 => ?_)
        have := i_and_le hz710 (by omega) (by omega)
        refine q_istore_n (lv9 := [(2, .int z710), (1, .int z708), (0, .int s)]) hM dX12_sizeOf_16 hl (by decide) rfl (fun ls hl => ?_)
        refine q_goto (tgt := 4) hM dX12_sizeOf_17 (by decide) ?_
        exact ih4 z708 z710 _ _ _ (by omega) (by omega) (lv_sub hl [2, 1, 0] rfl) hW
  have := kc_0
  exact L4 _ (0 : Int32) s _ _ _ (Nat.lt_succ_self _) (by omega) (lv_sub hl [2, 1, 0] rfl) hW

theorem dX12_arePupils_0 : decode cX12_arePupils 0 = .ok (.iload_n 1, 1) := by decide +kernel
theorem dX12_arePupils_1 : decode cX12_arePupils 1 = .ok (.i2l, 1) := by decide +kernel
theorem dX12_arePupils_2 : decode cX12_arePupils 2 = .ok (.lconst 1, 1) := by decide +kernel
theorem dX12_arePupils_3 : decode cX12_arePupils 3 = .ok (.ldc2_w 561, 3) := by decide +kernel
theorem dX12_arePupils_6 : decode cX12_arePupils 6 = .ok (.invokestatic 190, 3) := by decide +kernel
theorem dX12_arePupils_9 : decode cX12_arePupils 9 = .ok (.ifCond .eq 11, 3) := by decide +kernel
theorem dX12_arePupils_12 : decode cX12_arePupils 12 = .ok (.iload_n 1, 1) := by decide +kernel
theorem dX12_arePupils_13 : decode cX12_arePupils 13 = .ok (.invokestatic 215, 3) := by decide +kernel
theorem dX12_arePupils_16 : decode cX12_arePupils 16 = .ok (.iconst 2, 1) := by decide +kernel
theorem dX12_arePupils_17 : decode cX12_arePupils 17 = .ok (.if_icmp .ge 5, 3) := by decide +kernel
theorem dX12_arePupils_20 : decode cX12_arePupils 20 = .ok (.iconst 0, 1) := by decide +kernel
theorem dX12_arePupils_21 : decode cX12_arePupils 21 = .ok (.ireturn, 1) := by decide +kernel
theorem dX12_arePupils_22 : decode cX12_arePupils 22 = .ok (.iconst 0, 1) := by decide +kernel
theorem dX12_arePupils_23 : decode cX12_arePupils 23 = .ok (.istore_n 2, 1) := by decide +kernel
theorem dX12_arePupils_24 : decode cX12_arePupils 24 = .ok (.iload_n 2, 1) := by decide +kernel
theorem dX12_arePupils_25 : decode cX12_arePupils 25 = .ok (.bipush 8, 2) := by decide +kernel
theorem dX12_arePupils_27 : decode cX12_arePupils 27 = .ok (.if_icmp .ge 28, 3) := by decide +kernel
theorem dX12_arePupils_30 : decode cX12_arePupils 30 = .ok (.iload_n 1, 1) := by decide +kernel
theorem dX12_arePupils_31 : decode cX12_arePupils 31 = .ok (.iload_n 2, 1) := by decide +kernel
theorem dX12_arePupils_32 : decode cX12_arePupils 32 = .ok (.invokestatic 204, 3) := by decide +kernel
theorem dX12_arePupils_35 : decode cX12_arePupils 35 = .ok (.ifCond .eq 14, 3) := by decide +kernel
theorem dX12_arePupils_38 : decode cX12_arePupils 38 = .ok (.aload_n 0, 1) := by decide +kernel
theorem dX12_arePupils_39 : decode cX12_arePupils 39 = .ok (.getfield 100, 3) := by decide +kernel
theorem dX12_arePupils_42 : decode cX12_arePupils 42 = .ok (.iload_n 2, 1) := by decide +kernel
theorem dX12_arePupils_43 : decode cX12_arePupils 43 = .ok (.baload, 1) := by decide +kernel
theorem dX12_arePupils_44 : decode cX12_arePupils 44 = .ok (.ifCond .ne 5, 3) := by decide +kernel
theorem dX12_arePupils_47 : decode cX12_arePupils 47 = .ok (.iconst 0, 1) := by decide +kernel
theorem dX12_arePupils_48 : decode cX12_arePupils 48 = .ok (.ireturn, 1) := by decide +kernel
theorem dX12_arePupils_49 : decode cX12_arePupils 49 = .ok (.iinc 2 1, 3) := by decide +kernel
theorem dX12_arePupils_52 : decode cX12_arePupils 52 = .ok (.goto (-28), 3) := by decide +kernel
theorem myX12_sizeOf : MS yX12_sizeOf cX12_sizeOf 3 (some FieldType.int) 1 := ⟨kAW (v_5_7 (List.mem_of_getElem? (i := 0) rfl)) rfl, kAW (v_0_0 (List.mem_of_getElem? (i := 13) rfl)) rfl, kAW (v_5_6 (List.mem_of_getElem? (i := 15) rfl)) rfl, by decide, by decide, by decide +kernel⟩
set_option maxRecDepth 100000 in
set_option maxHeartbeats 4000000 in
theorem c_X12_arePupils (l : Launch) (D : va_G) (cA : Nat → ClassId) (ad : Nat → Nat) (g0 : Nat → va_E) (so : Int32) (hSh : Shp ad cA g0) (hF : (∀ i k, 129 ≤ i → fld g0 i k = fld (gF ad cA) i k) ∧ ∀ i, 129 ≤ i → arI g0 i = arI (gF ad cA) i) : CT l NN ad cA D yX12_arePupils cX12_arePupils 3 (some FieldType.boolean) (1, 25) [.ref (ad 129), .int so] g0 (PU g0 (fun r => r.toInt = 0)) := by
  refine q_enterZ (by decide) (Nat.le_of_ble_eq_true rfl) (fun K H locs ls _ _ hM hW0 hR hC hE hl => ?_)
  have hl : lv_has ls 3 [(0, .ref (ad 129)), (1, .int so)] := hl
  have hW : WS ad cA (fun i k => False) g0 K g0 H locs := ⟨hW0, hSh, FR.rf⟩
  refine q_iload_n hM dX12_arePupils_0 (lv_at hl 1 rfl) ?_
  refine q_i2l hM dX12_arePupils_1 ?_
  have := l_i2l so
  refine q_lconst (v := 1) hM dX12_arePupils_2 (by decide) ?_
  have := kl_1
  refine q_ldc2 (v := 255) hM (kAW (v_7_0 (List.mem_of_getElem? (i := 14) rfl)) rfl) dX12_arePupils_3 ?_
  have := kl_255
  refine q_callS (As := [.long so.toInt64, .long (1 : Int64), .long (255 : Int64)]) (rest := []) hM hW.1 hR hC myX12_lies (kAW (v_5_4 (List.mem_of_getElem? (i := 14) rfl)) rfl) (c_X12_lies _ _ cA ad g0 so.toInt64 (1 : Int64) (255 : Int64) hW.2.1) ⟨by decide, by decide⟩ rfl rfl hl.1 (Nat.le_of_ble_eq_true rfl) dX12_arePupils_6 (fun v g712 H locs hp hW1 => ?_)
  obtain ⟨r711, rfl, hr711, rfl⟩ := hp
  have hW : WS ad cA (fun i k => False) g0 K g0 H locs := ⟨hW1, hW.2.1, hW.2.2⟩
  refine q_if_eq (tgt := 20) hM dX12_arePupils_9 (by decide) (rfl : r711.toInt = r711.toInt) (fun h9 => ?_) (fun h9 => ?_)
  · refine q_iconst (v := (0 : Int32)) hM dX12_arePupils_20 (by decide) ?_
    exact hE _ _ _ _ _ _ hW.1 nz_0 ⟨_, rfl, (by have := kc_0; exact kc_0), rfl⟩ dX12_arePupils_21
  · refine q_iload_n hM dX12_arePupils_12 (lv_at hl 1 rfl) ?_
    refine q_callS (As := [.int so]) (rest := []) hM hW.1 hR hC myX12_sizeOf (kAW (v_5_6 (List.mem_of_getElem? (i := 14) rfl)) rfl) (c_X12_sizeOf _ _ cA ad g0 so hW.2.1 (by omega)) ⟨by decide, by decide⟩ rfl rfl hl.1 (Nat.le_of_ble_eq_true rfl) dX12_arePupils_13 (fun v g714 H locs hp hW1 => ?_)
    obtain ⟨r713, rfl, hr713, rfl⟩ := hp
    have hW : WS ad cA (fun i k => False) g0 K g0 H locs := ⟨hW1, hW.2.1, hW.2.2⟩
    refine q_iconst (v := (2 : Int32)) hM dX12_arePupils_16 (by decide) ?_
    refine q_icmp_ge (tgt := 22) hM dX12_arePupils_17 (by decide) (rfl : r713.toInt = r713.toInt) (kc_2 : (2 : Int32).toInt = 2) (fun h17 => ?_) (fun h17 => ?_)
    · refine q_iconst (v := (0 : Int32)) hM dX12_arePupils_22 (by decide) ?_
      refine q_istore_n (lv9 := [(2, .int (0 : Int32)), (0, .ref (ad 129)), (1, .int so)]) hM dX12_arePupils_23 hl (by decide) rfl (fun ls hl => ?_)
      have L24 : ∀ (fu24 : Nat) (i : Int32) (H : Heap) (locs : List Loc) (ls : Array Slot), (8 - i.toInt).toNat < fu24 → (0 ≤ i.toInt) → (i.toInt ≤ 8) → (∀ q : Nat, q < i.toInt.toNat → bt so q = false) → lv_has ls 3 [(0, .ref (ad 129)), (1, .int so), (2, .int i)] → WS ad cA (fun i k => False) g0 K g0 H locs → XX K 0 0 H locs 24 ls [] := by
        intro fu24
        induction fu24 with
        | zero => intro i H locs ls h0; omega
        | succ fu24 ih24 =>
          intro i H locs ls hm24 i24_0 i24_1 i24_2 hl hW
          refine q_iload_n hM dX12_arePupils_24 (lv_at hl 2 rfl) ?_
          refine q_bipush (v := (8 : Int32)) hM dX12_arePupils_25 (by decide) ?_
          refine q_icmp_ge (tgt := 55) hM dX12_arePupils_27 (by decide) (rfl : i.toInt = i.toInt) (kc_8 : (8 : Int32).toInt = 8) (fun h27 => ?_) (fun h27 => ?_)
          · exact (bits8 (by omega) (by omega) (fun q h => i24_2 q (by omega))).elim
          · refine q_iload_n hM dX12_arePupils_30 (lv_at hl 1 rfl) ?_
            refine q_iload_n hM dX12_arePupils_31 (lv_at hl 2 rfl) ?_
            refine q_callS (As := [.int so, .int i]) (rest := []) hM hW.1 hR hC myX12_has (kAW (v_5_6 (List.mem_of_getElem? (i := 7) rfl)) rfl) (c_X12_has _ _ cA ad g0 so i hW.2.1 (by omega) (by omega)) ⟨by decide, by decide⟩ rfl rfl hl.1 (Nat.le_of_ble_eq_true rfl) dX12_arePupils_32 (fun v g716 H locs hp hW1 => ?_)
            obtain ⟨r715, rfl, hr715, rfl⟩ := hp
            have hW : WS ad cA (fun i k => False) g0 K g0 H locs := ⟨hW1, hW.2.1, hW.2.2⟩
            refine q_if_eq (tgt := 49) hM dX12_arePupils_35 (by decide) (rfl : r715.toInt = r715.toInt) (fun h35 => ?_) (fun h35 => ?_)
            · refine q_iinc (lv9 := fun z717 => [(2, .int z717), (0, .ref (ad 129)), (1, .int so)]) hM dX12_arePupils_49 hl (kq := 2) rfl (by decide) (fun _ => rfl) (fun z717 ls hz717 hl => ?_)
              have tz717 := i_addT hz717 (rfl : i.toInt = i.toInt) (kc_1 : (Int32.ofInt 1).toInt = 1) (by omega) (by omega)
              refine q_goto (tgt := 24) hM dX12_arePupils_52 (by decide) ?_
              exact ih24 z717 _ _ _ (by omega) (by omega) (by omega) (fun q h => by
                  by_cases e : q = i.toInt.toNat
                  · rw [e]; exact (hr715.resolve_left (fun h9 => by omega)).2
                  · exact i24_2 q (by omega)) (lv_sub hl [1, 2, 0] rfl) hW
            · refine q_aload_n hM dX12_arePupils_38 (lv_at hl 0 rfl) ?_
              refine w_get (v := .ref (ad 158)) hM hW FG_X12_100 lb_129 (rf_129_52 hW.2.1) dX12_arePupils_39 ?_
              refine q_iload_n hM dX12_arePupils_42 (lv_at hl 2 rfl) ?_
              refine w_zald hM hW lb_158 (i_in (by omega) (by omega)) dX12_arePupils_43 ?_
              refine q_top (fun y718 hy718 => ?_)
              have ky718 : y718.toInt = 0 := by rw [hy718, ((hW.2.2.2.1 158 (fun h => h)).trans ((hF.2 158 (by decide)).trans rfl : arI g0 158 = fun _ => 0))]; rfl
              refine q_if_ne (tgt := 49) hM dX12_arePupils_44 (by decide) (ky718 : y718.toInt = 0) (fun h44 => ?_) (fun h44 => ?_)
              · omega
              · refine q_iconst (v := (0 : Int32)) hM dX12_arePupils_47 (by decide) ?_
                exact hE _ _ _ _ _ _ hW.1 nz_0 ⟨_, rfl, (by have := kc_0; exact kc_0), rfl⟩ dX12_arePupils_48
      have := kc_0
      exact L24 _ (0 : Int32) _ _ _ (Nat.lt_succ_self _) (by omega) (by omega) (fun q h => absurd h (by have := kc_0; omega)) (lv_sub hl [1, 2, 0] rfl) hW
    · refine q_iconst (v := (0 : Int32)) hM dX12_arePupils_20 (by decide) ?_
      exact hE _ _ _ _ _ _ hW.1 nz_0 ⟨_, rfl, (by have := kc_0; exact kc_0), rfl⟩ dX12_arePupils_21

theorem dX12_toldFacts_0 : decode cX12_toldFacts 0 = .ok (.iconst 0, 1) := by decide +kernel
theorem dX12_toldFacts_1 : decode cX12_toldFacts 1 = .ok (.istore_n 1, 1) := by decide +kernel
theorem dX12_toldFacts_2 : decode cX12_toldFacts 2 = .ok (.iconst 0, 1) := by decide +kernel
theorem dX12_toldFacts_3 : decode cX12_toldFacts 3 = .ok (.istore_n 2, 1) := by decide +kernel
theorem dX12_toldFacts_4 : decode cX12_toldFacts 4 = .ok (.iload_n 2, 1) := by decide +kernel
theorem dX12_toldFacts_5 : decode cX12_toldFacts 5 = .ok (.bipush 12, 2) := by decide +kernel
theorem dX12_toldFacts_7 : decode cX12_toldFacts 7 = .ok (.if_icmp .ge 28, 3) := by decide +kernel
theorem dX12_toldFacts_10 : decode cX12_toldFacts 10 = .ok (.iload_n 1, 1) := by decide +kernel
theorem dX12_toldFacts_11 : decode cX12_toldFacts 11 = .ok (.aload_n 0, 1) := by decide +kernel
theorem dX12_toldFacts_12 : decode cX12_toldFacts 12 = .ok (.getfield 17, 3) := by decide +kernel
theorem dX12_toldFacts_15 : decode cX12_toldFacts 15 = .ok (.iload_n 2, 1) := by decide +kernel
theorem dX12_toldFacts_16 : decode cX12_toldFacts 16 = .ok (.baload, 1) := by decide +kernel
theorem dX12_toldFacts_17 : decode cX12_toldFacts 17 = .ok (.ifCond .eq 9, 3) := by decide +kernel
theorem dX12_toldFacts_26 : decode cX12_toldFacts 26 = .ok (.iconst 0, 1) := by decide +kernel
theorem dX12_toldFacts_27 : decode cX12_toldFacts 27 = .ok (.ior, 1) := by decide +kernel
theorem dX12_toldFacts_28 : decode cX12_toldFacts 28 = .ok (.istore_n 1, 1) := by decide +kernel
theorem dX12_toldFacts_29 : decode cX12_toldFacts 29 = .ok (.iinc 2 1, 3) := by decide +kernel
theorem dX12_toldFacts_32 : decode cX12_toldFacts 32 = .ok (.goto (-28), 3) := by decide +kernel
theorem dX12_toldFacts_35 : decode cX12_toldFacts 35 = .ok (.iload_n 1, 1) := by decide +kernel
theorem dX12_toldFacts_36 : decode cX12_toldFacts 36 = .ok (.ireturn, 1) := by decide +kernel
set_option maxRecDepth 100000 in
set_option maxHeartbeats 4000000 in
theorem c_X12_toldFacts (l : Launch) (D : va_G) (cA : Nat → ClassId) (ad : Nat → Nat) (g0 : Nat → va_E)  (hSh : Shp ad cA g0) (hF : (∀ i k, 129 ≤ i → fld g0 i k = fld (gF ad cA) i k) ∧ ∀ i, 129 ≤ i → arI g0 i = arI (gF ad cA) i) : CT l NN ad cA D yX12_toldFacts cX12_toldFacts 3 (some FieldType.int) (0, 0) [.ref (ad 129)] g0 (PU g0 (fun r => r.toInt = 0)) := by
  refine q_enterI (by decide) (Nat.le_of_ble_eq_true rfl) rfl (fun K H locs ls _ _ hM hW0 hR hC hE hl => ?_)
  have hl : lv_has ls 3 [(0, .ref (ad 129))] := hl
  have hW : WS ad cA (fun i k => False) g0 K g0 H locs := ⟨hW0, hSh, FR.rf⟩
  have := kc_0
  refine q_iconst (v := (0 : Int32)) hM dX12_toldFacts_0 (by decide) ?_
  refine q_istore_n (lv9 := [(1, .int (0 : Int32)), (0, .ref (ad 129))]) hM dX12_toldFacts_1 hl (by decide) rfl (fun ls hl => ?_)
  refine q_iconst (v := (0 : Int32)) hM dX12_toldFacts_2 (by decide) ?_
  refine q_istore_n (lv9 := [(2, .int (0 : Int32)), (1, .int (0 : Int32)), (0, .ref (ad 129))]) hM dX12_toldFacts_3 hl (by decide) rfl (fun ls hl => ?_)
  have L4 : ∀ (fu4 : Nat) (set : Int32) (i : Int32) (H : Heap) (locs : List Loc) (ls : Array Slot), (12 - i.toInt).toNat < fu4 → (0 ≤ i.toInt) → (i.toInt ≤ 12) → (set.toInt = 0) → lv_has ls 3 [(0, .ref (ad 129)), (1, .int set), (2, .int i)] → WS ad cA (fun i k => False) g0 K g0 H locs → XX K 0 0 H locs 4 ls [] := by
    intro fu4
    induction fu4 with
    | zero => intro set i H locs ls h0; omega
    | succ fu4 ih4 =>
      intro set i H locs ls hm4 i4_0 i4_1 i4_2 hl hW
      refine q_iload_n hM dX12_toldFacts_4 (lv_at hl 2 rfl) ?_
      refine q_bipush (v := (12 : Int32)) hM dX12_toldFacts_5 (by decide) ?_
      refine q_icmp_ge (tgt := 35) hM dX12_toldFacts_7 (by decide) (rfl : i.toInt = i.toInt) (kc_12 : (12 : Int32).toInt = 12) (fun h7 => ?_) (fun h7 => ?_)
      · refine q_iload_n hM dX12_toldFacts_35 (lv_at hl 1 rfl) ?_
        exact hE _ _ _ _ _ _ hW.1 ⟨_, rfl, (by omega), rfl⟩ dX12_toldFacts_36
      · refine q_iload_n hM dX12_toldFacts_10 (lv_at hl 1 rfl) ?_
        refine q_aload_n hM dX12_toldFacts_11 (lv_at hl 0 rfl) ?_
        refine w_get (v := .ref (ad 131)) hM hW FG_X12_17 lb_129 (rf_129_10 hW.2.1) dX12_toldFacts_12 ?_
        refine q_iload_n hM dX12_toldFacts_15 (lv_at hl 2 rfl) ?_
        refine w_zald hM hW lb_131 (i_in (by omega) (by omega)) dX12_toldFacts_16 ?_
        refine q_top (fun y719 hy719 => ?_)
        have ky719 : y719.toInt = 0 := by rw [hy719, ((hW.2.2.2.1 131 (fun h => h)).trans ((hF.2 131 (by decide)).trans rfl : arI g0 131 = fun _ => 0))]; rfl
        refine q_if_eq (tgt := 26) hM dX12_toldFacts_17 (by decide) (ky719 : y719.toInt = 0) (fun h17 => ?_) (fun h17 => ?_)
        · refine q_iconst (v := (0 : Int32)) hM dX12_toldFacts_26 (by decide) ?_
          refine q_ior hM dX12_toldFacts_27 (fun z720 hz720 => ?_)
          have := or_0 hz720
          refine q_istore_n (lv9 := [(1, .int z720), (0, .ref (ad 129)), (2, .int i)]) hM dX12_toldFacts_28 hl (by decide) rfl (fun ls hl => ?_)
          refine q_iinc (lv9 := fun z721 => [(2, .int z721), (1, .int z720), (0, .ref (ad 129))]) hM dX12_toldFacts_29 hl (kq := 2) rfl (by decide) (fun _ => rfl) (fun z721 ls hz721 hl => ?_)
          have tz721 := i_addT hz721 (rfl : i.toInt = i.toInt) (kc_1 : (Int32.ofInt 1).toInt = 1) (by omega) (by omega)
          refine q_goto (tgt := 4) hM dX12_toldFacts_32 (by decide) ?_
          exact ih4 z720 z721 _ _ _ (by omega) (by omega) (by omega) (by omega) (lv_sub hl [2, 1, 0] rfl) hW
        · omega
  have := kc_0
  have := kc_0
  exact L4 _ (0 : Int32) (0 : Int32) _ _ _ (Nat.lt_succ_self _) (by omega) (by omega) (by omega) (lv_sub hl [2, 1, 0] rfl) hW

theorem dX12_toldMasters_0 : decode cX12_toldMasters 0 = .ok (.iconst 0, 1) := by decide +kernel
theorem dX12_toldMasters_1 : decode cX12_toldMasters 1 = .ok (.istore_n 1, 1) := by decide +kernel
theorem dX12_toldMasters_2 : decode cX12_toldMasters 2 = .ok (.iconst 0, 1) := by decide +kernel
theorem dX12_toldMasters_3 : decode cX12_toldMasters 3 = .ok (.istore_n 2, 1) := by decide +kernel
theorem dX12_toldMasters_4 : decode cX12_toldMasters 4 = .ok (.iload_n 2, 1) := by decide +kernel
theorem dX12_toldMasters_5 : decode cX12_toldMasters 5 = .ok (.iconst 5, 1) := by decide +kernel
theorem dX12_toldMasters_6 : decode cX12_toldMasters 6 = .ok (.if_icmp .ge 28, 3) := by decide +kernel
theorem dX12_toldMasters_9 : decode cX12_toldMasters 9 = .ok (.iload_n 1, 1) := by decide +kernel
theorem dX12_toldMasters_10 : decode cX12_toldMasters 10 = .ok (.aload_n 0, 1) := by decide +kernel
theorem dX12_toldMasters_11 : decode cX12_toldMasters 11 = .ok (.getfield 154, 3) := by decide +kernel
theorem dX12_toldMasters_14 : decode cX12_toldMasters 14 = .ok (.iload_n 2, 1) := by decide +kernel
theorem dX12_toldMasters_15 : decode cX12_toldMasters 15 = .ok (.baload, 1) := by decide +kernel
theorem dX12_toldMasters_16 : decode cX12_toldMasters 16 = .ok (.ifCond .eq 9, 3) := by decide +kernel
theorem dX12_toldMasters_25 : decode cX12_toldMasters 25 = .ok (.iconst 0, 1) := by decide +kernel
theorem dX12_toldMasters_26 : decode cX12_toldMasters 26 = .ok (.ior, 1) := by decide +kernel
theorem dX12_toldMasters_27 : decode cX12_toldMasters 27 = .ok (.istore_n 1, 1) := by decide +kernel
theorem dX12_toldMasters_28 : decode cX12_toldMasters 28 = .ok (.iinc 2 1, 3) := by decide +kernel
theorem dX12_toldMasters_31 : decode cX12_toldMasters 31 = .ok (.goto (-27), 3) := by decide +kernel
theorem dX12_toldMasters_34 : decode cX12_toldMasters 34 = .ok (.iload_n 1, 1) := by decide +kernel
theorem dX12_toldMasters_35 : decode cX12_toldMasters 35 = .ok (.ireturn, 1) := by decide +kernel
theorem FG_X12_154 : FG RX12 154 12 86 82 := ⟨RX12, TX12, rfl, wX12, by decide, kAW (v_4_7 (List.mem_of_getElem? (i := 15) rfl)) rfl, rfl⟩
set_option maxRecDepth 100000 in
set_option maxHeartbeats 4000000 in
theorem c_X12_toldMasters (l : Launch) (D : va_G) (cA : Nat → ClassId) (ad : Nat → Nat) (g0 : Nat → va_E)  (hSh : Shp ad cA g0) (hF : (∀ i k, 129 ≤ i → fld g0 i k = fld (gF ad cA) i k) ∧ ∀ i, 129 ≤ i → arI g0 i = arI (gF ad cA) i) : CT l NN ad cA D yX12_toldMasters cX12_toldMasters 3 (some FieldType.int) (0, 0) [.ref (ad 129)] g0 (PU g0 (fun r => r.toInt = 0)) := by
  refine q_enterI (by decide) (Nat.le_of_ble_eq_true rfl) rfl (fun K H locs ls _ _ hM hW0 hR hC hE hl => ?_)
  have hl : lv_has ls 3 [(0, .ref (ad 129))] := hl
  have hW : WS ad cA (fun i k => False) g0 K g0 H locs := ⟨hW0, hSh, FR.rf⟩
  have := kc_0
  refine q_iconst (v := (0 : Int32)) hM dX12_toldMasters_0 (by decide) ?_
  refine q_istore_n (lv9 := [(1, .int (0 : Int32)), (0, .ref (ad 129))]) hM dX12_toldMasters_1 hl (by decide) rfl (fun ls hl => ?_)
  refine q_iconst (v := (0 : Int32)) hM dX12_toldMasters_2 (by decide) ?_
  refine q_istore_n (lv9 := [(2, .int (0 : Int32)), (1, .int (0 : Int32)), (0, .ref (ad 129))]) hM dX12_toldMasters_3 hl (by decide) rfl (fun ls hl => ?_)
  have L4 : ∀ (fu4 : Nat) (set : Int32) (i : Int32) (H : Heap) (locs : List Loc) (ls : Array Slot), (5 - i.toInt).toNat < fu4 → (0 ≤ i.toInt) → (i.toInt ≤ 5) → (set.toInt = 0) → lv_has ls 3 [(0, .ref (ad 129)), (1, .int set), (2, .int i)] → WS ad cA (fun i k => False) g0 K g0 H locs → XX K 0 0 H locs 4 ls [] := by
    intro fu4
    induction fu4 with
    | zero => intro set i H locs ls h0; omega
    | succ fu4 ih4 =>
      intro set i H locs ls hm4 i4_0 i4_1 i4_2 hl hW
      refine q_iload_n hM dX12_toldMasters_4 (lv_at hl 2 rfl) ?_
      refine q_iconst (v := (5 : Int32)) hM dX12_toldMasters_5 (by decide) ?_
      refine q_icmp_ge (tgt := 34) hM dX12_toldMasters_6 (by decide) (rfl : i.toInt = i.toInt) (kc_5 : (5 : Int32).toInt = 5) (fun h6 => ?_) (fun h6 => ?_)
      · refine q_iload_n hM dX12_toldMasters_34 (lv_at hl 1 rfl) ?_
        exact hE _ _ _ _ _ _ hW.1 ⟨_, rfl, (by omega), rfl⟩ dX12_toldMasters_35
      · refine q_iload_n hM dX12_toldMasters_9 (lv_at hl 1 rfl) ?_
        refine q_aload_n hM dX12_toldMasters_10 (lv_at hl 0 rfl) ?_
        refine w_get (v := .ref (ad 176)) hM hW FG_X12_154 lb_129 (rf_129_82 hW.2.1) dX12_toldMasters_11 ?_
        refine q_iload_n hM dX12_toldMasters_14 (lv_at hl 2 rfl) ?_
        refine w_zald hM hW lb_176 (i_in (by omega) (by omega)) dX12_toldMasters_15 ?_
        refine q_top (fun y722 hy722 => ?_)
        have ky722 : y722.toInt = 0 := by rw [hy722, ((hW.2.2.2.1 176 (fun h => h)).trans ((hF.2 176 (by decide)).trans rfl : arI g0 176 = fun _ => 0))]; rfl
        refine q_if_eq (tgt := 25) hM dX12_toldMasters_16 (by decide) (ky722 : y722.toInt = 0) (fun h16 => ?_) (fun h16 => ?_)
        · refine q_iconst (v := (0 : Int32)) hM dX12_toldMasters_25 (by decide) ?_
          refine q_ior hM dX12_toldMasters_26 (fun z723 hz723 => ?_)
          have := or_0 hz723
          refine q_istore_n (lv9 := [(1, .int z723), (0, .ref (ad 129)), (2, .int i)]) hM dX12_toldMasters_27 hl (by decide) rfl (fun ls hl => ?_)
          refine q_iinc (lv9 := fun z724 => [(2, .int z724), (1, .int z723), (0, .ref (ad 129))]) hM dX12_toldMasters_28 hl (kq := 2) rfl (by decide) (fun _ => rfl) (fun z724 ls hz724 hl => ?_)
          have tz724 := i_addT hz724 (rfl : i.toInt = i.toInt) (kc_1 : (Int32.ofInt 1).toInt = 1) (by omega) (by omega)
          refine q_goto (tgt := 4) hM dX12_toldMasters_31 (by decide) ?_
          exact ih4 z723 z724 _ _ _ (by omega) (by omega) (by omega) (by omega) (lv_sub hl [2, 1, 0] rfl) hW
        · omega
  have := kc_0
  have := kc_0
  exact L4 _ (0 : Int32) (0 : Int32) _ _ _ (Nat.lt_succ_self _) (by omega) (by omega) (by omega) (lv_sub hl [2, 1, 0] rfl) hW

theorem dX12_toldPupils_0 : decode cX12_toldPupils 0 = .ok (.iconst 0, 1) := by decide +kernel
theorem dX12_toldPupils_1 : decode cX12_toldPupils 1 = .ok (.istore_n 1, 1) := by decide +kernel
theorem dX12_toldPupils_2 : decode cX12_toldPupils 2 = .ok (.iconst 0, 1) := by decide +kernel
theorem dX12_toldPupils_3 : decode cX12_toldPupils 3 = .ok (.istore_n 2, 1) := by decide +kernel
theorem dX12_toldPupils_4 : decode cX12_toldPupils 4 = .ok (.iload_n 2, 1) := by decide +kernel
theorem dX12_toldPupils_5 : decode cX12_toldPupils 5 = .ok (.bipush 8, 2) := by decide +kernel
theorem dX12_toldPupils_7 : decode cX12_toldPupils 7 = .ok (.if_icmp .ge 28, 3) := by decide +kernel
theorem dX12_toldPupils_10 : decode cX12_toldPupils 10 = .ok (.iload_n 1, 1) := by decide +kernel
theorem dX12_toldPupils_11 : decode cX12_toldPupils 11 = .ok (.aload_n 0, 1) := by decide +kernel
theorem dX12_toldPupils_12 : decode cX12_toldPupils 12 = .ok (.getfield 100, 3) := by decide +kernel
theorem dX12_toldPupils_15 : decode cX12_toldPupils 15 = .ok (.iload_n 2, 1) := by decide +kernel
theorem dX12_toldPupils_16 : decode cX12_toldPupils 16 = .ok (.baload, 1) := by decide +kernel
theorem dX12_toldPupils_17 : decode cX12_toldPupils 17 = .ok (.ifCond .eq 9, 3) := by decide +kernel
theorem dX12_toldPupils_26 : decode cX12_toldPupils 26 = .ok (.iconst 0, 1) := by decide +kernel
theorem dX12_toldPupils_27 : decode cX12_toldPupils 27 = .ok (.ior, 1) := by decide +kernel
theorem dX12_toldPupils_28 : decode cX12_toldPupils 28 = .ok (.istore_n 1, 1) := by decide +kernel
theorem dX12_toldPupils_29 : decode cX12_toldPupils 29 = .ok (.iinc 2 1, 3) := by decide +kernel
theorem dX12_toldPupils_32 : decode cX12_toldPupils 32 = .ok (.goto (-28), 3) := by decide +kernel
theorem dX12_toldPupils_35 : decode cX12_toldPupils 35 = .ok (.iload_n 1, 1) := by decide +kernel
theorem dX12_toldPupils_36 : decode cX12_toldPupils 36 = .ok (.ireturn, 1) := by decide +kernel
set_option maxRecDepth 100000 in
set_option maxHeartbeats 4000000 in
theorem c_X12_toldPupils (l : Launch) (D : va_G) (cA : Nat → ClassId) (ad : Nat → Nat) (g0 : Nat → va_E)  (hSh : Shp ad cA g0) (hF : (∀ i k, 129 ≤ i → fld g0 i k = fld (gF ad cA) i k) ∧ ∀ i, 129 ≤ i → arI g0 i = arI (gF ad cA) i) : CT l NN ad cA D yX12_toldPupils cX12_toldPupils 3 (some FieldType.int) (0, 0) [.ref (ad 129)] g0 (PU g0 (fun r => r.toInt = 0)) := by
  refine q_enterI (by decide) (Nat.le_of_ble_eq_true rfl) rfl (fun K H locs ls _ _ hM hW0 hR hC hE hl => ?_)
  have hl : lv_has ls 3 [(0, .ref (ad 129))] := hl
  have hW : WS ad cA (fun i k => False) g0 K g0 H locs := ⟨hW0, hSh, FR.rf⟩
  have := kc_0
  refine q_iconst (v := (0 : Int32)) hM dX12_toldPupils_0 (by decide) ?_
  refine q_istore_n (lv9 := [(1, .int (0 : Int32)), (0, .ref (ad 129))]) hM dX12_toldPupils_1 hl (by decide) rfl (fun ls hl => ?_)
  refine q_iconst (v := (0 : Int32)) hM dX12_toldPupils_2 (by decide) ?_
  refine q_istore_n (lv9 := [(2, .int (0 : Int32)), (1, .int (0 : Int32)), (0, .ref (ad 129))]) hM dX12_toldPupils_3 hl (by decide) rfl (fun ls hl => ?_)
  have L4 : ∀ (fu4 : Nat) (set : Int32) (i : Int32) (H : Heap) (locs : List Loc) (ls : Array Slot), (8 - i.toInt).toNat < fu4 → (0 ≤ i.toInt) → (i.toInt ≤ 8) → (set.toInt = 0) → lv_has ls 3 [(0, .ref (ad 129)), (1, .int set), (2, .int i)] → WS ad cA (fun i k => False) g0 K g0 H locs → XX K 0 0 H locs 4 ls [] := by
    intro fu4
    induction fu4 with
    | zero => intro set i H locs ls h0; omega
    | succ fu4 ih4 =>
      intro set i H locs ls hm4 i4_0 i4_1 i4_2 hl hW
      refine q_iload_n hM dX12_toldPupils_4 (lv_at hl 2 rfl) ?_
      refine q_bipush (v := (8 : Int32)) hM dX12_toldPupils_5 (by decide) ?_
      refine q_icmp_ge (tgt := 35) hM dX12_toldPupils_7 (by decide) (rfl : i.toInt = i.toInt) (kc_8 : (8 : Int32).toInt = 8) (fun h7 => ?_) (fun h7 => ?_)
      · refine q_iload_n hM dX12_toldPupils_35 (lv_at hl 1 rfl) ?_
        exact hE _ _ _ _ _ _ hW.1 ⟨_, rfl, (by omega), rfl⟩ dX12_toldPupils_36
      · refine q_iload_n hM dX12_toldPupils_10 (lv_at hl 1 rfl) ?_
        refine q_aload_n hM dX12_toldPupils_11 (lv_at hl 0 rfl) ?_
        refine w_get (v := .ref (ad 158)) hM hW FG_X12_100 lb_129 (rf_129_52 hW.2.1) dX12_toldPupils_12 ?_
        refine q_iload_n hM dX12_toldPupils_15 (lv_at hl 2 rfl) ?_
        refine w_zald hM hW lb_158 (i_in (by omega) (by omega)) dX12_toldPupils_16 ?_
        refine q_top (fun y725 hy725 => ?_)
        have ky725 : y725.toInt = 0 := by rw [hy725, ((hW.2.2.2.1 158 (fun h => h)).trans ((hF.2 158 (by decide)).trans rfl : arI g0 158 = fun _ => 0))]; rfl
        refine q_if_eq (tgt := 26) hM dX12_toldPupils_17 (by decide) (ky725 : y725.toInt = 0) (fun h17 => ?_) (fun h17 => ?_)
        · refine q_iconst (v := (0 : Int32)) hM dX12_toldPupils_26 (by decide) ?_
          refine q_ior hM dX12_toldPupils_27 (fun z726 hz726 => ?_)
          have := or_0 hz726
          refine q_istore_n (lv9 := [(1, .int z726), (0, .ref (ad 129)), (2, .int i)]) hM dX12_toldPupils_28 hl (by decide) rfl (fun ls hl => ?_)
          refine q_iinc (lv9 := fun z727 => [(2, .int z727), (1, .int z726), (0, .ref (ad 129))]) hM dX12_toldPupils_29 hl (kq := 2) rfl (by decide) (fun _ => rfl) (fun z727 ls hz727 hl => ?_)
          have tz727 := i_addT hz727 (rfl : i.toInt = i.toInt) (kc_1 : (Int32.ofInt 1).toInt = 1) (by omega) (by omega)
          refine q_goto (tgt := 4) hM dX12_toldPupils_32 (by decide) ?_
          exact ih4 z726 z727 _ _ _ (by omega) (by omega) (by omega) (by omega) (lv_sub hl [2, 1, 0] rfl) hW
        · omega
  have := kc_0
  have := kc_0
  exact L4 _ (0 : Int32) (0 : Int32) _ _ _ (Nat.lt_succ_self _) (by omega) (by omega) (by omega) (lv_sub hl [2, 1, 0] rfl) hW

theorem dX12_toldArts_0 : decode cX12_toldArts 0 = .ok (.iconst 0, 1) := by decide +kernel
theorem dX12_toldArts_1 : decode cX12_toldArts 1 = .ok (.istore_n 1, 1) := by decide +kernel
theorem dX12_toldArts_2 : decode cX12_toldArts 2 = .ok (.iconst 0, 1) := by decide +kernel
theorem dX12_toldArts_3 : decode cX12_toldArts 3 = .ok (.istore_n 2, 1) := by decide +kernel
theorem dX12_toldArts_4 : decode cX12_toldArts 4 = .ok (.iload_n 2, 1) := by decide +kernel
theorem dX12_toldArts_5 : decode cX12_toldArts 5 = .ok (.bipush 6, 2) := by decide +kernel
theorem dX12_toldArts_7 : decode cX12_toldArts 7 = .ok (.if_icmp .ge 28, 3) := by decide +kernel
theorem dX12_toldArts_10 : decode cX12_toldArts 10 = .ok (.iload_n 1, 1) := by decide +kernel
theorem dX12_toldArts_11 : decode cX12_toldArts 11 = .ok (.aload_n 0, 1) := by decide +kernel
theorem dX12_toldArts_12 : decode cX12_toldArts 12 = .ok (.getfield 28, 3) := by decide +kernel
theorem dX12_toldArts_15 : decode cX12_toldArts 15 = .ok (.iload_n 2, 1) := by decide +kernel
theorem dX12_toldArts_16 : decode cX12_toldArts 16 = .ok (.baload, 1) := by decide +kernel
theorem dX12_toldArts_17 : decode cX12_toldArts 17 = .ok (.ifCond .eq 9, 3) := by decide +kernel
theorem dX12_toldArts_26 : decode cX12_toldArts 26 = .ok (.iconst 0, 1) := by decide +kernel
theorem dX12_toldArts_27 : decode cX12_toldArts 27 = .ok (.ior, 1) := by decide +kernel
theorem dX12_toldArts_28 : decode cX12_toldArts 28 = .ok (.istore_n 1, 1) := by decide +kernel
theorem dX12_toldArts_29 : decode cX12_toldArts 29 = .ok (.iinc 2 1, 3) := by decide +kernel
theorem dX12_toldArts_32 : decode cX12_toldArts 32 = .ok (.goto (-28), 3) := by decide +kernel
theorem dX12_toldArts_35 : decode cX12_toldArts 35 = .ok (.iload_n 1, 1) := by decide +kernel
theorem dX12_toldArts_36 : decode cX12_toldArts 36 = .ok (.ireturn, 1) := by decide +kernel
set_option maxRecDepth 100000 in
set_option maxHeartbeats 4000000 in
theorem c_X12_toldArts (l : Launch) (D : va_G) (cA : Nat → ClassId) (ad : Nat → Nat) (g0 : Nat → va_E)  (hSh : Shp ad cA g0) (hF : (∀ i k, 129 ≤ i → fld g0 i k = fld (gF ad cA) i k) ∧ ∀ i, 129 ≤ i → arI g0 i = arI (gF ad cA) i) : CT l NN ad cA D yX12_toldArts cX12_toldArts 3 (some FieldType.int) (0, 0) [.ref (ad 129)] g0 (PU g0 (fun r => r.toInt = 0)) := by
  refine q_enterI (by decide) (Nat.le_of_ble_eq_true rfl) rfl (fun K H locs ls _ _ hM hW0 hR hC hE hl => ?_)
  have hl : lv_has ls 3 [(0, .ref (ad 129))] := hl
  have hW : WS ad cA (fun i k => False) g0 K g0 H locs := ⟨hW0, hSh, FR.rf⟩
  have := kc_0
  refine q_iconst (v := (0 : Int32)) hM dX12_toldArts_0 (by decide) ?_
  refine q_istore_n (lv9 := [(1, .int (0 : Int32)), (0, .ref (ad 129))]) hM dX12_toldArts_1 hl (by decide) rfl (fun ls hl => ?_)
  refine q_iconst (v := (0 : Int32)) hM dX12_toldArts_2 (by decide) ?_
  refine q_istore_n (lv9 := [(2, .int (0 : Int32)), (1, .int (0 : Int32)), (0, .ref (ad 129))]) hM dX12_toldArts_3 hl (by decide) rfl (fun ls hl => ?_)
  have L4 : ∀ (fu4 : Nat) (set : Int32) (i : Int32) (H : Heap) (locs : List Loc) (ls : Array Slot), (6 - i.toInt).toNat < fu4 → (0 ≤ i.toInt) → (i.toInt ≤ 6) → (set.toInt = 0) → lv_has ls 3 [(0, .ref (ad 129)), (1, .int set), (2, .int i)] → WS ad cA (fun i k => False) g0 K g0 H locs → XX K 0 0 H locs 4 ls [] := by
    intro fu4
    induction fu4 with
    | zero => intro set i H locs ls h0; omega
    | succ fu4 ih4 =>
      intro set i H locs ls hm4 i4_0 i4_1 i4_2 hl hW
      refine q_iload_n hM dX12_toldArts_4 (lv_at hl 2 rfl) ?_
      refine q_bipush (v := (6 : Int32)) hM dX12_toldArts_5 (by decide) ?_
      refine q_icmp_ge (tgt := 35) hM dX12_toldArts_7 (by decide) (rfl : i.toInt = i.toInt) (kc_6 : (6 : Int32).toInt = 6) (fun h7 => ?_) (fun h7 => ?_)
      · refine q_iload_n hM dX12_toldArts_35 (lv_at hl 1 rfl) ?_
        exact hE _ _ _ _ _ _ hW.1 ⟨_, rfl, (by omega), rfl⟩ dX12_toldArts_36
      · refine q_iload_n hM dX12_toldArts_10 (lv_at hl 1 rfl) ?_
        refine q_aload_n hM dX12_toldArts_11 (lv_at hl 0 rfl) ?_
        refine w_get (v := .ref (ad 134)) hM hW FG_X12_28 lb_129 (rf_129_13 hW.2.1) dX12_toldArts_12 ?_
        refine q_iload_n hM dX12_toldArts_15 (lv_at hl 2 rfl) ?_
        refine w_zald hM hW lb_134 (i_in (by omega) (by omega)) dX12_toldArts_16 ?_
        refine q_top (fun y728 hy728 => ?_)
        have ky728 : y728.toInt = 0 := by rw [hy728, ((hW.2.2.2.1 134 (fun h => h)).trans ((hF.2 134 (by decide)).trans rfl : arI g0 134 = fun _ => 0))]; rfl
        refine q_if_eq (tgt := 26) hM dX12_toldArts_17 (by decide) (ky728 : y728.toInt = 0) (fun h17 => ?_) (fun h17 => ?_)
        · refine q_iconst (v := (0 : Int32)) hM dX12_toldArts_26 (by decide) ?_
          refine q_ior hM dX12_toldArts_27 (fun z729 hz729 => ?_)
          have := or_0 hz729
          refine q_istore_n (lv9 := [(1, .int z729), (0, .ref (ad 129)), (2, .int i)]) hM dX12_toldArts_28 hl (by decide) rfl (fun ls hl => ?_)
          refine q_iinc (lv9 := fun z730 => [(2, .int z730), (1, .int z729), (0, .ref (ad 129))]) hM dX12_toldArts_29 hl (kq := 2) rfl (by decide) (fun _ => rfl) (fun z730 ls hz730 hl => ?_)
          have tz730 := i_addT hz730 (rfl : i.toInt = i.toInt) (kc_1 : (Int32.ofInt 1).toInt = 1) (by omega) (by omega)
          refine q_goto (tgt := 4) hM dX12_toldArts_32 (by decide) ?_
          exact ih4 z729 z730 _ _ _ (by omega) (by omega) (by omega) (by omega) (lv_sub hl [2, 1, 0] rfl) hW
        · omega
  have := kc_0
  have := kc_0
  exact L4 _ (0 : Int32) (0 : Int32) _ _ _ (Nat.lt_succ_self _) (by omega) (by omega) (by omega) (lv_sub hl [2, 1, 0] rfl) hW
