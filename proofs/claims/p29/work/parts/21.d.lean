theorem row_upd {f f1 : Nat → Int32} {n x : Int32} {N m u : Int} (e : f1 = upd f n.toNatClampNeg x) (h : ∀ j : Nat, n.toInt < (j : Int) → (j : Int) < u → (f j).toInt < N) (hx : x.toInt < N) (hn : 0 ≤ n.toInt) (hm : n.toInt ≤ m + 1) : ∀ j : Nat, m < (j : Int) → (j : Int) < u → (f1 j).toInt < N := by
  intro j hj hj2
  rw [e]
  unfold upd
  split
  · exact hx
  · rename_i q
    refine h j ?_ hj2
    have : ¬ j = n.toInt.toNat := q
    omega
theorem pcT_le (s : Nat) : ∀ k, pcT s k ≤ k
  | 0 => Nat.le_refl 0
  | k + 1 => by
    have := pcT_le s k
    show pcT s k + _ ≤ k + 1
    split <;> omega
theorem pcT_12 : ∀ s, s < 64 → pcT s 12 = pcT s 6 ∧ (s ≠ 0 → 1 ≤ pcT s 6) ∧ (s < 32 → pcT s 6 ≤ 5) := by decide +kernel
theorem bt_tb {x : Int32} (h : 0 ≤ x.toInt) (k : Nat) : bt x k = x.toInt.toNat.testBit k := by
  have h1 := i_nat h
  unfold bt
  rw [BitVec.getLsbD, show x.toInt.toNat = x.toBitVec.toNat by omega]
theorem has_lt2 (n : Nat) {b i r : Int32} {q : Prop} (h : (r.toInt = 1 ∧ bt b i.toInt.toNat = true) ∨ (r.toInt = 0 ∧ q)) (h0 : 0 ≤ b.toInt) (h1 : b.toInt < ((2 ^ n : Nat) : Int)) : r.toInt = 0 ∨ i.toInt < n := by
  rcases h with h | h
  · have := bt_lt h0 h1 h.2
    omega
  · exact Or.inl h.1
theorem pcT_next {s k z r : Int32} (hz : z.toInt = k.toInt + 1) (hk : 0 ≤ k.toInt) (hs : 0 ≤ s.toInt) (h : (r.toInt = 1 ∧ bt s k.toInt.toNat = true) ∨ (r.toInt = 0 ∧ bt s k.toInt.toNat = false)) : (pcT s.toInt.toNat z.toInt.toNat : Int) = (pcT s.toInt.toNat k.toInt.toNat : Int) + r.toInt := by
  rw [show z.toInt.toNat = k.toInt.toNat + 1 by omega]
  show ((pcT s.toInt.toNat k.toInt.toNat + (if s.toInt.toNat.testBit k.toInt.toNat then 1 else 0) : Nat) : Int) = _
  rw [← bt_tb hs]
  rcases h with h | h
  · rw [h.2, h.1]; simp
  · rw [h.2, h.1]; simp
theorem ent_upd {f f1 : Nat → Int32} {n x : Int32} {N m : Int} (e : f1 = upd f n.toNatClampNeg x) (h : ∀ j : Nat, (j : Int) < n.toInt → (f j).toInt < N) (hx : x.toInt < N) (hn : 0 ≤ n.toInt) (hm : m ≤ n.toInt + 1) : ∀ j : Nat, (j : Int) < m → (f1 j).toInt < N := by
  intro j hj
  rw [e]
  unfold upd
  split
  · exact hx
  · rename_i q
    refine h j ?_
    have : ¬ j = n.toInt.toNat := q
    omega

theorem dX12_takesSome_0 : decode cX12_takesSome 0 = .ok (.iconst 0, 1) := by decide +kernel
theorem dX12_takesSome_1 : decode cX12_takesSome 1 = .ok (.istore_n 2, 1) := by decide +kernel
theorem dX12_takesSome_2 : decode cX12_takesSome 2 = .ok (.iconst 0, 1) := by decide +kernel
theorem dX12_takesSome_3 : decode cX12_takesSome 3 = .ok (.istore_n 3, 1) := by decide +kernel
theorem dX12_takesSome_4 : decode cX12_takesSome 4 = .ok (.iload_n 3, 1) := by decide +kernel
theorem dX12_takesSome_5 : decode cX12_takesSome 5 = .ok (.bipush 12, 2) := by decide +kernel
theorem dX12_takesSome_7 : decode cX12_takesSome 7 = .ok (.if_icmp .ge 30, 3) := by decide +kernel
theorem dX12_takesSome_10 : decode cX12_takesSome 10 = .ok (.iload_n 1, 1) := by decide +kernel
theorem dX12_takesSome_11 : decode cX12_takesSome 11 = .ok (.iload_n 3, 1) := by decide +kernel
theorem dX12_takesSome_12 : decode cX12_takesSome 12 = .ok (.invokestatic 204, 3) := by decide +kernel
theorem dX12_takesSome_15 : decode cX12_takesSome 15 = .ok (.ifCond .ne 6, 3) := by decide +kernel
theorem dX12_takesSome_18 : decode cX12_takesSome 18 = .ok (.goto 13, 3) := by decide +kernel
theorem dX12_takesSome_21 : decode cX12_takesSome 21 = .ok (.aload_n 0, 1) := by decide +kernel
theorem dX12_takesSome_22 : decode cX12_takesSome 22 = .ok (.getfield 139, 3) := by decide +kernel
theorem dX12_takesSome_25 : decode cX12_takesSome 25 = .ok (.iload_n 2, 1) := by decide +kernel
theorem dX12_takesSome_26 : decode cX12_takesSome 26 = .ok (.iload_n 3, 1) := by decide +kernel
theorem dX12_takesSome_27 : decode cX12_takesSome 27 = .ok (.iastore, 1) := by decide +kernel
theorem dX12_takesSome_28 : decode cX12_takesSome 28 = .ok (.iinc 2 1, 3) := by decide +kernel
theorem dX12_takesSome_31 : decode cX12_takesSome 31 = .ok (.iinc 3 1, 3) := by decide +kernel
theorem dX12_takesSome_34 : decode cX12_takesSome 34 = .ok (.goto (-30), 3) := by decide +kernel
theorem dX12_takesSome_37 : decode cX12_takesSome 37 = .ok (.iload_n 2, 1) := by decide +kernel
theorem dX12_takesSome_38 : decode cX12_takesSome 38 = .ok (.ireturn, 1) := by decide +kernel
theorem FG_X12_139 : FG RX12 139 12 86 77 := ⟨RX12, TX12, rfl, wX12, by decide, kAW (v_4_7 (List.mem_of_getElem? (i := 10) rfl)) rfl, rfl⟩
set_option maxRecDepth 100000 in
set_option maxHeartbeats 4000000 in
theorem a_X12_takesSome_6 (l : Launch) (D : va_G) (cA : Nat → ClassId) (ad : Nat → Nat) (g0 : Nat → va_E) (s : Int32)   (hSh : Shp ad cA g0) (hG : Rng g0) (s0 : 0 ≤ s.toInt) (s1 : s.toInt < 64) : CT l NN ad cA D yX12_takesSome cX12_takesSome 4 (some FieldType.int) (1, 21) [.ref (ad 129), .int s] g0 (fun v g' => ∃ (r : Int32), v = some (.int r) ∧ Shp ad cA g' ∧ Rng g' ∧ FR (fun i k => i = 171) g0 g' ∧ (r.toInt = (pcT s.toInt.toNat 6 : Int) ∧ (s.toInt ≠ 0 → 1 ≤ r.toInt) ∧ r.toInt ≤ 6 ∧ (∀ j : Nat, (j : Int) < r.toInt → (arI g' 171 j).toInt < 6))) := by
  refine q_enterI (by decide) (Nat.le_of_ble_eq_true rfl) rfl (fun K H locs ls _ _ hM hW0 hR hC hE hl => ?_)
  have hl : lv_has ls 4 [(0, .ref (ad 129)), (1, .int s)] := hl
  have hW : WS ad cA (fun i k => i = 171) g0 K g0 H locs := ⟨hW0, hSh, FR.rf⟩
  have p12 := pcT_12 s.toInt.toNat (by omega)
  have p6 := pcT_le s.toInt.toNat 6
  refine q_iconst (v := (0 : Int32)) hM dX12_takesSome_0 (by decide) ?_
  refine q_istore_n (lv9 := [(2, .int (0 : Int32)), (0, .ref (ad 129)), (1, .int s)]) hM dX12_takesSome_1 hl (by decide) rfl (fun ls hl => ?_)
  refine q_iconst (v := (0 : Int32)) hM dX12_takesSome_2 (by decide) ?_
  refine q_istore_n (lv9 := [(3, .int (0 : Int32)), (2, .int (0 : Int32)), (0, .ref (ad 129)), (1, .int s)]) hM dX12_takesSome_3 hl (by decide) rfl (fun ls hl => ?_)
  have L4 : ∀ (fu4 : Nat) (w4_2 : Int32) (w4_3 : Int32) (g9 : Nat → va_E) (H : Heap) (locs : List Loc) (ls : Array Slot), (12 - w4_3.toInt).toNat < fu4 → (Rng g9) → (0 ≤ w4_3.toInt) → (w4_3.toInt ≤ 12) → (0 ≤ w4_2.toInt) → (w4_2.toInt ≤ w4_3.toInt) → (w4_2.toInt = (pcT s.toInt.toNat w4_3.toInt.toNat : Int)) → (∀ j : Nat, (j : Int) < w4_2.toInt → (arI g9 171 j).toInt < 6) → lv_has ls 4 [(0, .ref (ad 129)), (1, .int s), (2, .int w4_2), (3, .int w4_3)] → WS ad cA (fun i k => i = 171) g0 K g9 H locs → XX K 0 0 H locs 4 ls [] := by
    intro fu4
    induction fu4 with
    | zero => intro w4_2 w4_3 g9 H locs ls h0; omega
    | succ fu4 ih4 =>
      intro w4_2 w4_3 g9 H locs ls hm4 i4_0 i4_1 i4_2 i4_3 i4_4 i4_5 i4_6 hl hW
      have hG := i4_0
      refine q_iload_n hM dX12_takesSome_4 (lv_at hl 3 rfl) ?_
      refine q_bipush (v := (12 : Int32)) hM dX12_takesSome_5 (by decide) ?_
      refine q_icmp_ge (tgt := 37) hM dX12_takesSome_7 (by decide) (rfl : w4_3.toInt = w4_3.toInt) (kc_12 : (12 : Int32).toInt = 12) (fun h7 => ?_) (fun h7 => ?_)
      · refine q_iload_n hM dX12_takesSome_37 (lv_at hl 2 rfl) ?_
        exact hE _ _ _ _ _ _ hW.1 ⟨_, rfl, hW.2.1, hG, hW.2.2, (by have e9 : w4_3.toInt.toNat = 12 := (by omega); rw [e9] at i4_5; exact ⟨by omega, fun q => by omega, by omega, i4_6⟩)⟩ dX12_takesSome_38
      · refine q_iload_n hM dX12_takesSome_10 (lv_at hl 1 rfl) ?_
        refine q_iload_n hM dX12_takesSome_11 (lv_at hl 3 rfl) ?_
        refine q_callS (As := [.int s, .int w4_3]) (rest := []) hM hW.1 hR hC myX12_has (kAW (v_5_6 (List.mem_of_getElem? (i := 7) rfl)) rfl) (c_X12_has _ _ cA ad g9 s w4_3 hW.2.1 (by omega) (by omega)) ⟨by decide, by decide⟩ rfl rfl hl.1 (Nat.le_of_ble_eq_true rfl) dX12_takesSome_12 (fun v g6968 H locs hp hW1 => ?_)
        obtain ⟨r6967, rfl, hr6967, rfl⟩ := hp
        have hW : WS ad cA (fun i k => i = 171) g0 K g9 H locs := ⟨hW1, hW.2.1, hW.2.2⟩
        have hl9 := has_lt2 6 hr6967 (by omega) (by omega)
        refine q_if_ne (tgt := 21) hM dX12_takesSome_15 (by decide) (rfl : r6967.toInt = r6967.toInt) (fun h15 => ?_) (fun h15 => ?_)
        · refine q_aload_n hM dX12_takesSome_21 (lv_at hl 0 rfl) ?_
          refine w_get (v := .ref (ad 171)) hM hW FG_X12_139 lb_129 (rf_129_77 hW.2.1) dX12_takesSome_22 ?_
          refine q_iload_n hM dX12_takesSome_25 (lv_at hl 2 rfl) ?_
          refine q_iload_n hM dX12_takesSome_26 (lv_at hl 3 rfl) ?_
          refine w_iast hM hW lb_171 (by omega) (i_in (by omega) (by omega)) dX12_takesSome_27 (fun g6970 H locs hW e1 e2 => ?_)
          have hG := hG.st e1 e2 rA_171 (by have := i_rng w4_3; omega) (by have := i_rng w4_3; omega)
          refine q_iinc (lv9 := fun z6971 => [(2, .int z6971), (0, .ref (ad 129)), (1, .int s), (3, .int w4_3)]) hM dX12_takesSome_28 hl (kq := 2) rfl (by decide) (fun _ => rfl) (fun z6971 ls hz6971 hl => ?_)
          first | have tz6971 := i_addT hz6971 (rfl : w4_2.toInt = w4_2.toInt) (kc_1 : (Int32.ofInt 1).toInt = 1) (by omega) (by omega) | skip
          refine q_iinc (lv9 := fun z6972 => [(3, .int z6972), (2, .int z6971), (0, .ref (ad 129)), (1, .int s)]) hM dX12_takesSome_31 hl (kq := 3) rfl (by decide) (fun _ => rfl) (fun z6972 ls hz6972 hl => ?_)
          first | have tz6972 := i_addT hz6972 (rfl : w4_3.toInt = w4_3.toInt) (kc_1 : (Int32.ofInt 1).toInt = 1) (by omega) (by omega) | skip
          refine q_goto (tgt := 4) hM dX12_takesSome_34 (by decide) ?_
          exact ih4 z6971 z6972 _ _ _ _ (by omega) hG (by omega) (by omega) (by omega) (by omega) (by rw [pcT_next (by omega : z6972.toInt = w4_3.toInt + 1) (by omega) (by omega) hr6967]; omega) (ent_upd e1 i4_6 (by omega) (by omega) (by omega)) (lv_sub hl [2, 3, 1, 0] rfl) hW
        · refine q_goto (tgt := 31) hM dX12_takesSome_18 (by decide) ?_
          refine q_iinc (lv9 := fun z6974 => [(3, .int z6974), (0, .ref (ad 129)), (1, .int s), (2, .int w4_2)]) hM dX12_takesSome_31 hl (kq := 3) rfl (by decide) (fun _ => rfl) (fun z6974 ls hz6974 hl => ?_)
          first | have tz6974 := i_addT hz6974 (rfl : w4_3.toInt = w4_3.toInt) (kc_1 : (Int32.ofInt 1).toInt = 1) (by omega) (by omega) | skip
          refine q_goto (tgt := 4) hM dX12_takesSome_34 (by decide) ?_
          exact ih4 w4_2 z6974 _ _ _ _ (by omega) hG (by omega) (by omega) (by omega) (by omega) (by rw [pcT_next (by omega : z6974.toInt = w4_3.toInt + 1) (by omega) (by omega) hr6967]; omega) i4_6 (lv_sub hl [1, 2, 3, 0] rfl) hW
  have := kc_0
  have := kc_0
  exact L4 _ (0 : Int32) (0 : Int32) _ _ _ _ (Nat.lt_succ_self _) hG (by omega) (by omega) (by omega) (by omega) (by have := kc_0; rw [show ((0 : Int32).toInt).toNat = 0 by omega]; show _ = ((0 : Nat) : Int); omega) (fun j h => absurd h (by have := kc_0; omega)) (lv_sub hl [2, 3, 1, 0] rfl) hW


set_option maxRecDepth 100000 in
set_option maxHeartbeats 4000000 in
theorem a_X12_takesSome_5 (l : Launch) (D : va_G) (cA : Nat → ClassId) (ad : Nat → Nat) (g0 : Nat → va_E) (s : Int32)   (hSh : Shp ad cA g0) (hG : Rng g0) (s0 : 0 ≤ s.toInt) (s1 : s.toInt < 32) : CT l NN ad cA D yX12_takesSome cX12_takesSome 4 (some FieldType.int) (1, 21) [.ref (ad 129), .int s] g0 (fun v g' => ∃ (r : Int32), v = some (.int r) ∧ Shp ad cA g' ∧ Rng g' ∧ FR (fun i k => i = 171) g0 g' ∧ (r.toInt = (pcT s.toInt.toNat 6 : Int) ∧ (s.toInt ≠ 0 → 1 ≤ r.toInt) ∧ r.toInt ≤ 5 ∧ (∀ j : Nat, (j : Int) < r.toInt → (arI g' 171 j).toInt < 5))) := by
  refine q_enterI (by decide) (Nat.le_of_ble_eq_true rfl) rfl (fun K H locs ls _ _ hM hW0 hR hC hE hl => ?_)
  have hl : lv_has ls 4 [(0, .ref (ad 129)), (1, .int s)] := hl
  have hW : WS ad cA (fun i k => i = 171) g0 K g0 H locs := ⟨hW0, hSh, FR.rf⟩
  have p12 := pcT_12 s.toInt.toNat (by omega)
  have p6 := pcT_le s.toInt.toNat 6
  refine q_iconst (v := (0 : Int32)) hM dX12_takesSome_0 (by decide) ?_
  refine q_istore_n (lv9 := [(2, .int (0 : Int32)), (0, .ref (ad 129)), (1, .int s)]) hM dX12_takesSome_1 hl (by decide) rfl (fun ls hl => ?_)
  refine q_iconst (v := (0 : Int32)) hM dX12_takesSome_2 (by decide) ?_
  refine q_istore_n (lv9 := [(3, .int (0 : Int32)), (2, .int (0 : Int32)), (0, .ref (ad 129)), (1, .int s)]) hM dX12_takesSome_3 hl (by decide) rfl (fun ls hl => ?_)
  have L4 : ∀ (fu4 : Nat) (w4_2 : Int32) (w4_3 : Int32) (g9 : Nat → va_E) (H : Heap) (locs : List Loc) (ls : Array Slot), (12 - w4_3.toInt).toNat < fu4 → (Rng g9) → (0 ≤ w4_3.toInt) → (w4_3.toInt ≤ 12) → (0 ≤ w4_2.toInt) → (w4_2.toInt ≤ w4_3.toInt) → (w4_2.toInt = (pcT s.toInt.toNat w4_3.toInt.toNat : Int)) → (∀ j : Nat, (j : Int) < w4_2.toInt → (arI g9 171 j).toInt < 5) → lv_has ls 4 [(0, .ref (ad 129)), (1, .int s), (2, .int w4_2), (3, .int w4_3)] → WS ad cA (fun i k => i = 171) g0 K g9 H locs → XX K 0 0 H locs 4 ls [] := by
    intro fu4
    induction fu4 with
    | zero => intro w4_2 w4_3 g9 H locs ls h0; omega
    | succ fu4 ih4 =>
      intro w4_2 w4_3 g9 H locs ls hm4 i4_0 i4_1 i4_2 i4_3 i4_4 i4_5 i4_6 hl hW
      have hG := i4_0
      refine q_iload_n hM dX12_takesSome_4 (lv_at hl 3 rfl) ?_
      refine q_bipush (v := (12 : Int32)) hM dX12_takesSome_5 (by decide) ?_
      refine q_icmp_ge (tgt := 37) hM dX12_takesSome_7 (by decide) (rfl : w4_3.toInt = w4_3.toInt) (kc_12 : (12 : Int32).toInt = 12) (fun h7 => ?_) (fun h7 => ?_)
      · refine q_iload_n hM dX12_takesSome_37 (lv_at hl 2 rfl) ?_
        exact hE _ _ _ _ _ _ hW.1 ⟨_, rfl, hW.2.1, hG, hW.2.2, (by have e9 : w4_3.toInt.toNat = 12 := (by omega); rw [e9] at i4_5; exact ⟨by omega, fun q => by omega, by omega, i4_6⟩)⟩ dX12_takesSome_38
      · refine q_iload_n hM dX12_takesSome_10 (lv_at hl 1 rfl) ?_
        refine q_iload_n hM dX12_takesSome_11 (lv_at hl 3 rfl) ?_
        refine q_callS (As := [.int s, .int w4_3]) (rest := []) hM hW.1 hR hC myX12_has (kAW (v_5_6 (List.mem_of_getElem? (i := 7) rfl)) rfl) (c_X12_has _ _ cA ad g9 s w4_3 hW.2.1 (by omega) (by omega)) ⟨by decide, by decide⟩ rfl rfl hl.1 (Nat.le_of_ble_eq_true rfl) dX12_takesSome_12 (fun v g6979 H locs hp hW1 => ?_)
        obtain ⟨r6978, rfl, hr6978, rfl⟩ := hp
        have hW : WS ad cA (fun i k => i = 171) g0 K g9 H locs := ⟨hW1, hW.2.1, hW.2.2⟩
        have hl9 := has_lt2 5 hr6978 (by omega) (by omega)
        refine q_if_ne (tgt := 21) hM dX12_takesSome_15 (by decide) (rfl : r6978.toInt = r6978.toInt) (fun h15 => ?_) (fun h15 => ?_)
        · refine q_aload_n hM dX12_takesSome_21 (lv_at hl 0 rfl) ?_
          refine w_get (v := .ref (ad 171)) hM hW FG_X12_139 lb_129 (rf_129_77 hW.2.1) dX12_takesSome_22 ?_
          refine q_iload_n hM dX12_takesSome_25 (lv_at hl 2 rfl) ?_
          refine q_iload_n hM dX12_takesSome_26 (lv_at hl 3 rfl) ?_
          refine w_iast hM hW lb_171 (by omega) (i_in (by omega) (by omega)) dX12_takesSome_27 (fun g6981 H locs hW e1 e2 => ?_)
          have hG := hG.st e1 e2 rA_171 (by have := i_rng w4_3; omega) (by have := i_rng w4_3; omega)
          refine q_iinc (lv9 := fun z6982 => [(2, .int z6982), (0, .ref (ad 129)), (1, .int s), (3, .int w4_3)]) hM dX12_takesSome_28 hl (kq := 2) rfl (by decide) (fun _ => rfl) (fun z6982 ls hz6982 hl => ?_)
          first | have tz6982 := i_addT hz6982 (rfl : w4_2.toInt = w4_2.toInt) (kc_1 : (Int32.ofInt 1).toInt = 1) (by omega) (by omega) | skip
          refine q_iinc (lv9 := fun z6983 => [(3, .int z6983), (2, .int z6982), (0, .ref (ad 129)), (1, .int s)]) hM dX12_takesSome_31 hl (kq := 3) rfl (by decide) (fun _ => rfl) (fun z6983 ls hz6983 hl => ?_)
          first | have tz6983 := i_addT hz6983 (rfl : w4_3.toInt = w4_3.toInt) (kc_1 : (Int32.ofInt 1).toInt = 1) (by omega) (by omega) | skip
          refine q_goto (tgt := 4) hM dX12_takesSome_34 (by decide) ?_
          exact ih4 z6982 z6983 _ _ _ _ (by omega) hG (by omega) (by omega) (by omega) (by omega) (by rw [pcT_next (by omega : z6983.toInt = w4_3.toInt + 1) (by omega) (by omega) hr6978]; omega) (ent_upd e1 i4_6 (by omega) (by omega) (by omega)) (lv_sub hl [2, 3, 1, 0] rfl) hW
        · refine q_goto (tgt := 31) hM dX12_takesSome_18 (by decide) ?_
          refine q_iinc (lv9 := fun z6985 => [(3, .int z6985), (0, .ref (ad 129)), (1, .int s), (2, .int w4_2)]) hM dX12_takesSome_31 hl (kq := 3) rfl (by decide) (fun _ => rfl) (fun z6985 ls hz6985 hl => ?_)
          first | have tz6985 := i_addT hz6985 (rfl : w4_3.toInt = w4_3.toInt) (kc_1 : (Int32.ofInt 1).toInt = 1) (by omega) (by omega) | skip
          refine q_goto (tgt := 4) hM dX12_takesSome_34 (by decide) ?_
          exact ih4 w4_2 z6985 _ _ _ _ (by omega) hG (by omega) (by omega) (by omega) (by omega) (by rw [pcT_next (by omega : z6985.toInt = w4_3.toInt + 1) (by omega) (by omega) hr6978]; omega) i4_6 (lv_sub hl [1, 2, 3, 0] rfl) hW
  have := kc_0
  have := kc_0
  exact L4 _ (0 : Int32) (0 : Int32) _ _ _ _ (Nat.lt_succ_self _) hG (by omega) (by omega) (by omega) (by omega) (by have := kc_0; rw [show ((0 : Int32).toInt).toNat = 0 by omega]; show _ = ((0 : Nat) : Int); omega) (fun j h => absurd h (by have := kc_0; omega)) (lv_sub hl [2, 3, 1, 0] rfl) hW

theorem dX12_opensRow_0 : decode cX12_opensRow 0 = .ok (.iload_n 1, 1) := by decide +kernel
theorem dX12_opensRow_1 : decode cX12_opensRow 1 = .ok (.istore 4, 2) := by decide +kernel
theorem dX12_opensRow_3 : decode cX12_opensRow 3 = .ok (.iload_n 2, 1) := by decide +kernel
theorem dX12_opensRow_4 : decode cX12_opensRow 4 = .ok (.iconst 1, 1) := by decide +kernel
theorem dX12_opensRow_5 : decode cX12_opensRow 5 = .ok (.isub, 1) := by decide +kernel
theorem dX12_opensRow_6 : decode cX12_opensRow 6 = .ok (.istore 5, 2) := by decide +kernel
theorem dX12_opensRow_8 : decode cX12_opensRow 8 = .ok (.iload 5, 2) := by decide +kernel
theorem dX12_opensRow_10 : decode cX12_opensRow 10 = .ok (.ifCond .lt 26, 3) := by decide +kernel
theorem dX12_opensRow_13 : decode cX12_opensRow 13 = .ok (.aload_n 0, 1) := by decide +kernel
theorem dX12_opensRow_14 : decode cX12_opensRow 14 = .ok (.getfield 142, 3) := by decide +kernel
theorem dX12_opensRow_17 : decode cX12_opensRow 17 = .ok (.iload 5, 2) := by decide +kernel
theorem dX12_opensRow_19 : decode cX12_opensRow 19 = .ok (.iload 4, 2) := by decide +kernel
theorem dX12_opensRow_21 : decode cX12_opensRow 21 = .ok (.iload_n 3, 1) := by decide +kernel
theorem dX12_opensRow_22 : decode cX12_opensRow 22 = .ok (.irem, 1) := by decide +kernel
theorem dX12_opensRow_23 : decode cX12_opensRow 23 = .ok (.iastore, 1) := by decide +kernel
theorem dX12_opensRow_24 : decode cX12_opensRow 24 = .ok (.iload 4, 2) := by decide +kernel
theorem dX12_opensRow_26 : decode cX12_opensRow 26 = .ok (.iload_n 3, 1) := by decide +kernel
theorem dX12_opensRow_27 : decode cX12_opensRow 27 = .ok (.idiv, 1) := by decide +kernel
theorem dX12_opensRow_28 : decode cX12_opensRow 28 = .ok (.istore 4, 2) := by decide +kernel
theorem dX12_opensRow_30 : decode cX12_opensRow 30 = .ok (.iinc 5 (-1), 3) := by decide +kernel
theorem dX12_opensRow_33 : decode cX12_opensRow 33 = .ok (.goto (-25), 3) := by decide +kernel
theorem dX12_opensRow_36 : decode cX12_opensRow 36 = .ok (.return_, 1) := by decide +kernel
theorem FG_X12_142 : FG RX12 142 12 86 78 := ⟨RX12, TX12, rfl, wX12, by decide, kAW (v_4_7 (List.mem_of_getElem? (i := 11) rfl)) rfl, rfl⟩
set_option maxRecDepth 100000 in
set_option maxHeartbeats 4000000 in
theorem a_X12_opensRow (l : Launch) (D : va_G) (cA : Nat → ClassId) (ad : Nat → Nat) (g0 : Nat → va_E) (rr : Int32) (n : Int32) (ba : Int32)   (hSh : Shp ad cA g0) (hG : Rng g0) (r0 : 0 ≤ rr.toInt) (n0 : 0 ≤ n.toInt) (n1 : n.toInt ≤ 6) (b0 : 1 ≤ ba.toInt) (b1 : ba.toInt ≤ 6) : CT l NN ad cA D yX12_opensRow cX12_opensRow 6 none (0, 0) [.ref (ad 129), .int rr, .int n, .int ba] g0 (fun v g' => v = none ∧ Shp ad cA g' ∧ Rng g' ∧ FR (fun i k => i = 172) g0 g' ∧ (∀ j : Nat, (j : Int) < n.toInt → (arI g' 172 j).toInt < ba.toInt)) := by
  refine q_enterV (by decide) (Nat.le_of_ble_eq_true rfl) (fun K H locs ls _ _ hM hW0 hR hC hE hl => ?_)
  have hl : lv_has ls 6 [(0, .ref (ad 129)), (1, .int rr), (2, .int n), (3, .int ba)] := hl
  have hW : WS ad cA (fun i k => i = 172) g0 K g0 H locs := ⟨hW0, hSh, FR.rf⟩
  refine q_iload_n hM dX12_opensRow_0 (lv_at hl 1 rfl) ?_
  refine q_istore (lv9 := [(4, .int rr), (0, .ref (ad 129)), (1, .int rr), (2, .int n), (3, .int ba)]) hM dX12_opensRow_1 hl (by decide) rfl (fun ls hl => ?_)
  refine q_iload_n hM dX12_opensRow_3 (lv_at hl 3 rfl) ?_
  refine q_iconst (v := (1 : Int32)) hM dX12_opensRow_4 (by decide) ?_
  refine q_isub hM dX12_opensRow_5 (fun z6986 hz6986 => ?_)
  first | have tz6986 := i_subT hz6986 (rfl : n.toInt = n.toInt) (kc_1 : (1 : Int32).toInt = 1) (by omega) (by omega) | skip
  refine q_istore (lv9 := [(5, .int z6986), (4, .int rr), (0, .ref (ad 129)), (1, .int rr), (2, .int n), (3, .int ba)]) hM dX12_opensRow_6 hl (by decide) rfl (fun ls hl => ?_)
  have L8 : ∀ (fu8 : Nat) (w8_4 : Int32) (w8_5 : Int32) (g9 : Nat → va_E) (H : Heap) (locs : List Loc) (ls : Array Slot), (w8_5.toInt + 1).toNat < fu8 → (Rng g9) → (-1 ≤ w8_5.toInt) → (0 ≤ w8_4.toInt) → (w8_5.toInt < n.toInt) → (∀ j : Nat, w8_5.toInt < (j : Int) → (j : Int) < n.toInt → (arI g9 172 j).toInt < ba.toInt) → lv_has ls 6 [(0, .ref (ad 129)), (1, .int rr), (2, .int n), (3, .int ba), (4, .int w8_4), (5, .int w8_5)] → WS ad cA (fun i k => i = 172) g0 K g9 H locs → XX K 0 0 H locs 8 ls [] := by
    intro fu8
    induction fu8 with
    | zero => intro w8_4 w8_5 g9 H locs ls h0; omega
    | succ fu8 ih8 =>
      intro w8_4 w8_5 g9 H locs ls hm8 i8_0 i8_1 i8_2 i8_3 i8_4 hl hW
      have hG := i8_0
      refine q_iload hM dX12_opensRow_8 (lv_at hl 5 rfl) ?_
      refine q_if_lt (tgt := 36) hM dX12_opensRow_10 (by decide) (rfl : w8_5.toInt = w8_5.toInt) (fun h10 => ?_) (fun h10 => ?_)
      · exact hE _ _ _ _ _ hW.1 ⟨rfl, hW.2.1, hG, hW.2.2, (fun j h => i8_4 j (by omega) h)⟩ dX12_opensRow_36
      · refine q_aload_n hM dX12_opensRow_13 (lv_at hl 0 rfl) ?_
        refine w_get (v := .ref (ad 172)) hM hW FG_X12_142 lb_129 (rf_129_78 hW.2.1) dX12_opensRow_14 ?_
        refine q_iload hM dX12_opensRow_17 (lv_at hl 5 rfl) ?_
        refine q_iload hM dX12_opensRow_19 (lv_at hl 4 rfl) ?_
        refine q_iload_n hM dX12_opensRow_21 (lv_at hl 3 rfl) ?_
        refine q_irem hM (by intro e9; have e8 := congrArg Int32.toInt e9; have := kc_0; have e7 := kc_0; omega) dX12_opensRow_22 (fun z6990 hz6990 => ?_)
        first | have tz6990 := i_remT hz6990 (rfl : w8_4.toInt = w8_4.toInt) (rfl : ba.toInt = ba.toInt) (by omega) (by omega) | skip
        have rm := i_remN hz6990 (by omega) (by omega)
        refine w_iast hM hW lb_172 (by omega) (i_in (by omega) (by omega)) dX12_opensRow_23 (fun g6991 H locs hW e1 e2 => ?_)
        have hG := hG.st e1 e2 rA_172 (by have := i_rng z6990; omega) (by have := i_rng z6990; omega)
        refine q_iload hM dX12_opensRow_24 (lv_at hl 4 rfl) ?_
        refine q_iload_n hM dX12_opensRow_26 (lv_at hl 3 rfl) ?_
        refine q_idiv hM (by intro e9; have e8 := congrArg Int32.toInt e9; have := kc_0; have e7 := kc_0; omega) dX12_opensRow_27 (fun z6992 hz6992 => ?_)
        first | have tz6992 := i_divT hz6992 (rfl : w8_4.toInt = w8_4.toInt) (rfl : ba.toInt = ba.toInt) (by omega) (by omega) | skip
        have dv := i_divN hz6992 (by omega) (by omega)
        refine q_istore (lv9 := [(4, .int z6992), (0, .ref (ad 129)), (1, .int rr), (2, .int n), (3, .int ba), (5, .int w8_5)]) hM dX12_opensRow_28 hl (by decide) rfl (fun ls hl => ?_)
        refine q_iinc (lv9 := fun z6993 => [(5, .int z6993), (4, .int z6992), (0, .ref (ad 129)), (1, .int rr), (2, .int n), (3, .int ba)]) hM dX12_opensRow_30 hl (kq := 5) rfl (by decide) (fun _ => rfl) (fun z6993 ls hz6993 hl => ?_)
        first | have tz6993 := i_addT hz6993 (rfl : w8_5.toInt = w8_5.toInt) (kc_m1 : (Int32.ofInt (-1)).toInt = (-1)) (by omega) (by omega) | skip
        refine q_goto (tgt := 8) hM dX12_opensRow_33 (by decide) ?_
        exact ih8 z6992 z6993 _ _ _ _ (by omega) hG (by omega) (by omega) (by omega) (row_upd e1 i8_4 (by omega) (by omega) (by omega)) (lv_sub hl [2, 3, 4, 5, 1, 0] rfl) hW
  exact L8 _ rr z6986 _ _ _ _ (Nat.lt_succ_self _) hG (by omega) (by omega) (by omega) (fun j h1 h2 => by omega) (lv_sub hl [2, 3, 4, 5, 1, 0] rfl) hW

theorem dX12_isOrder_0 : decode cX12_isOrder 0 = .ok (.iconst 0, 1) := by decide +kernel
theorem dX12_isOrder_1 : decode cX12_isOrder 1 = .ok (.istore_n 2, 1) := by decide +kernel
theorem dX12_isOrder_2 : decode cX12_isOrder 2 = .ok (.iconst 0, 1) := by decide +kernel
theorem dX12_isOrder_3 : decode cX12_isOrder 3 = .ok (.istore_n 3, 1) := by decide +kernel
theorem dX12_isOrder_4 : decode cX12_isOrder 4 = .ok (.iload_n 3, 1) := by decide +kernel
theorem dX12_isOrder_5 : decode cX12_isOrder 5 = .ok (.iload_n 1, 1) := by decide +kernel
theorem dX12_isOrder_6 : decode cX12_isOrder 6 = .ok (.if_icmp .ge 20, 3) := by decide +kernel
theorem dX12_isOrder_9 : decode cX12_isOrder 9 = .ok (.iload_n 2, 1) := by decide +kernel
theorem dX12_isOrder_10 : decode cX12_isOrder 10 = .ok (.iconst 1, 1) := by decide +kernel
theorem dX12_isOrder_11 : decode cX12_isOrder 11 = .ok (.aload_n 0, 1) := by decide +kernel
theorem dX12_isOrder_12 : decode cX12_isOrder 12 = .ok (.getfield 142, 3) := by decide +kernel
theorem dX12_isOrder_15 : decode cX12_isOrder 15 = .ok (.iload_n 3, 1) := by decide +kernel
theorem dX12_isOrder_16 : decode cX12_isOrder 16 = .ok (.iaload, 1) := by decide +kernel
theorem dX12_isOrder_17 : decode cX12_isOrder 17 = .ok (.ishl, 1) := by decide +kernel
theorem dX12_isOrder_18 : decode cX12_isOrder 18 = .ok (.ior, 1) := by decide +kernel
theorem dX12_isOrder_19 : decode cX12_isOrder 19 = .ok (.istore_n 2, 1) := by decide +kernel
theorem dX12_isOrder_20 : decode cX12_isOrder 20 = .ok (.iinc 3 1, 3) := by decide +kernel
theorem dX12_isOrder_23 : decode cX12_isOrder 23 = .ok (.goto (-19), 3) := by decide +kernel
theorem dX12_isOrder_26 : decode cX12_isOrder 26 = .ok (.iload_n 2, 1) := by decide +kernel
theorem dX12_isOrder_27 : decode cX12_isOrder 27 = .ok (.iconst 1, 1) := by decide +kernel
theorem dX12_isOrder_28 : decode cX12_isOrder 28 = .ok (.iload_n 1, 1) := by decide +kernel
theorem dX12_isOrder_29 : decode cX12_isOrder 29 = .ok (.ishl, 1) := by decide +kernel
theorem dX12_isOrder_30 : decode cX12_isOrder 30 = .ok (.iconst 1, 1) := by decide +kernel
theorem dX12_isOrder_31 : decode cX12_isOrder 31 = .ok (.isub, 1) := by decide +kernel
theorem dX12_isOrder_32 : decode cX12_isOrder 32 = .ok (.if_icmp .ne 7, 3) := by decide +kernel
theorem dX12_isOrder_35 : decode cX12_isOrder 35 = .ok (.iconst 1, 1) := by decide +kernel
theorem dX12_isOrder_36 : decode cX12_isOrder 36 = .ok (.goto 4, 3) := by decide +kernel
theorem dX12_isOrder_39 : decode cX12_isOrder 39 = .ok (.iconst 0, 1) := by decide +kernel
theorem dX12_isOrder_40 : decode cX12_isOrder 40 = .ok (.ireturn, 1) := by decide +kernel
set_option maxRecDepth 100000 in
set_option maxHeartbeats 4000000 in
theorem a_X12_isOrder (l : Launch) (D : va_G) (cA : Nat → ClassId) (ad : Nat → Nat) (g0 : Nat → va_E) (n : Int32) (hSh : Shp ad cA g0) (hG : Rng g0) (n0 : 0 ≤ n.toInt) (n1 : n.toInt ≤ 8) : CT l NN ad cA D yX12_isOrder cX12_isOrder 4 (some FieldType.boolean) (0, 0) [.ref (ad 129), .int n] g0 (PU g0 (fun r => r.toInt = 0 ∨ r.toInt = 1)) := by
  refine q_enterZ (by decide) (Nat.le_of_ble_eq_true rfl) (fun K H locs ls _ _ hM hW0 hR hC hE hl => ?_)
  have hl : lv_has ls 4 [(0, .ref (ad 129)), (1, .int n)] := hl
  have hW : WS ad cA (fun i k => False) g0 K g0 H locs := ⟨hW0, hSh, FR.rf⟩
  refine q_iconst (v := (0 : Int32)) hM dX12_isOrder_0 (by decide) ?_
  refine q_istore_n (lv9 := [(2, .int (0 : Int32)), (0, .ref (ad 129)), (1, .int n)]) hM dX12_isOrder_1 hl (by decide) rfl (fun ls hl => ?_)
  refine q_iconst (v := (0 : Int32)) hM dX12_isOrder_2 (by decide) ?_
  refine q_istore_n (lv9 := [(3, .int (0 : Int32)), (2, .int (0 : Int32)), (0, .ref (ad 129)), (1, .int n)]) hM dX12_isOrder_3 hl (by decide) rfl (fun ls hl => ?_)
  have L4 : ∀ (fu4 : Nat) (w4_2 : Int32) (w4_3 : Int32) (H : Heap) (locs : List Loc) (ls : Array Slot), (n.toInt - w4_3.toInt + 1).toNat < fu4 → (0 ≤ w4_3.toInt) → lv_has ls 4 [(0, .ref (ad 129)), (1, .int n), (2, .int w4_2), (3, .int w4_3)] → WS ad cA (fun i k => False) g0 K g0 H locs → XX K 0 0 H locs 4 ls [] := by
    intro fu4
    induction fu4 with
    | zero => intro w4_2 w4_3 H locs ls h0; omega
    | succ fu4 ih4 =>
      intro w4_2 w4_3 H locs ls hm4 i4_0 hl hW
      have := i_rng n
      refine q_iload_n hM dX12_isOrder_4 (lv_at hl 3 rfl) ?_
      refine q_iload_n hM dX12_isOrder_5 (lv_at hl 1 rfl) ?_
      refine q_icmp_ge (tgt := 26) hM dX12_isOrder_6 (by decide) (rfl : w4_3.toInt = w4_3.toInt) (rfl : n.toInt = n.toInt) (fun h6 => ?_) (fun h6 => ?_)
      · refine q_iload_n hM dX12_isOrder_26 (lv_at hl 2 rfl) ?_
        refine q_iconst (v := (1 : Int32)) hM dX12_isOrder_27 (by decide) ?_
        refine q_iload_n hM dX12_isOrder_28 (lv_at hl 1 rfl) ?_
        refine q_ishl hM dX12_isOrder_29 (fun z6996 hz6996 => ?_)
        refine q_iconst (v := (1 : Int32)) hM dX12_isOrder_30 (by decide) ?_
        refine q_isub hM dX12_isOrder_31 (fun z6997 hz6997 => ?_)
        first | have tz6997 := i_subT hz6997 (rfl : z6996.toInt = z6996.toInt) (kc_1 : (1 : Int32).toInt = 1) (by omega) (by omega) | skip
        refine q_icmp_ne (tgt := 39) hM dX12_isOrder_32 (by decide) (rfl : w4_2.toInt = w4_2.toInt) (rfl : z6997.toInt = z6997.toInt) (fun h32 => ?_) (fun h32 => ?_)
        · refine q_iconst (v := (0 : Int32)) hM dX12_isOrder_39 (by decide) ?_
          exact hE _ _ _ _ _ _ hW.1 nz_0 ⟨_, rfl, (by have := kc_0; omega), rfl⟩ dX12_isOrder_40
        · refine q_iconst (v := (1 : Int32)) hM dX12_isOrder_35 (by decide) ?_
          refine q_goto (tgt := 40) hM dX12_isOrder_36 (by decide) ?_
          exact hE _ _ _ _ _ _ hW.1 nz_1 ⟨_, rfl, (by have := kc_1; omega), rfl⟩ dX12_isOrder_40
      · refine q_iload_n hM dX12_isOrder_9 (lv_at hl 2 rfl) ?_
        refine q_iconst (v := (1 : Int32)) hM dX12_isOrder_10 (by decide) ?_
        refine q_aload_n hM dX12_isOrder_11 (lv_at hl 0 rfl) ?_
        refine w_get (v := .ref (ad 172)) hM hW FG_X12_142 lb_129 (rf_129_78 hW.2.1) dX12_isOrder_12 ?_
        refine q_iload_n hM dX12_isOrder_15 (lv_at hl 3 rfl) ?_
        refine w_iald hM hW lb_172 (i_in (by omega) (by omega)) dX12_isOrder_16 ?_
        refine q_top (fun y7001 hy7001 => ?_)
        have by7001 := hG.a hy7001 rA_172
        refine q_ishl hM dX12_isOrder_17 (fun z7002 hz7002 => ?_)
        refine q_ior hM dX12_isOrder_18 (fun z7003 hz7003 => ?_)
        refine q_istore_n (lv9 := [(2, .int z7003), (0, .ref (ad 129)), (1, .int n), (3, .int w4_3)]) hM dX12_isOrder_19 hl (by decide) rfl (fun ls hl => ?_)
        refine q_iinc (lv9 := fun z7004 => [(3, .int z7004), (2, .int z7003), (0, .ref (ad 129)), (1, .int n)]) hM dX12_isOrder_20 hl (kq := 3) rfl (by decide) (fun _ => rfl) (fun z7004 ls hz7004 hl => ?_)
        first | have tz7004 := i_addT hz7004 (rfl : w4_3.toInt = w4_3.toInt) (kc_1 : (Int32.ofInt 1).toInt = 1) (by omega) (by omega) | skip
        refine q_goto (tgt := 4) hM dX12_isOrder_23 (by decide) ?_
        exact ih4 z7003 z7004 _ _ _ (by omega) (by omega) (lv_sub hl [2, 3, 1, 0] rfl) hW
  have := kc_0
  have := kc_0
  exact L4 _ (0 : Int32) (0 : Int32) _ _ _ (Nat.lt_succ_self _) (by omega) (lv_sub hl [2, 3, 1, 0] rfl) hW

theorem dX12_isBy_0 : decode cX12_isBy 0 = .ok (.iconst 0, 1) := by decide +kernel
theorem dX12_isBy_1 : decode cX12_isBy 1 = .ok (.istore 5, 2) := by decide +kernel
theorem dX12_isBy_3 : decode cX12_isBy 3 = .ok (.iload 5, 2) := by decide +kernel
theorem dX12_isBy_5 : decode cX12_isBy 5 = .ok (.iload_n 2, 1) := by decide +kernel
theorem dX12_isBy_6 : decode cX12_isBy 6 = .ok (.if_icmp .ge 33, 3) := by decide +kernel
theorem dX12_isBy_9 : decode cX12_isBy 9 = .ok (.aload_n 0, 1) := by decide +kernel
theorem dX12_isBy_10 : decode cX12_isBy 10 = .ok (.iload_n 1, 1) := by decide +kernel
theorem dX12_isBy_11 : decode cX12_isBy 11 = .ok (.aload_n 0, 1) := by decide +kernel
theorem dX12_isBy_12 : decode cX12_isBy 12 = .ok (.getfield 139, 3) := by decide +kernel
theorem dX12_isBy_15 : decode cX12_isBy 15 = .ok (.aload_n 0, 1) := by decide +kernel
theorem dX12_isBy_16 : decode cX12_isBy 16 = .ok (.getfield 142, 3) := by decide +kernel
theorem dX12_isBy_19 : decode cX12_isBy 19 = .ok (.iload 5, 2) := by decide +kernel
theorem dX12_isBy_21 : decode cX12_isBy 21 = .ok (.iaload, 1) := by decide +kernel
theorem dX12_isBy_22 : decode cX12_isBy 22 = .ok (.iaload, 1) := by decide +kernel
theorem dX12_isBy_23 : decode cX12_isBy 23 = .ok (.invokevirtual 455, 3) := by decide +kernel
theorem dX12_isBy_26 : decode cX12_isBy 26 = .ok (.aload_n 0, 1) := by decide +kernel
theorem dX12_isBy_27 : decode cX12_isBy 27 = .ok (.iload_n 1, 1) := by decide +kernel
theorem dX12_isBy_28 : decode cX12_isBy 28 = .ok (.invokevirtual 483, 3) := by decide +kernel
theorem dX12_isBy_31 : decode cX12_isBy 31 = .ok (.istore 6, 2) := by decide +kernel
theorem dX12_isBy_33 : decode cX12_isBy 33 = .ok (.iinc 5 1, 3) := by decide +kernel
theorem dX12_isBy_36 : decode cX12_isBy 36 = .ok (.goto (-33), 3) := by decide +kernel
theorem dX12_isBy_39 : decode cX12_isBy 39 = .ok (.aload_n 0, 1) := by decide +kernel
theorem dX12_isBy_40 : decode cX12_isBy 40 = .ok (.iload_n 1, 1) := by decide +kernel
theorem dX12_isBy_41 : decode cX12_isBy 41 = .ok (.invokevirtual 413, 3) := by decide +kernel
theorem dX12_isBy_44 : decode cX12_isBy 44 = .ok (.istore 5, 2) := by decide +kernel
theorem dX12_isBy_46 : decode cX12_isBy 46 = .ok (.aload_n 0, 1) := by decide +kernel
theorem dX12_isBy_47 : decode cX12_isBy 47 = .ok (.iload_n 1, 1) := by decide +kernel
theorem dX12_isBy_48 : decode cX12_isBy 48 = .ok (.invokevirtual 527, 3) := by decide +kernel
theorem dX12_isBy_51 : decode cX12_isBy 51 = .ok (.iload 5, 2) := by decide +kernel
theorem dX12_isBy_53 : decode cX12_isBy 53 = .ok (.iload_n 3, 1) := by decide +kernel
theorem dX12_isBy_54 : decode cX12_isBy 54 = .ok (.iand, 1) := by decide +kernel
theorem dX12_isBy_55 : decode cX12_isBy 55 = .ok (.ifCond .ne 17, 3) := by decide +kernel
theorem dX12_isBy_58 : decode cX12_isBy 58 = .ok (.iload 4, 2) := by decide +kernel
theorem dX12_isBy_60 : decode cX12_isBy 60 = .ok (.iload 5, 2) := by decide +kernel
theorem dX12_isBy_62 : decode cX12_isBy 62 = .ok (.iconst (-1), 1) := by decide +kernel
theorem dX12_isBy_63 : decode cX12_isBy 63 = .ok (.ixor, 1) := by decide +kernel
theorem dX12_isBy_64 : decode cX12_isBy 64 = .ok (.iand, 1) := by decide +kernel
theorem dX12_isBy_65 : decode cX12_isBy 65 = .ok (.ifCond .ne 7, 3) := by decide +kernel
theorem dX12_isBy_68 : decode cX12_isBy 68 = .ok (.iconst 1, 1) := by decide +kernel
theorem dX12_isBy_69 : decode cX12_isBy 69 = .ok (.goto 4, 3) := by decide +kernel
theorem dX12_isBy_72 : decode cX12_isBy 72 = .ok (.iconst 0, 1) := by decide +kernel
theorem dX12_isBy_73 : decode cX12_isBy 73 = .ok (.ireturn, 1) := by decide +kernel
set_option maxRecDepth 100000 in
set_option maxHeartbeats 4000000 in
theorem a_X12_isBy (l : Launch) (D : va_G) (cA : Nat → ClassId) (ad : Nat → Nat) (g0 : Nat → va_E) (p : Int32) (n : Int32) (go : Int32) (ke : Int32)   (hSh : Shp ad cA g0) (hG : Rng g0) (p0 : 0 ≤ p.toInt) (p7 : p.toInt < 8) (n0 : 0 ≤ n.toInt) (n1 : n.toInt ≤ 5) (hL : LawOK g0) (hRS : ∀ j : Nat, (j : Int) < n.toInt → (arI g0 171 (arI g0 172 j).toNatClampNeg).toInt ≤ 5) : CT l NN ad cA D yX12_isBy cX12_isBy 7 (some FieldType.boolean) (8, 184) [.ref (ad 129), .int p, .int n, .int go, .int ke] g0 (fun v g' => ∃ (r : Int32), v = some (.int r) ∧ Shp ad cA g' ∧ Rng g' ∧ FR (fun i k => i = 161 ∨ i = 156 ∨ i = 157 ∨ (i = 129 ∧ (k = 42 ∨ k = 43 ∨ k = 44 ∨ k = 45 ∨ k = 46 ∨ k = 47 ∨ k = 48 ∨ k = 49))) g0 g' ∧ (r.toInt = 0 ∨ r.toInt = 1)) := by
  refine q_enterZ (by decide) (Nat.le_of_ble_eq_true rfl) (fun K H locs ls _ _ hM hW0 hR hC hE hl => ?_)
  have hl : lv_has ls 7 [(0, .ref (ad 129)), (1, .int p), (2, .int n), (3, .int go), (4, .int ke)] := hl
  have hW : WS ad cA (fun i k => i = 161 ∨ i = 156 ∨ i = 157 ∨ (i = 129 ∧ (k = 42 ∨ k = 43 ∨ k = 44 ∨ k = 45 ∨ k = 46 ∨ k = 47 ∨ k = 48 ∨ k = 49))) g0 K g0 H locs := ⟨hW0, hSh, FR.rf⟩
  have := i_rng n
  refine q_iconst (v := (0 : Int32)) hM dX12_isBy_0 (by decide) ?_
  refine q_istore (lv9 := [(5, .int (0 : Int32)), (0, .ref (ad 129)), (1, .int p), (2, .int n), (3, .int go), (4, .int ke)]) hM dX12_isBy_1 hl (by decide) rfl (fun ls hl => ?_)
  have L3 : ∀ (fu3 : Nat) (w3_5 : Int32) (g9 : Nat → va_E) (H : Heap) (locs : List Loc) (ls : Array Slot), (n.toInt - w3_5.toInt + 1).toNat < fu3 → (Rng g9) → (0 ≤ w3_5.toInt) → lv_has ls 7 [(0, .ref (ad 129)), (1, .int p), (2, .int n), (3, .int go), (4, .int ke), (5, .int w3_5)] → WS ad cA (fun i k => i = 161 ∨ i = 156 ∨ i = 157 ∨ (i = 129 ∧ (k = 42 ∨ k = 43 ∨ k = 44 ∨ k = 45 ∨ k = 46 ∨ k = 47 ∨ k = 48 ∨ k = 49))) g0 K g9 H locs → XX K 0 0 H locs 3 ls [] := by
    intro fu3
    induction fu3 with
    | zero => intro w3_5 g9 H locs ls h0; omega
    | succ fu3 ih3 =>
      intro w3_5 g9 H locs ls hm3 i3_0 i3_1 hl hW
      have hG := i3_0
      have := i_rng n
      refine q_iload hM dX12_isBy_3 (lv_at hl 5 rfl) ?_
      refine q_iload_n hM dX12_isBy_5 (lv_at hl 2 rfl) ?_
      refine q_icmp_ge (tgt := 39) hM dX12_isBy_6 (by decide) (rfl : w3_5.toInt = w3_5.toInt) (rfl : n.toInt = n.toInt) (fun h6 => ?_) (fun h6 => ?_)
      · refine q_aload_n hM dX12_isBy_39 (lv_at hl 0 rfl) ?_
        refine q_iload_n hM dX12_isBy_40 (lv_at hl 1 rfl) ?_
        refine q_callV (As := [.int p]) (rest := []) hM hW.1 hR hC myX12_knownBy (kAW (v_6_4 (List.mem_of_getElem? (i := 11) rfl)) rfl) (rfl : vwCl[12]? = some (RX12, TX12, 86)) rfl lb_129.1 (shO hW.2.1 lb_129) (a_X12_knownBy _ _ cA ad g9 p hW.2.1 hG (by  omega) (by  omega)) ⟨by decide, by decide⟩ rfl rfl hl.1 (Nat.le_of_ble_eq_true rfl) dX12_isBy_41 (fun v g7008 H locs hp hW1 => ?_)
        obtain ⟨r7007, rfl, hr7007, rfl⟩ := hp
        have hW : WS ad cA (fun i k => i = 161 ∨ i = 156 ∨ i = 157 ∨ (i = 129 ∧ (k = 42 ∨ k = 43 ∨ k = 44 ∨ k = 45 ∨ k = 46 ∨ k = 47 ∨ k = 48 ∨ k = 49))) g0 K g9 H locs := ⟨hW1, hW.2.1, hW.2.2⟩
        refine q_istore (lv9 := [(5, .int r7007), (0, .ref (ad 129)), (1, .int p), (2, .int n), (3, .int go), (4, .int ke)]) hM dX12_isBy_44 hl (by decide) rfl (fun ls hl => ?_)
        refine q_aload_n hM dX12_isBy_46 (lv_at hl 1 rfl) ?_
        refine q_iload_n hM dX12_isBy_47 (lv_at hl 2 rfl) ?_
        refine q_callV (As := [.int p]) (rest := []) hM hW.1 hR hC myX12_givesBack (kAW (v_6_14 (List.mem_of_getElem? (i := 10) rfl)) rfl) (rfl : vwCl[12]? = some (RX12, TX12, 86)) rfl lb_129.1 (shO hW.2.1 lb_129) (a_X12_givesBack _ _ cA ad g9 p hW.2.1 hG (by  omega) (by  omega)) ⟨by decide, by decide⟩ rfl rfl hl.1 (Nat.le_of_ble_eq_true rfl) dX12_isBy_48 (fun v g7009 H locs hp hW1 => ?_)
        obtain ⟨rfl, hs1, hG, hf1⟩ := hp
        have hW : WS ad cA (fun i k => i = 161 ∨ i = 156 ∨ i = 157 ∨ (i = 129 ∧ (k = 42 ∨ k = 43 ∨ k = 44 ∨ k = 45 ∨ k = 46 ∨ k = 47 ∨ k = 48 ∨ k = 49))) g0 K g7009 H locs := ⟨hW1, hs1, hW.2.2.tr hf1 (fun i k h => (Or.inl h))⟩
        refine q_iload hM dX12_isBy_51 (lv_at hl 0 rfl) ?_
        refine q_iload_n hM dX12_isBy_53 (lv_at hl 4 rfl) ?_
        refine q_iand hM dX12_isBy_54 (fun z7010 hz7010 => ?_)
        refine q_if_ne (tgt := 72) hM dX12_isBy_55 (by decide) (rfl : z7010.toInt = z7010.toInt) (fun h55 => ?_) (fun h55 => ?_)
        · refine q_iconst (v := (0 : Int32)) hM dX12_isBy_72 (by decide) ?_
          exact hE _ _ _ _ _ _ hW.1 nz_0 ⟨_, rfl, hW.2.1, hG, hW.2.2, (by have := kc_0; omega)⟩ dX12_isBy_73
        · refine q_iload hM dX12_isBy_58 (lv_at hl 5 rfl) ?_
          refine q_iload hM dX12_isBy_60 (lv_at hl 0 rfl) ?_
          refine q_iconst (v := ((-1) : Int32)) hM dX12_isBy_62 (by decide) ?_
          refine q_ixor hM dX12_isBy_63 (fun z7013 hz7013 => ?_)
          refine q_iand hM dX12_isBy_64 (fun z7014 hz7014 => ?_)
          refine q_if_ne (tgt := 72) hM dX12_isBy_65 (by decide) (rfl : z7014.toInt = z7014.toInt) (fun h65 => ?_) (fun h65 => ?_)
          · refine q_iconst (v := (0 : Int32)) hM dX12_isBy_72 (by decide) ?_
            exact hE _ _ _ _ _ _ hW.1 nz_0 ⟨_, rfl, hW.2.1, hG, hW.2.2, (by have := kc_0; omega)⟩ dX12_isBy_73
          · refine q_iconst (v := (1 : Int32)) hM dX12_isBy_68 (by decide) ?_
            refine q_goto (tgt := 73) hM dX12_isBy_69 (by decide) ?_
            exact hE _ _ _ _ _ _ hW.1 nz_1 ⟨_, rfl, hW.2.1, hG, hW.2.2, (by have := kc_1; omega)⟩ dX12_isBy_73
      · refine q_aload_n hM dX12_isBy_9 (lv_at hl 0 rfl) ?_
        refine q_iload_n hM dX12_isBy_10 (lv_at hl 1 rfl) ?_
        refine q_aload_n hM dX12_isBy_11 (lv_at hl 0 rfl) ?_
        refine w_get (v := .ref (ad 171)) hM hW FG_X12_139 lb_129 (rf_129_77 hW.2.1) dX12_isBy_12 ?_
        refine q_aload_n hM dX12_isBy_15 (lv_at hl 0 rfl) ?_
        refine w_get (v := .ref (ad 172)) hM hW FG_X12_142 lb_129 (rf_129_78 hW.2.1) dX12_isBy_16 ?_
        refine q_iload hM dX12_isBy_19 (lv_at hl 5 rfl) ?_
        refine w_iald hM hW lb_172 (i_in (by omega) (by omega)) dX12_isBy_21 ?_
        refine q_top (fun y7018 hy7018 => ?_)
        have by7018 := hG.a hy7018 rA_172
        rw [hW.2.2.2.1 172 (by omega)] at hy7018
        refine w_iald hM hW lb_171 (i_in (by omega) (by omega)) dX12_isBy_22 ?_
        refine q_top (fun y7019 hy7019 => ?_)
        have by7019 := hG.a hy7019 rA_171
        rw [hW.2.2.2.1 171 (by omega)] at hy7019
        have rs := hRS w3_5.toNatClampNeg (by show ((w3_5.toInt.toNat : Nat) : Int) < _; omega)
        rw [← hy7018, ← hy7019] at rs
        refine q_callV (As := [.int p, .int y7019]) (rest := []) hM hW.1 hR hC myX12_doesArt (kAW (v_6_3 (List.mem_of_getElem? (i := 11) rfl)) rfl) (rfl : vwCl[12]? = some (RX12, TX12, 86)) rfl lb_129.1 (shO hW.2.1 lb_129) (a_X12_doesArt _ _ cA ad g9 p y7019 hW.2.1 hG (by  omega) (by  omega) (by  omega) (by  omega) (LawOK_fr hL hW.2.2 (by omega) (by omega) (by omega) (by omega) (by omega))) ⟨by decide, by decide⟩ rfl rfl hl.1 (Nat.le_of_ble_eq_true rfl) dX12_isBy_23 (fun v g7020 H locs hp hW1 => ?_)
        obtain ⟨rfl, hs1, hG, hf1⟩ := hp
        have hW : WS ad cA (fun i k => i = 161 ∨ i = 156 ∨ i = 157 ∨ (i = 129 ∧ (k = 42 ∨ k = 43 ∨ k = 44 ∨ k = 45 ∨ k = 46 ∨ k = 47 ∨ k = 48 ∨ k = 49))) g0 K g7020 H locs := ⟨hW1, hs1, hW.2.2.tr hf1 (fun i k h => h.elim (fun h => (Or.inl h)) (fun h => h.elim (fun h => (Or.inr (Or.inl h))) (fun h => h.elim (fun h => (Or.inr (Or.inr (Or.inl h)))) (fun h => (Or.inr (Or.inr (Or.inr h)))))))⟩
        refine q_aload_n hM dX12_isBy_26 (lv_at hl 0 rfl) ?_
        refine q_iload_n hM dX12_isBy_27 (lv_at hl 1 rfl) ?_
        refine q_callV (As := [.int p]) (rest := []) hM hW.1 hR hC myX12_recallsAll (kAW (v_6_8 (List.mem_of_getElem? (i := 9) rfl)) rfl) (rfl : vwCl[12]? = some (RX12, TX12, 86)) rfl lb_129.1 (shO hW.2.1 lb_129) (a_X12_recallsAll _ _ cA ad g7020 p hW.2.1 hG (by  omega) (by  omega) (LawOK_fr hL hW.2.2 (by omega) (by omega) (by omega) (by omega) (by omega))) ⟨by decide, by decide⟩ rfl rfl hl.1 (Nat.le_of_ble_eq_true rfl) dX12_isBy_28 (fun v g7022 H locs hp hW1 => ?_)
        obtain ⟨r7021, rfl, hs1, hG, hf1⟩ := hp
        have hW : WS ad cA (fun i k => i = 161 ∨ i = 156 ∨ i = 157 ∨ (i = 129 ∧ (k = 42 ∨ k = 43 ∨ k = 44 ∨ k = 45 ∨ k = 46 ∨ k = 47 ∨ k = 48 ∨ k = 49))) g0 K g7022 H locs := ⟨hW1, hs1, hW.2.2.tr hf1 (fun i k h => h.elim (fun h => (Or.inl h)) (fun h => h.elim (fun h => (Or.inr (Or.inl h))) (fun h => h.elim (fun h => (Or.inr (Or.inr (Or.inl h)))) (fun h => (Or.inr (Or.inr (Or.inr h)))))))⟩
        refine q_istore (lv9 := [(6, .int r7021), (0, .ref (ad 129)), (1, .int p), (2, .int n), (3, .int go), (4, .int ke), (5, .int w3_5)]) hM dX12_isBy_31 hl (by decide) rfl (fun ls hl => ?_)
        refine q_iinc (lv9 := fun z7023 => [(5, .int z7023), (6, .int r7021), (0, .ref (ad 129)), (1, .int p), (2, .int n), (3, .int go), (4, .int ke)]) hM dX12_isBy_33 hl (kq := 6) rfl (by decide) (fun _ => rfl) (fun z7023 ls hz7023 hl => ?_)
        first | have tz7023 := i_addT hz7023 (rfl : w3_5.toInt = w3_5.toInt) (kc_1 : (Int32.ofInt 1).toInt = 1) (by omega) (by omega) | skip
        refine q_goto (tgt := 3) hM dX12_isBy_36 (by decide) ?_
        exact ih3 z7023 _ _ _ _ (by omega) hG (by omega) (lv_sub hl [2, 3, 4, 5, 6, 0] rfl) hW
  have := kc_0
  exact L3 _ (0 : Int32) _ _ _ _ (Nat.lt_succ_self _) hG (by omega) (lv_sub hl [1, 2, 3, 4, 5, 0] rfl) hW

theorem dX12_timesTill_0 : decode cX12_timesTill 0 = .ok (.aload_n 0, 1) := by decide +kernel
theorem dX12_timesTill_1 : decode cX12_timesTill 1 = .ok (.iload_n 1, 1) := by decide +kernel
theorem dX12_timesTill_2 : decode cX12_timesTill 2 = .ok (.invokevirtual 530, 3) := by decide +kernel
theorem dX12_timesTill_5 : decode cX12_timesTill 5 = .ok (.iconst 0, 1) := by decide +kernel
theorem dX12_timesTill_6 : decode cX12_timesTill 6 = .ok (.istore 5, 2) := by decide +kernel
theorem dX12_timesTill_8 : decode cX12_timesTill 8 = .ok (.iload 5, 2) := by decide +kernel
theorem dX12_timesTill_10 : decode cX12_timesTill 10 = .ok (.iconst 5, 1) := by decide +kernel
theorem dX12_timesTill_11 : decode cX12_timesTill 11 = .ok (.if_icmp .gt 54, 3) := by decide +kernel
theorem dX12_timesTill_14 : decode cX12_timesTill 14 = .ok (.iconst 0, 1) := by decide +kernel
theorem dX12_timesTill_15 : decode cX12_timesTill 15 = .ok (.istore 6, 2) := by decide +kernel
theorem dX12_timesTill_17 : decode cX12_timesTill 17 = .ok (.iload 6, 2) := by decide +kernel
theorem dX12_timesTill_19 : decode cX12_timesTill 19 = .ok (.iload_n 2, 1) := by decide +kernel
theorem dX12_timesTill_20 : decode cX12_timesTill 20 = .ok (.iload 5, 2) := by decide +kernel
theorem dX12_timesTill_22 : decode cX12_timesTill 22 = .ok (.invokestatic 533, 3) := by decide +kernel
theorem dX12_timesTill_25 : decode cX12_timesTill 25 = .ok (.if_icmp .ge 34, 3) := by decide +kernel
theorem dX12_timesTill_28 : decode cX12_timesTill 28 = .ok (.aload_n 0, 1) := by decide +kernel
theorem dX12_timesTill_29 : decode cX12_timesTill 29 = .ok (.iload 6, 2) := by decide +kernel
theorem dX12_timesTill_31 : decode cX12_timesTill 31 = .ok (.iload 5, 2) := by decide +kernel
theorem dX12_timesTill_33 : decode cX12_timesTill 33 = .ok (.iload_n 2, 1) := by decide +kernel
theorem dX12_timesTill_34 : decode cX12_timesTill 34 = .ok (.invokevirtual 536, 3) := by decide +kernel
theorem dX12_timesTill_37 : decode cX12_timesTill 37 = .ok (.aload_n 0, 1) := by decide +kernel
theorem dX12_timesTill_38 : decode cX12_timesTill 38 = .ok (.iload_n 1, 1) := by decide +kernel
theorem dX12_timesTill_39 : decode cX12_timesTill 39 = .ok (.iload 5, 2) := by decide +kernel
theorem dX12_timesTill_41 : decode cX12_timesTill 41 = .ok (.iload_n 3, 1) := by decide +kernel
theorem dX12_timesTill_42 : decode cX12_timesTill 42 = .ok (.iload 4, 2) := by decide +kernel
theorem dX12_timesTill_44 : decode cX12_timesTill 44 = .ok (.invokevirtual 539, 3) := by decide +kernel
theorem dX12_timesTill_47 : decode cX12_timesTill 47 = .ok (.ifCond .eq 6, 3) := by decide +kernel
theorem dX12_timesTill_50 : decode cX12_timesTill 50 = .ok (.iload 5, 2) := by decide +kernel
theorem dX12_timesTill_52 : decode cX12_timesTill 52 = .ok (.ireturn, 1) := by decide +kernel
theorem dX12_timesTill_53 : decode cX12_timesTill 53 = .ok (.iinc 6 1, 3) := by decide +kernel
theorem dX12_timesTill_56 : decode cX12_timesTill 56 = .ok (.goto (-39), 3) := by decide +kernel
theorem dX12_timesTill_59 : decode cX12_timesTill 59 = .ok (.iinc 5 1, 3) := by decide +kernel
theorem dX12_timesTill_62 : decode cX12_timesTill 62 = .ok (.goto (-54), 3) := by decide +kernel
theorem dX12_timesTill_65 : decode cX12_timesTill 65 = .ok (.iconst (-1), 1) := by decide +kernel
theorem dX12_timesTill_66 : decode cX12_timesTill 66 = .ok (.ireturn, 1) := by decide +kernel
theorem myX12_powerOf : MS yX12_powerOf cX12_powerOf 4 (some FieldType.int) 2 := ⟨kAW (v_6_14 (List.mem_of_getElem? (i := 1) rfl)) rfl, kAW (v_0_0 (List.mem_of_getElem? (i := 13) rfl)) rfl, kAW (v_6_14 (List.mem_of_getElem? (i := 0) rfl)) rfl, by decide, by decide, by decide +kernel⟩
theorem myX12_opensRow : MI yX12_opensRow cX12_opensRow 6 none 3 := ⟨kAW (v_6_14 (List.mem_of_getElem? (i := 5) rfl)) rfl, kAW (v_0_0 (List.mem_of_getElem? (i := 13) rfl)) rfl, kAW (v_6_14 (List.mem_of_getElem? (i := 4) rfl)) rfl, kAW (tp_t5 (List.mem_of_getElem? (i := 15) rfl)) rfl, by decide, by decide, by decide +kernel⟩
theorem myX12_isBy : MI yX12_isBy cX12_isBy 7 (some FieldType.boolean) 4 := ⟨kAW (v_6_14 (List.mem_of_getElem? (i := 9) rfl)) rfl, kAW (v_0_0 (List.mem_of_getElem? (i := 13) rfl)) rfl, kAW (v_6_14 (List.mem_of_getElem? (i := 8) rfl)) rfl, kAW (tp_t6 (List.mem_of_getElem? (i := 0) rfl)) rfl, by decide, by decide, by decide +kernel⟩
set_option maxRecDepth 100000 in
set_option maxHeartbeats 4000000 in
theorem a_X12_timesTill (l : Launch) (D : va_G) (cA : Nat → ClassId) (ad : Nat → Nat) (g0 : Nat → va_E) (p : Int32) (ma : Int32) (go : Int32) (ke : Int32)   (hSh : Shp ad cA g0) (hG : Rng g0) (p0 : 0 ≤ p.toInt) (p7 : p.toInt < 8) (m0 : 1 ≤ ma.toInt) (m1 : ma.toInt ≤ 6) (hL : LawOK g0) (hS : ∀ j : Nat, (j : Int) < ma.toInt → (arI g0 171 j).toInt < 6) : CT l NN ad cA D yX12_timesTill cX12_timesTill 7 (some FieldType.int) (9, 210) [.ref (ad 129), .int p, .int ma, .int go, .int ke] g0 (fun v g' => ∃ (r : Int32), v = some (.int r) ∧ Shp ad cA g' ∧ Rng g' ∧ FR (fun i k => i = 161 ∨ i = 156 ∨ i = 157 ∨ (i = 129 ∧ (k = 42 ∨ k = 43 ∨ k = 44 ∨ k = 45 ∨ k = 46 ∨ k = 47 ∨ k = 48 ∨ k = 49)) ∨ i = 170 ∨ i = 172) g0 g' ∧ (-1 ≤ r.toInt ∧ r.toInt ≤ 5)) := by
  refine q_enterI (by decide) (Nat.le_of_ble_eq_true rfl) rfl (fun K H locs ls _ _ hM hW0 hR hC hE hl => ?_)
  have hl : lv_has ls 7 [(0, .ref (ad 129)), (1, .int p), (2, .int ma), (3, .int go), (4, .int ke)] := hl
  have hW : WS ad cA (fun i k => i = 161 ∨ i = 156 ∨ i = 157 ∨ (i = 129 ∧ (k = 42 ∨ k = 43 ∨ k = 44 ∨ k = 45 ∨ k = 46 ∨ k = 47 ∨ k = 48 ∨ k = 49)) ∨ i = 170 ∨ i = 172) g0 K g0 H locs := ⟨hW0, hSh, FR.rf⟩
  refine q_aload_n hM dX12_timesTill_0 (lv_at hl 0 rfl) ?_
  refine q_iload_n hM dX12_timesTill_1 (lv_at hl 1 rfl) ?_
  refine q_callV (As := [.int p]) (rest := []) hM hW.1 hR hC myX12_keepsOwn (kAW (v_6_13 (List.mem_of_getElem? (i := 11) rfl)) rfl) (rfl : vwCl[12]? = some (RX12, TX12, 86)) rfl lb_129.1 (shO hW.2.1 lb_129) (a_X12_keepsOwn _ _ cA ad g0 p hW.2.1 hG (by  omega) (by  omega)) ⟨by decide, by decide⟩ rfl rfl hl.1 (Nat.le_of_ble_eq_true rfl) dX12_timesTill_2 (fun v g7024 H locs hp hW1 => ?_)
  obtain ⟨rfl, hs1, hG, hf1⟩ := hp
  have hW : WS ad cA (fun i k => i = 161 ∨ i = 156 ∨ i = 157 ∨ (i = 129 ∧ (k = 42 ∨ k = 43 ∨ k = 44 ∨ k = 45 ∨ k = 46 ∨ k = 47 ∨ k = 48 ∨ k = 49)) ∨ i = 170 ∨ i = 172) g0 K g7024 H locs := ⟨hW1, hs1, hW.2.2.tr hf1 (fun i k h => (Or.inr (Or.inr (Or.inr (Or.inr (Or.inl h))))))⟩
  refine q_iconst (v := (0 : Int32)) hM dX12_timesTill_5 (by decide) ?_
  refine q_istore (lv9 := [(5, .int (0 : Int32)), (0, .ref (ad 129)), (1, .int p), (2, .int ma), (3, .int go), (4, .int ke)]) hM dX12_timesTill_6 hl (by decide) rfl (fun ls hl => ?_)
  have L8 : ∀ (fu8 : Nat) (w8_5 : Int32) (g9 : Nat → va_E) (H : Heap) (locs : List Loc) (ls : Array Slot), (6 - w8_5.toInt).toNat < fu8 → (Rng g9) → (0 ≤ w8_5.toInt) → (w8_5.toInt ≤ 6) → lv_has ls 7 [(0, .ref (ad 129)), (1, .int p), (2, .int ma), (3, .int go), (4, .int ke), (5, .int w8_5)] → WS ad cA (fun i k => i = 161 ∨ i = 156 ∨ i = 157 ∨ (i = 129 ∧ (k = 42 ∨ k = 43 ∨ k = 44 ∨ k = 45 ∨ k = 46 ∨ k = 47 ∨ k = 48 ∨ k = 49)) ∨ i = 170 ∨ i = 172) g0 K g9 H locs → XX K 0 0 H locs 8 ls [] := by
    intro fu8
    induction fu8 with
    | zero => intro w8_5 g9 H locs ls h0; omega
    | succ fu8 ih8 =>
      intro w8_5 g9 H locs ls hm8 i8_0 i8_1 i8_2 hl hW
      have hG := i8_0
      refine q_iload hM dX12_timesTill_8 (lv_at hl 5 rfl) ?_
      refine q_iconst (v := (5 : Int32)) hM dX12_timesTill_10 (by decide) ?_
      refine q_icmp_gt (tgt := 65) hM dX12_timesTill_11 (by decide) (rfl : w8_5.toInt = w8_5.toInt) (kc_5 : (5 : Int32).toInt = 5) (fun h11 => ?_) (fun h11 => ?_)
      · refine q_iconst (v := ((-1) : Int32)) hM dX12_timesTill_65 (by decide) ?_
        exact hE _ _ _ _ _ _ hW.1 ⟨_, rfl, hW.2.1, hG, hW.2.2, (by have := kc_m1; omega)⟩ dX12_timesTill_66
      · refine q_iconst (v := (0 : Int32)) hM dX12_timesTill_14 (by decide) ?_
        refine q_istore (lv9 := [(6, .int (0 : Int32)), (0, .ref (ad 129)), (1, .int p), (2, .int ma), (3, .int go), (4, .int ke), (5, .int w8_5)]) hM dX12_timesTill_15 hl (by decide) rfl (fun ls hl => ?_)
        have L17 : ∀ (fu17 : Nat) (w17_6 : Int32) (g9 : Nat → va_E) (H : Heap) (locs : List Loc) (ls : Array Slot), (2147483647 - w17_6.toInt).toNat < fu17 → (Rng g9) → (0 ≤ w17_6.toInt) → lv_has ls 7 [(0, .ref (ad 129)), (1, .int p), (2, .int ma), (3, .int go), (4, .int ke), (5, .int w8_5), (6, .int w17_6)] → WS ad cA (fun i k => i = 161 ∨ i = 156 ∨ i = 157 ∨ (i = 129 ∧ (k = 42 ∨ k = 43 ∨ k = 44 ∨ k = 45 ∨ k = 46 ∨ k = 47 ∨ k = 48 ∨ k = 49)) ∨ i = 170 ∨ i = 172) g0 K g9 H locs → XX K 0 0 H locs 17 ls [] := by
          intro fu17
          induction fu17 with
          | zero => intro w17_6 g9 H locs ls h0; omega
          | succ fu17 ih17 =>
            intro w17_6 g9 H locs ls hm17 i17_0 i17_1 hl hW
            have hG := i17_0
            refine q_iload hM dX12_timesTill_17 (lv_at hl 6 rfl) ?_
            refine q_iload_n hM dX12_timesTill_19 (lv_at hl 2 rfl) ?_
            refine q_iload hM dX12_timesTill_20 (lv_at hl 5 rfl) ?_
            refine q_callS (As := [.int ma, .int w8_5]) (rest := [.int w17_6]) hM hW.1 hR hC myX12_powerOf (kAW (v_6_13 (List.mem_of_getElem? (i := 15) rfl)) rfl) (a_X12_powerOf _ _ cA ad g9 ma w8_5 hW.2.1 hG) ⟨by decide, by decide⟩ rfl rfl hl.1 (Nat.le_of_ble_eq_true rfl) dX12_timesTill_22 (fun v g7030 H locs hp hW1 => ?_)
            obtain ⟨r7029, rfl, hr7029, rfl⟩ := hp
            have hW : WS ad cA (fun i k => i = 161 ∨ i = 156 ∨ i = 157 ∨ (i = 129 ∧ (k = 42 ∨ k = 43 ∨ k = 44 ∨ k = 45 ∨ k = 46 ∨ k = 47 ∨ k = 48 ∨ k = 49)) ∨ i = 170 ∨ i = 172) g0 K g9 H locs := ⟨hW1, hW.2.1, hW.2.2⟩
            have := i_rng r7029
            refine q_icmp_ge (tgt := 59) hM dX12_timesTill_25 (by decide) (rfl : w17_6.toInt = w17_6.toInt) (rfl : r7029.toInt = r7029.toInt) (fun h25 => ?_) (fun h25 => ?_)
            · refine q_iinc (lv9 := fun z7032 => [(5, .int z7032), (0, .ref (ad 129)), (1, .int p), (2, .int ma), (3, .int go), (4, .int ke), (6, .int w17_6)]) hM dX12_timesTill_59 hl (kq := 5) rfl (by decide) (fun _ => rfl) (fun z7032 ls hz7032 hl => ?_)
              first | have tz7032 := i_addT hz7032 (rfl : w8_5.toInt = w8_5.toInt) (kc_1 : (Int32.ofInt 1).toInt = 1) (by omega) (by omega) | skip
              refine q_goto (tgt := 8) hM dX12_timesTill_62 (by decide) ?_
              exact ih8 z7032 _ _ _ _ (by omega) hG (by omega) (by omega) (lv_sub hl [1, 2, 3, 4, 5, 0] rfl) hW
            · refine q_aload_n hM dX12_timesTill_28 (lv_at hl 0 rfl) ?_
              refine q_iload hM dX12_timesTill_29 (lv_at hl 6 rfl) ?_
              refine q_iload hM dX12_timesTill_31 (lv_at hl 5 rfl) ?_
              refine q_iload_n hM dX12_timesTill_33 (lv_at hl 2 rfl) ?_
              refine q_callV (As := [.int w17_6, .int w8_5, .int ma]) (rest := []) hM hW.1 hR hC myX12_opensRow (kAW (v_6_14 (List.mem_of_getElem? (i := 2) rfl)) rfl) (rfl : vwCl[12]? = some (RX12, TX12, 86)) rfl lb_129.1 (shO hW.2.1 lb_129) (a_X12_opensRow _ _ cA ad g9 w17_6 w8_5 ma hW.2.1 hG (by  omega) (by  omega) (by  omega) (by  omega) (by  omega)) ⟨by decide, by decide⟩ rfl rfl hl.1 (Nat.le_of_ble_eq_true rfl) dX12_timesTill_34 (fun v g7035 H locs hp hW1 => ?_)
              obtain ⟨rfl, hs1, hG, hf1, e7034⟩ := hp
              have hW : WS ad cA (fun i k => i = 161 ∨ i = 156 ∨ i = 157 ∨ (i = 129 ∧ (k = 42 ∨ k = 43 ∨ k = 44 ∨ k = 45 ∨ k = 46 ∨ k = 47 ∨ k = 48 ∨ k = 49)) ∨ i = 170 ∨ i = 172) g0 K g7035 H locs := ⟨hW1, hs1, hW.2.2.tr hf1 (fun i k h => (Or.inr (Or.inr (Or.inr (Or.inr (Or.inr h))))))⟩
              refine q_aload_n hM dX12_timesTill_37 (lv_at hl 0 rfl) ?_
              refine q_iload_n hM dX12_timesTill_38 (lv_at hl 1 rfl) ?_
              refine q_iload hM dX12_timesTill_39 (lv_at hl 5 rfl) ?_
              refine q_iload_n hM dX12_timesTill_41 (lv_at hl 3 rfl) ?_
              refine q_iload hM dX12_timesTill_42 (lv_at hl 4 rfl) ?_
              refine q_callV (As := [.int p, .int w8_5, .int go, .int ke]) (rest := []) hM hW.1 hR hC myX12_isBy (kAW (v_6_14 (List.mem_of_getElem? (i := 6) rfl)) rfl) (rfl : vwCl[12]? = some (RX12, TX12, 86)) rfl lb_129.1 (shO hW.2.1 lb_129) (a_X12_isBy _ _ cA ad g7035 p w8_5 go ke hW.2.1 hG (by  omega) (by  omega) (by  omega) (by  omega) (LawOK_fr hL hW.2.2 (by omega) (by omega) (by omega) (by omega) (by omega)) (fun j hj => by have a9 := e7034 j hj; have b9 := (hG.2 172 j).1; rw [rA_172] at b9; rw [hW.2.2.2.1 171 (by omega)]; have c9 := hS (arI g7035 172 j).toNatClampNeg (by show (((arI g7035 172 j).toInt.toNat : Nat) : Int) < _; have : (0 : Int) ≤ (arI g7035 172 j).toInt := b9; omega); omega)) ⟨by decide, by decide⟩ rfl rfl hl.1 (Nat.le_of_ble_eq_true rfl) dX12_timesTill_44 (fun v g7037 H locs hp hW1 => ?_)
              obtain ⟨r7036, rfl, hs1, hG, hf1, hr7036⟩ := hp
              have hW : WS ad cA (fun i k => i = 161 ∨ i = 156 ∨ i = 157 ∨ (i = 129 ∧ (k = 42 ∨ k = 43 ∨ k = 44 ∨ k = 45 ∨ k = 46 ∨ k = 47 ∨ k = 48 ∨ k = 49)) ∨ i = 170 ∨ i = 172) g0 K g7037 H locs := ⟨hW1, hs1, hW.2.2.tr hf1 (fun i k h => h.elim (fun h => (Or.inl h)) (fun h => h.elim (fun h => (Or.inr (Or.inl h))) (fun h => h.elim (fun h => (Or.inr (Or.inr (Or.inl h)))) (fun h => (Or.inr (Or.inr (Or.inr (Or.inl h))))))))⟩
              refine q_if_eq (tgt := 53) hM dX12_timesTill_47 (by decide) (rfl : r7036.toInt = r7036.toInt) (fun h47 => ?_) (fun h47 => ?_)
              · refine q_iinc (lv9 := fun z7039 => [(6, .int z7039), (0, .ref (ad 129)), (1, .int p), (2, .int ma), (3, .int go), (4, .int ke), (5, .int w8_5)]) hM dX12_timesTill_53 hl (kq := 6) rfl (by decide) (fun _ => rfl) (fun z7039 ls hz7039 hl => ?_)
                first | have tz7039 := i_addT hz7039 (rfl : w17_6.toInt = w17_6.toInt) (kc_1 : (Int32.ofInt 1).toInt = 1) (by omega) (by omega) | skip
                refine q_goto (tgt := 17) hM dX12_timesTill_56 (by decide) ?_
                exact ih17 z7039 _ _ _ _ (by omega) hG (by omega) (lv_sub hl [1, 2, 3, 4, 5, 6, 0] rfl) hW
              · refine q_iload hM dX12_timesTill_50 (lv_at hl 5 rfl) ?_
                exact hE _ _ _ _ _ _ hW.1 ⟨_, rfl, hW.2.1, hG, hW.2.2, (by omega)⟩ dX12_timesTill_52
        have := kc_0
        exact L17 _ (0 : Int32) _ _ _ _ (Nat.lt_succ_self _) hG (by omega) (lv_sub hl [1, 2, 3, 4, 5, 6, 0] rfl) hW
  have := kc_0
  exact L8 _ (0 : Int32) _ _ _ _ (Nat.lt_succ_self _) hG (by omega) (by omega) (lv_sub hl [1, 2, 3, 4, 5, 0] rfl) hW
