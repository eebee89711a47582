theorem and_0 {r z w : Int32} (hr : r.toInt = 0) (h : r &&& z = w) : w.toInt = 0 := by
  have h0 : r = 0 := Int32.toInt_inj.mp (hr.trans kc_0.symm)
  subst h0
  have e : (0 : Int32) &&& z = 0 := b_ext (fun i _ => by rw [b_and, b_0]; rfl)
  rw [← h, e]
  rfl
theorem areOf_0 {b r : Int32} (h : (r.toInt = 1 ∧ b &&& (0 ^^^ (-1)) = 0) ∨ (r.toInt = 0 ∧ ¬ b &&& (0 ^^^ (-1)) = 0)) (hr : ¬ r.toInt = 0) : b = 0 := by
  rcases h with h | h
  · have e : b &&& (0 ^^^ (-1)) = b := b_ext (fun i hi => by rw [b_and, b_xor, b_0, b_m1 i hi]; simp)
    rw [← e]
    exact h.2
  · exact absurd h.1 hr
theorem z_link {ad : Nat → Nat} {cA : Nat → ClassId} {g : Nat → va_E} (hF : ∀ j, j < NN → g j = gF ad cA j) {q : Nat} (h : q < 12) : arI g (6 + 1 * q) = fun _ => 0 := by
  rcases (show q = 0 ∨ q = 1 ∨ q = 2 ∨ q = 3 ∨ q = 4 ∨ q = 5 ∨ q = 6 ∨ q = 7 ∨ q = 8 ∨ q = 9 ∨ q = 10 ∨ q = 11 by omega) with rfl | rfl | rfl | rfl | rfl | rfl | rfl | rfl | rfl | rfl | rfl | rfl <;> exact (arI_eq (hF _ (by decide))).trans rfl

theorem dX5_linked_0 : decode cX5_linked 0 = .ok (.iconst 0, 1) := by decide +kernel
theorem dX5_linked_1 : decode cX5_linked 1 = .ok (.istore_n 2, 1) := by decide +kernel
theorem dX5_linked_2 : decode cX5_linked 2 = .ok (.iconst 0, 1) := by decide +kernel
theorem dX5_linked_3 : decode cX5_linked 3 = .ok (.istore_n 3, 1) := by decide +kernel
theorem dX5_linked_4 : decode cX5_linked 4 = .ok (.iload_n 3, 1) := by decide +kernel
theorem dX5_linked_5 : decode cX5_linked 5 = .ok (.bipush 12, 2) := by decide +kernel
theorem dX5_linked_7 : decode cX5_linked 7 = .ok (.if_icmp .ge 26, 3) := by decide +kernel
theorem dX5_linked_10 : decode cX5_linked 10 = .ok (.aload_n 0, 1) := by decide +kernel
theorem dX5_linked_11 : decode cX5_linked 11 = .ok (.getfield 17, 3) := by decide +kernel
theorem dX5_linked_14 : decode cX5_linked 14 = .ok (.iload_n 1, 1) := by decide +kernel
theorem dX5_linked_15 : decode cX5_linked 15 = .ok (.aaload, 1) := by decide +kernel
theorem dX5_linked_16 : decode cX5_linked 16 = .ok (.iload_n 3, 1) := by decide +kernel
theorem dX5_linked_17 : decode cX5_linked 17 = .ok (.iaload, 1) := by decide +kernel
theorem dX5_linked_18 : decode cX5_linked 18 = .ok (.ifCond .le 9, 3) := by decide +kernel
theorem dX5_linked_27 : decode cX5_linked 27 = .ok (.iinc 3 1, 3) := by decide +kernel
theorem dX5_linked_30 : decode cX5_linked 30 = .ok (.goto (-26), 3) := by decide +kernel
theorem dX5_linked_33 : decode cX5_linked 33 = .ok (.iload_n 2, 1) := by decide +kernel
theorem dX5_linked_34 : decode cX5_linked 34 = .ok (.ireturn, 1) := by decide +kernel
theorem FG_X5_17 : FG RX5 17 5 3 1 := ⟨RX5, TX5, rfl, wX5, by decide, kAW (v_0_3 (List.mem_of_getElem? (i := 8) rfl)) rfl, rfl⟩
set_option maxRecDepth 100000 in
set_option maxHeartbeats 4000000 in
theorem c_X5_linked (l : Launch) (D : va_G) (cA : Nat → ClassId) (ad : Nat → Nat) (g0 : Nat → va_E) (i : Int32) (hSh : Shp ad cA g0) (hF : ∀ j, j < NN → g0 j = gF ad cA j) (h0 : 0 ≤ i.toInt) (h1 : i.toInt < 12) : CT l NN ad cA D yX5_linked cX5_linked 4 (some FieldType.int) (0, 0) [.ref (ad 3), .int i] g0 (PU g0 (fun r => r.toInt = 0)) := by
  refine q_enterI (by decide) (Nat.le_of_ble_eq_true rfl) rfl (fun K H locs ls _ _ hM hW0 hR hC hE hl => ?_)
  have hl : lv_has ls 4 [(0, .ref (ad 3)), (1, .int i)] := hl
  have hW : WS ad cA (fun i k => False) g0 K g0 H locs := ⟨hW0, hSh, FR.rf⟩
  refine q_iconst (v := (0 : Int32)) hM dX5_linked_0 (by decide) ?_
  refine q_istore_n (lv9 := [(2, .int (0 : Int32)), (0, .ref (ad 3)), (1, .int i)]) hM dX5_linked_1 hl (by decide) rfl (fun ls hl => ?_)
  refine q_iconst (v := (0 : Int32)) hM dX5_linked_2 (by decide) ?_
  refine q_istore_n (lv9 := [(3, .int (0 : Int32)), (2, .int (0 : Int32)), (0, .ref (ad 3)), (1, .int i)]) hM dX5_linked_3 hl (by decide) rfl (fun ls hl => ?_)
  have L4 : ∀ (fu4 : Nat) (j : Int32) (H : Heap) (locs : List Loc) (ls : Array Slot), (12 - j.toInt).toNat < fu4 → (0 ≤ j.toInt) → (j.toInt ≤ 12) → lv_has ls 4 [(0, .ref (ad 3)), (1, .int i), (2, .int (0 : Int32)), (3, .int j)] → WS ad cA (fun i k => False) g0 K g0 H locs → XX K 0 0 H locs 4 ls [] := by
    intro fu4
    induction fu4 with
    | zero => intro j H locs ls h0; omega
    | succ fu4 ih4 =>
      intro j H locs ls hm4 i4_0 i4_1 hl hW
      refine q_iload_n hM dX5_linked_4 (lv_at hl 3 rfl) ?_
      refine q_bipush (v := (12 : Int32)) hM dX5_linked_5 (by decide) ?_
      refine q_icmp_ge (tgt := 33) hM dX5_linked_7 (by decide) (rfl : j.toInt = j.toInt) (kc_12 : (12 : Int32).toInt = 12) (fun h7 => ?_) (fun h7 => ?_)
      · refine q_iload_n hM dX5_linked_33 (lv_at hl 2 rfl) ?_
        exact hE _ _ _ _ _ _ hW.1 ⟨_, rfl, (by have := kc_0; exact kc_0), rfl⟩ dX5_linked_34
      · refine q_aload_n hM dX5_linked_10 (lv_at hl 0 rfl) ?_
        refine w_get (v := .ref (ad 5)) hM hW FG_X5_17 lb_3 (rf_3_1 hW.2.1) dX5_linked_11 ?_
        refine q_iload_n hM dX5_linked_14 (lv_at hl 1 rfl) ?_
        refine w_aald hM hW lb_5 (Or.inl rfl) (i_in (by omega) (by omega)) (aq (aq_5 hW.2.1) (by omega) (by omega)) dX5_linked_15 ?_
        refine q_iload_n hM dX5_linked_16 (lv_at hl 3 rfl) ?_
        refine w_iald hM hW (lr_6 (by omega)) (i_in (by omega) (by omega)) dX5_linked_17 ?_
        refine q_top (fun y144 hy144 => ?_)
        have ky144 : y144.toInt = 0 := by rw [hy144, ((hW.2.2.2.1 (6 + 1 * i.toInt.toNat) (fun h => h)).trans (z_link hF (by omega)))]; rfl
        refine q_if_le (tgt := 27) hM dX5_linked_18 (by decide) (ky144 : y144.toInt = 0) (fun h18 => ?_) (fun h18 => ?_)
        · refine q_iinc (lv9 := fun z145 => [(3, .int z145), (0, .ref (ad 3)), (1, .int i), (2, .int (0 : Int32))]) hM dX5_linked_27 hl (kq := 3) rfl (by decide) (fun _ => rfl) (fun z145 ls hz145 hl => ?_)
          have tz145 := i_addT hz145 (rfl : j.toInt = j.toInt) (kc_1 : (Int32.ofInt 1).toInt = 1) (by omega) (by omega)
          refine q_goto (tgt := 4) hM dX5_linked_30 (by decide) ?_
          exact ih4 z145 _ _ _ (by omega) (by omega) (by omega) (lv_sub hl [1, 2, 3, 0] rfl) hW
        · omega
  have := kc_0
  exact L4 _ (0 : Int32) _ _ _ (Nat.lt_succ_self _) (by omega) (by omega) (lv_sub hl [2, 3, 1, 0] rfl) hW

theorem dX5_reached_0 : decode cX5_reached 0 = .ok (.aload_n 0, 1) := by decide +kernel
theorem dX5_reached_1 : decode cX5_reached 1 = .ok (.iload_n 1, 1) := by decide +kernel
theorem dX5_reached_2 : decode cX5_reached 2 = .ok (.invokevirtual 24, 3) := by decide +kernel
theorem dX5_reached_5 : decode cX5_reached 5 = .ok (.iload_n 2, 1) := by decide +kernel
theorem dX5_reached_6 : decode cX5_reached 6 = .ok (.iconst (-1), 1) := by decide +kernel
theorem dX5_reached_7 : decode cX5_reached 7 = .ok (.ixor, 1) := by decide +kernel
theorem dX5_reached_8 : decode cX5_reached 8 = .ok (.iand, 1) := by decide +kernel
theorem dX5_reached_9 : decode cX5_reached 9 = .ok (.istore_n 3, 1) := by decide +kernel
theorem dX5_reached_10 : decode cX5_reached 10 = .ok (.iconst 0, 1) := by decide +kernel
theorem dX5_reached_11 : decode cX5_reached 11 = .ok (.istore 4, 2) := by decide +kernel
theorem dX5_reached_13 : decode cX5_reached 13 = .ok (.iconst 0, 1) := by decide +kernel
theorem dX5_reached_14 : decode cX5_reached 14 = .ok (.istore 5, 2) := by decide +kernel
theorem dX5_reached_16 : decode cX5_reached 16 = .ok (.iload 5, 2) := by decide +kernel
theorem dX5_reached_18 : decode cX5_reached 18 = .ok (.bipush 12, 2) := by decide +kernel
theorem dX5_reached_20 : decode cX5_reached 20 = .ok (.if_icmp .ge 65, 3) := by decide +kernel
theorem dX5_reached_23 : decode cX5_reached 23 = .ok (.iload 4, 2) := by decide +kernel
theorem dX5_reached_25 : decode cX5_reached 25 = .ok (.iload_n 3, 1) := by decide +kernel
theorem dX5_reached_26 : decode cX5_reached 26 = .ok (.if_icmp .eq 59, 3) := by decide +kernel
theorem dX5_reached_85 : decode cX5_reached 85 = .ok (.iload_n 3, 1) := by decide +kernel
theorem dX5_reached_86 : decode cX5_reached 86 = .ok (.ireturn, 1) := by decide +kernel
theorem myX5_linked : MI yX5_linked cX5_linked 4 (some FieldType.int) 1 := ⟨kAW (v_3_8 (List.mem_of_getElem? (i := 3) rfl)) rfl, kAW (v_0_0 (List.mem_of_getElem? (i := 3) rfl)) rfl, kAW (v_3_8 (List.mem_of_getElem? (i := 1) rfl)) rfl, kAW (v_3_8 (List.mem_of_getElem? (i := 2) rfl)) rfl, by decide, by decide, by decide +kernel⟩
set_option maxRecDepth 100000 in
set_option maxHeartbeats 4000000 in
theorem c_X5_reached (l : Launch) (D : va_G) (cA : Nat → ClassId) (ad : Nat → Nat) (g0 : Nat → va_E) (i : Int32) (hSh : Shp ad cA g0) (hF : ∀ j, j < NN → g0 j = gF ad cA j) (h0 : 0 ≤ i.toInt) (h1 : i.toInt < 12) : CT l NN ad cA D yX5_reached cX5_reached 8 (some FieldType.int) (1, 23) [.ref (ad 3), .int i, .int (0 : Int32)] g0 (PU g0 (fun r => r.toInt = 0)) := by
  refine q_enterI (by decide) (Nat.le_of_ble_eq_true rfl) rfl (fun K H locs ls _ _ hM hW0 hR hC hE hl => ?_)
  have hl : lv_has ls 8 [(0, .ref (ad 3)), (1, .int i), (2, .int (0 : Int32))] := hl
  have hW : WS ad cA (fun i k => False) g0 K g0 H locs := ⟨hW0, hSh, FR.rf⟩
  refine q_aload_n hM dX5_reached_0 (lv_at hl 0 rfl) ?_
  refine q_iload_n hM dX5_reached_1 (lv_at hl 1 rfl) ?_
  refine q_callV (As := [.int i]) (rest := []) hM hW.1 hR hC myX5_linked (kAW (v_3_8 (List.mem_of_getElem? (i := 0) rfl)) rfl) (rfl : vwCl[5]? = some (RX5, TX5, 3)) rfl lb_3.1 (shO hW.2.1 lb_3) (c_X5_linked _ _ cA ad g0 i hW.2.1 hF (by omega) (by omega)) ⟨by decide, by decide⟩ rfl rfl hl.1 (Nat.le_of_ble_eq_true rfl) dX5_reached_2 (fun v g147 H locs hp hW1 => ?_)
  obtain ⟨r146, rfl, hr146, rfl⟩ := hp
  have hW : WS ad cA (fun i k => False) g0 K g0 H locs := ⟨hW1, hW.2.1, hW.2.2⟩
  refine q_iload_n hM dX5_reached_5 (lv_at hl 2 rfl) ?_
  refine q_iconst (v := ((-1) : Int32)) hM dX5_reached_6 (by decide) ?_
  refine q_ixor hM dX5_reached_7 (fun z148 hz148 => ?_)
  refine q_iand hM dX5_reached_8 (fun z149 hz149 => ?_)
  have kz149 : z149.toInt = 0 := and_0 hr146 hz149
  refine q_istore_n (lv9 := [(3, .int z149), (0, .ref (ad 3)), (1, .int i), (2, .int (0 : Int32))]) hM dX5_reached_9 hl (by decide) rfl (fun ls hl => ?_)
  refine q_iconst (v := (0 : Int32)) hM dX5_reached_10 (by decide) ?_
  refine q_istore (lv9 := [(4, .int (0 : Int32)), (3, .int z149), (0, .ref (ad 3)), (1, .int i), (2, .int (0 : Int32))]) hM dX5_reached_11 hl (by decide) rfl (fun ls hl => ?_)
  refine q_iconst (v := (0 : Int32)) hM dX5_reached_13 (by decide) ?_
  refine q_istore (lv9 := [(5, .int (0 : Int32)), (4, .int (0 : Int32)), (3, .int z149), (0, .ref (ad 3)), (1, .int i), (2, .int (0 : Int32))]) hM dX5_reached_14 hl (by decide) rfl (fun ls hl => ?_)
  refine q_iload hM dX5_reached_16 (lv_at hl 0 rfl) ?_
  refine q_bipush (v := (12 : Int32)) hM dX5_reached_18 (by decide) ?_
  refine q_icmp_ge (tgt := 85) hM dX5_reached_20 (by decide) (kc_0 : (0 : Int32).toInt = 0) (kc_12 : (12 : Int32).toInt = 12) (fun h20 => ?_) (fun h20 => ?_)
  · omega
  · refine q_iload hM dX5_reached_23 (lv_at hl 1 rfl) ?_
    refine q_iload_n hM dX5_reached_25 (lv_at hl 2 rfl) ?_
    refine q_icmp_eq (tgt := 85) hM dX5_reached_26 (by decide) (kc_0 : (0 : Int32).toInt = 0) (kz149 : z149.toInt = 0) (fun h26 => ?_) (fun h26 => ?_)
    · refine q_iload_n hM dX5_reached_85 (lv_at hl 2 rfl) ?_
      exact hE _ _ _ _ _ _ hW.1 ⟨_, rfl, kz149, rfl⟩ dX5_reached_86
    · omega

theorem dX5_groups_0 : decode cX5_groups 0 = .ok (.iconst 0, 1) := by decide +kernel
theorem dX5_groups_1 : decode cX5_groups 1 = .ok (.istore_n 1, 1) := by decide +kernel
theorem dX5_groups_2 : decode cX5_groups 2 = .ok (.iconst 0, 1) := by decide +kernel
theorem dX5_groups_3 : decode cX5_groups 3 = .ok (.istore_n 2, 1) := by decide +kernel
theorem dX5_groups_4 : decode cX5_groups 4 = .ok (.iload_n 2, 1) := by decide +kernel
theorem dX5_groups_5 : decode cX5_groups 5 = .ok (.bipush 12, 2) := by decide +kernel
theorem dX5_groups_7 : decode cX5_groups 7 = .ok (.if_icmp .ge 37, 3) := by decide +kernel
theorem dX5_groups_10 : decode cX5_groups 10 = .ok (.aload_n 0, 1) := by decide +kernel
theorem dX5_groups_11 : decode cX5_groups 11 = .ok (.getfield 20, 3) := by decide +kernel
theorem dX5_groups_14 : decode cX5_groups 14 = .ok (.iload_n 2, 1) := by decide +kernel
theorem dX5_groups_15 : decode cX5_groups 15 = .ok (.invokestatic 28, 3) := by decide +kernel
theorem dX5_groups_18 : decode cX5_groups 18 = .ok (.ifCond .eq 20, 3) := by decide +kernel
theorem dX5_groups_38 : decode cX5_groups 38 = .ok (.iinc 2 1, 3) := by decide +kernel
theorem dX5_groups_41 : decode cX5_groups 41 = .ok (.goto (-37), 3) := by decide +kernel
theorem dX5_groups_44 : decode cX5_groups 44 = .ok (.iload_n 1, 1) := by decide +kernel
theorem dX5_groups_45 : decode cX5_groups 45 = .ok (.ireturn, 1) := by decide +kernel
theorem FG_X5_20 : FG RX5 20 5 3 2 := ⟨RX5, TX5, rfl, wX5, by decide, kAW (v_0_3 (List.mem_of_getElem? (i := 10) rfl)) rfl, rfl⟩
set_option maxRecDepth 100000 in
set_option maxHeartbeats 4000000 in
theorem c_X5_groups (l : Launch) (D : va_G) (cA : Nat → ClassId) (ad : Nat → Nat) (g0 : Nat → va_E)  (hSh : Shp ad cA g0) (hF : ∀ j, j < NN → g0 j = gF ad cA j) : CT l NN ad cA D yX5_groups cX5_groups 3 (some FieldType.int) (1, 21) [.ref (ad 3)] g0 (PU g0 (fun r => r.toInt = 0)) := by
  refine q_enterI (by decide) (Nat.le_of_ble_eq_true rfl) rfl (fun K H locs ls _ _ hM hW0 hR hC hE hl => ?_)
  have hl : lv_has ls 3 [(0, .ref (ad 3))] := hl
  have hW : WS ad cA (fun i k => False) g0 K g0 H locs := ⟨hW0, hSh, FR.rf⟩
  refine q_iconst (v := (0 : Int32)) hM dX5_groups_0 (by decide) ?_
  refine q_istore_n (lv9 := [(1, .int (0 : Int32)), (0, .ref (ad 3))]) hM dX5_groups_1 hl (by decide) rfl (fun ls hl => ?_)
  refine q_iconst (v := (0 : Int32)) hM dX5_groups_2 (by decide) ?_
  refine q_istore_n (lv9 := [(2, .int (0 : Int32)), (1, .int (0 : Int32)), (0, .ref (ad 3))]) hM dX5_groups_3 hl (by decide) rfl (fun ls hl => ?_)
  have L4 : ∀ (fu4 : Nat) (i : Int32) (H : Heap) (locs : List Loc) (ls : Array Slot), (12 - i.toInt).toNat < fu4 → (0 ≤ i.toInt) → (i.toInt ≤ 12) → lv_has ls 3 [(0, .ref (ad 3)), (1, .int (0 : Int32)), (2, .int i)] → WS ad cA (fun i k => False) g0 K g0 H locs → XX K 0 0 H locs 4 ls [] := by
    intro fu4
    induction fu4 with
    | zero => intro i H locs ls h0; omega
    | succ fu4 ih4 =>
      intro i H locs ls hm4 i4_0 i4_1 hl hW
      refine q_iload_n hM dX5_groups_4 (lv_at hl 2 rfl) ?_
      refine q_bipush (v := (12 : Int32)) hM dX5_groups_5 (by decide) ?_
      refine q_icmp_ge (tgt := 44) hM dX5_groups_7 (by decide) (rfl : i.toInt = i.toInt) (kc_12 : (12 : Int32).toInt = 12) (fun h7 => ?_) (fun h7 => ?_)
      · refine q_iload_n hM dX5_groups_44 (lv_at hl 1 rfl) ?_
        exact hE _ _ _ _ _ _ hW.1 ⟨_, rfl, (by have := kc_0; exact kc_0), rfl⟩ dX5_groups_45
      · refine q_aload_n hM dX5_groups_10 (lv_at hl 0 rfl) ?_
        refine w_get (v := .int (0 : Int32)) hM hW FG_X5_20 lb_3 ((hW.2.2.1 3 2 (fun h => h)).trans (zf hF (by decide) rfl : fld g0 3 2 = .int (0 : Int32))) dX5_groups_11 ?_
        refine q_iload_n hM dX5_groups_14 (lv_at hl 2 rfl) ?_
        refine q_callN (host := "ForgetSchool") (As := [.int (0 : Int32), .int i]) (rest := []) hM hW.1 hR hC myX11_has (List.mem_of_getElem? (i := 9) rfl) (c_X11_has _ _ cA ad g0 (0 : Int32) i hW.2.1) ⟨by decide, by decide⟩ rfl rfl hl.1 (Nat.le_of_ble_eq_true rfl) dX5_groups_15 (fun v g151 H locs hp hW1 => ?_)
        obtain ⟨r150, rfl, hr150, rfl⟩ := hp
        have hW : WS ad cA (fun i k => False) g0 K g0 H locs := ⟨hW1, hW.2.1, hW.2.2⟩
        have kr150 : r150.toInt = 0 := has_r0 hr150
        refine q_if_eq (tgt := 38) hM dX5_groups_18 (by decide) (kr150 : r150.toInt = 0) (fun h18 => ?_) (fun h18 => ?_)
        · refine q_iinc (lv9 := fun z152 => [(2, .int z152), (0, .ref (ad 3)), (1, .int (0 : Int32))]) hM dX5_groups_38 hl (kq := 2) rfl (by decide) (fun _ => rfl) (fun z152 ls hz152 hl => ?_)
          have tz152 := i_addT hz152 (rfl : i.toInt = i.toInt) (kc_1 : (Int32.ofInt 1).toInt = 1) (by omega) (by omega)
          refine q_goto (tgt := 4) hM dX5_groups_41 (by decide) ?_
          exact ih4 z152 _ _ _ (by omega) (by omega) (by omega) (lv_sub hl [1, 2, 0] rfl) hW
        · omega
  have := kc_0
  exact L4 _ (0 : Int32) _ _ _ (Nat.lt_succ_self _) (by omega) (by omega) (lv_sub hl [2, 1, 0] rfl) hW

theorem dX11_areSome_0 : decode cX11_areSome 0 = .ok (.iload_n 1, 1) := by decide +kernel
theorem dX11_areSome_1 : decode cX11_areSome 1 = .ok (.aload_n 0, 1) := by decide +kernel
theorem dX11_areSome_2 : decode cX11_areSome 2 = .ok (.getfield 26, 3) := by decide +kernel
theorem dX11_areSome_5 : decode cX11_areSome 5 = .ok (.getfield 135, 3) := by decide +kernel
theorem dX11_areSome_8 : decode cX11_areSome 8 = .ok (.invokestatic 227, 3) := by decide +kernel
theorem dX11_areSome_11 : decode cX11_areSome 11 = .ok (.ifCond .eq 15, 3) := by decide +kernel
theorem dX11_areSome_14 : decode cX11_areSome 14 = .ok (.iload_n 1, 1) := by decide +kernel
theorem dX11_areSome_15 : decode cX11_areSome 15 = .ok (.invokestatic 206, 3) := by decide +kernel
theorem dX11_areSome_18 : decode cX11_areSome 18 = .ok (.iconst 2, 1) := by decide +kernel
theorem dX11_areSome_19 : decode cX11_areSome 19 = .ok (.if_icmp .lt 7, 3) := by decide +kernel
theorem dX11_areSome_26 : decode cX11_areSome 26 = .ok (.iconst 0, 1) := by decide +kernel
theorem dX11_areSome_27 : decode cX11_areSome 27 = .ok (.ireturn, 1) := by decide +kernel
theorem FG_X11_26 : FG RX11 26 11 16 10 := ⟨RX11, TX11, rfl, wX11, by decide, kAW (v_1_7 (List.mem_of_getElem? (i := 6) rfl)) rfl, rfl⟩
theorem FG_X11_135 : FG RX11 135 7 8 3 := ⟨RX7, TX7, rfl, wX7, by decide, kAW (v_0_5 (List.mem_of_getElem? (i := 7) rfl)) rfl, rfl⟩
theorem myX11_areOf : MS yX11_areOf cX11_areOf 2 (some FieldType.boolean) 2 := ⟨kAW (v_3_4 (List.mem_of_getElem? (i := 8) rfl)) rfl, kAW (v_0_0 (List.mem_of_getElem? (i := 1) rfl)) rfl, kAW (v_3_4 (List.mem_of_getElem? (i := 7) rfl)) rfl, by decide, by decide, by decide +kernel⟩
theorem myJ6_bitCount_0f7a4 : MS yJ6_bitCount_0f7a4 cJ6_bitCount_0f7a4 1 (some FieldType.int) 1 := ⟨kAW (v_2_11 (List.mem_of_getElem? (i := 6) rfl)) rfl, kAW (v_0_1 (List.mem_of_getElem? (i := 4) rfl)) rfl, kAW (v_2_11 (List.mem_of_getElem? (i := 5) rfl)) rfl, by decide, by decide, by decide +kernel⟩
set_option maxRecDepth 100000 in
set_option maxHeartbeats 4000000 in
theorem c_X11_areSome (l : Launch) (D : va_G) (cA : Nat → ClassId) (ad : Nat → Nat) (g0 : Nat → va_E) (so : Int32) (hSh : Shp ad cA g0) (hF : ∀ j, j < NN → g0 j = gF ad cA j) : CT l NN ad cA D yX11_areSome cX11_areSome 2 (some FieldType.boolean) (1, 21) [.ref (ad 0), .int so] g0 (PU g0 (fun r => r.toInt = 0)) := by
  refine q_enterZ (by decide) (Nat.le_of_ble_eq_true rfl) (fun K H locs ls _ _ hM hW0 hR hC hE hl => ?_)
  have hl : lv_has ls 2 [(0, .ref (ad 0)), (1, .int so)] := hl
  have hW : WS ad cA (fun i k => False) g0 K g0 H locs := ⟨hW0, hSh, FR.rf⟩
  refine q_iload_n hM dX11_areSome_0 (lv_at hl 1 rfl) ?_
  refine q_aload_n hM dX11_areSome_1 (lv_at hl 0 rfl) ?_
  refine w_get (v := .ref (ad 18)) hM hW FG_X11_26 lb_0 (rf_0_10 hW.2.1) dX11_areSome_2 ?_
  refine w_get (v := .int (0 : Int32)) hM hW FG_X11_135 lb_18 ((hW.2.2.1 18 3 (fun h => h)).trans (zf hF (by decide) rfl : fld g0 18 3 = .int (0 : Int32))) dX11_areSome_5 ?_
  refine q_callS (As := [.int so, .int (0 : Int32)]) (rest := []) hM hW.1 hR hC myX11_areOf (kAW (v_3_4 (List.mem_of_getElem? (i := 6) rfl)) rfl) (c_X11_areOf _ _ cA ad g0 so (0 : Int32) hW.2.1) ⟨by decide, by decide⟩ rfl rfl hl.1 (Nat.le_of_ble_eq_true rfl) dX11_areSome_8 (fun v g154 H locs hp hW1 => ?_)
  obtain ⟨r153, rfl, hr153, rfl⟩ := hp
  have hW : WS ad cA (fun i k => False) g0 K g0 H locs := ⟨hW1, hW.2.1, hW.2.2⟩
  refine q_if_eq (tgt := 26) hM dX11_areSome_11 (by decide) (rfl : r153.toInt = r153.toInt) (fun h11 => ?_) (fun h11 => ?_)
  · refine q_iconst (v := (0 : Int32)) hM dX11_areSome_26 (by decide) ?_
    exact hE _ _ _ _ _ _ hW.1 nz_0 ⟨_, rfl, (by have := kc_0; exact kc_0), rfl⟩ dX11_areSome_27
  · refine q_iload_n hM dX11_areSome_14 (lv_at hl 1 rfl) ?_
    refine q_callS (As := [.int so]) (rest := []) hM hW.1 hR hC myJ6_bitCount_0f7a4 (kAW (v_3_1 (List.mem_of_getElem? (i := 2) rfl)) rfl) (c_J6_bitCount_0f7a4 _ _ cA ad g0 so hW.2.1) ⟨by decide, by decide⟩ rfl rfl hl.1 (Nat.le_of_ble_eq_true rfl) dX11_areSome_15 (fun v g156 H locs hp hW1 => ?_)
    obtain ⟨r155, rfl, hr155, rfl⟩ := hp
    have hW : WS ad cA (fun i k => False) g0 K g0 H locs := ⟨hW1, hW.2.1, hW.2.2⟩
    have kr155 : r155.toInt = 0 := by rw [hr155, areOf_0 hr153 h11, bcF_0]; rfl
    refine q_iconst (v := (2 : Int32)) hM dX11_areSome_18 (by decide) ?_
    refine q_icmp_lt (tgt := 26) hM dX11_areSome_19 (by decide) (kr155 : r155.toInt = 0) (kc_2 : (2 : Int32).toInt = 2) (fun h19 => ?_) (fun h19 => ?_)
    · refine q_iconst (v := (0 : Int32)) hM dX11_areSome_26 (by decide) ?_
      exact hE _ _ _ _ _ _ hW.1 nz_0 ⟨_, rfl, (by have := kc_0; exact kc_0), rfl⟩ dX11_areSome_27
    · omega

theorem dX11_canBeTried_0 : decode cX11_canBeTried 0 = .ok (.iload_n 1, 1) := by decide +kernel
theorem dX11_canBeTried_1 : decode cX11_canBeTried 1 = .ok (.iconst 1, 1) := by decide +kernel
theorem dX11_canBeTried_2 : decode cX11_canBeTried 2 = .ok (.bipush 60, 2) := by decide +kernel
theorem dX11_canBeTried_4 : decode cX11_canBeTried 4 = .ok (.invokestatic 112, 3) := by decide +kernel
theorem dX11_canBeTried_7 : decode cX11_canBeTried 7 = .ok (.ifCond .eq 67, 3) := by decide +kernel
theorem dX11_canBeTried_10 : decode cX11_canBeTried 10 = .ok (.iload_n 2, 1) := by decide +kernel
theorem dX11_canBeTried_11 : decode cX11_canBeTried 11 = .ok (.iconst 0, 1) := by decide +kernel
theorem dX11_canBeTried_12 : decode cX11_canBeTried 12 = .ok (.iconst 3, 1) := by decide +kernel
theorem dX11_canBeTried_13 : decode cX11_canBeTried 13 = .ok (.invokestatic 112, 3) := by decide +kernel
theorem dX11_canBeTried_16 : decode cX11_canBeTried 16 = .ok (.ifCond .ne 54, 3) := by decide +kernel
theorem dX11_canBeTried_19 : decode cX11_canBeTried 19 = .ok (.aload_n 0, 1) := by decide +kernel
theorem dX11_canBeTried_20 : decode cX11_canBeTried 20 = .ok (.getfield 26, 3) := by decide +kernel
theorem dX11_canBeTried_23 : decode cX11_canBeTried 23 = .ok (.getfield 135, 3) := by decide +kernel
theorem dX11_canBeTried_26 : decode cX11_canBeTried 26 = .ok (.iload_n 2, 1) := by decide +kernel
theorem dX11_canBeTried_27 : decode cX11_canBeTried 27 = .ok (.bipush 10, 2) := by decide +kernel
theorem dX11_canBeTried_29 : decode cX11_canBeTried 29 = .ok (.isub, 1) := by decide +kernel
theorem dX11_canBeTried_30 : decode cX11_canBeTried 30 = .ok (.invokestatic 123, 3) := by decide +kernel
theorem dX11_canBeTried_33 : decode cX11_canBeTried 33 = .ok (.ifCond .ne 37, 3) := by decide +kernel
theorem dX11_canBeTried_36 : decode cX11_canBeTried 36 = .ok (.aload_n 0, 1) := by decide +kernel
theorem dX11_canBeTried_37 : decode cX11_canBeTried 37 = .ok (.getfield 26, 3) := by decide +kernel
theorem dX11_canBeTried_40 : decode cX11_canBeTried 40 = .ok (.getfield 135, 3) := by decide +kernel
theorem dX11_canBeTried_43 : decode cX11_canBeTried 43 = .ok (.iload_n 2, 1) := by decide +kernel
theorem dX11_canBeTried_44 : decode cX11_canBeTried 44 = .ok (.bipush 20, 2) := by decide +kernel
theorem dX11_canBeTried_46 : decode cX11_canBeTried 46 = .ok (.isub, 1) := by decide +kernel
theorem dX11_canBeTried_47 : decode cX11_canBeTried 47 = .ok (.invokestatic 123, 3) := by decide +kernel
theorem dX11_canBeTried_50 : decode cX11_canBeTried 50 = .ok (.ifCond .ne 20, 3) := by decide +kernel
theorem dX11_canBeTried_53 : decode cX11_canBeTried 53 = .ok (.aload_n 0, 1) := by decide +kernel
theorem dX11_canBeTried_54 : decode cX11_canBeTried 54 = .ok (.getfield 19, 3) := by decide +kernel
theorem dX11_canBeTried_57 : decode cX11_canBeTried 57 = .ok (.getfield 116, 3) := by decide +kernel
theorem dX11_canBeTried_60 : decode cX11_canBeTried 60 = .ok (.iload_n 2, 1) := by decide +kernel
theorem dX11_canBeTried_61 : decode cX11_canBeTried 61 = .ok (.bipush 30, 2) := by decide +kernel
theorem dX11_canBeTried_63 : decode cX11_canBeTried 63 = .ok (.isub, 1) := by decide +kernel
theorem dX11_canBeTried_64 : decode cX11_canBeTried 64 = .ok (.invokestatic 123, 3) := by decide +kernel
theorem dX11_canBeTried_67 : decode cX11_canBeTried 67 = .ok (.ifCond .eq 7, 3) := by decide +kernel
theorem dX11_canBeTried_70 : decode cX11_canBeTried 70 = .ok (.iconst 1, 1) := by decide +kernel
theorem dX11_canBeTried_71 : decode cX11_canBeTried 71 = .ok (.goto 4, 3) := by decide +kernel
theorem dX11_canBeTried_74 : decode cX11_canBeTried 74 = .ok (.iconst 0, 1) := by decide +kernel
theorem dX11_canBeTried_75 : decode cX11_canBeTried 75 = .ok (.ireturn, 1) := by decide +kernel
theorem myX11_within : MS yX11_within cX11_within 3 (some FieldType.boolean) 3 := ⟨kAW (v_1_10 (List.mem_of_getElem? (i := 3) rfl)) rfl, kAW (v_0_0 (List.mem_of_getElem? (i := 1) rfl)) rfl, kAW (v_1_10 (List.mem_of_getElem? (i := 2) rfl)) rfl, by decide, by decide, by decide +kernel⟩
theorem FG_X11_19 : FG RX11 19 11 16 1 := ⟨RX11, TX11, rfl, wX11, by decide, kAW (v_1_6 (List.mem_of_getElem? (i := 13) rfl)) rfl, rfl⟩
theorem FG_X11_116 : FG RX11 116 5 3 2 := ⟨RX5, TX5, rfl, wX5, by decide, kAW (v_0_3 (List.mem_of_getElem? (i := 11) rfl)) rfl, rfl⟩
set_option maxRecDepth 100000 in
set_option maxHeartbeats 4000000 in
theorem c_X11_canBeTried (l : Launch) (D : va_G) (cA : Nat → ClassId) (ad : Nat → Nat) (g0 : Nat → va_E) (n what : Int32) (hSh : Shp ad cA g0) (hF : ∀ j, j < NN → g0 j = gF ad cA j) : CT l NN ad cA D yX11_canBeTried cX11_canBeTried 3 (some FieldType.boolean) (1, 22) [.ref (ad 0), .int n, .int what] g0 (PU g0 (fun r => (r.toInt = 1 ∧ 1 ≤ n.toInt ∧ n.toInt ≤ 60 ∧ 0 ≤ what.toInt ∧ what.toInt ≤ 3) ∨ (r.toInt = 0 ∧ (n.toInt < 1 ∨ 60 < n.toInt ∨ what.toInt < 0 ∨ 3 < what.toInt)))) := by
  refine q_enterZ (by decide) (Nat.le_of_ble_eq_true rfl) (fun K H locs ls _ _ hM hW0 hR hC hE hl => ?_)
  have hl : lv_has ls 3 [(0, .ref (ad 0)), (1, .int n), (2, .int what)] := hl
  have hW : WS ad cA (fun i k => False) g0 K g0 H locs := ⟨hW0, hSh, FR.rf⟩
  have := kc_0
  have := kc_1
  have := kc_3
  have := kc_60
  refine q_iload_n hM dX11_canBeTried_0 (lv_at hl 1 rfl) ?_
  refine q_iconst (v := (1 : Int32)) hM dX11_canBeTried_1 (by decide) ?_
  refine q_bipush (v := (60 : Int32)) hM dX11_canBeTried_2 (by decide) ?_
  refine q_callS (As := [.int n, .int (1 : Int32), .int (60 : Int32)]) (rest := []) hM hW.1 hR hC myX11_within (kAW (v_1_10 (List.mem_of_getElem? (i := 1) rfl)) rfl) (c_X11_within _ _ cA ad g0 n (1 : Int32) (60 : Int32) hW.2.1) ⟨by decide, by decide⟩ rfl rfl hl.1 (Nat.le_of_ble_eq_true rfl) dX11_canBeTried_4 (fun v g158 H locs hp hW1 => ?_)
  obtain ⟨r157, rfl, hr157, rfl⟩ := hp
  have hW : WS ad cA (fun i k => False) g0 K g0 H locs := ⟨hW1, hW.2.1, hW.2.2⟩
  refine q_if_eq (tgt := 74) hM dX11_canBeTried_7 (by decide) (rfl : r157.toInt = r157.toInt) (fun h7 => ?_) (fun h7 => ?_)
  · refine q_iconst (v := (0 : Int32)) hM dX11_canBeTried_74 (by decide) ?_
    exact hE _ _ _ _ _ _ hW.1 nz_0 ⟨_, rfl, (by have := kc_0; omega), rfl⟩ dX11_canBeTried_75
  · refine q_iload_n hM dX11_canBeTried_10 (lv_at hl 2 rfl) ?_
    refine q_iconst (v := (0 : Int32)) hM dX11_canBeTried_11 (by decide) ?_
    refine q_iconst (v := (3 : Int32)) hM dX11_canBeTried_12 (by decide) ?_
    refine q_callS (As := [.int what, .int (0 : Int32), .int (3 : Int32)]) (rest := []) hM hW.1 hR hC myX11_within (kAW (v_1_10 (List.mem_of_getElem? (i := 1) rfl)) rfl) (c_X11_within _ _ cA ad g0 what (0 : Int32) (3 : Int32) hW.2.1) ⟨by decide, by decide⟩ rfl rfl hl.1 (Nat.le_of_ble_eq_true rfl) dX11_canBeTried_13 (fun v g160 H locs hp hW1 => ?_)
    obtain ⟨r159, rfl, hr159, rfl⟩ := hp
    have hW : WS ad cA (fun i k => False) g0 K g0 H locs := ⟨hW1, hW.2.1, hW.2.2⟩
    refine q_if_ne (tgt := 70) hM dX11_canBeTried_16 (by decide) (rfl : r159.toInt = r159.toInt) (fun h16 => ?_) (fun h16 => ?_)
    · refine q_iconst (v := (1 : Int32)) hM dX11_canBeTried_70 (by decide) ?_
      refine q_goto (tgt := 75) hM dX11_canBeTried_71 (by decide) ?_
      exact hE _ _ _ _ _ _ hW.1 nz_1 ⟨_, rfl, (by have := kc_1; omega), rfl⟩ dX11_canBeTried_75
    · refine q_aload_n hM dX11_canBeTried_19 (lv_at hl 0 rfl) ?_
      refine w_get (v := .ref (ad 18)) hM hW FG_X11_26 lb_0 (rf_0_10 hW.2.1) dX11_canBeTried_20 ?_
      refine w_get (v := .int (0 : Int32)) hM hW FG_X11_135 lb_18 ((hW.2.2.1 18 3 (fun h => h)).trans (zf hF (by decide) rfl : fld g0 18 3 = .int (0 : Int32))) dX11_canBeTried_23 ?_
      refine q_iload_n hM dX11_canBeTried_26 (lv_at hl 2 rfl) ?_
      refine q_bipush (v := (10 : Int32)) hM dX11_canBeTried_27 (by decide) ?_
      refine q_isub hM dX11_canBeTried_29 (fun z161 hz161 => ?_)
      refine q_callS (As := [.int (0 : Int32), .int z161]) (rest := []) hM hW.1 hR hC myX11_has (kAW (v_1_10 (List.mem_of_getElem? (i := 8) rfl)) rfl) (c_X11_has _ _ cA ad g0 (0 : Int32) z161 hW.2.1) ⟨by decide, by decide⟩ rfl rfl hl.1 (Nat.le_of_ble_eq_true rfl) dX11_canBeTried_30 (fun v g163 H locs hp hW1 => ?_)
      obtain ⟨r162, rfl, hr162, rfl⟩ := hp
      have hW : WS ad cA (fun i k => False) g0 K g0 H locs := ⟨hW1, hW.2.1, hW.2.2⟩
      have kr162 : r162.toInt = 0 := has_r0 hr162
      refine q_if_ne (tgt := 70) hM dX11_canBeTried_33 (by decide) (kr162 : r162.toInt = 0) (fun h33 => ?_) (fun h33 => ?_)
      · omega
      · refine q_aload_n hM dX11_canBeTried_36 (lv_at hl 0 rfl) ?_
        refine w_get (v := .ref (ad 18)) hM hW FG_X11_26 lb_0 (rf_0_10 hW.2.1) dX11_canBeTried_37 ?_
        refine w_get (v := .int (0 : Int32)) hM hW FG_X11_135 lb_18 ((hW.2.2.1 18 3 (fun h => h)).trans (zf hF (by decide) rfl : fld g0 18 3 = .int (0 : Int32))) dX11_canBeTried_40 ?_
        refine q_iload_n hM dX11_canBeTried_43 (lv_at hl 2 rfl) ?_
        refine q_bipush (v := (20 : Int32)) hM dX11_canBeTried_44 (by decide) ?_
        refine q_isub hM dX11_canBeTried_46 (fun z164 hz164 => ?_)
        refine q_callS (As := [.int (0 : Int32), .int z164]) (rest := []) hM hW.1 hR hC myX11_has (kAW (v_1_10 (List.mem_of_getElem? (i := 8) rfl)) rfl) (c_X11_has _ _ cA ad g0 (0 : Int32) z164 hW.2.1) ⟨by decide, by decide⟩ rfl rfl hl.1 (Nat.le_of_ble_eq_true rfl) dX11_canBeTried_47 (fun v g166 H locs hp hW1 => ?_)
        obtain ⟨r165, rfl, hr165, rfl⟩ := hp
        have hW : WS ad cA (fun i k => False) g0 K g0 H locs := ⟨hW1, hW.2.1, hW.2.2⟩
        have kr165 : r165.toInt = 0 := has_r0 hr165
        refine q_if_ne (tgt := 70) hM dX11_canBeTried_50 (by decide) (kr165 : r165.toInt = 0) (fun h50 => ?_) (fun h50 => ?_)
        · omega
        · refine q_aload_n hM dX11_canBeTried_53 (lv_at hl 0 rfl) ?_
          refine w_get (v := .ref (ad 3)) hM hW FG_X11_19 lb_0 (rf_0_1 hW.2.1) dX11_canBeTried_54 ?_
          refine w_get (v := .int (0 : Int32)) hM hW FG_X11_116 lb_3 ((hW.2.2.1 3 2 (fun h => h)).trans (zf hF (by decide) rfl : fld g0 3 2 = .int (0 : Int32))) dX11_canBeTried_57 ?_
          refine q_iload_n hM dX11_canBeTried_60 (lv_at hl 2 rfl) ?_
          refine q_bipush (v := (30 : Int32)) hM dX11_canBeTried_61 (by decide) ?_
          refine q_isub hM dX11_canBeTried_63 (fun z167 hz167 => ?_)
          refine q_callS (As := [.int (0 : Int32), .int z167]) (rest := []) hM hW.1 hR hC myX11_has (kAW (v_1_10 (List.mem_of_getElem? (i := 8) rfl)) rfl) (c_X11_has _ _ cA ad g0 (0 : Int32) z167 hW.2.1) ⟨by decide, by decide⟩ rfl rfl hl.1 (Nat.le_of_ble_eq_true rfl) dX11_canBeTried_64 (fun v g169 H locs hp hW1 => ?_)
          obtain ⟨r168, rfl, hr168, rfl⟩ := hp
          have hW : WS ad cA (fun i k => False) g0 K g0 H locs := ⟨hW1, hW.2.1, hW.2.2⟩
          have kr168 : r168.toInt = 0 := has_r0 hr168
          refine q_if_eq (tgt := 74) hM dX11_canBeTried_67 (by decide) (kr168 : r168.toInt = 0) (fun h67 => ?_) (fun h67 => ?_)
          · refine q_iconst (v := (0 : Int32)) hM dX11_canBeTried_74 (by decide) ?_
            exact hE _ _ _ _ _ _ hW.1 nz_0 ⟨_, rfl, (by have := kc_0; omega), rfl⟩ dX11_canBeTried_75
          · omega

theorem dX11_trialTells_0 : decode cX11_trialTells 0 = .ok (.iload_n 1, 1) := by decide +kernel
theorem dX11_trialTells_1 : decode cX11_trialTells 1 = .ok (.bipush 10, 2) := by decide +kernel
theorem dX11_trialTells_3 : decode cX11_trialTells 3 = .ok (.bipush 17, 2) := by decide +kernel
theorem dX11_trialTells_5 : decode cX11_trialTells 5 = .ok (.invokestatic 112, 3) := by decide +kernel
theorem dX11_trialTells_8 : decode cX11_trialTells 8 = .ok (.ifCond .eq 18, 3) := by decide +kernel
theorem dX11_trialTells_26 : decode cX11_trialTells 26 = .ok (.iload_n 1, 1) := by decide +kernel
theorem dX11_trialTells_27 : decode cX11_trialTells 27 = .ok (.bipush 20, 2) := by decide +kernel
theorem dX11_trialTells_29 : decode cX11_trialTells 29 = .ok (.bipush 27, 2) := by decide +kernel
theorem dX11_trialTells_31 : decode cX11_trialTells 31 = .ok (.invokestatic 112, 3) := by decide +kernel
theorem dX11_trialTells_34 : decode cX11_trialTells 34 = .ok (.ifCond .eq 16, 3) := by decide +kernel
theorem dX11_trialTells_50 : decode cX11_trialTells 50 = .ok (.iload_n 1, 1) := by decide +kernel
theorem dX11_trialTells_51 : decode cX11_trialTells 51 = .ok (.bipush 30, 2) := by decide +kernel
theorem dX11_trialTells_53 : decode cX11_trialTells 53 = .ok (.bipush 41, 2) := by decide +kernel
theorem dX11_trialTells_55 : decode cX11_trialTells 55 = .ok (.invokestatic 112, 3) := by decide +kernel
theorem dX11_trialTells_58 : decode cX11_trialTells 58 = .ok (.ifCond .eq 15, 3) := by decide +kernel
theorem dX11_trialTells_73 : decode cX11_trialTells 73 = .ok (.iload_n 1, 1) := by decide +kernel
theorem dX11_trialTells_74 : decode cX11_trialTells 74 = .ok (.tableswitch 66 0 2 #[26, 42, 50], 26) := by decide +kernel
theorem dX11_trialTells_100 : decode cX11_trialTells 100 = .ok (.aload_n 0, 1) := by decide +kernel
theorem dX11_trialTells_101 : decode cX11_trialTells 101 = .ok (.getfield 33, 3) := by decide +kernel
theorem dX11_trialTells_104 : decode cX11_trialTells 104 = .ok (.getfield 173, 3) := by decide +kernel
theorem dX11_trialTells_107 : decode cX11_trialTells 107 = .ok (.aload_n 0, 1) := by decide +kernel
theorem dX11_trialTells_108 : decode cX11_trialTells 108 = .ok (.getfield 26, 3) := by decide +kernel
theorem dX11_trialTells_111 : decode cX11_trialTells 111 = .ok (.getfield 173, 3) := by decide +kernel
theorem dX11_trialTells_114 : decode cX11_trialTells 114 = .ok (.isub, 1) := by decide +kernel
theorem dX11_trialTells_115 : decode cX11_trialTells 115 = .ok (.ireturn, 1) := by decide +kernel
theorem dX11_trialTells_116 : decode cX11_trialTells 116 = .ok (.aload_n 0, 1) := by decide +kernel
theorem dX11_trialTells_117 : decode cX11_trialTells 117 = .ok (.getfield 83, 3) := by decide +kernel
theorem dX11_trialTells_120 : decode cX11_trialTells 120 = .ok (.getfield 334, 3) := by decide +kernel
theorem dX11_trialTells_123 : decode cX11_trialTells 123 = .ok (.ireturn, 1) := by decide +kernel
theorem dX11_trialTells_124 : decode cX11_trialTells 124 = .ok (.aload_n 0, 1) := by decide +kernel
theorem dX11_trialTells_125 : decode cX11_trialTells 125 = .ok (.getfield 33, 3) := by decide +kernel
theorem dX11_trialTells_128 : decode cX11_trialTells 128 = .ok (.getfield 328, 3) := by decide +kernel
theorem dX11_trialTells_131 : decode cX11_trialTells 131 = .ok (.aload_n 0, 1) := by decide +kernel
theorem dX11_trialTells_132 : decode cX11_trialTells 132 = .ok (.getfield 26, 3) := by decide +kernel
theorem dX11_trialTells_135 : decode cX11_trialTells 135 = .ok (.getfield 328, 3) := by decide +kernel
theorem dX11_trialTells_138 : decode cX11_trialTells 138 = .ok (.isub, 1) := by decide +kernel
theorem dX11_trialTells_139 : decode cX11_trialTells 139 = .ok (.ireturn, 1) := by decide +kernel
theorem dX11_trialTells_140 : decode cX11_trialTells 140 = .ok (.aload_n 0, 1) := by decide +kernel
theorem dX11_trialTells_141 : decode cX11_trialTells 141 = .ok (.getfield 83, 3) := by decide +kernel
theorem dX11_trialTells_144 : decode cX11_trialTells 144 = .ok (.getfield 337, 3) := by decide +kernel
theorem dX11_trialTells_147 : decode cX11_trialTells 147 = .ok (.ireturn, 1) := by decide +kernel
theorem FG_X11_83 : FG RX11 83 11 16 2 := ⟨RX11, TX11, rfl, wX11, by decide, kAW (v_1_6 (List.mem_of_getElem? (i := 14) rfl)) rfl, rfl⟩
theorem FG_X11_337 : FG RX11 337 2 11 8 := ⟨RX2, TX2, rfl, wX2, by decide, kAW (v_1_0 (List.mem_of_getElem? (i := 3) rfl)) rfl, rfl⟩
theorem FG_X11_33 : FG RX11 33 11 16 12 := ⟨RX11, TX11, rfl, wX11, by decide, kAW (v_1_7 (List.mem_of_getElem? (i := 8) rfl)) rfl, rfl⟩
theorem FG_X11_173 : FG RX11 173 7 8 5 := ⟨RX7, TX7, rfl, wX7, by decide, kAW (v_0_5 (List.mem_of_getElem? (i := 13) rfl)) rfl, rfl⟩
theorem FG_X11_334 : FG RX11 334 2 11 7 := ⟨RX2, TX2, rfl, wX2, by decide, kAW (v_1_0 (List.mem_of_getElem? (i := 1) rfl)) rfl, rfl⟩
theorem FG_X11_328 : FG RX11 328 7 8 6 := ⟨RX7, TX7, rfl, wX7, by decide, kAW (v_0_6 (List.mem_of_getElem? (i := 0) rfl)) rfl, rfl⟩
set_option maxRecDepth 100000 in
set_option maxHeartbeats 4000000 in
theorem c_X11_trialTells (l : Launch) (D : va_G) (cA : Nat → ClassId) (ad : Nat → Nat) (g0 : Nat → va_E) (what : Int32) (hSh : Shp ad cA g0) (a1 : fld g0 42 5 = .int 0) (a2 : fld g0 18 5 = .int 0) (a3 : fld g0 80 7 = .int 0) (a4 : fld g0 42 6 = .int 0) (a5 : fld g0 18 6 = .int 0) (a6 : fld g0 80 8 = .int 0) (w0 : 0 ≤ what.toInt) (w3 : what.toInt ≤ 3) : CT l NN ad cA D yX11_trialTells cX11_trialTells 2 (some FieldType.int) (1, 22) [.ref (ad 0), .int what] g0 (PU g0 (fun r => r.toInt = 0)) := by
  refine q_enterI (by decide) (Nat.le_of_ble_eq_true rfl) rfl (fun K H locs ls _ _ hM hW0 hR hC hE hl => ?_)
  have hl : lv_has ls 2 [(0, .ref (ad 0)), (1, .int what)] := hl
  have hW : WS ad cA (fun i k => False) g0 K g0 H locs := ⟨hW0, hSh, FR.rf⟩
  have := kc_0
  have := kc_10
  have := kc_17
  have := kc_20
  have := kc_27
  have := kc_30
  have := kc_41
  refine q_iload_n hM dX11_trialTells_0 (lv_at hl 1 rfl) ?_
  refine q_bipush (v := (10 : Int32)) hM dX11_trialTells_1 (by decide) ?_
  refine q_bipush (v := (17 : Int32)) hM dX11_trialTells_3 (by decide) ?_
  refine q_callS (As := [.int what, .int (10 : Int32), .int (17 : Int32)]) (rest := []) hM hW.1 hR hC myX11_within (kAW (v_1_10 (List.mem_of_getElem? (i := 1) rfl)) rfl) (c_X11_within _ _ cA ad g0 what (10 : Int32) (17 : Int32) hW.2.1) ⟨by decide, by decide⟩ rfl rfl hl.1 (Nat.le_of_ble_eq_true rfl) dX11_trialTells_5 (fun v g171 H locs hp hW1 => ?_)
  obtain ⟨r170, rfl, hr170, rfl⟩ := hp
  have hW : WS ad cA (fun i k => False) g0 K g0 H locs := ⟨hW1, hW.2.1, hW.2.2⟩
  refine q_if_eq (tgt := 26) hM dX11_trialTells_8 (by decide) (rfl : r170.toInt = r170.toInt) (fun h8 => ?_) (fun h8 => ?_)
  · refine q_iload_n hM dX11_trialTells_26 (lv_at hl 1 rfl) ?_
    refine q_bipush (v := (20 : Int32)) hM dX11_trialTells_27 (by decide) ?_
    refine q_bipush (v := (27 : Int32)) hM dX11_trialTells_29 (by decide) ?_
    refine q_callS (As := [.int what, .int (20 : Int32), .int (27 : Int32)]) (rest := []) hM hW.1 hR hC myX11_within (kAW (v_1_10 (List.mem_of_getElem? (i := 1) rfl)) rfl) (c_X11_within _ _ cA ad g0 what (20 : Int32) (27 : Int32) hW.2.1) ⟨by decide, by decide⟩ rfl rfl hl.1 (Nat.le_of_ble_eq_true rfl) dX11_trialTells_31 (fun v g173 H locs hp hW1 => ?_)
    obtain ⟨r172, rfl, hr172, rfl⟩ := hp
    have hW : WS ad cA (fun i k => False) g0 K g0 H locs := ⟨hW1, hW.2.1, hW.2.2⟩
    refine q_if_eq (tgt := 50) hM dX11_trialTells_34 (by decide) (rfl : r172.toInt = r172.toInt) (fun h34 => ?_) (fun h34 => ?_)
    · refine q_iload_n hM dX11_trialTells_50 (lv_at hl 1 rfl) ?_
      refine q_bipush (v := (30 : Int32)) hM dX11_trialTells_51 (by decide) ?_
      refine q_bipush (v := (41 : Int32)) hM dX11_trialTells_53 (by decide) ?_
      refine q_callS (As := [.int what, .int (30 : Int32), .int (41 : Int32)]) (rest := []) hM hW.1 hR hC myX11_within (kAW (v_1_10 (List.mem_of_getElem? (i := 1) rfl)) rfl) (c_X11_within _ _ cA ad g0 what (30 : Int32) (41 : Int32) hW.2.1) ⟨by decide, by decide⟩ rfl rfl hl.1 (Nat.le_of_ble_eq_true rfl) dX11_trialTells_55 (fun v g175 H locs hp hW1 => ?_)
      obtain ⟨r174, rfl, hr174, rfl⟩ := hp
      have hW : WS ad cA (fun i k => False) g0 K g0 H locs := ⟨hW1, hW.2.1, hW.2.2⟩
      refine q_if_eq (tgt := 73) hM dX11_trialTells_58 (by decide) (rfl : r174.toInt = r174.toInt) (fun h58 => ?_) (fun h58 => ?_)
      · refine q_iload_n hM dX11_trialTells_73 (lv_at hl 1 rfl) ?_
        rcases (show what.toInt < 0 ∨ 2 < what.toInt ∨ what.toInt = 0 ∨ what.toInt = 1 ∨ what.toInt = 2 from by omega) with h74 | h74 | h74 | h74 | h74
        · refine q_tableOut (tgt := 140) hM dX11_trialTells_74 rfl (by omega) (by decide) ?_
          refine q_aload_n hM dX11_trialTells_140 (lv_at hl 0 rfl) ?_
          refine w_get (v := .ref (ad 80)) hM hW FG_X11_83 lb_0 (rf_0_2 hW.2.1) dX11_trialTells_141 ?_
          refine w_get (v := .int (0 : Int32)) hM hW FG_X11_337 lb_80 ((hW.2.2.1 80 8 (fun h => h)).trans a6) dX11_trialTells_144 ?_
          exact hE _ _ _ _ _ _ hW.1 ⟨_, rfl, kc_0, rfl⟩ dX11_trialTells_147
        · refine q_tableOut (tgt := 140) hM dX11_trialTells_74 rfl (by omega) (by decide) ?_
          refine q_aload_n hM dX11_trialTells_140 (lv_at hl 0 rfl) ?_
          refine w_get (v := .ref (ad 80)) hM hW FG_X11_83 lb_0 (rf_0_2 hW.2.1) dX11_trialTells_141 ?_
          refine w_get (v := .int (0 : Int32)) hM hW FG_X11_337 lb_80 ((hW.2.2.1 80 8 (fun h => h)).trans a6) dX11_trialTells_144 ?_
          exact hE _ _ _ _ _ _ hW.1 ⟨_, rfl, kc_0, rfl⟩ dX11_trialTells_147
        · refine q_tableIn (tgt := 100) hM dX11_trialTells_74 ((rfl : what.toInt = _).trans h74) (by decide) (by decide) rfl (by decide) ?_
          refine q_aload_n hM dX11_trialTells_100 (lv_at hl 0 rfl) ?_
          refine w_get (v := .ref (ad 42)) hM hW FG_X11_33 lb_0 (rf_0_12 hW.2.1) dX11_trialTells_101 ?_
          refine w_get (v := .int (0 : Int32)) hM hW FG_X11_173 lb_42 ((hW.2.2.1 42 5 (fun h => h)).trans a1) dX11_trialTells_104 ?_
          refine q_aload_n hM dX11_trialTells_107 (lv_at hl 0 rfl) ?_
          refine w_get (v := .ref (ad 18)) hM hW FG_X11_26 lb_0 (rf_0_10 hW.2.1) dX11_trialTells_108 ?_
          refine w_get (v := .int (0 : Int32)) hM hW FG_X11_173 lb_18 ((hW.2.2.1 18 5 (fun h => h)).trans a2) dX11_trialTells_111 ?_
          refine q_isub hM dX11_trialTells_114 (fun z176 hz176 => ?_)
          have tz176 := i_subT hz176 (kc_0 : (0 : Int32).toInt = 0) (kc_0 : (0 : Int32).toInt = 0) (by omega) (by omega)
          exact hE _ _ _ _ _ _ hW.1 ⟨_, rfl, (by omega), rfl⟩ dX11_trialTells_115
        · refine q_tableIn (tgt := 116) hM dX11_trialTells_74 ((rfl : what.toInt = _).trans h74) (by decide) (by decide) rfl (by decide) ?_
          refine q_aload_n hM dX11_trialTells_116 (lv_at hl 0 rfl) ?_
          refine w_get (v := .ref (ad 80)) hM hW FG_X11_83 lb_0 (rf_0_2 hW.2.1) dX11_trialTells_117 ?_
          refine w_get (v := .int (0 : Int32)) hM hW FG_X11_334 lb_80 ((hW.2.2.1 80 7 (fun h => h)).trans a3) dX11_trialTells_120 ?_
          exact hE _ _ _ _ _ _ hW.1 ⟨_, rfl, kc_0, rfl⟩ dX11_trialTells_123
        · refine q_tableIn (tgt := 124) hM dX11_trialTells_74 ((rfl : what.toInt = _).trans h74) (by decide) (by decide) rfl (by decide) ?_
          refine q_aload_n hM dX11_trialTells_124 (lv_at hl 0 rfl) ?_
          refine w_get (v := .ref (ad 42)) hM hW FG_X11_33 lb_0 (rf_0_12 hW.2.1) dX11_trialTells_125 ?_
          refine w_get (v := .int (0 : Int32)) hM hW FG_X11_328 lb_42 ((hW.2.2.1 42 6 (fun h => h)).trans a4) dX11_trialTells_128 ?_
          refine q_aload_n hM dX11_trialTells_131 (lv_at hl 0 rfl) ?_
          refine w_get (v := .ref (ad 18)) hM hW FG_X11_26 lb_0 (rf_0_10 hW.2.1) dX11_trialTells_132 ?_
          refine w_get (v := .int (0 : Int32)) hM hW FG_X11_328 lb_18 ((hW.2.2.1 18 6 (fun h => h)).trans a5) dX11_trialTells_135 ?_
          refine q_isub hM dX11_trialTells_138 (fun z177 hz177 => ?_)
          have tz177 := i_subT hz177 (kc_0 : (0 : Int32).toInt = 0) (kc_0 : (0 : Int32).toInt = 0) (by omega) (by omega)
          exact hE _ _ _ _ _ _ hW.1 ⟨_, rfl, (by omega), rfl⟩ dX11_trialTells_139
      · omega
    · omega
  · omega

theorem dX11_beginTrial_0 : decode cX11_beginTrial 0 = .ok (.aload_n 0, 1) := by decide +kernel
theorem dX11_beginTrial_1 : decode cX11_beginTrial 1 = .ok (.getfield 33, 3) := by decide +kernel
theorem dX11_beginTrial_4 : decode cX11_beginTrial 4 = .ok (.aload_n 0, 1) := by decide +kernel
theorem dX11_beginTrial_5 : decode cX11_beginTrial 5 = .ok (.getfield 26, 3) := by decide +kernel
theorem dX11_beginTrial_8 : decode cX11_beginTrial 8 = .ok (.invokevirtual 319, 3) := by decide +kernel
theorem dX11_beginTrial_11 : decode cX11_beginTrial 11 = .ok (.aload_n 0, 1) := by decide +kernel
theorem dX11_beginTrial_12 : decode cX11_beginTrial 12 = .ok (.getfield 83, 3) := by decide +kernel
theorem dX11_beginTrial_15 : decode cX11_beginTrial 15 = .ok (.aload_n 1, 1) := by decide +kernel
theorem dX11_beginTrial_16 : decode cX11_beginTrial 16 = .ok (.aload_n 0, 1) := by decide +kernel
theorem dX11_beginTrial_17 : decode cX11_beginTrial 17 = .ok (.getfield 33, 3) := by decide +kernel
theorem dX11_beginTrial_20 : decode cX11_beginTrial 20 = .ok (.invokevirtual 176, 3) := by decide +kernel
theorem dX11_beginTrial_23 : decode cX11_beginTrial 23 = .ok (.return_, 1) := by decide +kernel
theorem myX7_become : MI yX7_become cX7_become 4 none 1 := ⟨kAW (v_3_0 (List.mem_of_getElem? (i := 12) rfl)) rfl, kAW (v_0_0 (List.mem_of_getElem? (i := 4) rfl)) rfl, kAW (v_3_0 (List.mem_of_getElem? (i := 10) rfl)) rfl, kAW (v_3_0 (List.mem_of_getElem? (i := 11) rfl)) rfl, by decide, by decide, by decide +kernel⟩
theorem myX2_begin : MI yX2_begin cX2_begin 3 none 2 := ⟨kAW (v_2_9 (List.mem_of_getElem? (i := 14) rfl)) rfl, kAW (v_0_0 (List.mem_of_getElem? (i := 9) rfl)) rfl, kAW (v_2_9 (List.mem_of_getElem? (i := 12) rfl)) rfl, kAW (v_2_9 (List.mem_of_getElem? (i := 13) rfl)) rfl, by decide, by decide, by decide +kernel⟩
set_option maxRecDepth 100000 in
set_option maxHeartbeats 4000000 in
theorem c_X11_beginTrial (l : Launch) (D : va_G) (cA : Nat → ClassId) (ad : Nat → Nat) (g0 : Nat → va_E) (lw : Nat) (tl wk ps rc xx : Int32) (hSh : Shp ad cA g0) (htl : fld g0 18 3 = .int tl) (hwk : fld g0 18 4 = .int wk) (hps : fld g0 18 5 = .int ps) (hrc : fld g0 18 6 = .int rc) (hxx : fld g0 18 7 = .int xx) : CT l NN ad cA D yX11_beginTrial cX11_beginTrial 2 none (1, 23) [.ref (ad 0), .ref (ad lw)] g0 (fun v g' => v = none ∧ Shp ad cA g' ∧ FR (fun i k => i = 43 ∨ i = 44 ∨ (46 ≤ i ∧ i < 54) ∨ (i = 42 ∧ (k = 3 ∨ k = 4 ∨ k = 5 ∨ k = 6 ∨ k = 7)) ∨ (i = 80 ∧ (k = 7 ∨ k = 8 ∨ k = 9 ∨ k = 10))) g0 g' ∧ fld g' 42 3 = .int tl ∧ fld g' 42 4 = .int wk ∧ fld g' 42 5 = .int ps ∧ fld g' 42 6 = .int rc ∧ fld g' 42 7 = .int xx ∧ fld g' 80 7 = .int (0 : Int32) ∧ fld g' 80 8 = .int (0 : Int32) ∧ fld g' 80 9 = .ref (ad lw) ∧ fld g' 80 10 = .ref (ad 42)) := by
  refine q_enterV (by decide) (Nat.le_of_ble_eq_true rfl) (fun K H locs ls _ _ hM hW0 hR hC hE hl => ?_)
  have hl : lv_has ls 2 [(0, .ref (ad 0)), (1, .ref (ad lw))] := hl
  have hW : WS ad cA (fun i k => i = 43 ∨ i = 44 ∨ (46 ≤ i ∧ i < 54) ∨ (i = 42 ∧ (k = 3 ∨ k = 4 ∨ k = 5 ∨ k = 6 ∨ k = 7)) ∨ (i = 80 ∧ (k = 7 ∨ k = 8 ∨ k = 9 ∨ k = 10))) g0 K g0 H locs := ⟨hW0, hSh, FR.rf⟩
  refine q_aload_n hM dX11_beginTrial_0 (lv_at hl 0 rfl) ?_
  refine w_get (v := .ref (ad 42)) hM hW FG_X11_33 lb_0 (rf_0_12 hW.2.1) dX11_beginTrial_1 ?_
  refine q_aload_n hM dX11_beginTrial_4 (lv_at hl 0 rfl) ?_
  refine w_get (v := .ref (ad 18)) hM hW FG_X11_26 lb_0 (rf_0_10 hW.2.1) dX11_beginTrial_5 ?_
  refine q_callV (As := [.ref (ad 18)]) (rest := []) hM hW.1 hR hC myX7_become (kAW (v_3_0 (List.mem_of_getElem? (i := 9) rfl)) rfl) (rfl : vwCl[7]? = some (RX7, TX7, 8)) rfl lb_42.1 (shO hW.2.1 lb_42) (c_X7_become_42 _ _ cA ad g0 tl wk ps rc xx hW.2.1 ((hW.2.2.1 18 3 (by omega)).trans htl) ((hW.2.2.1 18 4 (by omega)).trans hwk) ((hW.2.2.1 18 5 (by omega)).trans hps) ((hW.2.2.1 18 6 (by omega)).trans hrc) ((hW.2.2.1 18 7 (by omega)).trans hxx)) ⟨by decide, by decide⟩ rfl rfl hl.1 (Nat.le_of_ble_eq_true rfl) dX11_beginTrial_8 (fun v g183 H locs hp hW1 => ?_)
  obtain ⟨rfl, hs1, hf1, q178, q179, q180, q181, q182⟩ := hp
  have hW : WS ad cA (fun i k => i = 43 ∨ i = 44 ∨ (46 ≤ i ∧ i < 54) ∨ (i = 42 ∧ (k = 3 ∨ k = 4 ∨ k = 5 ∨ k = 6 ∨ k = 7)) ∨ (i = 80 ∧ (k = 7 ∨ k = 8 ∨ k = 9 ∨ k = 10))) g0 K g183 H locs := ⟨hW1, hs1, hW.2.2.tr hf1 (fun i k h => by omega)⟩
  refine q_aload_n hM dX11_beginTrial_11 (lv_at hl 0 rfl) ?_
  refine w_get (v := .ref (ad 80)) hM hW FG_X11_83 lb_0 (rf_0_2 hW.2.1) dX11_beginTrial_12 ?_
  refine q_aload_n hM dX11_beginTrial_15 (lv_at hl 1 rfl) ?_
  refine q_aload_n hM dX11_beginTrial_16 (lv_at hl 0 rfl) ?_
  refine w_get (v := .ref (ad 42)) hM hW FG_X11_33 lb_0 (rf_0_12 hW.2.1) dX11_beginTrial_17 ?_
  refine q_callV (As := [.ref (ad lw), .ref (ad 42)]) (rest := []) hM hW.1 hR hC myX2_begin (kAW (v_2_9 (List.mem_of_getElem? (i := 11) rfl)) rfl) (rfl : vwCl[2]? = some (RX2, TX2, 11)) rfl lb_80.1 (shO hW.2.1 lb_80) (c_X2_begin _ _ cA ad g183 lw 42 hW.2.1) ⟨by decide, by decide⟩ rfl rfl hl.1 (Nat.le_of_ble_eq_true rfl) dX11_beginTrial_20 (fun v g188 H locs hp hW1 => ?_)
  obtain ⟨rfl, hs1, hf1, q184, q185, q186, q187⟩ := hp
  have f189 : fld g188 42 3 = .int tl := (hf1.1 42 3 (by omega)).trans q178
  have f190 : fld g188 42 4 = .int wk := (hf1.1 42 4 (by omega)).trans q179
  have f191 : fld g188 42 5 = .int ps := (hf1.1 42 5 (by omega)).trans q180
  have f192 : fld g188 42 6 = .int rc := (hf1.1 42 6 (by omega)).trans q181
  have f193 : fld g188 42 7 = .int xx := (hf1.1 42 7 (by omega)).trans q182
  have hW : WS ad cA (fun i k => i = 43 ∨ i = 44 ∨ (46 ≤ i ∧ i < 54) ∨ (i = 42 ∧ (k = 3 ∨ k = 4 ∨ k = 5 ∨ k = 6 ∨ k = 7)) ∨ (i = 80 ∧ (k = 7 ∨ k = 8 ∨ k = 9 ∨ k = 10))) g0 K g188 H locs := ⟨hW1, hs1, hW.2.2.tr hf1 (fun i k h => by omega)⟩
  exact hE _ _ _ _ _ hW.1 ⟨rfl, hW.2.1, hW.2.2, f189, f190, f191, f192, f193, q184, q185, q186, q187⟩ dX11_beginTrial_23
