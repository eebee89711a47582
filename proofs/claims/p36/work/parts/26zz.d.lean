
set_option maxRecDepth 100000 in
set_option maxHeartbeats 4000000 in
theorem s_X9_calmestRoom (l : Launch) (D : va_G) (cA : Nat → ClassId) (ad : Nat → Nat) (g0 : Nat → va_E) (so : Int32) (hSh : Shp ad cA g0) (hG : Rng g0) (q0 : 0 ≤ so.toInt) (q1 : so.toInt < 256) (q2 : 2 ≤ cb so 12) (hR : ∀ p q : Nat, p < 8 → q < 8 → 0 ≤ (rX g0 p q).toInt ∧ (rX g0 p q).toInt ≤ 99) : CT l NN ad cA D yX9_calmestRoom cX9_calmestRoom 7 (some FieldType.int) (2, 45) [.ref (ad 102), .int so] g0 (PU g0 (fun r => AR (vX (rX g0) so) (so &&& (so - 1)) r ∧ 0 ≤ r.toInt ∧ r.toInt < 256)) := by
  refine q_enterI (by decide) (Nat.le_of_ble_eq_true rfl) rfl (fun K H locs ls _ _ hM hW0 hR hC hE hl => ?_)
  have hl : lv_has ls 7 [(0, .ref (ad 102)), (1, .int so)] := hl
  have hW : WS ad cA (fun i k => False) g0 K g0 H locs := ⟨hW0, hSh, FR.rf⟩
  have := kc_0
  have := kc_1
  have hz9 := rest_of q0 q1 q2
  refine q_iload_n hM dX9_calmestRoom_0 (lv_at hl 1 rfl) ?_
  refine q_iload_n hM dX9_calmestRoom_1 (lv_at hl 1 rfl) ?_
  refine q_callN (host := "ForgetSchool") (As := [.int so]) (rest := [.int so]) hM hW.1 hR hC myX11_lowestBit (List.mem_of_getElem? (i := 11) rfl) (s8_X11_lowestBit _ _ cA ad g0 so hW.2.1 hG) ⟨by decide, by decide⟩ rfl rfl hl.1 (Nat.le_of_ble_eq_true rfl) dX9_calmestRoom_2 (fun v g13783 H locs hp hW1 => ?_)
  obtain ⟨r13782, rfl, hr13782, rfl⟩ := hp
  have hW : WS ad cA (fun i k => False) g0 K g0 H locs := ⟨hW1, hW.2.1, hW.2.2⟩
  refine q_iconst (v := ((-1) : Int32)) hM dX9_calmestRoom_5 (by decide) ?_
  refine q_ixor hM dX9_calmestRoom_6 (fun z13784 hz13784 => ?_)
  refine q_iand hM dX9_calmestRoom_7 (fun z13785 hz13785 => ?_)
  have ho9 : z13785 = (so &&& (so - 1)) := by rw [← hz9.1, ← hr13782, hz13784, hz13785]
  have hp9 : 1 ≤ z13785.toInt ∧ z13785.toInt < 256 := by rw [ho9]; exact ⟨hz9.2.1, hz9.2.2.1⟩
  refine q_istore_n (lv9 := [(2, .int z13785), (0, .ref (ad 102)), (1, .int so)]) hM dX9_calmestRoom_8 hl (by decide) rfl (fun ls hl => ?_)
  refine q_iload_n hM dX9_calmestRoom_9 (lv_at hl 0 rfl) ?_
  refine q_istore_n (lv9 := [(3, .int z13785), (2, .int z13785), (0, .ref (ad 102)), (1, .int so)]) hM dX9_calmestRoom_10 hl (by decide) rfl (fun ls hl => ?_)
  refine q_aload_n hM dX9_calmestRoom_11 (lv_at hl 2 rfl) ?_
  refine q_iload_n hM dX9_calmestRoom_12 (lv_at hl 1 rfl) ?_
  refine q_callV (As := [.int z13785]) (rest := []) hM hW.1 hR hC myX9_noise (kAW (v_3_11 (List.mem_of_getElem? (i := 12) rfl)) rfl) (rfl : vwCl[9]? = some (RX9, TX9, 5)) rfl lb_102.1 (shO hW.2.1 lb_102) (s_X9_noise _ _ cA ad g0 z13785 hW.2.1 hG hR) ⟨by decide, by decide⟩ rfl rfl hl.1 (Nat.le_of_ble_eq_true rfl) dX9_calmestRoom_13 (fun v g13787 H locs hp hW1 => ?_)
  obtain ⟨r13786, rfl, hr13786, rfl⟩ := hp
  have hW : WS ad cA (fun i k => False) g0 K g0 H locs := ⟨hW1, hW.2.1, hW.2.2⟩
  refine q_istore (lv9 := [(4, .int r13786), (3, .int z13785), (2, .int z13785), (0, .ref (ad 102)), (1, .int so)]) hM dX9_calmestRoom_16 hl (by decide) rfl (fun ls hl => ?_)
  refine q_iconst (v := (1 : Int32)) hM dX9_calmestRoom_18 (by decide) ?_
  refine q_istore (lv9 := [(5, .int (1 : Int32)), (4, .int r13786), (3, .int z13785), (2, .int z13785), (0, .ref (ad 102)), (1, .int so)]) hM dX9_calmestRoom_19 hl (by decide) rfl (fun ls hl => ?_)
  have L21 : ∀ (fu21 : Nat) (w21_4 : Int32) (w21_3 : Int32) (w21_5 : Int32) (H : Heap) (locs : List Loc) (ls : Array Slot), (z13785.toInt - w21_5.toInt + 1).toNat < fu21 → (1 ≤ w21_5.toInt) → (1 ≤ w21_5.toInt) → (0 ≤ w21_3.toInt ∧ w21_3.toInt < 256) → (BR (vX (rX g0) so) (so &&& (so - 1)) w21_3 w21_4.toInt w21_5.toInt) → lv_has ls 7 [(0, .ref (ad 102)), (1, .int so), (2, .int z13785), (3, .int w21_3), (4, .int w21_4), (5, .int w21_5)] → WS ad cA (fun i k => False) g0 K g0 H locs → XX K 0 0 H locs 21 ls [] := by
    intro fu21
    induction fu21 with
    | zero => intro w21_4 w21_3 w21_5 H locs ls h0; omega
    | succ fu21 ih21 =>
      intro w21_4 w21_3 w21_5 H locs ls hm21 i21_0 i21_1 i21_2 i21_3 hl hW
      have := i_rng z13785
      refine q_iload hM dX9_calmestRoom_21 (lv_at hl 5 rfl) ?_
      refine q_iload_n hM dX9_calmestRoom_23 (lv_at hl 2 rfl) ?_
      refine q_icmp_ge (tgt := 88) hM dX9_calmestRoom_24 (by decide) (rfl : w21_5.toInt = w21_5.toInt) (rfl : z13785.toInt = z13785.toInt) (fun h24 => ?_) (fun h24 => ?_)
      · refine q_iload_n hM dX9_calmestRoom_88 (lv_at hl 3 rfl) ?_
        exact hE _ _ _ _ _ _ hW.1 ⟨_, rfl, ⟨BR_end i21_3 (by rw [← ho9]; omega) (by rw [← ho9]; omega), by omega, by omega⟩, rfl⟩ dX9_calmestRoom_89
      · refine q_iload hM dX9_calmestRoom_27 (lv_at hl 5 rfl) ?_
        refine q_iload_n hM dX9_calmestRoom_29 (lv_at hl 2 rfl) ?_
        refine q_callN (host := "ForgetSchool") (As := [.int w21_5, .int z13785]) (rest := []) hM hW.1 hR hC myX11_areOf (List.mem_of_getElem? (i := 13) rfl) (c_X11_areOf _ _ cA ad g0 w21_5 z13785 hW.2.1) ⟨by decide, by decide⟩ rfl rfl hl.1 (Nat.le_of_ble_eq_true rfl) dX9_calmestRoom_30 (fun v g13792 H locs hp hW1 => ?_)
        obtain ⟨r13791, rfl, hr13791, rfl⟩ := hp
        have hW : WS ad cA (fun i k => False) g0 K g0 H locs := ⟨hW1, hW.2.1, hW.2.2⟩
        refine q_if_eq (tgt := 82) hM dX9_calmestRoom_33 (by decide) (rfl : r13791.toInt = r13791.toInt) (fun h33 => ?_) (fun h33 => ?_)
        · refine q_iinc (lv9 := fun z13794 => [(5, .int z13794), (0, .ref (ad 102)), (1, .int so), (2, .int z13785), (3, .int w21_3), (4, .int w21_4)]) hM dX9_calmestRoom_82 hl (kq := 5) rfl (by decide) (fun _ => rfl) (fun z13794 ls hz13794 hl => ?_)
          first | have tz13794 := i_addT hz13794 (rfl : w21_5.toInt = w21_5.toInt) (kc_1 : (Int32.ofInt 1).toInt = 1) (by omega) (by omega) | skip
          refine q_goto (tgt := 21) hM dX9_calmestRoom_85 (by decide) ?_
          exact ih21 w21_4 w21_3 z13794 _ _ _ (by omega) (by omega) (by omega) (by omega) (BR_no i21_3 (by omega) (Or.inl (by unfold sub; rw [← ho9]; exact a_f hr13791 (by omega)))) (lv_sub hl [1, 2, 3, 4, 5, 0] rfl) hW
        · refine q_aload_n hM dX9_calmestRoom_36 (lv_at hl 0 rfl) ?_
          refine q_iload hM dX9_calmestRoom_37 (lv_at hl 5 rfl) ?_
          refine q_callV (As := [.int w21_5]) (rest := []) hM hW.1 hR hC myX9_noise (kAW (v_3_11 (List.mem_of_getElem? (i := 12) rfl)) rfl) (rfl : vwCl[9]? = some (RX9, TX9, 5)) rfl lb_102.1 (shO hW.2.1 lb_102) (s_X9_noise _ _ cA ad g0 w21_5 hW.2.1 hG hR) ⟨by decide, by decide⟩ rfl rfl hl.1 (Nat.le_of_ble_eq_true rfl) dX9_calmestRoom_39 (fun v g13797 H locs hp hW1 => ?_)
          obtain ⟨r13796, rfl, hr13796, rfl⟩ := hp
          have hW : WS ad cA (fun i k => False) g0 K g0 H locs := ⟨hW1, hW.2.1, hW.2.2⟩
          refine q_aload_n hM dX9_calmestRoom_42 (lv_at hl 0 rfl) ?_
          refine q_iload_n hM dX9_calmestRoom_43 (lv_at hl 1 rfl) ?_
          refine q_iload hM dX9_calmestRoom_44 (lv_at hl 5 rfl) ?_
          refine q_iconst (v := ((-1) : Int32)) hM dX9_calmestRoom_46 (by decide) ?_
          refine q_ixor hM dX9_calmestRoom_47 (fun z13798 hz13798 => ?_)
          refine q_iand hM dX9_calmestRoom_48 (fun z13799 hz13799 => ?_)
          refine q_callV (As := [.int z13799]) (rest := [.int r13796]) hM hW.1 hR hC myX9_noise (kAW (v_3_11 (List.mem_of_getElem? (i := 12) rfl)) rfl) (rfl : vwCl[9]? = some (RX9, TX9, 5)) rfl lb_102.1 (shO hW.2.1 lb_102) (s_X9_noise _ _ cA ad g0 z13799 hW.2.1 hG hR) ⟨by decide, by decide⟩ rfl rfl hl.1 (Nat.le_of_ble_eq_true rfl) dX9_calmestRoom_49 (fun v g13801 H locs hp hW1 => ?_)
          obtain ⟨r13800, rfl, hr13800, rfl⟩ := hp
          have hW : WS ad cA (fun i k => False) g0 K g0 H locs := ⟨hW1, hW.2.1, hW.2.2⟩
          refine q_iadd hM dX9_calmestRoom_52 (fun z13802 hz13802 => ?_)
          first | have tz13802 := i_addT hz13802 (rfl : r13796.toInt = r13796.toInt) (rfl : r13800.toInt = r13800.toInt) (by omega) (by omega) | skip
          refine q_istore (lv9 := [(6, .int z13802), (0, .ref (ad 102)), (1, .int so), (2, .int z13785), (3, .int w21_3), (4, .int w21_4), (5, .int w21_5)]) hM dX9_calmestRoom_53 hl (by decide) rfl (fun ls hl => ?_)
          refine q_iload hM dX9_calmestRoom_55 (lv_at hl 0 rfl) ?_
          refine q_iload hM dX9_calmestRoom_57 (lv_at hl 5 rfl) ?_
          refine q_icmp_lt (tgt := 75) hM dX9_calmestRoom_59 (by decide) (rfl : z13802.toInt = z13802.toInt) (rfl : w21_4.toInt = w21_4.toInt) (fun h59 => ?_) (fun h59 => ?_)
          · refine q_iload hM dX9_calmestRoom_75 (lv_at hl 0 rfl) ?_
            refine q_istore (lv9 := [(4, .int z13802), (6, .int z13802), (0, .ref (ad 102)), (1, .int so), (2, .int z13785), (3, .int w21_3), (5, .int w21_5)]) hM dX9_calmestRoom_77 hl (by decide) rfl (fun ls hl => ?_)
            refine q_iload hM dX9_calmestRoom_79 (lv_at hl 6 rfl) ?_
            refine q_istore_n (lv9 := [(3, .int w21_5), (4, .int z13802), (6, .int z13802), (0, .ref (ad 102)), (1, .int so), (2, .int z13785), (5, .int w21_5)]) hM dX9_calmestRoom_81 hl (by decide) rfl (fun ls hl => ?_)
            refine q_iinc (lv9 := fun z13804 => [(5, .int z13804), (3, .int w21_5), (4, .int z13802), (6, .int z13802), (0, .ref (ad 102)), (1, .int so), (2, .int z13785)]) hM dX9_calmestRoom_82 hl (kq := 6) rfl (by decide) (fun _ => rfl) (fun z13804 ls hz13804 hl => ?_)
            first | have tz13804 := i_addT hz13804 (rfl : w21_5.toInt = w21_5.toInt) (kc_1 : (Int32.ofInt 1).toInt = 1) (by omega) (by omega) | skip
            refine q_goto (tgt := 21) hM dX9_calmestRoom_85 (by decide) ?_
            exact ih21 z13802 w21_5 z13804 _ _ _ (by omega) (by omega) (by omega) (by omega) (BR_yes i21_3 (by omega) (by omega) (by unfold sub; rw [← ho9]; exact a_t hr13791 (by omega)) (by unfold vX; rw [hz13798, hz13799]; omega) (by omega)) (lv_sub hl [4, 5, 6, 1, 2, 0] rfl) hW
          · refine q_iload hM dX9_calmestRoom_62 (lv_at hl 0 rfl) ?_
            refine q_iload hM dX9_calmestRoom_64 (lv_at hl 5 rfl) ?_
            refine q_icmp_ne (tgt := 82) hM dX9_calmestRoom_66 (by decide) (rfl : z13802.toInt = z13802.toInt) (rfl : w21_4.toInt = w21_4.toInt) (fun h66 => ?_) (fun h66 => ?_)
            · refine q_iinc (lv9 := fun z13807 => [(5, .int z13807), (6, .int z13802), (0, .ref (ad 102)), (1, .int so), (2, .int z13785), (3, .int w21_3), (4, .int w21_4)]) hM dX9_calmestRoom_82 hl (kq := 6) rfl (by decide) (fun _ => rfl) (fun z13807 ls hz13807 hl => ?_)
              first | have tz13807 := i_addT hz13807 (rfl : w21_5.toInt = w21_5.toInt) (kc_1 : (Int32.ofInt 1).toInt = 1) (by omega) (by omega) | skip
              refine q_goto (tgt := 21) hM dX9_calmestRoom_85 (by decide) ?_
              exact ih21 w21_4 w21_3 z13807 _ _ _ (by omega) (by omega) (by omega) (by omega) (BR_no i21_3 (by omega) (Or.inr (by unfold vX; rw [hz13798, hz13799]; omega))) (lv_sub hl [2, 3, 4, 5, 6, 0] rfl) hW
            · refine q_iload hM dX9_calmestRoom_69 (lv_at hl 6 rfl) ?_
              refine q_iload_n hM dX9_calmestRoom_71 (lv_at hl 4 rfl) ?_
              refine q_icmp_ge (tgt := 82) hM dX9_calmestRoom_72 (by decide) (rfl : w21_5.toInt = w21_5.toInt) (rfl : w21_3.toInt = w21_3.toInt) (fun h72 => ?_) (fun h72 => ?_)
              · refine q_iinc (lv9 := fun z13810 => [(5, .int z13810), (6, .int z13802), (0, .ref (ad 102)), (1, .int so), (2, .int z13785), (3, .int w21_3), (4, .int w21_4)]) hM dX9_calmestRoom_82 hl (kq := 6) rfl (by decide) (fun _ => rfl) (fun z13810 ls hz13810 hl => ?_)
                first | have tz13810 := i_addT hz13810 (rfl : w21_5.toInt = w21_5.toInt) (kc_1 : (Int32.ofInt 1).toInt = 1) (by omega) (by omega) | skip
                refine q_goto (tgt := 21) hM dX9_calmestRoom_85 (by decide) ?_
                exact ih21 w21_4 w21_3 z13810 _ _ _ (by omega) (by omega) (by omega) (by omega) (BR_no i21_3 (by omega) (Or.inr (by unfold vX; rw [hz13798, hz13799]; omega))) (lv_sub hl [2, 3, 4, 5, 6, 0] rfl) hW
              · refine q_iload hM dX9_calmestRoom_75 (lv_at hl 0 rfl) ?_
                refine q_istore (lv9 := [(4, .int z13802), (6, .int z13802), (0, .ref (ad 102)), (1, .int so), (2, .int z13785), (3, .int w21_3), (5, .int w21_5)]) hM dX9_calmestRoom_77 hl (by decide) rfl (fun ls hl => ?_)
                refine q_iload hM dX9_calmestRoom_79 (lv_at hl 6 rfl) ?_
                refine q_istore_n (lv9 := [(3, .int w21_5), (4, .int z13802), (6, .int z13802), (0, .ref (ad 102)), (1, .int so), (2, .int z13785), (5, .int w21_5)]) hM dX9_calmestRoom_81 hl (by decide) rfl (fun ls hl => ?_)
                refine q_iinc (lv9 := fun z13812 => [(5, .int z13812), (3, .int w21_5), (4, .int z13802), (6, .int z13802), (0, .ref (ad 102)), (1, .int so), (2, .int z13785)]) hM dX9_calmestRoom_82 hl (kq := 6) rfl (by decide) (fun _ => rfl) (fun z13812 ls hz13812 hl => ?_)
                first | have tz13812 := i_addT hz13812 (rfl : w21_5.toInt = w21_5.toInt) (kc_1 : (Int32.ofInt 1).toInt = 1) (by omega) (by omega) | skip
                refine q_goto (tgt := 21) hM dX9_calmestRoom_85 (by decide) ?_
                exact ih21 z13802 w21_5 z13812 _ _ _ (by omega) (by omega) (by omega) (by omega) (BR_yes i21_3 (by omega) (by omega) (by unfold sub; rw [← ho9]; exact a_t hr13791 (by omega)) (by unfold vX; rw [hz13798, hz13799]; omega) (by omega)) (lv_sub hl [4, 5, 6, 1, 2, 0] rfl) hW
  have := kc_1
  exact L21 _ r13786 z13785 (1 : Int32) _ _ _ (Nat.lt_succ_self _) (by omega) (by omega) (by omega) (by rw [kc_1, ho9]; exact BR_0 (by rw [← ho9]; omega) (by unfold vX; rw [noise_1 (by omega) (by omega) (by omega), ← ho9]; omega)) (lv_sub hl [4, 5, 3, 2, 1, 0] rfl) hW


set_option maxRecDepth 100000 in
set_option maxHeartbeats 4000000 in
theorem s_X11_areSome (l : Launch) (D : va_G) (cA : Nat → ClassId) (ad : Nat → Nat) (g0 : Nat → va_E) (so : Int32) (td : Int32) (hSh : Shp ad cA g0) (hG : Rng g0) (h_td : fld g0 18 3 = .int td) : CT l NN ad cA D yX11_areSome cX11_areSome 2 (some FieldType.boolean) (1, 21) [.ref (ad 0), .int so] g0 (PU g0 (fun r => (r.toInt = 1 ∧ so &&& (td ^^^ (-1)) = 0 ∧ 0 ≤ so.toInt ∧ so.toInt < 256 ∧ 2 ≤ cb so 12) ∨ (r.toInt = 0 ∧ ¬ (so &&& (td ^^^ (-1)) = 0 ∧ 2 ≤ cb so 12)))) := by
  refine q_enterZ (by decide) (Nat.le_of_ble_eq_true rfl) (fun K H locs ls _ _ hM hW0 hR hC hE hl => ?_)
  have hl : lv_has ls 2 [(0, .ref (ad 0)), (1, .int so)] := hl
  have hW : WS ad cA (fun i k => False) g0 K g0 H locs := ⟨hW0, hSh, FR.rf⟩
  have := kc_0
  have := kc_1
  have := kc_2
  have bt9 := hG.f h_td rF_18_3 (by decide)
  refine q_iload_n hM dX11_areSome_0 (lv_at hl 1 rfl) ?_
  refine q_aload_n hM dX11_areSome_1 (lv_at hl 0 rfl) ?_
  refine w_get (v := .ref (ad 18)) hM hW FG_X11_26 lb_0 (rf_0_10 hW.2.1) dX11_areSome_2 ?_
  refine w_get (v := .int td) hM hW FG_X11_135 lb_18 ((hW.2.2.1 18 3 (fun h => h)).trans h_td) dX11_areSome_5 ?_
  refine q_callS (As := [.int so, .int td]) (rest := []) hM hW.1 hR hC myX11_areOf (kAW (v_3_4 (List.mem_of_getElem? (i := 6) rfl)) rfl) (c_X11_areOf _ _ cA ad g0 so td hW.2.1) ⟨by decide, by decide⟩ rfl rfl hl.1 (Nat.le_of_ble_eq_true rfl) dX11_areSome_8 (fun v g13814 H locs hp hW1 => ?_)
  obtain ⟨r13813, rfl, hr13813, rfl⟩ := hp
  have hW : WS ad cA (fun i k => False) g0 K g0 H locs := ⟨hW1, hW.2.1, hW.2.2⟩
  refine q_if_eq (tgt := 26) hM dX11_areSome_11 (by decide) (rfl : r13813.toInt = r13813.toInt) (fun h11 => ?_) (fun h11 => ?_)
  · refine q_iconst (v := (0 : Int32)) hM dX11_areSome_26 (by decide) ?_
    exact hE _ _ _ _ _ _ hW.1 nz_0 ⟨_, rfl, (Or.inr ⟨by omega, fun q9 => a_f hr13813 (by omega) q9.1⟩), rfl⟩ dX11_areSome_27
  · refine q_iload_n hM dX11_areSome_14 (lv_at hl 1 rfl) ?_
    refine q_callS (As := [.int so]) (rest := []) hM hW.1 hR hC myJ6_bitCount_0f7a4 (kAW (v_3_1 (List.mem_of_getElem? (i := 2) rfl)) rfl) (c_J6_bitCount_0f7a4 _ _ cA ad g0 so hW.2.1) ⟨by decide, by decide⟩ rfl rfl hl.1 (Nat.le_of_ble_eq_true rfl) dX11_areSome_15 (fun v g13818 H locs hp hW1 => ?_)
    obtain ⟨r13817, rfl, hr13817, rfl⟩ := hp
    have hW : WS ad cA (fun i k => False) g0 K g0 H locs := ⟨hW1, hW.2.1, hW.2.2⟩
    have in9 := sub_in (by omega) (a_t hr13813 (by omega))
    have n9 := (congrArg Int32.toInt hr13817).trans (bc_cb (by omega) (by omega))
    refine q_iconst (v := (2 : Int32)) hM dX11_areSome_18 (by decide) ?_
    refine q_icmp_lt (tgt := 26) hM dX11_areSome_19 (by decide) (rfl : r13817.toInt = r13817.toInt) (kc_2 : (2 : Int32).toInt = 2) (fun h19 => ?_) (fun h19 => ?_)
    · refine q_iconst (v := (0 : Int32)) hM dX11_areSome_26 (by decide) ?_
      exact hE _ _ _ _ _ _ hW.1 nz_0 ⟨_, rfl, (Or.inr ⟨by omega, fun q9 => by have := q9.2; omega⟩), rfl⟩ dX11_areSome_27
    · refine q_iconst (v := (1 : Int32)) hM dX11_areSome_22 (by decide) ?_
      refine q_goto (tgt := 27) hM dX11_areSome_23 (by decide) ?_
      exact hE _ _ _ _ _ _ hW.1 nz_1 ⟨_, rfl, (Or.inl ⟨by omega, a_t hr13813 (by omega), by omega, by omega, by omega⟩), rfl⟩ dX11_areSome_27


set_option maxRecDepth 100000 in
set_option maxHeartbeats 4000000 in
theorem s_X11_parted (l : Launch) (D : va_G) (cA : Nat → ClassId) (ad : Nat → Nat) (g0 : Nat → va_E) (a : Int32) (b : Int32) (td : Int32)  (hSh : Shp ad cA g0) (hG : Rng g0) (h_td : fld g0 18 3 = .int td) (hR : ∀ p q : Nat, p < 8 → q < 8 → 0 ≤ (rX g0 p q).toInt ∧ (rX g0 p q).toInt ≤ 99) : CT l NN ad cA D yX11_parted cX11_parted 4 (some FieldType.int) (3, 71) [.ref (ad 0), .int a, .int b] g0 (fun v g' => ∃ (r : Int32), v = some (.int r) ∧ Shp ad cA g' ∧ Rng g' ∧ FR (fun i k => False) g0 g' ∧ ((¬ (a &&& (td ^^^ (-1)) = 0 ∧ 2 ≤ cb a 12 ∧ 0 ≤ b.toInt ∧ b.toInt ≤ 1) ∧ r.toInt = -1) ∨ ((a &&& (td ^^^ (-1)) = 0 ∧ 2 ≤ cb a 12 ∧ 0 ≤ b.toInt ∧ b.toInt ≤ 1) ∧ ∃ m9 : Int32, AR (vX (rX g0) a) (a &&& (a - 1)) m9 ∧ ((b.toInt = 1 ∧ r = m9) ∨ (b.toInt ≠ 1 ∧ r.toInt = vX (rX g0) a m9))))) := by
  refine q_enterI (by decide) (Nat.le_of_ble_eq_true rfl) rfl (fun K H locs ls _ _ hM hW0 hR hC hE hl => ?_)
  have hl : lv_has ls 4 [(0, .ref (ad 0)), (1, .int a), (2, .int b)] := hl
  have hW : WS ad cA (fun i k => False) g0 K g0 H locs := ⟨hW0, hSh, FR.rf⟩
  have b_td := hG.f h_td rF_18_3 (by decide)
  have := kc_0
  have := kc_1
  have := kc_m1
  refine q_aload_n hM dX11_parted_0 (lv_at hl 0 rfl) ?_
  refine q_iload_n hM dX11_parted_1 (lv_at hl 1 rfl) ?_
  refine q_callV (As := [.int a]) (rest := []) hM hW.1 hR hC myX11_areSome (kAW (v_3_10 (List.mem_of_getElem? (i := 2) rfl)) rfl) (rfl : vwCl[11]? = some (RX11, TX11, 16)) rfl lb_0.1 (shO hW.2.1 lb_0) (s_X11_areSome _ _ cA ad g0 a td hW.2.1 hG ((hW.2.2.1 18 3 (fun h => h)).trans h_td)) ⟨by decide, by decide⟩ rfl rfl hl.1 (Nat.le_of_ble_eq_true rfl) dX11_parted_2 (fun v g13822 H locs hp hW1 => ?_)
  obtain ⟨r13821, rfl, hr13821, rfl⟩ := hp
  have hW : WS ad cA (fun i k => False) g0 K g0 H locs := ⟨hW1, hW.2.1, hW.2.2⟩
  refine q_if_eq (tgt := 17) hM dX11_parted_5 (by decide) (rfl : r13821.toInt = r13821.toInt) (fun h5 => ?_) (fun h5 => ?_)
  · refine q_iconst (v := ((-1) : Int32)) hM dX11_parted_17 (by decide) ?_
    exact hE _ _ _ _ _ _ hW.1 ⟨_, rfl, hW.2.1, hG, hW.2.2, (Or.inl ⟨fun q9 => by rcases hr13821 with h | h <;> first | omega | exact h.2 ⟨q9.1, q9.2.1⟩, kc_m1⟩)⟩ dX11_parted_18
  · refine q_iload_n hM dX11_parted_8 (lv_at hl 2 rfl) ?_
    refine q_iconst (v := (0 : Int32)) hM dX11_parted_9 (by decide) ?_
    refine q_iconst (v := (1 : Int32)) hM dX11_parted_10 (by decide) ?_
    refine q_callS (As := [.int b, .int (0 : Int32), .int (1 : Int32)]) (rest := []) hM hW.1 hR hC myX11_within (kAW (v_1_10 (List.mem_of_getElem? (i := 1) rfl)) rfl) (c_X11_within _ _ cA ad g0 b (0 : Int32) (1 : Int32) hW.2.1) ⟨by decide, by decide⟩ rfl rfl hl.1 (Nat.le_of_ble_eq_true rfl) dX11_parted_11 (fun v g13826 H locs hp hW1 => ?_)
    obtain ⟨r13825, rfl, hr13825, rfl⟩ := hp
    have hW : WS ad cA (fun i k => False) g0 K g0 H locs := ⟨hW1, hW.2.1, hW.2.2⟩
    have := kc_0
    have := kc_1
    refine q_if_ne (tgt := 19) hM dX11_parted_14 (by decide) (rfl : r13825.toInt = r13825.toInt) (fun h14 => ?_) (fun h14 => ?_)
    · refine q_aload_n hM dX11_parted_19 (lv_at hl 0 rfl) ?_
      refine w_get (v := .ref (ad 102)) hM hW FG_X11_90 lb_0 (rf_0_3 hW.2.1) dX11_parted_20 ?_
      refine q_iload_n hM dX11_parted_23 (lv_at hl 1 rfl) ?_
      refine q_callV (As := [.int a]) (rest := []) hM hW.1 hR hC myX9_calmestRoom (kAW (v_3_11 (List.mem_of_getElem? (i := 7) rfl)) rfl) (rfl : vwCl[9]? = some (RX9, TX9, 5)) rfl lb_102.1 (shO hW.2.1 lb_102) (s_X9_calmestRoom _ _ cA ad g0 a hW.2.1 hG (by  omega) (by  omega) (by  omega) hR) ⟨by decide, by decide⟩ rfl rfl hl.1 (Nat.le_of_ble_eq_true rfl) dX11_parted_24 (fun v g13829 H locs hp hW1 => ?_)
      obtain ⟨r13828, rfl, hr13828, rfl⟩ := hp
      have hW : WS ad cA (fun i k => False) g0 K g0 H locs := ⟨hW1, hW.2.1, hW.2.2⟩
      refine q_istore_n (lv9 := [(3, .int r13828), (0, .ref (ad 0)), (1, .int a), (2, .int b)]) hM dX11_parted_27 hl (by decide) rfl (fun ls hl => ?_)
      refine q_iload_n hM dX11_parted_28 (lv_at hl 3 rfl) ?_
      refine q_iconst (v := (1 : Int32)) hM dX11_parted_29 (by decide) ?_
      refine q_icmp_ne (tgt := 37) hM dX11_parted_30 (by decide) (rfl : b.toInt = b.toInt) (kc_1 : (1 : Int32).toInt = 1) (fun h30 => ?_) (fun h30 => ?_)
      · refine q_aload_n hM dX11_parted_37 (lv_at hl 1 rfl) ?_
        refine w_get (v := .ref (ad 102)) hM hW FG_X11_90 lb_0 (rf_0_3 hW.2.1) dX11_parted_38 ?_
        refine q_iload_n hM dX11_parted_41 (lv_at hl 0 rfl) ?_
        refine q_callV (As := [.int r13828]) (rest := []) hM hW.1 hR hC myX9_noise (kAW (v_3_12 (List.mem_of_getElem? (i := 2) rfl)) rfl) (rfl : vwCl[9]? = some (RX9, TX9, 5)) rfl lb_102.1 (shO hW.2.1 lb_102) (s_X9_noise _ _ cA ad g0 r13828 hW.2.1 hG hR) ⟨by decide, by decide⟩ rfl rfl hl.1 (Nat.le_of_ble_eq_true rfl) dX11_parted_42 (fun v g13832 H locs hp hW1 => ?_)
        obtain ⟨r13831, rfl, hr13831, rfl⟩ := hp
        have hW : WS ad cA (fun i k => False) g0 K g0 H locs := ⟨hW1, hW.2.1, hW.2.2⟩
        refine q_aload_n hM dX11_parted_45 (lv_at hl 1 rfl) ?_
        refine w_get (v := .ref (ad 102)) hM hW FG_X11_90 lb_0 (rf_0_3 hW.2.1) dX11_parted_46 ?_
        refine q_iload_n hM dX11_parted_49 (lv_at hl 2 rfl) ?_
        refine q_iload_n hM dX11_parted_50 (lv_at hl 0 rfl) ?_
        refine q_iconst (v := ((-1) : Int32)) hM dX11_parted_51 (by decide) ?_
        refine q_ixor hM dX11_parted_52 (fun z13833 hz13833 => ?_)
        refine q_iand hM dX11_parted_53 (fun z13834 hz13834 => ?_)
        refine q_callV (As := [.int z13834]) (rest := [.int r13831]) hM hW.1 hR hC myX9_noise (kAW (v_3_12 (List.mem_of_getElem? (i := 2) rfl)) rfl) (rfl : vwCl[9]? = some (RX9, TX9, 5)) rfl lb_102.1 (shO hW.2.1 lb_102) (s_X9_noise _ _ cA ad g0 z13834 hW.2.1 hG hR) ⟨by decide, by decide⟩ rfl rfl hl.1 (Nat.le_of_ble_eq_true rfl) dX11_parted_54 (fun v g13836 H locs hp hW1 => ?_)
        obtain ⟨r13835, rfl, hr13835, rfl⟩ := hp
        have hW : WS ad cA (fun i k => False) g0 K g0 H locs := ⟨hW1, hW.2.1, hW.2.2⟩
        refine q_iadd hM dX11_parted_57 (fun z13837 hz13837 => ?_)
        first | have tz13837 := i_addT hz13837 (rfl : r13831.toInt = r13831.toInt) (rfl : r13835.toInt = r13835.toInt) (by omega) (by omega) | skip
        exact hE _ _ _ _ _ _ hW.1 ⟨_, rfl, hW.2.1, hG, hW.2.2, (Or.inr ⟨⟨by rcases hr13821 with h | h; exact h.2.1; omega, by omega, by omega, by omega⟩, _, hr13828.1, Or.inr ⟨by omega, by unfold vX; rw [hz13833, hz13834]; omega⟩⟩)⟩ dX11_parted_58
      · refine q_iload_n hM dX11_parted_33 (lv_at hl 0 rfl) ?_
        refine q_goto (tgt := 58) hM dX11_parted_34 (by decide) ?_
        exact hE _ _ _ _ _ _ hW.1 ⟨_, rfl, hW.2.1, hG, hW.2.2, (Or.inr ⟨⟨by rcases hr13821 with h | h; exact h.2.1; omega, by omega, by omega, by omega⟩, _, hr13828.1, Or.inl ⟨by omega, rfl⟩⟩)⟩ dX11_parted_58
    · refine q_iconst (v := ((-1) : Int32)) hM dX11_parted_17 (by decide) ?_
      exact hE _ _ _ _ _ _ hW.1 ⟨_, rfl, hW.2.1, hG, hW.2.2, (Or.inl ⟨fun q9 => by rcases hr13821 with h | h <;> first | omega | exact h.2 ⟨q9.1, q9.2.1⟩, kc_m1⟩)⟩ dX11_parted_18


set_option maxRecDepth 100000 in
set_option maxHeartbeats 4000000 in
theorem s3_X11_link (l : Launch) (D : va_G) (cA : Nat → ClassId) (ad : Nat → Nat) (g0 : Nat → va_E) (a : Int32) (b : Int32) (c : Int32) (td : Int32)  (hSh : Shp ad cA g0) (hG : Rng g0) (h_td : fld g0 3 2 = .int td) : CT l NN ad cA D yX11_link cX11_link 4 (some FieldType.boolean) (1, 22) [.ref (ad 0), .int a, .int b, .int c] g0 (fun v g' => ∃ (r : Int32), v = some (.int r) ∧ Shp ad cA g' ∧ Rng g' ∧ FR (fun i k => (6 ≤ i ∧ i < 18)) g0 g' ∧ ((r.toInt = 1 ∧ bi td a = 1 ∧ bi td b = 1 ∧ a.toInt ≠ b.toInt ∧ 0 ≤ c.toInt ∧ c.toInt ≤ 9) ∨ (r.toInt = 0 ∧ ¬ (bi td a = 1 ∧ bi td b = 1 ∧ a.toInt ≠ b.toInt ∧ 0 ≤ c.toInt ∧ c.toInt ≤ 9)))) := by
  refine q_enterZ (by decide) (Nat.le_of_ble_eq_true rfl) (fun K H locs ls _ _ hM hW0 hR hC hE hl => ?_)
  have hl : lv_has ls 4 [(0, .ref (ad 0)), (1, .int a), (2, .int b), (3, .int c)] := hl
  have hW : WS ad cA (fun i k => (6 ≤ i ∧ i < 18)) g0 K g0 H locs := ⟨hW0, hSh, FR.rf⟩
  have b_td := hG.f h_td rF_3_2 (by decide)
  have := kc_0
  have := kc_1
  refine q_aload_n hM dX11_link_0 (lv_at hl 0 rfl) ?_
  refine w_get (v := .ref (ad 3)) hM hW FG_X11_19 lb_0 (rf_0_1 hW.2.1) dX11_link_1 ?_
  refine w_get (v := .int td) hM hW FG_X11_116 lb_3 ((hW.2.2.1 3 2 (by omega)).trans h_td) dX11_link_4 ?_
  refine q_iload_n hM dX11_link_7 (lv_at hl 1 rfl) ?_
  refine q_callS (As := [.int td, .int a]) (rest := []) hM hW.1 hR hC myX11_has (kAW (v_1_10 (List.mem_of_getElem? (i := 8) rfl)) rfl) (c_X11_has _ _ cA ad g0 td a hW.2.1) ⟨by decide, by decide⟩ rfl rfl hl.1 (Nat.le_of_ble_eq_true rfl) dX11_link_8 (fun v g13841 H locs hp hW1 => ?_)
  obtain ⟨r13840, rfl, hr13840, rfl⟩ := hp
  have hW : WS ad cA (fun i k => (6 ≤ i ∧ i < 18)) g0 K g0 H locs := ⟨hW1, hW.2.1, hW.2.2⟩
  have hbr13840 := has_bi hr13840
  have hcr13840 := bi_01 td a
  first | have ltr13840 := has_lt 5 hr13840 (by omega) (by omega) | have ltr13840 := has_lt 6 hr13840 (by omega) (by omega) | have ltr13840 := has_lt 8 hr13840 (by omega) (by omega) | have ltr13840 := has_lt 12 hr13840 (by omega) (by omega) | skip
  refine q_if_eq (tgt := 43) hM dX11_link_11 (by decide) (rfl : r13840.toInt = r13840.toInt) (fun h11 => ?_) (fun h11 => ?_)
  · refine q_iconst (v := (0 : Int32)) hM dX11_link_43 (by decide) ?_
    exact hE _ _ _ _ _ _ hW.1 nz_0 ⟨_, rfl, hW.2.1, hG, hW.2.2, (by have := kc_0; omega)⟩ dX11_link_44
  · refine q_aload_n hM dX11_link_14 (lv_at hl 0 rfl) ?_
    refine w_get (v := .ref (ad 3)) hM hW FG_X11_19 lb_0 (rf_0_1 hW.2.1) dX11_link_15 ?_
    refine w_get (v := .int td) hM hW FG_X11_116 lb_3 ((hW.2.2.1 3 2 (by omega)).trans h_td) dX11_link_18 ?_
    refine q_iload_n hM dX11_link_21 (lv_at hl 2 rfl) ?_
    refine q_callS (As := [.int td, .int b]) (rest := []) hM hW.1 hR hC myX11_has (kAW (v_1_10 (List.mem_of_getElem? (i := 8) rfl)) rfl) (c_X11_has _ _ cA ad g0 td b hW.2.1) ⟨by decide, by decide⟩ rfl rfl hl.1 (Nat.le_of_ble_eq_true rfl) dX11_link_22 (fun v g13845 H locs hp hW1 => ?_)
    obtain ⟨r13844, rfl, hr13844, rfl⟩ := hp
    have hW : WS ad cA (fun i k => (6 ≤ i ∧ i < 18)) g0 K g0 H locs := ⟨hW1, hW.2.1, hW.2.2⟩
    have hbr13844 := has_bi hr13844
    have hcr13844 := bi_01 td b
    first | have ltr13844 := has_lt 5 hr13844 (by omega) (by omega) | have ltr13844 := has_lt 6 hr13844 (by omega) (by omega) | have ltr13844 := has_lt 8 hr13844 (by omega) (by omega) | have ltr13844 := has_lt 12 hr13844 (by omega) (by omega) | skip
    refine q_if_eq (tgt := 43) hM dX11_link_25 (by decide) (rfl : r13844.toInt = r13844.toInt) (fun h25 => ?_) (fun h25 => ?_)
    · refine q_iconst (v := (0 : Int32)) hM dX11_link_43 (by decide) ?_
      exact hE _ _ _ _ _ _ hW.1 nz_0 ⟨_, rfl, hW.2.1, hG, hW.2.2, (by have := kc_0; omega)⟩ dX11_link_44
    · refine q_iload_n hM dX11_link_28 (lv_at hl 1 rfl) ?_
      refine q_iload_n hM dX11_link_29 (lv_at hl 2 rfl) ?_
      refine q_icmp_eq (tgt := 43) hM dX11_link_30 (by decide) (rfl : a.toInt = a.toInt) (rfl : b.toInt = b.toInt) (fun h30 => ?_) (fun h30 => ?_)
      · refine q_iconst (v := (0 : Int32)) hM dX11_link_43 (by decide) ?_
        exact hE _ _ _ _ _ _ hW.1 nz_0 ⟨_, rfl, hW.2.1, hG, hW.2.2, (by have := kc_0; omega)⟩ dX11_link_44
      · refine q_iload_n hM dX11_link_33 (lv_at hl 3 rfl) ?_
        refine q_iconst (v := (0 : Int32)) hM dX11_link_34 (by decide) ?_
        refine q_bipush (v := (9 : Int32)) hM dX11_link_35 (by decide) ?_
        refine q_callS (As := [.int c, .int (0 : Int32), .int (9 : Int32)]) (rest := []) hM hW.1 hR hC myX11_within (kAW (v_1_10 (List.mem_of_getElem? (i := 1) rfl)) rfl) (c_X11_within _ _ cA ad g0 c (0 : Int32) (9 : Int32) hW.2.1) ⟨by decide, by decide⟩ rfl rfl hl.1 (Nat.le_of_ble_eq_true rfl) dX11_link_37 (fun v g13851 H locs hp hW1 => ?_)
        obtain ⟨r13850, rfl, hr13850, rfl⟩ := hp
        have hW : WS ad cA (fun i k => (6 ≤ i ∧ i < 18)) g0 K g0 H locs := ⟨hW1, hW.2.1, hW.2.2⟩
        have := kc_0
        have := kc_9
        refine q_if_ne (tgt := 45) hM dX11_link_40 (by decide) (rfl : r13850.toInt = r13850.toInt) (fun h40 => ?_) (fun h40 => ?_)
        · refine q_aload_n hM dX11_link_45 (lv_at hl 0 rfl) ?_
          refine w_get (v := .ref (ad 3)) hM hW FG_X11_19 lb_0 (rf_0_1 hW.2.1) dX11_link_46 ?_
          refine w_get (v := .ref (ad 5)) hM hW FG_X11_127 lb_3 (rf_3_1 hW.2.1) dX11_link_49 ?_
          refine q_iload_n hM dX11_link_52 (lv_at hl 1 rfl) ?_
          refine w_aald hM hW lb_5 (Or.inl rfl) (i_in (by omega) (by omega)) (aq (aq_5 hW.2.1) (by omega) (by omega)) dX11_link_53 ?_
          refine q_iload_n hM dX11_link_54 (lv_at hl 2 rfl) ?_
          refine q_iload_n hM dX11_link_55 (lv_at hl 3 rfl) ?_
          refine w_iast hM hW (lr_6 (by omega)) (by omega) (i_in (by omega) (by omega)) dX11_link_56 (fun g13853 H locs hW e1 e2 => ?_)
          have hG := hG.st e1 e2 (rA_row_6 (by omega)) (by have := i_rng c; omega) (by have := i_rng c; omega)
          refine q_iconst (v := (1 : Int32)) hM dX11_link_57 (by decide) ?_
          exact hE _ _ _ _ _ _ hW.1 nz_1 ⟨_, rfl, hW.2.1, hG, hW.2.2, (by have := kc_1; omega)⟩ dX11_link_58
        · refine q_iconst (v := (0 : Int32)) hM dX11_link_43 (by decide) ?_
          exact hE _ _ _ _ _ _ hW.1 nz_0 ⟨_, rfl, hW.2.1, hG, hW.2.2, (by have := kc_0; omega)⟩ dX11_link_44


set_option maxRecDepth 100000 in
set_option maxHeartbeats 4000000 in
theorem s3_X11_knows (l : Launch) (D : va_G) (cA : Nat → ClassId) (ad : Nat → Nat) (g0 : Nat → va_E) (a : Int32) (b : Int32) (c : Int32) (tp : Int32) (td : Int32)  (hSh : Shp ad cA g0) (hG : Rng g0) (h_tp : fld g0 18 3 = .int tp) (h_td : fld g0 3 2 = .int td) : CT l NN ad cA D yX11_knows cX11_knows 4 (some FieldType.boolean) (1, 22) [.ref (ad 0), .int a, .int b, .int c] g0 (fun v g' => ∃ (r : Int32), v = some (.int r) ∧ Shp ad cA g' ∧ Rng g' ∧ FR (fun i k => (22 ≤ i ∧ i < 30)) g0 g' ∧ ((r.toInt = 1 ∧ bi tp a = 1 ∧ bi td b = 1 ∧ 0 ≤ c.toInt ∧ c.toInt ≤ 99) ∨ (r.toInt = 0 ∧ ¬ (bi tp a = 1 ∧ bi td b = 1 ∧ 0 ≤ c.toInt ∧ c.toInt ≤ 99)))) := by
  refine q_enterZ (by decide) (Nat.le_of_ble_eq_true rfl) (fun K H locs ls _ _ hM hW0 hR hC hE hl => ?_)
  have hl : lv_has ls 4 [(0, .ref (ad 0)), (1, .int a), (2, .int b), (3, .int c)] := hl
  have hW : WS ad cA (fun i k => (22 ≤ i ∧ i < 30)) g0 K g0 H locs := ⟨hW0, hSh, FR.rf⟩
  have b_tp := hG.f h_tp rF_18_3 (by decide)
  have b_td := hG.f h_td rF_3_2 (by decide)
  have := kc_0
  have := kc_1
  refine q_aload_n hM dX11_knows_0 (lv_at hl 0 rfl) ?_
  refine w_get (v := .ref (ad 18)) hM hW FG_X11_26 lb_0 (rf_0_10 hW.2.1) dX11_knows_1 ?_
  refine w_get (v := .int tp) hM hW FG_X11_135 lb_18 ((hW.2.2.1 18 3 (by omega)).trans h_tp) dX11_knows_4 ?_
  refine q_iload_n hM dX11_knows_7 (lv_at hl 1 rfl) ?_
  refine q_callS (As := [.int tp, .int a]) (rest := []) hM hW.1 hR hC myX11_has (kAW (v_1_10 (List.mem_of_getElem? (i := 8) rfl)) rfl) (c_X11_has _ _ cA ad g0 tp a hW.2.1) ⟨by decide, by decide⟩ rfl rfl hl.1 (Nat.le_of_ble_eq_true rfl) dX11_knows_8 (fun v g13856 H locs hp hW1 => ?_)
  obtain ⟨r13855, rfl, hr13855, rfl⟩ := hp
  have hW : WS ad cA (fun i k => (22 ≤ i ∧ i < 30)) g0 K g0 H locs := ⟨hW1, hW.2.1, hW.2.2⟩
  have hbr13855 := has_bi hr13855
  have hcr13855 := bi_01 tp a
  first | have ltr13855 := has_lt 5 hr13855 (by omega) (by omega) | have ltr13855 := has_lt 6 hr13855 (by omega) (by omega) | have ltr13855 := has_lt 8 hr13855 (by omega) (by omega) | have ltr13855 := has_lt 12 hr13855 (by omega) (by omega) | skip
  refine q_if_eq (tgt := 38) hM dX11_knows_11 (by decide) (rfl : r13855.toInt = r13855.toInt) (fun h11 => ?_) (fun h11 => ?_)
  · refine q_iconst (v := (0 : Int32)) hM dX11_knows_38 (by decide) ?_
    exact hE _ _ _ _ _ _ hW.1 nz_0 ⟨_, rfl, hW.2.1, hG, hW.2.2, (by have := kc_0; omega)⟩ dX11_knows_39
  · refine q_aload_n hM dX11_knows_14 (lv_at hl 0 rfl) ?_
    refine w_get (v := .ref (ad 3)) hM hW FG_X11_19 lb_0 (rf_0_1 hW.2.1) dX11_knows_15 ?_
    refine w_get (v := .int td) hM hW FG_X11_116 lb_3 ((hW.2.2.1 3 2 (by omega)).trans h_td) dX11_knows_18 ?_
    refine q_iload_n hM dX11_knows_21 (lv_at hl 2 rfl) ?_
    refine q_callS (As := [.int td, .int b]) (rest := []) hM hW.1 hR hC myX11_has (kAW (v_1_10 (List.mem_of_getElem? (i := 8) rfl)) rfl) (c_X11_has _ _ cA ad g0 td b hW.2.1) ⟨by decide, by decide⟩ rfl rfl hl.1 (Nat.le_of_ble_eq_true rfl) dX11_knows_22 (fun v g13860 H locs hp hW1 => ?_)
    obtain ⟨r13859, rfl, hr13859, rfl⟩ := hp
    have hW : WS ad cA (fun i k => (22 ≤ i ∧ i < 30)) g0 K g0 H locs := ⟨hW1, hW.2.1, hW.2.2⟩
    have hbr13859 := has_bi hr13859
    have hcr13859 := bi_01 td b
    first | have ltr13859 := has_lt 5 hr13859 (by omega) (by omega) | have ltr13859 := has_lt 6 hr13859 (by omega) (by omega) | have ltr13859 := has_lt 8 hr13859 (by omega) (by omega) | have ltr13859 := has_lt 12 hr13859 (by omega) (by omega) | skip
    refine q_if_eq (tgt := 38) hM dX11_knows_25 (by decide) (rfl : r13859.toInt = r13859.toInt) (fun h25 => ?_) (fun h25 => ?_)
    · refine q_iconst (v := (0 : Int32)) hM dX11_knows_38 (by decide) ?_
      exact hE _ _ _ _ _ _ hW.1 nz_0 ⟨_, rfl, hW.2.1, hG, hW.2.2, (by have := kc_0; omega)⟩ dX11_knows_39
    · refine q_iload_n hM dX11_knows_28 (lv_at hl 3 rfl) ?_
      refine q_iconst (v := (0 : Int32)) hM dX11_knows_29 (by decide) ?_
      refine q_bipush (v := (99 : Int32)) hM dX11_knows_30 (by decide) ?_
      refine q_callS (As := [.int c, .int (0 : Int32), .int (99 : Int32)]) (rest := []) hM hW.1 hR hC myX11_within (kAW (v_1_10 (List.mem_of_getElem? (i := 1) rfl)) rfl) (c_X11_within _ _ cA ad g0 c (0 : Int32) (99 : Int32) hW.2.1) ⟨by decide, by decide⟩ rfl rfl hl.1 (Nat.le_of_ble_eq_true rfl) dX11_knows_32 (fun v g13864 H locs hp hW1 => ?_)
      obtain ⟨r13863, rfl, hr13863, rfl⟩ := hp
      have hW : WS ad cA (fun i k => (22 ≤ i ∧ i < 30)) g0 K g0 H locs := ⟨hW1, hW.2.1, hW.2.2⟩
      have := kc_0
      have := kc_99
      refine q_if_ne (tgt := 40) hM dX11_knows_35 (by decide) (rfl : r13863.toInt = r13863.toInt) (fun h35 => ?_) (fun h35 => ?_)
      · refine q_aload_n hM dX11_knows_40 (lv_at hl 0 rfl) ?_
        refine w_get (v := .ref (ad 18)) hM hW FG_X11_26 lb_0 (rf_0_10 hW.2.1) dX11_knows_41 ?_
        refine w_get (v := .ref (ad 21)) hM hW FG_X11_136 lb_18 (rf_18_2 hW.2.1) dX11_knows_44 ?_
        refine q_iload_n hM dX11_knows_47 (lv_at hl 1 rfl) ?_
        refine w_aald hM hW lb_21 (Or.inl rfl) (i_in (by omega) (by omega)) (aq (aq_21 hW.2.1) (by omega) (by omega)) dX11_knows_48 ?_
        refine q_iload_n hM dX11_knows_49 (lv_at hl 2 rfl) ?_
        refine q_iload_n hM dX11_knows_50 (lv_at hl 3 rfl) ?_
        refine w_iast hM hW (lr_22 (by omega)) (by omega) (i_in (by omega) (by omega)) dX11_knows_51 (fun g13866 H locs hW e1 e2 => ?_)
        have hG := hG.st e1 e2 (rA_row_22 (by omega)) (by have := i_rng c; omega) (by have := i_rng c; omega)
        refine q_iconst (v := (1 : Int32)) hM dX11_knows_52 (by decide) ?_
        exact hE _ _ _ _ _ _ hW.1 nz_1 ⟨_, rfl, hW.2.1, hG, hW.2.2, (by have := kc_1; omega)⟩ dX11_knows_53
      · refine q_iconst (v := (0 : Int32)) hM dX11_knows_38 (by decide) ?_
        exact hE _ _ _ _ _ _ hW.1 nz_0 ⟨_, rfl, hW.2.1, hG, hW.2.2, (by have := kc_0; omega)⟩ dX11_knows_39


set_option maxRecDepth 100000 in
set_option maxHeartbeats 4000000 in
theorem s3_X11_reminds (l : Launch) (D : va_G) (cA : Nat → ClassId) (ad : Nat → Nat) (g0 : Nat → va_E) (a : Int32) (b : Int32) (c : Int32) (tp : Int32)  (hSh : Shp ad cA g0) (hG : Rng g0) (h_tp : fld g0 18 3 = .int tp) : CT l NN ad cA D yX11_reminds cX11_reminds 4 (some FieldType.boolean) (1, 22) [.ref (ad 0), .int a, .int b, .int c] g0 (fun v g' => ∃ (r : Int32), v = some (.int r) ∧ Shp ad cA g' ∧ Rng g' ∧ FR (fun i k => (104 ≤ i ∧ i < 112)) g0 g' ∧ ((r.toInt = 1 ∧ bi tp a = 1 ∧ bi tp b = 1 ∧ a.toInt ≠ b.toInt ∧ 0 ≤ c.toInt ∧ c.toInt ≤ 99) ∨ (r.toInt = 0 ∧ ¬ (bi tp a = 1 ∧ bi tp b = 1 ∧ a.toInt ≠ b.toInt ∧ 0 ≤ c.toInt ∧ c.toInt ≤ 99)))) := by
  refine q_enterZ (by decide) (Nat.le_of_ble_eq_true rfl) (fun K H locs ls _ _ hM hW0 hR hC hE hl => ?_)
  have hl : lv_has ls 4 [(0, .ref (ad 0)), (1, .int a), (2, .int b), (3, .int c)] := hl
  have hW : WS ad cA (fun i k => (104 ≤ i ∧ i < 112)) g0 K g0 H locs := ⟨hW0, hSh, FR.rf⟩
  have b_tp := hG.f h_tp rF_18_3 (by decide)
  have := kc_0
  have := kc_1
  refine q_aload_n hM dX11_reminds_0 (lv_at hl 0 rfl) ?_
  refine w_get (v := .ref (ad 18)) hM hW FG_X11_26 lb_0 (rf_0_10 hW.2.1) dX11_reminds_1 ?_
  refine w_get (v := .int tp) hM hW FG_X11_135 lb_18 ((hW.2.2.1 18 3 (by omega)).trans h_tp) dX11_reminds_4 ?_
  refine q_iload_n hM dX11_reminds_7 (lv_at hl 1 rfl) ?_
  refine q_callS (As := [.int tp, .int a]) (rest := []) hM hW.1 hR hC myX11_has (kAW (v_1_10 (List.mem_of_getElem? (i := 8) rfl)) rfl) (c_X11_has _ _ cA ad g0 tp a hW.2.1) ⟨by decide, by decide⟩ rfl rfl hl.1 (Nat.le_of_ble_eq_true rfl) dX11_reminds_8 (fun v g13869 H locs hp hW1 => ?_)
  obtain ⟨r13868, rfl, hr13868, rfl⟩ := hp
  have hW : WS ad cA (fun i k => (104 ≤ i ∧ i < 112)) g0 K g0 H locs := ⟨hW1, hW.2.1, hW.2.2⟩
  have hbr13868 := has_bi hr13868
  have hcr13868 := bi_01 tp a
  first | have ltr13868 := has_lt 5 hr13868 (by omega) (by omega) | have ltr13868 := has_lt 6 hr13868 (by omega) (by omega) | have ltr13868 := has_lt 8 hr13868 (by omega) (by omega) | have ltr13868 := has_lt 12 hr13868 (by omega) (by omega) | skip
  refine q_if_eq (tgt := 43) hM dX11_reminds_11 (by decide) (rfl : r13868.toInt = r13868.toInt) (fun h11 => ?_) (fun h11 => ?_)
  · refine q_iconst (v := (0 : Int32)) hM dX11_reminds_43 (by decide) ?_
    exact hE _ _ _ _ _ _ hW.1 nz_0 ⟨_, rfl, hW.2.1, hG, hW.2.2, (by have := kc_0; omega)⟩ dX11_reminds_44
  · refine q_aload_n hM dX11_reminds_14 (lv_at hl 0 rfl) ?_
    refine w_get (v := .ref (ad 18)) hM hW FG_X11_26 lb_0 (rf_0_10 hW.2.1) dX11_reminds_15 ?_
    refine w_get (v := .int tp) hM hW FG_X11_135 lb_18 ((hW.2.2.1 18 3 (by omega)).trans h_tp) dX11_reminds_18 ?_
    refine q_iload_n hM dX11_reminds_21 (lv_at hl 2 rfl) ?_
    refine q_callS (As := [.int tp, .int b]) (rest := []) hM hW.1 hR hC myX11_has (kAW (v_1_10 (List.mem_of_getElem? (i := 8) rfl)) rfl) (c_X11_has _ _ cA ad g0 tp b hW.2.1) ⟨by decide, by decide⟩ rfl rfl hl.1 (Nat.le_of_ble_eq_true rfl) dX11_reminds_22 (fun v g13873 H locs hp hW1 => ?_)
    obtain ⟨r13872, rfl, hr13872, rfl⟩ := hp
    have hW : WS ad cA (fun i k => (104 ≤ i ∧ i < 112)) g0 K g0 H locs := ⟨hW1, hW.2.1, hW.2.2⟩
    have hbr13872 := has_bi hr13872
    have hcr13872 := bi_01 tp b
    first | have ltr13872 := has_lt 5 hr13872 (by omega) (by omega) | have ltr13872 := has_lt 6 hr13872 (by omega) (by omega) | have ltr13872 := has_lt 8 hr13872 (by omega) (by omega) | have ltr13872 := has_lt 12 hr13872 (by omega) (by omega) | skip
    refine q_if_eq (tgt := 43) hM dX11_reminds_25 (by decide) (rfl : r13872.toInt = r13872.toInt) (fun h25 => ?_) (fun h25 => ?_)
    · refine q_iconst (v := (0 : Int32)) hM dX11_reminds_43 (by decide) ?_
      exact hE _ _ _ _ _ _ hW.1 nz_0 ⟨_, rfl, hW.2.1, hG, hW.2.2, (by have := kc_0; omega)⟩ dX11_reminds_44
    · refine q_iload_n hM dX11_reminds_28 (lv_at hl 1 rfl) ?_
      refine q_iload_n hM dX11_reminds_29 (lv_at hl 2 rfl) ?_
      refine q_icmp_eq (tgt := 43) hM dX11_reminds_30 (by decide) (rfl : a.toInt = a.toInt) (rfl : b.toInt = b.toInt) (fun h30 => ?_) (fun h30 => ?_)
      · refine q_iconst (v := (0 : Int32)) hM dX11_reminds_43 (by decide) ?_
        exact hE _ _ _ _ _ _ hW.1 nz_0 ⟨_, rfl, hW.2.1, hG, hW.2.2, (by have := kc_0; omega)⟩ dX11_reminds_44
      · refine q_iload_n hM dX11_reminds_33 (lv_at hl 3 rfl) ?_
        refine q_iconst (v := (0 : Int32)) hM dX11_reminds_34 (by decide) ?_
        refine q_bipush (v := (99 : Int32)) hM dX11_reminds_35 (by decide) ?_
        refine q_callS (As := [.int c, .int (0 : Int32), .int (99 : Int32)]) (rest := []) hM hW.1 hR hC myX11_within (kAW (v_1_10 (List.mem_of_getElem? (i := 1) rfl)) rfl) (c_X11_within _ _ cA ad g0 c (0 : Int32) (99 : Int32) hW.2.1) ⟨by decide, by decide⟩ rfl rfl hl.1 (Nat.le_of_ble_eq_true rfl) dX11_reminds_37 (fun v g13879 H locs hp hW1 => ?_)
        obtain ⟨r13878, rfl, hr13878, rfl⟩ := hp
        have hW : WS ad cA (fun i k => (104 ≤ i ∧ i < 112)) g0 K g0 H locs := ⟨hW1, hW.2.1, hW.2.2⟩
        have := kc_0
        have := kc_99
        refine q_if_ne (tgt := 45) hM dX11_reminds_40 (by decide) (rfl : r13878.toInt = r13878.toInt) (fun h40 => ?_) (fun h40 => ?_)
        · refine q_aload_n hM dX11_reminds_45 (lv_at hl 0 rfl) ?_
          refine w_get (v := .ref (ad 102)) hM hW FG_X11_90 lb_0 (rf_0_3 hW.2.1) dX11_reminds_46 ?_
          refine w_get (v := .ref (ad 103)) hM hW FG_X11_264 lb_102 (rf_102_0 hW.2.1) dX11_reminds_49 ?_
          refine q_iload_n hM dX11_reminds_52 (lv_at hl 1 rfl) ?_
          refine w_aald hM hW lb_103 (Or.inl rfl) (i_in (by omega) (by omega)) (aq (aq_103 hW.2.1) (by omega) (by omega)) dX11_reminds_53 ?_
          refine q_iload_n hM dX11_reminds_54 (lv_at hl 2 rfl) ?_
          refine q_iload_n hM dX11_reminds_55 (lv_at hl 3 rfl) ?_
          refine w_iast hM hW (lr_104 (by omega)) (by omega) (i_in (by omega) (by omega)) dX11_reminds_56 (fun g13881 H locs hW e1 e2 => ?_)
          have hG := hG.st e1 e2 (rA_row_104 (by omega)) (by have := i_rng c; omega) (by have := i_rng c; omega)
          refine q_aload_n hM dX11_reminds_57 (lv_at hl 0 rfl) ?_
          refine w_get (v := .ref (ad 102)) hM hW FG_X11_90 lb_0 (rf_0_3 hW.2.1) dX11_reminds_58 ?_
          refine w_get (v := .ref (ad 103)) hM hW FG_X11_264 lb_102 (rf_102_0 hW.2.1) dX11_reminds_61 ?_
          refine q_iload_n hM dX11_reminds_64 (lv_at hl 2 rfl) ?_
          refine w_aald hM hW lb_103 (Or.inl rfl) (i_in (by omega) (by omega)) (aq (aq_103 hW.2.1) (by omega) (by omega)) dX11_reminds_65 ?_
          refine q_iload_n hM dX11_reminds_66 (lv_at hl 1 rfl) ?_
          refine q_iload_n hM dX11_reminds_67 (lv_at hl 3 rfl) ?_
          refine w_iast hM hW (lr_104 (by omega)) (by omega) (i_in (by omega) (by omega)) dX11_reminds_68 (fun g13882 H locs hW e1 e2 => ?_)
          have hG := hG.st e1 e2 (rA_row_104 (by omega)) (by have := i_rng c; omega) (by have := i_rng c; omega)
          refine q_iconst (v := (1 : Int32)) hM dX11_reminds_69 (by decide) ?_
          exact hE _ _ _ _ _ _ hW.1 nz_1 ⟨_, rfl, hW.2.1, hG, hW.2.2, (by have := kc_1; omega)⟩ dX11_reminds_70
        · refine q_iconst (v := (0 : Int32)) hM dX11_reminds_43 (by decide) ?_
          exact hE _ _ _ _ _ _ hW.1 nz_0 ⟨_, rfl, hW.2.1, hG, hW.2.2, (by have := kc_0; omega)⟩ dX11_reminds_44


set_option maxRecDepth 100000 in
set_option maxHeartbeats 4000000 in
theorem s_X12_isTold (l : Launch) (D : va_G) (cA : Nat → ClassId) (ad : Nat → Nat) (g0 : Nat → va_E) (i : Int32) (hSh : Shp ad cA g0) (hG : Rng g0) : CT l NN ad cA D yX12_isTold cX12_isTold 2 (some FieldType.boolean) (1, 25) [.ref (ad 129), .int i] g0 (PU g0 (fun r => r.toInt = ti (arI g0 131) 12 i ∧ (r.toInt = 0 ∨ (0 ≤ i.toInt ∧ i.toInt < 12)))) := by
  refine q_enterZ (by decide) (Nat.le_of_ble_eq_true rfl) (fun K H locs ls _ _ hM hW0 hR hC hE hl => ?_)
  have hl : lv_has ls 2 [(0, .ref (ad 129)), (1, .int i)] := hl
  have hW : WS ad cA (fun i k => False) g0 K g0 H locs := ⟨hW0, hSh, FR.rf⟩
  have := kc_0
  have := kc_1
  refine q_iload_n hM dX12_isTold_0 (lv_at hl 1 rfl) ?_
  refine q_i2l hM dX12_isTold_1 ?_
  have := l_i2l i
  refine q_lconst (v := 0) hM dX12_isTold_2 (by decide) ?_
  have := kl_0
  refine q_ldc2 (v := 11) hM (kAW (v_5_4 (List.mem_of_getElem? (i := 13) rfl)) rfl) dX12_isTold_3 ?_
  have := kl_11
  refine q_callS (As := [.long i.toInt64, .long (0 : Int64), .long (11 : Int64)]) (rest := []) hM hW.1 hR hC myX12_lies (kAW (v_5_4 (List.mem_of_getElem? (i := 14) rfl)) rfl) (c_X12_lies _ _ cA ad g0 i.toInt64 (0 : Int64) (11 : Int64) hW.2.1) ⟨by decide, by decide⟩ rfl rfl hl.1 (Nat.le_of_ble_eq_true rfl) dX12_isTold_6 (fun v g13885 H locs hp hW1 => ?_)
  obtain ⟨r13884, rfl, hr13884, rfl⟩ := hp
  have hW : WS ad cA (fun i k => False) g0 K g0 H locs := ⟨hW1, hW.2.1, hW.2.2⟩
  refine q_if_eq (tgt := 25) hM dX12_isTold_9 (by decide) (rfl : r13884.toInt = r13884.toInt) (fun h9 => ?_) (fun h9 => ?_)
  · refine q_iconst (v := (0 : Int32)) hM dX12_isTold_25 (by decide) ?_
    exact hE _ _ _ _ _ _ hW.1 nz_0 ⟨_, rfl, ⟨(by unfold ti; rw [if_neg (fun ⟨h3, h4, h5⟩ => by omega)]; exact kc_0), by omega⟩, rfl⟩ dX12_isTold_26
  · refine q_aload_n hM dX12_isTold_12 (lv_at hl 0 rfl) ?_
    refine w_get (v := .ref (ad 131)) hM hW FG_X12_17 lb_129 (rf_129_10 hW.2.1) dX12_isTold_13 ?_
    refine q_iload_n hM dX12_isTold_16 (lv_at hl 1 rfl) ?_
    refine w_zald hM hW lb_131 (i_in (by omega) (by omega)) dX12_isTold_17 ?_
    refine q_top (fun y13888 hy13888 => ?_)
    refine q_if_eq (tgt := 25) hM dX12_isTold_18 (by decide) (rfl : y13888.toInt = y13888.toInt) (fun h18 => ?_) (fun h18 => ?_)
    · refine q_iconst (v := (0 : Int32)) hM dX12_isTold_25 (by decide) ?_
      exact hE _ _ _ _ _ _ hW.1 nz_0 ⟨_, rfl, ⟨(by unfold ti; rw [if_neg (fun ⟨h3, h4, h5⟩ => absurd h5 (by show ¬ (arI g0 131 i.toNatClampNeg).toInt ≠ 0; rw [← hy13888]; omega))]; exact kc_0), by omega⟩, rfl⟩ dX12_isTold_26
    · refine q_iconst (v := (1 : Int32)) hM dX12_isTold_21 (by decide) ?_
      refine q_goto (tgt := 26) hM dX12_isTold_22 (by decide) ?_
      exact hE _ _ _ _ _ _ hW.1 nz_1 ⟨_, rfl, ⟨(by unfold ti; rw [if_pos ⟨by omega, by omega, by show (arI g0 131 i.toNatClampNeg).toInt ≠ 0; rw [← hy13888]; omega⟩]; exact kc_1), by omega⟩, rfl⟩ dX12_isTold_26


set_option maxRecDepth 100000 in
set_option maxHeartbeats 4000000 in
theorem s_X12_isThat (l : Launch) (D : va_G) (cA : Nat → ClassId) (ad : Nat → Nat) (g0 : Nat → va_E) (i : Int32) (hSh : Shp ad cA g0) (hG : Rng g0) : CT l NN ad cA D yX12_isThat cX12_isThat 2 (some FieldType.boolean) (1, 25) [.ref (ad 129), .int i] g0 (PU g0 (fun r => r.toInt = ti (arI g0 158) 8 i ∧ (r.toInt = 0 ∨ (0 ≤ i.toInt ∧ i.toInt < 8)))) := by
  refine q_enterZ (by decide) (Nat.le_of_ble_eq_true rfl) (fun K H locs ls _ _ hM hW0 hR hC hE hl => ?_)
  have hl : lv_has ls 2 [(0, .ref (ad 129)), (1, .int i)] := hl
  have hW : WS ad cA (fun i k => False) g0 K g0 H locs := ⟨hW0, hSh, FR.rf⟩
  have := kc_0
  have := kc_1
  refine q_iload_n hM dX12_isThat_0 (lv_at hl 1 rfl) ?_
  refine q_i2l hM dX12_isThat_1 ?_
  have := l_i2l i
  refine q_lconst (v := 0) hM dX12_isThat_2 (by decide) ?_
  have := kl_0
  refine q_ldc2 (v := 7) hM (kAW (v_6_2 (List.mem_of_getElem? (i := 3) rfl)) rfl) dX12_isThat_3 ?_
  have := kl_7
  refine q_callS (As := [.long i.toInt64, .long (0 : Int64), .long (7 : Int64)]) (rest := []) hM hW.1 hR hC myX12_lies (kAW (v_5_4 (List.mem_of_getElem? (i := 14) rfl)) rfl) (c_X12_lies _ _ cA ad g0 i.toInt64 (0 : Int64) (7 : Int64) hW.2.1) ⟨by decide, by decide⟩ rfl rfl hl.1 (Nat.le_of_ble_eq_true rfl) dX12_isThat_6 (fun v g13892 H locs hp hW1 => ?_)
  obtain ⟨r13891, rfl, hr13891, rfl⟩ := hp
  have hW : WS ad cA (fun i k => False) g0 K g0 H locs := ⟨hW1, hW.2.1, hW.2.2⟩
  refine q_if_eq (tgt := 25) hM dX12_isThat_9 (by decide) (rfl : r13891.toInt = r13891.toInt) (fun h9 => ?_) (fun h9 => ?_)
  · refine q_iconst (v := (0 : Int32)) hM dX12_isThat_25 (by decide) ?_
    exact hE _ _ _ _ _ _ hW.1 nz_0 ⟨_, rfl, ⟨(by unfold ti; rw [if_neg (fun ⟨h3, h4, h5⟩ => by omega)]; exact kc_0), by omega⟩, rfl⟩ dX12_isThat_26
  · refine q_aload_n hM dX12_isThat_12 (lv_at hl 0 rfl) ?_
    refine w_get (v := .ref (ad 158)) hM hW FG_X12_100 lb_129 (rf_129_52 hW.2.1) dX12_isThat_13 ?_
    refine q_iload_n hM dX12_isThat_16 (lv_at hl 1 rfl) ?_
    refine w_zald hM hW lb_158 (i_in (by omega) (by omega)) dX12_isThat_17 ?_
    refine q_top (fun y13895 hy13895 => ?_)
    refine q_if_eq (tgt := 25) hM dX12_isThat_18 (by decide) (rfl : y13895.toInt = y13895.toInt) (fun h18 => ?_) (fun h18 => ?_)
    · refine q_iconst (v := (0 : Int32)) hM dX12_isThat_25 (by decide) ?_
      exact hE _ _ _ _ _ _ hW.1 nz_0 ⟨_, rfl, ⟨(by unfold ti; rw [if_neg (fun ⟨h3, h4, h5⟩ => absurd h5 (by show ¬ (arI g0 158 i.toNatClampNeg).toInt ≠ 0; rw [← hy13895]; omega))]; exact kc_0), by omega⟩, rfl⟩ dX12_isThat_26
    · refine q_iconst (v := (1 : Int32)) hM dX12_isThat_21 (by decide) ?_
      refine q_goto (tgt := 26) hM dX12_isThat_22 (by decide) ?_
      exact hE _ _ _ _ _ _ hW.1 nz_1 ⟨_, rfl, ⟨(by unfold ti; rw [if_pos ⟨by omega, by omega, by show (arI g0 158 i.toNatClampNeg).toInt ≠ 0; rw [← hy13895]; omega⟩]; exact kc_1), by omega⟩, rfl⟩ dX12_isThat_26


set_option maxRecDepth 100000 in
set_option maxHeartbeats 4000000 in
theorem s_X12_link (l : Launch) (D : va_G) (cA : Nat → ClassId) (ad : Nat → Nat) (g0 : Nat → va_E) (a : Int32) (b : Int32) (c : Int32)   (hSh : Shp ad cA g0) (hG : Rng g0) : CT l NN ad cA D yX12_link cX12_link 4 (some FieldType.boolean) (2, 46) [.ref (ad 129), .int a, .int b, .int c] g0 (fun v g' => ∃ (r : Int32), v = some (.int r) ∧ Shp ad cA g' ∧ Rng g' ∧ FR (fun i k => i = 133) g0 g' ∧ (((ti (arI g0 131) 12 a = 1 ∧ ti (arI g0 131) 12 b = 1 ∧ a.toInt ≠ b.toInt ∧ 0 ≤ c.toInt ∧ c.toInt ≤ 9) ∧ arI g' 133 = upd (arI g0 133) (12 * a.toInt.toNat + b.toInt.toNat) c) ∨ (¬ (ti (arI g0 131) 12 a = 1 ∧ ti (arI g0 131) 12 b = 1 ∧ a.toInt ≠ b.toInt ∧ 0 ≤ c.toInt ∧ c.toInt ≤ 9) ∧ arI g' 133 = arI g0 133)) ∧ (r.toInt = 0 ∨ r.toInt = 1)) := by
  refine q_enterZ (by decide) (Nat.le_of_ble_eq_true rfl) (fun K H locs ls _ _ hM hW0 hR hC hE hl => ?_)
  have hl : lv_has ls 4 [(0, .ref (ad 129)), (1, .int a), (2, .int b), (3, .int c)] := hl
  have hW : WS ad cA (fun i k => i = 133) g0 K g0 H locs := ⟨hW0, hSh, FR.rf⟩
  have := kc_0
  have := kc_1
  refine q_aload_n hM dX12_link_0 (lv_at hl 0 rfl) ?_
  refine q_iload_n hM dX12_link_1 (lv_at hl 1 rfl) ?_
  refine q_callV (As := [.int a]) (rest := []) hM hW.1 hR hC myX12_isTold (kAW (v_5_5 (List.mem_of_getElem? (i := 6) rfl)) rfl) (rfl : vwCl[12]? = some (RX12, TX12, 86)) rfl lb_129.1 (shO hW.2.1 lb_129) (s_X12_isTold _ _ cA ad g0 a hW.2.1 hG) ⟨by decide, by decide⟩ rfl rfl hl.1 (Nat.le_of_ble_eq_true rfl) dX12_link_2 (fun v g13899 H locs hp hW1 => ?_)
  obtain ⟨r13898, rfl, hr13898, rfl⟩ := hp
  have hW : WS ad cA (fun i k => i = 133) g0 K g0 H locs := ⟨hW1, hW.2.1, hW.2.2⟩
  refine q_if_eq (tgt := 33) hM dX12_link_5 (by decide) (rfl : r13898.toInt = r13898.toInt) (fun h5 => ?_) (fun h5 => ?_)
  · refine q_iconst (v := (0 : Int32)) hM dX12_link_33 (by decide) ?_
    exact hE _ _ _ _ _ _ hW.1 nz_0 ⟨_, rfl, hW.2.1, hG, hW.2.2, (Or.inr ⟨by omega, rfl⟩), (by have := kc_0; omega)⟩ dX12_link_34
  · refine q_aload_n hM dX12_link_8 (lv_at hl 0 rfl) ?_
    refine q_iload_n hM dX12_link_9 (lv_at hl 2 rfl) ?_
    refine q_callV (As := [.int b]) (rest := []) hM hW.1 hR hC myX12_isTold (kAW (v_5_5 (List.mem_of_getElem? (i := 6) rfl)) rfl) (rfl : vwCl[12]? = some (RX12, TX12, 86)) rfl lb_129.1 (shO hW.2.1 lb_129) (s_X12_isTold _ _ cA ad g0 b hW.2.1 hG) ⟨by decide, by decide⟩ rfl rfl hl.1 (Nat.le_of_ble_eq_true rfl) dX12_link_10 (fun v g13903 H locs hp hW1 => ?_)
    obtain ⟨r13902, rfl, hr13902, rfl⟩ := hp
    have hW : WS ad cA (fun i k => i = 133) g0 K g0 H locs := ⟨hW1, hW.2.1, hW.2.2⟩
    refine q_if_eq (tgt := 33) hM dX12_link_13 (by decide) (rfl : r13902.toInt = r13902.toInt) (fun h13 => ?_) (fun h13 => ?_)
    · refine q_iconst (v := (0 : Int32)) hM dX12_link_33 (by decide) ?_
      exact hE _ _ _ _ _ _ hW.1 nz_0 ⟨_, rfl, hW.2.1, hG, hW.2.2, (Or.inr ⟨by omega, rfl⟩), (by have := kc_0; omega)⟩ dX12_link_34
    · refine q_iload_n hM dX12_link_16 (lv_at hl 1 rfl) ?_
      refine q_iload_n hM dX12_link_17 (lv_at hl 2 rfl) ?_
      refine q_icmp_eq (tgt := 33) hM dX12_link_18 (by decide) (rfl : a.toInt = a.toInt) (rfl : b.toInt = b.toInt) (fun h18 => ?_) (fun h18 => ?_)
      · refine q_iconst (v := (0 : Int32)) hM dX12_link_33 (by decide) ?_
        exact hE _ _ _ _ _ _ hW.1 nz_0 ⟨_, rfl, hW.2.1, hG, hW.2.2, (Or.inr ⟨by omega, rfl⟩), (by have := kc_0; omega)⟩ dX12_link_34
      · refine q_iload_n hM dX12_link_21 (lv_at hl 3 rfl) ?_
        refine q_i2l hM dX12_link_22 ?_
        have := l_i2l c
        refine q_lconst (v := 0) hM dX12_link_23 (by decide) ?_
        have := kl_0
        refine q_ldc2 (v := 9) hM (kAW (v_5_5 (List.mem_of_getElem? (i := 10) rfl)) rfl) dX12_link_24 ?_
        have := kl_9
        refine q_callS (As := [.long c.toInt64, .long (0 : Int64), .long (9 : Int64)]) (rest := []) hM hW.1 hR hC myX12_lies (kAW (v_5_4 (List.mem_of_getElem? (i := 14) rfl)) rfl) (c_X12_lies _ _ cA ad g0 c.toInt64 (0 : Int64) (9 : Int64) hW.2.1) ⟨by decide, by decide⟩ rfl rfl hl.1 (Nat.le_of_ble_eq_true rfl) dX12_link_27 (fun v g13909 H locs hp hW1 => ?_)
        obtain ⟨r13908, rfl, hr13908, rfl⟩ := hp
        have hW : WS ad cA (fun i k => i = 133) g0 K g0 H locs := ⟨hW1, hW.2.1, hW.2.2⟩
        refine q_if_ne (tgt := 35) hM dX12_link_30 (by decide) (rfl : r13908.toInt = r13908.toInt) (fun h30 => ?_) (fun h30 => ?_)
        · refine q_aload_n hM dX12_link_35 (lv_at hl 0 rfl) ?_
          refine w_get (v := .ref (ad 133)) hM hW FG_X12_25 lb_129 (rf_129_12 hW.2.1) dX12_link_36 ?_
          refine q_bipush (v := (12 : Int32)) hM dX12_link_39 (by decide) ?_
          refine q_iload_n hM dX12_link_41 (lv_at hl 1 rfl) ?_
          refine q_imul hM dX12_link_42 (fun z13911 hz13911 => ?_)
          first | have tz13911 := i_mulT hz13911 (kc_12 : (12 : Int32).toInt = 12) (rfl : a.toInt = a.toInt) (by omega) (by omega) | skip
          refine q_iload_n hM dX12_link_43 (lv_at hl 2 rfl) ?_
          refine q_iadd hM dX12_link_44 (fun z13912 hz13912 => ?_)
          first | have tz13912 := i_addT hz13912 (rfl : z13911.toInt = z13911.toInt) (rfl : b.toInt = b.toInt) (by omega) (by omega) | skip
          refine q_iload_n hM dX12_link_45 (lv_at hl 3 rfl) ?_
          refine w_iast hM hW lb_133 (by omega) (i_in (by omega) (by omega)) dX12_link_46 (fun g13913 H locs hW e1 e2 => ?_)
          have hLK := e1
          rw [show z13912.toNatClampNeg = 12 * a.toInt.toNat + b.toInt.toNat by show z13912.toInt.toNat = _; omega] at hLK
          have hG := hG.st e1 e2 (rfl : rA 133 = (-2147483648, 2147483647)) (by have := i_rng c; omega) (by have := i_rng c; omega)
          refine q_iconst (v := (1 : Int32)) hM dX12_link_47 (by decide) ?_
          exact hE _ _ _ _ _ _ hW.1 nz_1 ⟨_, rfl, hW.2.1, hG, hW.2.2, (Or.inl ⟨by omega, hLK⟩), (by have := kc_1; omega)⟩ dX12_link_48
        · refine q_iconst (v := (0 : Int32)) hM dX12_link_33 (by decide) ?_
          exact hE _ _ _ _ _ _ hW.1 nz_0 ⟨_, rfl, hW.2.1, hG, hW.2.2, (Or.inr ⟨by omega, rfl⟩), (by have := kc_0; omega)⟩ dX12_link_34


set_option maxRecDepth 100000 in
set_option maxHeartbeats 4000000 in
theorem s_X12_sizeOf (l : Launch) (D : va_G) (cA : Nat → ClassId) (ad : Nat → Nat) (g0 : Nat → va_E) (s : Int32) (hSh : Shp ad cA g0) (hG : Rng g0) (h0 : 0 ≤ s.toInt) (h1 : s.toInt < 4096) : CT l NN ad cA D yX12_sizeOf cX12_sizeOf 3 (some FieldType.int) (0, 0) [.int s] g0 (PU g0 (fun r => r.toInt = cb s 12)) := by
  refine q_enterI (by decide) (Nat.le_of_ble_eq_true rfl) rfl (fun K H locs ls _ _ hM hW0 hR hC hE hl => ?_)
  have hl : lv_has ls 3 [(0, .int s)] := hl
  have hW : WS ad cA (fun i k => False) g0 K g0 H locs := ⟨hW0, hSh, FR.rf⟩
  have := i_rng s
  have := kc_0
  have cb9 := cb_le s 12
  refine q_iconst (v := (0 : Int32)) hM dX12_sizeOf_0 (by decide) ?_
  refine q_istore_n (lv9 := [(1, .int (0 : Int32)), (0, .int s)]) hM dX12_sizeOf_1 hl (by decide) rfl (fun ls hl => ?_)
  refine q_iload_n hM dX12_sizeOf_2 (lv_at hl 1 rfl) ?_
  refine q_istore_n (lv9 := [(2, .int s), (1, .int (0 : Int32)), (0, .int s)]) hM dX12_sizeOf_3 hl (by decide) rfl (fun ls hl => ?_)
  have L4 : ∀ (fu4 : Nat) (w4_1 : Int32) (w4_2 : Int32) (H : Heap) (locs : List Loc) (ls : Array Slot), w4_2.toInt.toNat < fu4 → (0 ≤ w4_2.toInt) → (w4_2.toInt ≤ s.toInt) → (0 ≤ w4_1.toInt) → (w4_1.toInt + cb w4_2 12 = cb s 12) → lv_has ls 3 [(0, .int s), (1, .int w4_1), (2, .int w4_2)] → WS ad cA (fun i k => False) g0 K g0 H locs → XX K 0 0 H locs 4 ls [] := by
    intro fu4
    induction fu4 with
    | zero => intro w4_1 w4_2 H locs ls h0; omega
    | succ fu4 ih4 =>
      intro w4_1 w4_2 H locs ls hm4 i4_0 i4_1 i4_2 i4_3 hl hW
      have cb8 := cb_le w4_2 12
      refine q_iload_n hM dX12_sizeOf_4 (lv_at hl 2 rfl) ?_
      refine q_if_eq (tgt := 20) hM dX12_sizeOf_5 (by decide) (rfl : w4_2.toInt = w4_2.toInt) (fun h5 => ?_) (fun h5 => ?_)
      · refine q_iload_n hM dX12_sizeOf_20 (lv_at hl 1 rfl) ?_
        exact hE _ _ _ _ _ _ hW.1 ⟨_, rfl, (by have z9 := cb_00 (x := w4_2) (by omega); omega), rfl⟩ dX12_sizeOf_21
      · refine q_iinc (lv9 := fun z13918 => [(1, .int z13918), (0, .int s), (2, .int w4_2)]) hM dX12_sizeOf_8 hl (kq := 1) rfl (by decide) (fun _ => rfl) (fun z13918 ls hz13918 hl => ?_)
        first | have tz13918 := i_addT hz13918 (rfl : w4_1.toInt = w4_1.toInt) (kc_1 : (Int32.ofInt 1).toInt = 1) (by omega) (by omega) | skip
        refine q_iload_n hM dX12_sizeOf_11 (lv_at hl 2 rfl) ?_
        refine q_iload_n hM dX12_sizeOf_12 (lv_at hl 2 rfl) ?_
        refine q_iconst (v := (1 : Int32)) hM dX12_sizeOf_13 (by decide) ?_
        refine q_isub hM dX12_sizeOf_14 (fun z13919 hz13919 => ?_)
        first | have tz13919 := i_subT hz13919 (rfl : w4_2.toInt = w4_2.toInt) (kc_1 : (1 : Int32).toInt = 1) (by omega) (by omega) | skip
        refine q_iand hM dX12_sizeOf_15 (fun z13920 hz13920 => ?_)
        have al := i_and_le hz13920 (by omega) (by omega)
        refine q_istore_n (lv9 := [(2, .int z13920), (1, .int z13918), (0, .int s)]) hM dX12_sizeOf_16 hl (by decide) rfl (fun ls hl => ?_)
        refine q_goto (tgt := 4) hM dX12_sizeOf_17 (by decide) ?_
        exact ih4 z13918 z13920 _ _ _ (by omega) (by omega) (by omega) (by omega) (by have p9 := sz_cb hz13919 hz13920 (by omega) (by omega); omega) (lv_sub hl [2, 1, 0] rfl) hW
  have := kc_0
  exact L4 _ (0 : Int32) s _ _ _ (Nat.lt_succ_self _) (by omega) (by omega) (by omega) (by omega) (lv_sub hl [2, 1, 0] rfl) hW
