
set_option maxRecDepth 100000 in
set_option maxHeartbeats 4000000 in
theorem s_X12_tried (l : Launch) (D : va_G) (cA : Nat → ClassId) (ad : Nat → Nat) (g0 : Nat → va_E) (a : Int32) (b : Int32) (wk : Int32)  (hSh : Shp ad cA g0) (hG : Rng g0) (h_wk : fld g0 129 56 = .int wk) (hL : LawOK g0) (hF : ∀ q : Nat, q < 8 → (arI g0 158 q).toInt = 0 ∨ (arI g0 158 q).toInt = 1) : CT l NN ad cA D yX12_tried cX12_tried 3 (some FieldType.int) (11, 256) [.ref (ad 129), .int a, .int b] g0 (fun v g' => ∃ (w9 : Int32) (r : Int32), v = some (.int r) ∧ Shp ad cA g' ∧ Rng g' ∧ FR (fun i k => i = 161 ∨ i = 156 ∨ i = 157 ∨ (i = 129 ∧ (k = 42 ∨ k = 43 ∨ k = 44 ∨ k = 45 ∨ k = 46 ∨ k = 47 ∨ k = 48 ∨ k = 49)) ∨ (i = 129 ∧ (k = 2 ∨ k = 57 ∨ k = 58 ∨ k = 61 ∨ k = 62 ∨ k = 63 ∨ k = 64)) ∨ i = 159 ∨ (i = 129 ∧ (k = 56 ∨ k = 65 ∨ k = 66)) ∨ (162 ≤ i ∧ i < 170) ∨ (158 ≤ i ∧ i < 162) ∨ (i = 129 ∧ (k = 31))) g0 g' ∧ fld g' 129 56 = .int w9 ∧ (∀ q : Nat, q < 8 → arI g' 158 q = arI g0 158 q) ∧ (∀ q : Nat, 8 ≤ q → arI g' 162 q = arI g0 162 q) ∧ (arI g' 166 1 = arI g0 166 1) ∧ (w9 = wk)) := by
  refine q_enterI (by decide) (Nat.le_of_ble_eq_true rfl) rfl (fun K H locs ls _ _ hM hW0 hR hC hE hl => ?_)
  have hl : lv_has ls 3 [(0, .ref (ad 129)), (1, .int a), (2, .int b)] := hl
  have hW : WS ad cA (fun i k => i = 161 ∨ i = 156 ∨ i = 157 ∨ (i = 129 ∧ (k = 42 ∨ k = 43 ∨ k = 44 ∨ k = 45 ∨ k = 46 ∨ k = 47 ∨ k = 48 ∨ k = 49)) ∨ (i = 129 ∧ (k = 2 ∨ k = 57 ∨ k = 58 ∨ k = 61 ∨ k = 62 ∨ k = 63 ∨ k = 64)) ∨ i = 159 ∨ (i = 129 ∧ (k = 56 ∨ k = 65 ∨ k = 66)) ∨ (162 ≤ i ∧ i < 170) ∨ (158 ≤ i ∧ i < 162) ∨ (i = 129 ∧ (k = 31))) g0 K g0 H locs := ⟨hW0, hSh, FR.rf⟩
  have := kc_0
  have := kc_1
  have f13482 : fld g0 129 56 = .int wk := h_wk
  refine q_aload_n hM dX12_tried_0 (lv_at hl 0 rfl) ?_
  refine q_iconst (v := (0 : Int32)) hM dX12_tried_1 (by decide) ?_
  refine q_iload_n hM dX12_tried_2 (lv_at hl 1 rfl) ?_
  refine q_iload_n hM dX12_tried_3 (lv_at hl 2 rfl) ?_
  refine q_callV (As := [.int (0 : Int32), .int a, .int b]) (rest := []) hM hW.1 hR hC myX12_triedBy (kAW (v_6_9 (List.mem_of_getElem? (i := 13) rfl)) rfl) (rfl : vwCl[12]? = some (RX12, TX12, 86)) rfl lb_129.1 (shO hW.2.1 lb_129) (s_X12_triedBy _ _ cA ad g0 (0 : Int32) a b wk hW.2.1 hG f13482 (by have := kc_0; omega) (by have := kc_0; omega) (LawOK_fr hL hW.2.2 (by omega) (by omega) (by omega) (by omega) (by omega)) hF) ⟨by decide, by decide⟩ rfl rfl hl.1 (Nat.le_of_ble_eq_true rfl) dX12_tried_4 (fun v g13490 H locs hp hW1 => ?_)
  obtain ⟨v13483, r13484, rfl, hs1, hG, hf1, q13485, e13486, e13487, e13488, e13489⟩ := hp
  have hW : WS ad cA (fun i k => i = 161 ∨ i = 156 ∨ i = 157 ∨ (i = 129 ∧ (k = 42 ∨ k = 43 ∨ k = 44 ∨ k = 45 ∨ k = 46 ∨ k = 47 ∨ k = 48 ∨ k = 49)) ∨ (i = 129 ∧ (k = 2 ∨ k = 57 ∨ k = 58 ∨ k = 61 ∨ k = 62 ∨ k = 63 ∨ k = 64)) ∨ i = 159 ∨ (i = 129 ∧ (k = 56 ∨ k = 65 ∨ k = 66)) ∨ (162 ≤ i ∧ i < 170) ∨ (158 ≤ i ∧ i < 162) ∨ (i = 129 ∧ (k = 31))) g0 K g13490 H locs := ⟨hW1, hs1, hW.2.2.tr hf1 (fun i k h => h.elim (fun h => (Or.inl h)) (fun h => h.elim (fun h => (Or.inr (Or.inl h))) (fun h => h.elim (fun h => (Or.inr (Or.inr (Or.inl h)))) (fun h => h.elim (fun h => (Or.inr (Or.inr (Or.inr (Or.inl h))))) (fun h => h.elim (fun h => (Or.inr (Or.inr (Or.inr (Or.inr (Or.inl h)))))) (fun h => h.elim (fun h => (Or.inr (Or.inr (Or.inr (Or.inr (Or.inr (Or.inl h))))))) (fun h => h.elim (fun h => (Or.inr (Or.inr (Or.inr (Or.inr (Or.inr (Or.inr (Or.inl h)))))))) (fun h => h.elim (fun h => (Or.inr (Or.inr (Or.inr (Or.inr (Or.inr (Or.inr (Or.inr (Or.inl h))))))))) (fun h => h.elim (fun h => (Or.inr (Or.inr (Or.inr (Or.inr (Or.inr (Or.inr (Or.inr (Or.inr (Or.inl h)))))))))) (fun h => (Or.inr (Or.inr (Or.inr (Or.inr (Or.inr (Or.inr (Or.inr (Or.inr (Or.inr h)))))))))))))))))))⟩
  exact hE _ _ _ _ _ _ hW.1 ⟨v13483, _, rfl, hW.2.1, hG, hW.2.2, q13485, e13486, e13487, e13488, e13489⟩ dX12_tried_7


set_option maxRecDepth 100000 in
set_option maxHeartbeats 4000000 in
theorem s_X12_other (l : Launch) (D : va_G) (cA : Nat → ClassId) (ad : Nat → Nat) (g0 : Nat → va_E) (a : Int32) (b : Int32) (wk : Int32)  (hSh : Shp ad cA g0) (hG : Rng g0) (h_wk : fld g0 129 56 = .int wk) (hL : LawOK g0) (hF : ∀ q : Nat, q < 8 → (arI g0 158 q).toInt = 0 ∨ (arI g0 158 q).toInt = 1) : CT l NN ad cA D yX12_other cX12_other 3 (some FieldType.int) (11, 256) [.ref (ad 129), .int a, .int b] g0 (fun v g' => ∃ (w9 : Int32) (r : Int32), v = some (.int r) ∧ Shp ad cA g' ∧ Rng g' ∧ FR (fun i k => i = 161 ∨ i = 156 ∨ i = 157 ∨ (i = 129 ∧ (k = 42 ∨ k = 43 ∨ k = 44 ∨ k = 45 ∨ k = 46 ∨ k = 47 ∨ k = 48 ∨ k = 49)) ∨ (i = 129 ∧ (k = 2 ∨ k = 57 ∨ k = 58 ∨ k = 61 ∨ k = 62 ∨ k = 63 ∨ k = 64)) ∨ i = 159 ∨ (i = 129 ∧ (k = 56 ∨ k = 65 ∨ k = 66)) ∨ (162 ≤ i ∧ i < 170) ∨ (158 ≤ i ∧ i < 162) ∨ (i = 129 ∧ (k = 31))) g0 g' ∧ fld g' 129 56 = .int w9 ∧ (∀ q : Nat, q < 8 → arI g' 158 q = arI g0 158 q) ∧ (∀ q : Nat, 8 ≤ q → arI g' 162 q = arI g0 162 q) ∧ (arI g' 166 1 = arI g0 166 1) ∧ (w9 = wk)) := by
  refine q_enterI (by decide) (Nat.le_of_ble_eq_true rfl) rfl (fun K H locs ls _ _ hM hW0 hR hC hE hl => ?_)
  have hl : lv_has ls 3 [(0, .ref (ad 129)), (1, .int a), (2, .int b)] := hl
  have hW : WS ad cA (fun i k => i = 161 ∨ i = 156 ∨ i = 157 ∨ (i = 129 ∧ (k = 42 ∨ k = 43 ∨ k = 44 ∨ k = 45 ∨ k = 46 ∨ k = 47 ∨ k = 48 ∨ k = 49)) ∨ (i = 129 ∧ (k = 2 ∨ k = 57 ∨ k = 58 ∨ k = 61 ∨ k = 62 ∨ k = 63 ∨ k = 64)) ∨ i = 159 ∨ (i = 129 ∧ (k = 56 ∨ k = 65 ∨ k = 66)) ∨ (162 ≤ i ∧ i < 170) ∨ (158 ≤ i ∧ i < 162) ∨ (i = 129 ∧ (k = 31))) g0 K g0 H locs := ⟨hW0, hSh, FR.rf⟩
  have := kc_0
  have := kc_1
  have f13491 : fld g0 129 56 = .int wk := h_wk
  refine q_aload_n hM dX12_other_0 (lv_at hl 0 rfl) ?_
  refine q_iconst (v := (1 : Int32)) hM dX12_other_1 (by decide) ?_
  refine q_iload_n hM dX12_other_2 (lv_at hl 1 rfl) ?_
  refine q_iload_n hM dX12_other_3 (lv_at hl 2 rfl) ?_
  refine q_callV (As := [.int (1 : Int32), .int a, .int b]) (rest := []) hM hW.1 hR hC myX12_triedBy (kAW (v_6_9 (List.mem_of_getElem? (i := 13) rfl)) rfl) (rfl : vwCl[12]? = some (RX12, TX12, 86)) rfl lb_129.1 (shO hW.2.1 lb_129) (s_X12_triedBy _ _ cA ad g0 (1 : Int32) a b wk hW.2.1 hG f13491 (by have := kc_1; omega) (by have := kc_1; omega) (LawOK_fr hL hW.2.2 (by omega) (by omega) (by omega) (by omega) (by omega)) hF) ⟨by decide, by decide⟩ rfl rfl hl.1 (Nat.le_of_ble_eq_true rfl) dX12_other_4 (fun v g13499 H locs hp hW1 => ?_)
  obtain ⟨v13492, r13493, rfl, hs1, hG, hf1, q13494, e13495, e13496, e13497, e13498⟩ := hp
  have hW : WS ad cA (fun i k => i = 161 ∨ i = 156 ∨ i = 157 ∨ (i = 129 ∧ (k = 42 ∨ k = 43 ∨ k = 44 ∨ k = 45 ∨ k = 46 ∨ k = 47 ∨ k = 48 ∨ k = 49)) ∨ (i = 129 ∧ (k = 2 ∨ k = 57 ∨ k = 58 ∨ k = 61 ∨ k = 62 ∨ k = 63 ∨ k = 64)) ∨ i = 159 ∨ (i = 129 ∧ (k = 56 ∨ k = 65 ∨ k = 66)) ∨ (162 ≤ i ∧ i < 170) ∨ (158 ≤ i ∧ i < 162) ∨ (i = 129 ∧ (k = 31))) g0 K g13499 H locs := ⟨hW1, hs1, hW.2.2.tr hf1 (fun i k h => h.elim (fun h => (Or.inl h)) (fun h => h.elim (fun h => (Or.inr (Or.inl h))) (fun h => h.elim (fun h => (Or.inr (Or.inr (Or.inl h)))) (fun h => h.elim (fun h => (Or.inr (Or.inr (Or.inr (Or.inl h))))) (fun h => h.elim (fun h => (Or.inr (Or.inr (Or.inr (Or.inr (Or.inl h)))))) (fun h => h.elim (fun h => (Or.inr (Or.inr (Or.inr (Or.inr (Or.inr (Or.inl h))))))) (fun h => h.elim (fun h => (Or.inr (Or.inr (Or.inr (Or.inr (Or.inr (Or.inr (Or.inl h)))))))) (fun h => h.elim (fun h => (Or.inr (Or.inr (Or.inr (Or.inr (Or.inr (Or.inr (Or.inr (Or.inl h))))))))) (fun h => h.elim (fun h => (Or.inr (Or.inr (Or.inr (Or.inr (Or.inr (Or.inr (Or.inr (Or.inr (Or.inl h)))))))))) (fun h => (Or.inr (Or.inr (Or.inr (Or.inr (Or.inr (Or.inr (Or.inr (Or.inr (Or.inr h)))))))))))))))))))⟩
  exact hE _ _ _ _ _ _ hW.1 ⟨v13492, _, rfl, hW.2.1, hG, hW.2.2, q13494, e13495, e13496, e13497, e13498⟩ dX12_other_7


set_option maxRecDepth 100000 in
set_option maxHeartbeats 4000000 in
theorem s_X12_first (l : Launch) (D : va_G) (cA : Nat → ClassId) (ad : Nat → Nat) (g0 : Nat → va_E) (a : Int32) (b : Int32) (c : Int32) (wk : Int32)  (hSh : Shp ad cA g0) (hG : Rng g0) (h_wk : fld g0 129 56 = .int wk) (hL : LawOK g0) (hF : ∀ q : Nat, q < 8 → (arI g0 158 q).toInt = 0 ∨ (arI g0 158 q).toInt = 1) : CT l NN ad cA D yX12_first cX12_first 4 (some FieldType.int) (10, 232) [.ref (ad 129), .int a, .int b, .int c] g0 (fun v g' => ∃ (w9 : Int32) (r : Int32), v = some (.int r) ∧ Shp ad cA g' ∧ Rng g' ∧ FR (fun i k => i = 161 ∨ i = 156 ∨ i = 157 ∨ (i = 129 ∧ (k = 42 ∨ k = 43 ∨ k = 44 ∨ k = 45 ∨ k = 46 ∨ k = 47 ∨ k = 48 ∨ k = 49)) ∨ (i = 129 ∧ (k = 2 ∨ k = 57 ∨ k = 58 ∨ k = 61 ∨ k = 62 ∨ k = 63 ∨ k = 64)) ∨ i = 159 ∨ (i = 129 ∧ (k = 56 ∨ k = 65 ∨ k = 66)) ∨ (162 ≤ i ∧ i < 170) ∨ (158 ≤ i ∧ i < 162)) g0 g' ∧ fld g' 129 56 = .int w9 ∧ (∀ q : Nat, q < 8 → arI g' 158 q = arI g0 158 q) ∧ (∀ q : Nat, 8 ≤ q → arI g' 162 q = arI g0 162 q) ∧ (arI g' 166 1 = arI g0 166 1) ∧ (w9 = wk)) := by
  refine q_enterI (by decide) (Nat.le_of_ble_eq_true rfl) rfl (fun K H locs ls _ _ hM hW0 hR hC hE hl => ?_)
  have hl : lv_has ls 4 [(0, .ref (ad 129)), (1, .int a), (2, .int b), (3, .int c)] := hl
  have hW : WS ad cA (fun i k => i = 161 ∨ i = 156 ∨ i = 157 ∨ (i = 129 ∧ (k = 42 ∨ k = 43 ∨ k = 44 ∨ k = 45 ∨ k = 46 ∨ k = 47 ∨ k = 48 ∨ k = 49)) ∨ (i = 129 ∧ (k = 2 ∨ k = 57 ∨ k = 58 ∨ k = 61 ∨ k = 62 ∨ k = 63 ∨ k = 64)) ∨ i = 159 ∨ (i = 129 ∧ (k = 56 ∨ k = 65 ∨ k = 66)) ∨ (162 ≤ i ∧ i < 170) ∨ (158 ≤ i ∧ i < 162)) g0 K g0 H locs := ⟨hW0, hSh, FR.rf⟩
  have := kc_0
  have := kc_1
  have := kc_m1
  have := kc_m2
  have f13500 : fld g0 129 56 = .int wk := h_wk
  refine q_iload_n hM dX12_first_0 (lv_at hl 1 rfl) ?_
  refine q_i2l hM dX12_first_1 ?_
  have := l_i2l a
  refine q_lconst (v := 1) hM dX12_first_2 (by decide) ?_
  have := kl_1
  refine q_ldc2 (v := 60) hM (kAW (v_5_8 (List.mem_of_getElem? (i := 6) rfl)) rfl) dX12_first_3 ?_
  have := kl_60
  refine q_callS (As := [.long a.toInt64, .long (1 : Int64), .long (60 : Int64)]) (rest := []) hM hW.1 hR hC myX12_lies (kAW (v_5_4 (List.mem_of_getElem? (i := 14) rfl)) rfl) (c_X12_lies _ _ cA ad g0 a.toInt64 (1 : Int64) (60 : Int64) hW.2.1) ⟨by decide, by decide⟩ rfl rfl hl.1 (Nat.le_of_ble_eq_true rfl) dX12_first_6 (fun v g13502 H locs hp hW1 => ?_)
  obtain ⟨r13501, rfl, hr13501, rfl⟩ := hp
  have hW : WS ad cA (fun i k => i = 161 ∨ i = 156 ∨ i = 157 ∨ (i = 129 ∧ (k = 42 ∨ k = 43 ∨ k = 44 ∨ k = 45 ∨ k = 46 ∨ k = 47 ∨ k = 48 ∨ k = 49)) ∨ (i = 129 ∧ (k = 2 ∨ k = 57 ∨ k = 58 ∨ k = 61 ∨ k = 62 ∨ k = 63 ∨ k = 64)) ∨ i = 159 ∨ (i = 129 ∧ (k = 56 ∨ k = 65 ∨ k = 66)) ∨ (162 ≤ i ∧ i < 170) ∨ (158 ≤ i ∧ i < 162)) g0 K g0 H locs := ⟨hW1, hW.2.1, hW.2.2⟩
  refine q_if_eq (tgt := 30) hM dX12_first_9 (by decide) (rfl : r13501.toInt = r13501.toInt) (fun h9 => ?_) (fun h9 => ?_)
  · refine q_iconst (v := ((-1) : Int32)) hM dX12_first_30 (by decide) ?_
    exact hE _ _ _ _ _ _ hW.1 ⟨wk, _, rfl, hW.2.1, hG, hW.2.2, f13500, (fun _ _ => rfl), (fun _ _ => rfl), rfl, rfl⟩ dX12_first_31
  · refine q_aload_n hM dX12_first_12 (lv_at hl 0 rfl) ?_
    refine q_iload_n hM dX12_first_13 (lv_at hl 2 rfl) ?_
    refine q_callV (As := [.int b]) (rest := []) hM hW.1 hR hC myX12_isTold (kAW (v_5_5 (List.mem_of_getElem? (i := 6) rfl)) rfl) (rfl : vwCl[12]? = some (RX12, TX12, 86)) rfl lb_129.1 (shO hW.2.1 lb_129) (a_X12_isTold _ _ cA ad g0 b hW.2.1 hG) ⟨by decide, by decide⟩ rfl rfl hl.1 (Nat.le_of_ble_eq_true rfl) dX12_first_14 (fun v g13506 H locs hp hW1 => ?_)
    obtain ⟨r13505, rfl, hr13505, rfl⟩ := hp
    have hW : WS ad cA (fun i k => i = 161 ∨ i = 156 ∨ i = 157 ∨ (i = 129 ∧ (k = 42 ∨ k = 43 ∨ k = 44 ∨ k = 45 ∨ k = 46 ∨ k = 47 ∨ k = 48 ∨ k = 49)) ∨ (i = 129 ∧ (k = 2 ∨ k = 57 ∨ k = 58 ∨ k = 61 ∨ k = 62 ∨ k = 63 ∨ k = 64)) ∨ i = 159 ∨ (i = 129 ∧ (k = 56 ∨ k = 65 ∨ k = 66)) ∨ (162 ≤ i ∧ i < 170) ∨ (158 ≤ i ∧ i < 162)) g0 K g0 H locs := ⟨hW1, hW.2.1, hW.2.2⟩
    refine q_if_eq (tgt := 30) hM dX12_first_17 (by decide) (rfl : r13505.toInt = r13505.toInt) (fun h17 => ?_) (fun h17 => ?_)
    · refine q_iconst (v := ((-1) : Int32)) hM dX12_first_30 (by decide) ?_
      exact hE _ _ _ _ _ _ hW.1 ⟨wk, _, rfl, hW.2.1, hG, hW.2.2, f13500, (fun _ _ => rfl), (fun _ _ => rfl), rfl, rfl⟩ dX12_first_31
    · refine q_iload_n hM dX12_first_20 (lv_at hl 3 rfl) ?_
      refine q_i2l hM dX12_first_21 ?_
      have := l_i2l c
      refine q_lconst (v := 0) hM dX12_first_22 (by decide) ?_
      have := kl_0
      refine q_lconst (v := 1) hM dX12_first_23 (by decide) ?_
      have := kl_1
      refine q_callS (As := [.long c.toInt64, .long (0 : Int64), .long (1 : Int64)]) (rest := []) hM hW.1 hR hC myX12_lies (kAW (v_5_4 (List.mem_of_getElem? (i := 14) rfl)) rfl) (c_X12_lies _ _ cA ad g0 c.toInt64 (0 : Int64) (1 : Int64) hW.2.1) ⟨by decide, by decide⟩ rfl rfl hl.1 (Nat.le_of_ble_eq_true rfl) dX12_first_24 (fun v g13510 H locs hp hW1 => ?_)
      obtain ⟨r13509, rfl, hr13509, rfl⟩ := hp
      have hW : WS ad cA (fun i k => i = 161 ∨ i = 156 ∨ i = 157 ∨ (i = 129 ∧ (k = 42 ∨ k = 43 ∨ k = 44 ∨ k = 45 ∨ k = 46 ∨ k = 47 ∨ k = 48 ∨ k = 49)) ∨ (i = 129 ∧ (k = 2 ∨ k = 57 ∨ k = 58 ∨ k = 61 ∨ k = 62 ∨ k = 63 ∨ k = 64)) ∨ i = 159 ∨ (i = 129 ∧ (k = 56 ∨ k = 65 ∨ k = 66)) ∨ (162 ≤ i ∧ i < 170) ∨ (158 ≤ i ∧ i < 162)) g0 K g0 H locs := ⟨hW1, hW.2.1, hW.2.2⟩
      refine q_if_ne (tgt := 32) hM dX12_first_27 (by decide) (rfl : r13509.toInt = r13509.toInt) (fun h27 => ?_) (fun h27 => ?_)
      · refine q_aload_n hM dX12_first_32 (lv_at hl 0 rfl) ?_
        refine q_iconst (v := (0 : Int32)) hM dX12_first_33 (by decide) ?_
        refine q_callV (As := [.int (0 : Int32)]) (rest := []) hM hW.1 hR hC myX12_laysAside (kAW (v_6_10 (List.mem_of_getElem? (i := 2) rfl)) rfl) (rfl : vwCl[12]? = some (RX12, TX12, 86)) rfl lb_129.1 (shO hW.2.1 lb_129) (s_X12_laysAside_0 _ _ cA ad g0 wk hW.2.1 hG f13500 hF) ⟨by decide, by decide⟩ rfl rfl hl.1 (Nat.le_of_ble_eq_true rfl) dX12_first_34 (fun v g13515 H locs hp hW1 => ?_)
        obtain ⟨rfl, hs1, hG, hf1, e13512, e13513, e13514⟩ := hp
        have f13516 : fld g13515 129 56 = .int wk := (hf1.1 129 56 (by omega)).trans f13500
        have hW : WS ad cA (fun i k => i = 161 ∨ i = 156 ∨ i = 157 ∨ (i = 129 ∧ (k = 42 ∨ k = 43 ∨ k = 44 ∨ k = 45 ∨ k = 46 ∨ k = 47 ∨ k = 48 ∨ k = 49)) ∨ (i = 129 ∧ (k = 2 ∨ k = 57 ∨ k = 58 ∨ k = 61 ∨ k = 62 ∨ k = 63 ∨ k = 64)) ∨ i = 159 ∨ (i = 129 ∧ (k = 56 ∨ k = 65 ∨ k = 66)) ∨ (162 ≤ i ∧ i < 170) ∨ (158 ≤ i ∧ i < 162)) g0 K g13515 H locs := ⟨hW1, hs1, hW.2.2.tr hf1 (fun i k h => (Or.inr (Or.inr (Or.inr (Or.inr (Or.inr (Or.inr (Or.inr (Or.inl h)))))))))⟩
        refine q_aload_n hM dX12_first_37 (lv_at hl 0 rfl) ?_
        refine q_iload_n hM dX12_first_38 (lv_at hl 1 rfl) ?_
        refine q_iload_n hM dX12_first_39 (lv_at hl 2 rfl) ?_
        refine q_callV (As := [.int a, .int b]) (rest := []) hM hW.1 hR hC myX12_go (kAW (v_6_7 (List.mem_of_getElem? (i := 13) rfl)) rfl) (rfl : vwCl[12]? = some (RX12, TX12, 86)) rfl lb_129.1 (shO hW.2.1 lb_129) (a_X12_go _ _ cA ad g13515 a b hW.2.1 hG (by  omega) (by  omega) (by  omega) (LawOK_fr hL hW.2.2 (by omega) (by omega) (by omega) (by omega) (by omega))) ⟨by decide, by decide⟩ rfl rfl hl.1 (Nat.le_of_ble_eq_true rfl) dX12_first_40 (fun v g13517 H locs hp hW1 => ?_)
        obtain ⟨rfl, hs1, hG, hf1⟩ := hp
        have f13518 : arI g13517 162 = arI g13515 162 := (hf1.2.1 162 (by omega)).trans (rfl : arI g13515 162 = arI g13515 162)
        have f13519 : arI g13517 166 = upd (arI g0 166) (0 : Int32).toNatClampNeg wk := (hf1.2.1 166 (by omega)).trans e13514
        have hW : WS ad cA (fun i k => i = 161 ∨ i = 156 ∨ i = 157 ∨ (i = 129 ∧ (k = 42 ∨ k = 43 ∨ k = 44 ∨ k = 45 ∨ k = 46 ∨ k = 47 ∨ k = 48 ∨ k = 49)) ∨ (i = 129 ∧ (k = 2 ∨ k = 57 ∨ k = 58 ∨ k = 61 ∨ k = 62 ∨ k = 63 ∨ k = 64)) ∨ i = 159 ∨ (i = 129 ∧ (k = 56 ∨ k = 65 ∨ k = 66)) ∨ (162 ≤ i ∧ i < 170) ∨ (158 ≤ i ∧ i < 162)) g0 K g13517 H locs := ⟨hW1, hs1, hW.2.2.tr hf1 (fun i k h => h.elim (fun h => (Or.inl h)) (fun h => h.elim (fun h => (Or.inr (Or.inl h))) (fun h => h.elim (fun h => (Or.inr (Or.inr (Or.inl h)))) (fun h => h.elim (fun h => (Or.inr (Or.inr (Or.inr (Or.inl h))))) (fun h => h.elim (fun h => (Or.inr (Or.inr (Or.inr (Or.inr (Or.inl h)))))) (fun h => h.elim (fun h => (Or.inr (Or.inr (Or.inr (Or.inr (Or.inr (Or.inl h))))))) (fun h => (Or.inr (Or.inr (Or.inr (Or.inr (Or.inr (Or.inr (Or.inl h))))))))))))))⟩
        refine q_aload_n hM dX12_first_43 (lv_at hl 0 rfl) ?_
        refine q_iconst (v := (0 : Int32)) hM dX12_first_44 (by decide) ?_
        refine q_callV (As := [.int (0 : Int32)]) (rest := []) hM hW.1 hR hC myX12_bringsBack (kAW (v_6_10 (List.mem_of_getElem? (i := 10) rfl)) rfl) (rfl : vwCl[12]? = some (RX12, TX12, 86)) rfl lb_129.1 (shO hW.2.1 lb_129) (s_X12_bringsBack_0 _ _ cA ad g13517  hW.2.1 hG (fun q hq => by rw [f13518, e13512 q hq]; exact hF q hq)) ⟨by decide, by decide⟩ rfl rfl hl.1 (Nat.le_of_ble_eq_true rfl) dX12_first_45 (fun v g13524 H locs hp hW1 => ?_)
        obtain ⟨v13520, rfl, hs1, hG, hf1, q13521, e13522, e13523⟩ := hp
        have f13525 : arI g13524 162 = arI g13515 162 := (hf1.2.1 162 (by omega)).trans f13518
        have f13526 : arI g13524 166 = upd (arI g0 166) (0 : Int32).toNatClampNeg wk := (hf1.2.1 166 (by omega)).trans f13519
        have hW : WS ad cA (fun i k => i = 161 ∨ i = 156 ∨ i = 157 ∨ (i = 129 ∧ (k = 42 ∨ k = 43 ∨ k = 44 ∨ k = 45 ∨ k = 46 ∨ k = 47 ∨ k = 48 ∨ k = 49)) ∨ (i = 129 ∧ (k = 2 ∨ k = 57 ∨ k = 58 ∨ k = 61 ∨ k = 62 ∨ k = 63 ∨ k = 64)) ∨ i = 159 ∨ (i = 129 ∧ (k = 56 ∨ k = 65 ∨ k = 66)) ∨ (162 ≤ i ∧ i < 170) ∨ (158 ≤ i ∧ i < 162)) g0 K g13524 H locs := ⟨hW1, hs1, hW.2.2.tr hf1 (fun i k h => h.elim (fun h => (Or.inr (Or.inr (Or.inr (Or.inr (Or.inr (Or.inr (Or.inr (Or.inr h))))))))) (fun h => (by omega)))⟩
        refine q_iload_n hM dX12_first_48 (lv_at hl 3 rfl) ?_
        refine q_if_ne (tgt := 59) hM dX12_first_49 (by decide) (rfl : c.toInt = c.toInt) (fun h49 => ?_) (fun h49 => ?_)
        · refine q_aload_n hM dX12_first_59 (lv_at hl 0 rfl) ?_
          refine w_getI hM hW FG_X12_498 lb_129 (by decide) (by decide) dX12_first_60 (fun x13528 fx13528 => ?_)
          exact hE _ _ _ _ _ _ hW.1 ⟨v13520, _, rfl, hW.2.1, hG, hW.2.2, q13521, (fun q hq => by rw [e13522 q hq, f13518]; exact e13512 q hq), (fun q hq => by rw [f13525]; exact e13513 q hq), (by rw [f13526]; rfl), (by rw [e13523, f13519]; rfl)⟩ dX12_first_63
        · refine q_aload_n hM dX12_first_52 (lv_at hl 0 rfl) ?_
          refine w_getI hM hW FG_X12_495 lb_129 (by decide) (by decide) dX12_first_53 (fun x13530 fx13530 => ?_)
          refine q_goto (tgt := 63) hM dX12_first_56 (by decide) ?_
          exact hE _ _ _ _ _ _ hW.1 ⟨v13520, _, rfl, hW.2.1, hG, hW.2.2, q13521, (fun q hq => by rw [e13522 q hq, f13518]; exact e13512 q hq), (fun q hq => by rw [f13525]; exact e13513 q hq), (by rw [f13526]; rfl), (by rw [e13523, f13519]; rfl)⟩ dX12_first_63
      · refine q_iconst (v := ((-1) : Int32)) hM dX12_first_30 (by decide) ?_
        exact hE _ _ _ _ _ _ hW.1 ⟨wk, _, rfl, hW.2.1, hG, hW.2.2, f13500, (fun _ _ => rfl), (fun _ _ => rfl), rfl, rfl⟩ dX12_first_31
