
set_option maxRecDepth 100000 in
set_option maxHeartbeats 4000000 in
theorem s_X12_triedBy (l : Launch) (D : va_G) (cA : Nat → ClassId) (ad : Nat → Nat) (g0 : Nat → va_E) (wh : Int32) (n : Int32) (what : Int32) (wk : Int32)  (hSh : Shp ad cA g0) (hG : Rng g0) (h_wk : fld g0 129 56 = .int wk) (wh0 : 0 ≤ wh.toInt) (wh1 : wh.toInt ≤ 1) (hL : LawOK g0) (hF : ∀ q : Nat, q < 8 → (arI g0 158 q).toInt = 0 ∨ (arI g0 158 q).toInt = 1) : CT l NN ad cA D yX12_triedBy cX12_triedBy 5 (some FieldType.int) (10, 232) [.ref (ad 129), .int wh, .int n, .int what] g0 (fun v g' => ∃ (w9 : Int32) (r : Int32), v = some (.int r) ∧ Shp ad cA g' ∧ Rng g' ∧ FR (fun i k => i = 161 ∨ i = 156 ∨ i = 157 ∨ (i = 129 ∧ (k = 42 ∨ k = 43 ∨ k = 44 ∨ k = 45 ∨ k = 46 ∨ k = 47 ∨ k = 48 ∨ k = 49)) ∨ (i = 129 ∧ (k = 2 ∨ k = 57 ∨ k = 58 ∨ k = 61 ∨ k = 62 ∨ k = 63 ∨ k = 64)) ∨ i = 159 ∨ (i = 129 ∧ (k = 56 ∨ k = 65 ∨ k = 66)) ∨ (162 ≤ i ∧ i < 170) ∨ (158 ≤ i ∧ i < 162) ∨ (i = 129 ∧ (k = 31))) g0 g' ∧ fld g' 129 56 = .int w9 ∧ (∀ q : Nat, q < 8 → arI g' 158 q = arI g0 158 q) ∧ (∀ q : Nat, 8 ≤ q → arI g' 162 q = arI g0 162 q) ∧ (arI g' 166 1 = arI g0 166 1) ∧ (w9 = wk)) := by
  refine q_enterI (by decide) (Nat.le_of_ble_eq_true rfl) rfl (fun K H locs ls _ _ hM hW0 hR hC hE hl => ?_)
  have hl : lv_has ls 5 [(0, .ref (ad 129)), (1, .int wh), (2, .int n), (3, .int what)] := hl
  have hW : WS ad cA (fun i k => i = 161 ∨ i = 156 ∨ i = 157 ∨ (i = 129 ∧ (k = 42 ∨ k = 43 ∨ k = 44 ∨ k = 45 ∨ k = 46 ∨ k = 47 ∨ k = 48 ∨ k = 49)) ∨ (i = 129 ∧ (k = 2 ∨ k = 57 ∨ k = 58 ∨ k = 61 ∨ k = 62 ∨ k = 63 ∨ k = 64)) ∨ i = 159 ∨ (i = 129 ∧ (k = 56 ∨ k = 65 ∨ k = 66)) ∨ (162 ≤ i ∧ i < 170) ∨ (158 ≤ i ∧ i < 162) ∨ (i = 129 ∧ (k = 31))) g0 K g0 H locs := ⟨hW0, hSh, FR.rf⟩
  have f12898 : fld g0 129 56 = .int wk := h_wk
  refine q_iload_n hM dX12_triedBy_0 (lv_at hl 2 rfl) ?_
  refine q_i2l hM dX12_triedBy_1 ?_
  have := l_i2l n
  refine q_lconst (v := 1) hM dX12_triedBy_2 (by decide) ?_
  have := kl_1
  refine q_ldc2 (v := 60) hM (kAW (v_5_8 (List.mem_of_getElem? (i := 6) rfl)) rfl) dX12_triedBy_3 ?_
  have := kl_60
  refine q_callS (As := [.long n.toInt64, .long (1 : Int64), .long (60 : Int64)]) (rest := []) hM hW.1 hR hC myX12_lies (kAW (v_5_4 (List.mem_of_getElem? (i := 14) rfl)) rfl) (c_X12_lies _ _ cA ad g0 n.toInt64 (1 : Int64) (60 : Int64) hW.2.1) ⟨by decide, by decide⟩ rfl rfl hl.1 (Nat.le_of_ble_eq_true rfl) dX12_triedBy_6 (fun v g12900 H locs hp hW1 => ?_)
  obtain ⟨r12899, rfl, hr12899, rfl⟩ := hp
  have hW : WS ad cA (fun i k => i = 161 ∨ i = 156 ∨ i = 157 ∨ (i = 129 ∧ (k = 42 ∨ k = 43 ∨ k = 44 ∨ k = 45 ∨ k = 46 ∨ k = 47 ∨ k = 48 ∨ k = 49)) ∨ (i = 129 ∧ (k = 2 ∨ k = 57 ∨ k = 58 ∨ k = 61 ∨ k = 62 ∨ k = 63 ∨ k = 64)) ∨ i = 159 ∨ (i = 129 ∧ (k = 56 ∨ k = 65 ∨ k = 66)) ∨ (162 ≤ i ∧ i < 170) ∨ (158 ≤ i ∧ i < 162) ∨ (i = 129 ∧ (k = 31))) g0 K g0 H locs := ⟨hW1, hW.2.1, hW.2.2⟩
  refine q_if_eq (tgt := 57) hM dX12_triedBy_9 (by decide) (rfl : r12899.toInt = r12899.toInt) (fun h9 => ?_) (fun h9 => ?_)
  · refine q_iconst (v := ((-1) : Int32)) hM dX12_triedBy_57 (by decide) ?_
    exact hE _ _ _ _ _ _ hW.1 ⟨wk, _, rfl, hW.2.1, hG, hW.2.2, f12898, (fun _ _ => rfl), (fun _ _ => rfl), rfl, rfl⟩ dX12_triedBy_58
  · refine q_iload_n hM dX12_triedBy_12 (lv_at hl 3 rfl) ?_
    refine q_i2l hM dX12_triedBy_13 ?_
    have := l_i2l what
    refine q_lconst (v := 0) hM dX12_triedBy_14 (by decide) ?_
    have := kl_0
    refine q_ldc2 (v := 3) hM (kAW (v_6_10 (List.mem_of_getElem? (i := 1) rfl)) rfl) dX12_triedBy_15 ?_
    have := kl_3
    refine q_callS (As := [.long what.toInt64, .long (0 : Int64), .long (3 : Int64)]) (rest := []) hM hW.1 hR hC myX12_lies (kAW (v_5_4 (List.mem_of_getElem? (i := 14) rfl)) rfl) (c_X12_lies _ _ cA ad g0 what.toInt64 (0 : Int64) (3 : Int64) hW.2.1) ⟨by decide, by decide⟩ rfl rfl hl.1 (Nat.le_of_ble_eq_true rfl) dX12_triedBy_18 (fun v g12904 H locs hp hW1 => ?_)
    obtain ⟨r12903, rfl, hr12903, rfl⟩ := hp
    have hW : WS ad cA (fun i k => i = 161 ∨ i = 156 ∨ i = 157 ∨ (i = 129 ∧ (k = 42 ∨ k = 43 ∨ k = 44 ∨ k = 45 ∨ k = 46 ∨ k = 47 ∨ k = 48 ∨ k = 49)) ∨ (i = 129 ∧ (k = 2 ∨ k = 57 ∨ k = 58 ∨ k = 61 ∨ k = 62 ∨ k = 63 ∨ k = 64)) ∨ i = 159 ∨ (i = 129 ∧ (k = 56 ∨ k = 65 ∨ k = 66)) ∨ (162 ≤ i ∧ i < 170) ∨ (158 ≤ i ∧ i < 162) ∨ (i = 129 ∧ (k = 31))) g0 K g0 H locs := ⟨hW1, hW.2.1, hW.2.2⟩
    refine q_if_ne (tgt := 59) hM dX12_triedBy_21 (by decide) (rfl : r12903.toInt = r12903.toInt) (fun h21 => ?_) (fun h21 => ?_)
    · refine q_aload_n hM dX12_triedBy_59 (lv_at hl 0 rfl) ?_
      refine q_iconst (v := (0 : Int32)) hM dX12_triedBy_60 (by decide) ?_
      refine q_callV (As := [.int (0 : Int32)]) (rest := []) hM hW.1 hR hC myX12_laysAside (kAW (v_6_10 (List.mem_of_getElem? (i := 2) rfl)) rfl) (rfl : vwCl[12]? = some (RX12, TX12, 86)) rfl lb_129.1 (shO hW.2.1 lb_129) (s_X12_laysAside_0 _ _ cA ad g0 wk hW.2.1 hG f12898 hF) ⟨by decide, by decide⟩ rfl rfl hl.1 (Nat.le_of_ble_eq_true rfl) dX12_triedBy_61 (fun v g12909 H locs hp hW1 => ?_)
      obtain ⟨rfl, hs1, hG, hf1, e12906, e12907, e12908⟩ := hp
      have f12910 : fld g12909 129 56 = .int wk := (hf1.1 129 56 (by omega)).trans f12898
      have hW : WS ad cA (fun i k => i = 161 ∨ i = 156 ∨ i = 157 ∨ (i = 129 ∧ (k = 42 ∨ k = 43 ∨ k = 44 ∨ k = 45 ∨ k = 46 ∨ k = 47 ∨ k = 48 ∨ k = 49)) ∨ (i = 129 ∧ (k = 2 ∨ k = 57 ∨ k = 58 ∨ k = 61 ∨ k = 62 ∨ k = 63 ∨ k = 64)) ∨ i = 159 ∨ (i = 129 ∧ (k = 56 ∨ k = 65 ∨ k = 66)) ∨ (162 ≤ i ∧ i < 170) ∨ (158 ≤ i ∧ i < 162) ∨ (i = 129 ∧ (k = 31))) g0 K g12909 H locs := ⟨hW1, hs1, hW.2.2.tr hf1 (fun i k h => (Or.inr (Or.inr (Or.inr (Or.inr (Or.inr (Or.inr (Or.inr (Or.inl h)))))))))⟩
      refine q_aload_n hM dX12_triedBy_64 (lv_at hl 0 rfl) ?_
      refine q_iload_n hM dX12_triedBy_65 (lv_at hl 1 rfl) ?_
      refine w_put hM hW FP_X12_402 lb_129 (by omega) (Or.inl ⟨_, rfl⟩) rfl rfl dX12_triedBy_66 (fun g12911 H locs hW e1 e2 => ?_)
      have f12912 : fld g12911 129 56 = .int wk := (e2.1 129 56 (by unfold Only; omega)).trans f12910
      have f12913 : arI g12911 162 = arI g12909 162 := (e2.2.1 162 (by unfold Only; omega)).trans (rfl : arI g12909 162 = arI g12909 162)
      have f12914 : arI g12911 166 = upd (arI g0 166) (0 : Int32).toNatClampNeg wk := (e2.2.1 166 (by unfold Only; omega)).trans e12908
      have f12915 : fld g12911 129 31 = .int wh := e1
      have hG := hG.put e1 e2 rF_129_31 (by decide) (by have := i_rng wh; omega) (by have := i_rng wh; omega)
      refine q_aload_n hM dX12_triedBy_69 (lv_at hl 0 rfl) ?_
      refine q_iload_n hM dX12_triedBy_70 (lv_at hl 2 rfl) ?_
      refine q_iconst (v := ((-1) : Int32)) hM dX12_triedBy_71 (by decide) ?_
      refine q_callV (As := [.int n, .int ((-1) : Int32)]) (rest := []) hM hW.1 hR hC myX12_go (kAW (v_6_7 (List.mem_of_getElem? (i := 13) rfl)) rfl) (rfl : vwCl[12]? = some (RX12, TX12, 86)) rfl lb_129.1 (shO hW.2.1 lb_129) (a_X12_go_m _ _ cA ad g12911 n hW.2.1 hG (by have := kc_m1; omega) (LawOK_fr hL hW.2.2 (by omega) (by omega) (by omega) (by omega) (by omega))) ⟨by decide, by decide⟩ rfl rfl hl.1 (Nat.le_of_ble_eq_true rfl) dX12_triedBy_72 (fun v g12916 H locs hp hW1 => ?_)
      obtain ⟨rfl, hs1, hG, hf1⟩ := hp
      have f12917 : arI g12916 162 = arI g12909 162 := (hf1.2.1 162 (by omega)).trans f12913
      have f12918 : arI g12916 166 = upd (arI g0 166) (0 : Int32).toNatClampNeg wk := (hf1.2.1 166 (by omega)).trans f12914
      have f12919 : fld g12916 129 31 = .int wh := (hf1.1 129 31 (by omega)).trans f12915
      have hW : WS ad cA (fun i k => i = 161 ∨ i = 156 ∨ i = 157 ∨ (i = 129 ∧ (k = 42 ∨ k = 43 ∨ k = 44 ∨ k = 45 ∨ k = 46 ∨ k = 47 ∨ k = 48 ∨ k = 49)) ∨ (i = 129 ∧ (k = 2 ∨ k = 57 ∨ k = 58 ∨ k = 61 ∨ k = 62 ∨ k = 63 ∨ k = 64)) ∨ i = 159 ∨ (i = 129 ∧ (k = 56 ∨ k = 65 ∨ k = 66)) ∨ (162 ≤ i ∧ i < 170) ∨ (158 ≤ i ∧ i < 162) ∨ (i = 129 ∧ (k = 31))) g0 K g12916 H locs := ⟨hW1, hs1, hW.2.2.tr hf1 (fun i k h => h.elim (fun h => (Or.inl h)) (fun h => h.elim (fun h => (Or.inr (Or.inl h))) (fun h => h.elim (fun h => (Or.inr (Or.inr (Or.inl h)))) (fun h => h.elim (fun h => (Or.inr (Or.inr (Or.inr (Or.inl h))))) (fun h => h.elim (fun h => (Or.inr (Or.inr (Or.inr (Or.inr (Or.inl h)))))) (fun h => h.elim (fun h => (Or.inr (Or.inr (Or.inr (Or.inr (Or.inr (Or.inl h))))))) (fun h => (Or.inr (Or.inr (Or.inr (Or.inr (Or.inr (Or.inr (Or.inl h))))))))))))))⟩
      refine q_aload_n hM dX12_triedBy_75 (lv_at hl 0 rfl) ?_
      refine q_iconst (v := (0 : Int32)) hM dX12_triedBy_76 (by decide) ?_
      refine w_put hM hW FP_X12_402 lb_129 (by omega) (Or.inl ⟨_, rfl⟩) rfl rfl dX12_triedBy_77 (fun g12920 H locs hW e1 e2 => ?_)
      have f12921 : arI g12920 162 = arI g12909 162 := (e2.2.1 162 (by unfold Only; omega)).trans f12917
      have f12922 : arI g12920 166 = upd (arI g0 166) (0 : Int32).toNatClampNeg wk := (e2.2.1 166 (by unfold Only; omega)).trans f12918
      have f12923 : fld g12920 129 31 = .int (0 : Int32) := e1
      have hG := hG.put e1 e2 rF_129_31 (by decide) (by have := kc_0; have := i_rng (0 : Int32); omega) (by have := kc_0; have := i_rng (0 : Int32); omega)
      refine q_iload_n hM dX12_triedBy_80 (lv_at hl 3 rfl) ?_
      rcases (show what.toInt < 0 ∨ 3 < what.toInt ∨ what.toInt = 0 ∨ what.toInt = 1 ∨ what.toInt = 2 ∨ what.toInt = 3 from by omega) with h81 | h81 | h81 | h81 | h81 | h81
      · refine q_tableOut (tgt := 148) hM dX12_triedBy_81 rfl (by omega) (by decide) ?_
        refine q_iload_n hM dX12_triedBy_148 (lv_at hl 3 rfl) ?_
        refine q_bipush (v := (20 : Int32)) hM dX12_triedBy_149 (by decide) ?_
        refine q_icmp_ge (tgt := 168) hM dX12_triedBy_151 (by decide) (rfl : what.toInt = what.toInt) (kc_20 : (20 : Int32).toInt = 20) (fun h151 => ?_) (fun h151 => ?_)
        · refine q_iload_n hM dX12_triedBy_168 (lv_at hl 3 rfl) ?_
          refine q_bipush (v := (30 : Int32)) hM dX12_triedBy_169 (by decide) ?_
          refine q_icmp_ge (tgt := 186) hM dX12_triedBy_171 (by decide) (rfl : what.toInt = what.toInt) (kc_30 : (30 : Int32).toInt = 30) (fun h171 => ?_) (fun h171 => ?_)
          · refine q_aload_n hM dX12_triedBy_186 (lv_at hl 0 rfl) ?_
            refine q_iload_n hM dX12_triedBy_187 (lv_at hl 3 rfl) ?_
            refine q_bipush (v := (30 : Int32)) hM dX12_triedBy_188 (by decide) ?_
            refine q_isub hM dX12_triedBy_190 (fun z12927 hz12927 => ?_)
            first | have tz12927 := i_subT hz12927 (rfl : what.toInt = what.toInt) (kc_30 : (30 : Int32).toInt = 30) (by omega) (by omega) | skip
            have wz12927 := i_subW hz12927 (rfl : what.toInt = what.toInt) (kc_30 : (30 : Int32).toInt = 30)
            refine q_callV (As := [.int z12927]) (rest := []) hM hW.1 hR hC myX12_whoKnows (kAW (v_6_10 (List.mem_of_getElem? (i := 6) rfl)) rfl) (rfl : vwCl[12]? = some (RX12, TX12, 86)) rfl lb_129.1 (shO hW.2.1 lb_129) (a_X12_whoKnows _ _ cA ad g12920 z12927 hW.2.1 hG (by  omega) (by  omega)) ⟨by decide, by decide⟩ rfl rfl hl.1 (Nat.le_of_ble_eq_true rfl) dX12_triedBy_191 (fun v g12929 H locs hp hW1 => ?_)
            obtain ⟨r12928, rfl, hr12928, rfl⟩ := hp
            have hW : WS ad cA (fun i k => i = 161 ∨ i = 156 ∨ i = 157 ∨ (i = 129 ∧ (k = 42 ∨ k = 43 ∨ k = 44 ∨ k = 45 ∨ k = 46 ∨ k = 47 ∨ k = 48 ∨ k = 49)) ∨ (i = 129 ∧ (k = 2 ∨ k = 57 ∨ k = 58 ∨ k = 61 ∨ k = 62 ∨ k = 63 ∨ k = 64)) ∨ i = 159 ∨ (i = 129 ∧ (k = 56 ∨ k = 65 ∨ k = 66)) ∨ (162 ≤ i ∧ i < 170) ∨ (158 ≤ i ∧ i < 162) ∨ (i = 129 ∧ (k = 31))) g0 K g12920 H locs := ⟨hW1, hW.2.1, hW.2.2⟩
            refine q_istore (lv9 := [(4, .int r12928), (0, .ref (ad 129)), (1, .int wh), (2, .int n), (3, .int what)]) hM dX12_triedBy_194 hl (by decide) rfl (fun ls hl => ?_)
            refine q_aload_n hM dX12_triedBy_196 (lv_at hl 1 rfl) ?_
            refine q_iconst (v := (0 : Int32)) hM dX12_triedBy_197 (by decide) ?_
            refine q_callV (As := [.int (0 : Int32)]) (rest := []) hM hW.1 hR hC myX12_bringsBack (kAW (v_6_10 (List.mem_of_getElem? (i := 10) rfl)) rfl) (rfl : vwCl[12]? = some (RX12, TX12, 86)) rfl lb_129.1 (shO hW.2.1 lb_129) (s_X12_bringsBack_0 _ _ cA ad g12920  hW.2.1 hG (fun q hq => by rw [f12921, e12906 q hq]; exact hF q hq)) ⟨by decide, by decide⟩ rfl rfl hl.1 (Nat.le_of_ble_eq_true rfl) dX12_triedBy_198 (fun v g12934 H locs hp hW1 => ?_)
            obtain ⟨v12930, rfl, hs1, hG, hf1, q12931, e12932, e12933⟩ := hp
            have f12935 : arI g12934 162 = arI g12909 162 := (hf1.2.1 162 (by omega)).trans f12921
            have f12936 : arI g12934 166 = upd (arI g0 166) (0 : Int32).toNatClampNeg wk := (hf1.2.1 166 (by omega)).trans f12922
            have f12937 : fld g12934 129 31 = .int (0 : Int32) := (hf1.1 129 31 (by omega)).trans f12923
            have hW : WS ad cA (fun i k => i = 161 ∨ i = 156 ∨ i = 157 ∨ (i = 129 ∧ (k = 42 ∨ k = 43 ∨ k = 44 ∨ k = 45 ∨ k = 46 ∨ k = 47 ∨ k = 48 ∨ k = 49)) ∨ (i = 129 ∧ (k = 2 ∨ k = 57 ∨ k = 58 ∨ k = 61 ∨ k = 62 ∨ k = 63 ∨ k = 64)) ∨ i = 159 ∨ (i = 129 ∧ (k = 56 ∨ k = 65 ∨ k = 66)) ∨ (162 ≤ i ∧ i < 170) ∨ (158 ≤ i ∧ i < 162) ∨ (i = 129 ∧ (k = 31))) g0 K g12934 H locs := ⟨hW1, hs1, hW.2.2.tr hf1 (fun i k h => h.elim (fun h => (Or.inr (Or.inr (Or.inr (Or.inr (Or.inr (Or.inr (Or.inr (Or.inr (Or.inl h)))))))))) (fun h => (by omega)))⟩
            refine q_iload hM dX12_triedBy_201 (lv_at hl 0 rfl) ?_
            exact hE _ _ _ _ _ _ hW.1 ⟨v12930, _, rfl, hW.2.1, hG, hW.2.2, q12931, (fun q hq => by rw [e12932 q hq, f12921]; exact e12906 q hq), (fun q hq => by rw [f12935]; exact e12907 q hq), (by rw [f12936]; rfl), (by rw [e12933, f12922]; rfl)⟩ dX12_triedBy_203
          · refine q_aload_n hM dX12_triedBy_174 (lv_at hl 0 rfl) ?_
            refine w_get (v := .ref (ad 159)) hM hW FG_X12_103 lb_129 (rf_129_53 hW.2.1) dX12_triedBy_175 ?_
            refine q_iload_n hM dX12_triedBy_178 (lv_at hl 3 rfl) ?_
            refine q_bipush (v := (20 : Int32)) hM dX12_triedBy_179 (by decide) ?_
            refine q_isub hM dX12_triedBy_181 (fun z12939 hz12939 => ?_)
            first | have tz12939 := i_subT hz12939 (rfl : what.toInt = what.toInt) (kc_20 : (20 : Int32).toInt = 20) (by omega) (by omega) | skip
            have wz12939 := i_subW hz12939 (rfl : what.toInt = what.toInt) (kc_20 : (20 : Int32).toInt = 20)
            refine w_iald hM hW lb_159 (i_in (by omega) (by omega)) dX12_triedBy_182 ?_
            refine q_top (fun y12940 hy12940 => ?_)
            have by12940 := hG.a hy12940 rA_159
            refine q_goto (tgt := 194) hM dX12_triedBy_183 (by decide) ?_
            refine q_istore (lv9 := [(4, .int y12940), (0, .ref (ad 129)), (1, .int wh), (2, .int n), (3, .int what)]) hM dX12_triedBy_194 hl (by decide) rfl (fun ls hl => ?_)
            refine q_aload_n hM dX12_triedBy_196 (lv_at hl 1 rfl) ?_
            refine q_iconst (v := (0 : Int32)) hM dX12_triedBy_197 (by decide) ?_
            refine q_callV (As := [.int (0 : Int32)]) (rest := []) hM hW.1 hR hC myX12_bringsBack (kAW (v_6_10 (List.mem_of_getElem? (i := 10) rfl)) rfl) (rfl : vwCl[12]? = some (RX12, TX12, 86)) rfl lb_129.1 (shO hW.2.1 lb_129) (s_X12_bringsBack_0 _ _ cA ad g12920  hW.2.1 hG (fun q hq => by rw [f12921, e12906 q hq]; exact hF q hq)) ⟨by decide, by decide⟩ rfl rfl hl.1 (Nat.le_of_ble_eq_true rfl) dX12_triedBy_198 (fun v g12945 H locs hp hW1 => ?_)
            obtain ⟨v12941, rfl, hs1, hG, hf1, q12942, e12943, e12944⟩ := hp
            have f12946 : arI g12945 162 = arI g12909 162 := (hf1.2.1 162 (by omega)).trans f12921
            have f12947 : arI g12945 166 = upd (arI g0 166) (0 : Int32).toNatClampNeg wk := (hf1.2.1 166 (by omega)).trans f12922
            have f12948 : fld g12945 129 31 = .int (0 : Int32) := (hf1.1 129 31 (by omega)).trans f12923
            have hW : WS ad cA (fun i k => i = 161 ∨ i = 156 ∨ i = 157 ∨ (i = 129 ∧ (k = 42 ∨ k = 43 ∨ k = 44 ∨ k = 45 ∨ k = 46 ∨ k = 47 ∨ k = 48 ∨ k = 49)) ∨ (i = 129 ∧ (k = 2 ∨ k = 57 ∨ k = 58 ∨ k = 61 ∨ k = 62 ∨ k = 63 ∨ k = 64)) ∨ i = 159 ∨ (i = 129 ∧ (k = 56 ∨ k = 65 ∨ k = 66)) ∨ (162 ≤ i ∧ i < 170) ∨ (158 ≤ i ∧ i < 162) ∨ (i = 129 ∧ (k = 31))) g0 K g12945 H locs := ⟨hW1, hs1, hW.2.2.tr hf1 (fun i k h => h.elim (fun h => (Or.inr (Or.inr (Or.inr (Or.inr (Or.inr (Or.inr (Or.inr (Or.inr (Or.inl h)))))))))) (fun h => (by omega)))⟩
            refine q_iload hM dX12_triedBy_201 (lv_at hl 0 rfl) ?_
            exact hE _ _ _ _ _ _ hW.1 ⟨v12941, _, rfl, hW.2.1, hG, hW.2.2, q12942, (fun q hq => by rw [e12943 q hq, f12921]; exact e12906 q hq), (fun q hq => by rw [f12946]; exact e12907 q hq), (by rw [f12947]; rfl), (by rw [e12944, f12922]; rfl)⟩ dX12_triedBy_203
        · refine q_aload_n hM dX12_triedBy_154 (lv_at hl 0 rfl) ?_
          refine q_iload_n hM dX12_triedBy_155 (lv_at hl 3 rfl) ?_
          refine q_bipush (v := (10 : Int32)) hM dX12_triedBy_156 (by decide) ?_
          refine q_isub hM dX12_triedBy_158 (fun z12950 hz12950 => ?_)
          first | have tz12950 := i_subT hz12950 (rfl : what.toInt = what.toInt) (kc_10 : (10 : Int32).toInt = 10) (by omega) (by omega) | skip
          have wz12950 := i_subW hz12950 (rfl : what.toInt = what.toInt) (kc_10 : (10 : Int32).toInt = 10)
          refine q_callV (As := [.int z12950]) (rest := []) hM hW.1 hR hC myX12_knownBy (kAW (v_6_4 (List.mem_of_getElem? (i := 11) rfl)) rfl) (rfl : vwCl[12]? = some (RX12, TX12, 86)) rfl lb_129.1 (shO hW.2.1 lb_129) (a_X12_knownBy _ _ cA ad g12920 z12950 hW.2.1 hG (by  omega) (by  omega)) ⟨by decide, by decide⟩ rfl rfl hl.1 (Nat.le_of_ble_eq_true rfl) dX12_triedBy_159 (fun v g12952 H locs hp hW1 => ?_)
          obtain ⟨r12951, rfl, hr12951, rfl⟩ := hp
          have hW : WS ad cA (fun i k => i = 161 ∨ i = 156 ∨ i = 157 ∨ (i = 129 ∧ (k = 42 ∨ k = 43 ∨ k = 44 ∨ k = 45 ∨ k = 46 ∨ k = 47 ∨ k = 48 ∨ k = 49)) ∨ (i = 129 ∧ (k = 2 ∨ k = 57 ∨ k = 58 ∨ k = 61 ∨ k = 62 ∨ k = 63 ∨ k = 64)) ∨ i = 159 ∨ (i = 129 ∧ (k = 56 ∨ k = 65 ∨ k = 66)) ∨ (162 ≤ i ∧ i < 170) ∨ (158 ≤ i ∧ i < 162) ∨ (i = 129 ∧ (k = 31))) g0 K g12920 H locs := ⟨hW1, hW.2.1, hW.2.2⟩
          refine q_callS (As := [.int r12951]) (rest := []) hM hW.1 hR hC myX12_sizeOf (kAW (v_5_6 (List.mem_of_getElem? (i := 14) rfl)) rfl) (a_X12_sizeOf _ _ cA ad g12920 r12951 hW.2.1 hG (by  omega)) ⟨by decide, by decide⟩ rfl rfl hl.1 (Nat.le_of_ble_eq_true rfl) dX12_triedBy_162 (fun v g12954 H locs hp hW1 => ?_)
          obtain ⟨r12953, rfl, hr12953, rfl⟩ := hp
          have hW : WS ad cA (fun i k => i = 161 ∨ i = 156 ∨ i = 157 ∨ (i = 129 ∧ (k = 42 ∨ k = 43 ∨ k = 44 ∨ k = 45 ∨ k = 46 ∨ k = 47 ∨ k = 48 ∨ k = 49)) ∨ (i = 129 ∧ (k = 2 ∨ k = 57 ∨ k = 58 ∨ k = 61 ∨ k = 62 ∨ k = 63 ∨ k = 64)) ∨ i = 159 ∨ (i = 129 ∧ (k = 56 ∨ k = 65 ∨ k = 66)) ∨ (162 ≤ i ∧ i < 170) ∨ (158 ≤ i ∧ i < 162) ∨ (i = 129 ∧ (k = 31))) g0 K g12920 H locs := ⟨hW1, hW.2.1, hW.2.2⟩
          refine q_goto (tgt := 194) hM dX12_triedBy_165 (by decide) ?_
          refine q_istore (lv9 := [(4, .int r12953), (0, .ref (ad 129)), (1, .int wh), (2, .int n), (3, .int what)]) hM dX12_triedBy_194 hl (by decide) rfl (fun ls hl => ?_)
          refine q_aload_n hM dX12_triedBy_196 (lv_at hl 1 rfl) ?_
          refine q_iconst (v := (0 : Int32)) hM dX12_triedBy_197 (by decide) ?_
          refine q_callV (As := [.int (0 : Int32)]) (rest := []) hM hW.1 hR hC myX12_bringsBack (kAW (v_6_10 (List.mem_of_getElem? (i := 10) rfl)) rfl) (rfl : vwCl[12]? = some (RX12, TX12, 86)) rfl lb_129.1 (shO hW.2.1 lb_129) (s_X12_bringsBack_0 _ _ cA ad g12920  hW.2.1 hG (fun q hq => by rw [f12921, e12906 q hq]; exact hF q hq)) ⟨by decide, by decide⟩ rfl rfl hl.1 (Nat.le_of_ble_eq_true rfl) dX12_triedBy_198 (fun v g12959 H locs hp hW1 => ?_)
          obtain ⟨v12955, rfl, hs1, hG, hf1, q12956, e12957, e12958⟩ := hp
          have f12960 : arI g12959 162 = arI g12909 162 := (hf1.2.1 162 (by omega)).trans f12921
          have f12961 : arI g12959 166 = upd (arI g0 166) (0 : Int32).toNatClampNeg wk := (hf1.2.1 166 (by omega)).trans f12922
          have f12962 : fld g12959 129 31 = .int (0 : Int32) := (hf1.1 129 31 (by omega)).trans f12923
          have hW : WS ad cA (fun i k => i = 161 ∨ i = 156 ∨ i = 157 ∨ (i = 129 ∧ (k = 42 ∨ k = 43 ∨ k = 44 ∨ k = 45 ∨ k = 46 ∨ k = 47 ∨ k = 48 ∨ k = 49)) ∨ (i = 129 ∧ (k = 2 ∨ k = 57 ∨ k = 58 ∨ k = 61 ∨ k = 62 ∨ k = 63 ∨ k = 64)) ∨ i = 159 ∨ (i = 129 ∧ (k = 56 ∨ k = 65 ∨ k = 66)) ∨ (162 ≤ i ∧ i < 170) ∨ (158 ≤ i ∧ i < 162) ∨ (i = 129 ∧ (k = 31))) g0 K g12959 H locs := ⟨hW1, hs1, hW.2.2.tr hf1 (fun i k h => h.elim (fun h => (Or.inr (Or.inr (Or.inr (Or.inr (Or.inr (Or.inr (Or.inr (Or.inr (Or.inl h)))))))))) (fun h => (by omega)))⟩
          refine q_iload hM dX12_triedBy_201 (lv_at hl 0 rfl) ?_
          exact hE _ _ _ _ _ _ hW.1 ⟨v12955, _, rfl, hW.2.1, hG, hW.2.2, q12956, (fun q hq => by rw [e12957 q hq, f12921]; exact e12906 q hq), (fun q hq => by rw [f12960]; exact e12907 q hq), (by rw [f12961]; rfl), (by rw [e12958, f12922]; rfl)⟩ dX12_triedBy_203
      · refine q_tableOut (tgt := 148) hM dX12_triedBy_81 rfl (by omega) (by decide) ?_
        refine q_iload_n hM dX12_triedBy_148 (lv_at hl 3 rfl) ?_
        refine q_bipush (v := (20 : Int32)) hM dX12_triedBy_149 (by decide) ?_
        refine q_icmp_ge (tgt := 168) hM dX12_triedBy_151 (by decide) (rfl : what.toInt = what.toInt) (kc_20 : (20 : Int32).toInt = 20) (fun h151 => ?_) (fun h151 => ?_)
        · refine q_iload_n hM dX12_triedBy_168 (lv_at hl 3 rfl) ?_
          refine q_bipush (v := (30 : Int32)) hM dX12_triedBy_169 (by decide) ?_
          refine q_icmp_ge (tgt := 186) hM dX12_triedBy_171 (by decide) (rfl : what.toInt = what.toInt) (kc_30 : (30 : Int32).toInt = 30) (fun h171 => ?_) (fun h171 => ?_)
          · refine q_aload_n hM dX12_triedBy_186 (lv_at hl 0 rfl) ?_
            refine q_iload_n hM dX12_triedBy_187 (lv_at hl 3 rfl) ?_
            refine q_bipush (v := (30 : Int32)) hM dX12_triedBy_188 (by decide) ?_
            refine q_isub hM dX12_triedBy_190 (fun z12966 hz12966 => ?_)
            first | have tz12966 := i_subT hz12966 (rfl : what.toInt = what.toInt) (kc_30 : (30 : Int32).toInt = 30) (by omega) (by omega) | skip
            have wz12966 := i_subW hz12966 (rfl : what.toInt = what.toInt) (kc_30 : (30 : Int32).toInt = 30)
            refine q_callV (As := [.int z12966]) (rest := []) hM hW.1 hR hC myX12_whoKnows (kAW (v_6_10 (List.mem_of_getElem? (i := 6) rfl)) rfl) (rfl : vwCl[12]? = some (RX12, TX12, 86)) rfl lb_129.1 (shO hW.2.1 lb_129) (a_X12_whoKnows _ _ cA ad g12920 z12966 hW.2.1 hG (by  omega) (by  omega)) ⟨by decide, by decide⟩ rfl rfl hl.1 (Nat.le_of_ble_eq_true rfl) dX12_triedBy_191 (fun v g12968 H locs hp hW1 => ?_)
            obtain ⟨r12967, rfl, hr12967, rfl⟩ := hp
            have hW : WS ad cA (fun i k => i = 161 ∨ i = 156 ∨ i = 157 ∨ (i = 129 ∧ (k = 42 ∨ k = 43 ∨ k = 44 ∨ k = 45 ∨ k = 46 ∨ k = 47 ∨ k = 48 ∨ k = 49)) ∨ (i = 129 ∧ (k = 2 ∨ k = 57 ∨ k = 58 ∨ k = 61 ∨ k = 62 ∨ k = 63 ∨ k = 64)) ∨ i = 159 ∨ (i = 129 ∧ (k = 56 ∨ k = 65 ∨ k = 66)) ∨ (162 ≤ i ∧ i < 170) ∨ (158 ≤ i ∧ i < 162) ∨ (i = 129 ∧ (k = 31))) g0 K g12920 H locs := ⟨hW1, hW.2.1, hW.2.2⟩
            refine q_istore (lv9 := [(4, .int r12967), (0, .ref (ad 129)), (1, .int wh), (2, .int n), (3, .int what)]) hM dX12_triedBy_194 hl (by decide) rfl (fun ls hl => ?_)
            refine q_aload_n hM dX12_triedBy_196 (lv_at hl 1 rfl) ?_
            refine q_iconst (v := (0 : Int32)) hM dX12_triedBy_197 (by decide) ?_
            refine q_callV (As := [.int (0 : Int32)]) (rest := []) hM hW.1 hR hC myX12_bringsBack (kAW (v_6_10 (List.mem_of_getElem? (i := 10) rfl)) rfl) (rfl : vwCl[12]? = some (RX12, TX12, 86)) rfl lb_129.1 (shO hW.2.1 lb_129) (s_X12_bringsBack_0 _ _ cA ad g12920  hW.2.1 hG (fun q hq => by rw [f12921, e12906 q hq]; exact hF q hq)) ⟨by decide, by decide⟩ rfl rfl hl.1 (Nat.le_of_ble_eq_true rfl) dX12_triedBy_198 (fun v g12973 H locs hp hW1 => ?_)
            obtain ⟨v12969, rfl, hs1, hG, hf1, q12970, e12971, e12972⟩ := hp
            have f12974 : arI g12973 162 = arI g12909 162 := (hf1.2.1 162 (by omega)).trans f12921
            have f12975 : arI g12973 166 = upd (arI g0 166) (0 : Int32).toNatClampNeg wk := (hf1.2.1 166 (by omega)).trans f12922
            have f12976 : fld g12973 129 31 = .int (0 : Int32) := (hf1.1 129 31 (by omega)).trans f12923
            have hW : WS ad cA (fun i k => i = 161 ∨ i = 156 ∨ i = 157 ∨ (i = 129 ∧ (k = 42 ∨ k = 43 ∨ k = 44 ∨ k = 45 ∨ k = 46 ∨ k = 47 ∨ k = 48 ∨ k = 49)) ∨ (i = 129 ∧ (k = 2 ∨ k = 57 ∨ k = 58 ∨ k = 61 ∨ k = 62 ∨ k = 63 ∨ k = 64)) ∨ i = 159 ∨ (i = 129 ∧ (k = 56 ∨ k = 65 ∨ k = 66)) ∨ (162 ≤ i ∧ i < 170) ∨ (158 ≤ i ∧ i < 162) ∨ (i = 129 ∧ (k = 31))) g0 K g12973 H locs := ⟨hW1, hs1, hW.2.2.tr hf1 (fun i k h => h.elim (fun h => (Or.inr (Or.inr (Or.inr (Or.inr (Or.inr (Or.inr (Or.inr (Or.inr (Or.inl h)))))))))) (fun h => (by omega)))⟩
            refine q_iload hM dX12_triedBy_201 (lv_at hl 0 rfl) ?_
            exact hE _ _ _ _ _ _ hW.1 ⟨v12969, _, rfl, hW.2.1, hG, hW.2.2, q12970, (fun q hq => by rw [e12971 q hq, f12921]; exact e12906 q hq), (fun q hq => by rw [f12974]; exact e12907 q hq), (by rw [f12975]; rfl), (by rw [e12972, f12922]; rfl)⟩ dX12_triedBy_203
          · refine q_aload_n hM dX12_triedBy_174 (lv_at hl 0 rfl) ?_
            refine w_get (v := .ref (ad 159)) hM hW FG_X12_103 lb_129 (rf_129_53 hW.2.1) dX12_triedBy_175 ?_
            refine q_iload_n hM dX12_triedBy_178 (lv_at hl 3 rfl) ?_
            refine q_bipush (v := (20 : Int32)) hM dX12_triedBy_179 (by decide) ?_
            refine q_isub hM dX12_triedBy_181 (fun z12978 hz12978 => ?_)
            first | have tz12978 := i_subT hz12978 (rfl : what.toInt = what.toInt) (kc_20 : (20 : Int32).toInt = 20) (by omega) (by omega) | skip
            have wz12978 := i_subW hz12978 (rfl : what.toInt = what.toInt) (kc_20 : (20 : Int32).toInt = 20)
            refine w_iald hM hW lb_159 (i_in (by omega) (by omega)) dX12_triedBy_182 ?_
            refine q_top (fun y12979 hy12979 => ?_)
            have by12979 := hG.a hy12979 rA_159
            refine q_goto (tgt := 194) hM dX12_triedBy_183 (by decide) ?_
            refine q_istore (lv9 := [(4, .int y12979), (0, .ref (ad 129)), (1, .int wh), (2, .int n), (3, .int what)]) hM dX12_triedBy_194 hl (by decide) rfl (fun ls hl => ?_)
            refine q_aload_n hM dX12_triedBy_196 (lv_at hl 1 rfl) ?_
            refine q_iconst (v := (0 : Int32)) hM dX12_triedBy_197 (by decide) ?_
            refine q_callV (As := [.int (0 : Int32)]) (rest := []) hM hW.1 hR hC myX12_bringsBack (kAW (v_6_10 (List.mem_of_getElem? (i := 10) rfl)) rfl) (rfl : vwCl[12]? = some (RX12, TX12, 86)) rfl lb_129.1 (shO hW.2.1 lb_129) (s_X12_bringsBack_0 _ _ cA ad g12920  hW.2.1 hG (fun q hq => by rw [f12921, e12906 q hq]; exact hF q hq)) ⟨by decide, by decide⟩ rfl rfl hl.1 (Nat.le_of_ble_eq_true rfl) dX12_triedBy_198 (fun v g12984 H locs hp hW1 => ?_)
            obtain ⟨v12980, rfl, hs1, hG, hf1, q12981, e12982, e12983⟩ := hp
            have f12985 : arI g12984 162 = arI g12909 162 := (hf1.2.1 162 (by omega)).trans f12921
            have f12986 : arI g12984 166 = upd (arI g0 166) (0 : Int32).toNatClampNeg wk := (hf1.2.1 166 (by omega)).trans f12922
            have f12987 : fld g12984 129 31 = .int (0 : Int32) := (hf1.1 129 31 (by omega)).trans f12923
            have hW : WS ad cA (fun i k => i = 161 ∨ i = 156 ∨ i = 157 ∨ (i = 129 ∧ (k = 42 ∨ k = 43 ∨ k = 44 ∨ k = 45 ∨ k = 46 ∨ k = 47 ∨ k = 48 ∨ k = 49)) ∨ (i = 129 ∧ (k = 2 ∨ k = 57 ∨ k = 58 ∨ k = 61 ∨ k = 62 ∨ k = 63 ∨ k = 64)) ∨ i = 159 ∨ (i = 129 ∧ (k = 56 ∨ k = 65 ∨ k = 66)) ∨ (162 ≤ i ∧ i < 170) ∨ (158 ≤ i ∧ i < 162) ∨ (i = 129 ∧ (k = 31))) g0 K g12984 H locs := ⟨hW1, hs1, hW.2.2.tr hf1 (fun i k h => h.elim (fun h => (Or.inr (Or.inr (Or.inr (Or.inr (Or.inr (Or.inr (Or.inr (Or.inr (Or.inl h)))))))))) (fun h => (by omega)))⟩
            refine q_iload hM dX12_triedBy_201 (lv_at hl 0 rfl) ?_
            exact hE _ _ _ _ _ _ hW.1 ⟨v12980, _, rfl, hW.2.1, hG, hW.2.2, q12981, (fun q hq => by rw [e12982 q hq, f12921]; exact e12906 q hq), (fun q hq => by rw [f12985]; exact e12907 q hq), (by rw [f12986]; rfl), (by rw [e12983, f12922]; rfl)⟩ dX12_triedBy_203
        · refine q_aload_n hM dX12_triedBy_154 (lv_at hl 0 rfl) ?_
          refine q_iload_n hM dX12_triedBy_155 (lv_at hl 3 rfl) ?_
          refine q_bipush (v := (10 : Int32)) hM dX12_triedBy_156 (by decide) ?_
          refine q_isub hM dX12_triedBy_158 (fun z12989 hz12989 => ?_)
          first | have tz12989 := i_subT hz12989 (rfl : what.toInt = what.toInt) (kc_10 : (10 : Int32).toInt = 10) (by omega) (by omega) | skip
          have wz12989 := i_subW hz12989 (rfl : what.toInt = what.toInt) (kc_10 : (10 : Int32).toInt = 10)
          refine q_callV (As := [.int z12989]) (rest := []) hM hW.1 hR hC myX12_knownBy (kAW (v_6_4 (List.mem_of_getElem? (i := 11) rfl)) rfl) (rfl : vwCl[12]? = some (RX12, TX12, 86)) rfl lb_129.1 (shO hW.2.1 lb_129) (a_X12_knownBy _ _ cA ad g12920 z12989 hW.2.1 hG (by  omega) (by  omega)) ⟨by decide, by decide⟩ rfl rfl hl.1 (Nat.le_of_ble_eq_true rfl) dX12_triedBy_159 (fun v g12991 H locs hp hW1 => ?_)
          obtain ⟨r12990, rfl, hr12990, rfl⟩ := hp
          have hW : WS ad cA (fun i k => i = 161 ∨ i = 156 ∨ i = 157 ∨ (i = 129 ∧ (k = 42 ∨ k = 43 ∨ k = 44 ∨ k = 45 ∨ k = 46 ∨ k = 47 ∨ k = 48 ∨ k = 49)) ∨ (i = 129 ∧ (k = 2 ∨ k = 57 ∨ k = 58 ∨ k = 61 ∨ k = 62 ∨ k = 63 ∨ k = 64)) ∨ i = 159 ∨ (i = 129 ∧ (k = 56 ∨ k = 65 ∨ k = 66)) ∨ (162 ≤ i ∧ i < 170) ∨ (158 ≤ i ∧ i < 162) ∨ (i = 129 ∧ (k = 31))) g0 K g12920 H locs := ⟨hW1, hW.2.1, hW.2.2⟩
          refine q_callS (As := [.int r12990]) (rest := []) hM hW.1 hR hC myX12_sizeOf (kAW (v_5_6 (List.mem_of_getElem? (i := 14) rfl)) rfl) (a_X12_sizeOf _ _ cA ad g12920 r12990 hW.2.1 hG (by  omega)) ⟨by decide, by decide⟩ rfl rfl hl.1 (Nat.le_of_ble_eq_true rfl) dX12_triedBy_162 (fun v g12993 H locs hp hW1 => ?_)
          obtain ⟨r12992, rfl, hr12992, rfl⟩ := hp
          have hW : WS ad cA (fun i k => i = 161 ∨ i = 156 ∨ i = 157 ∨ (i = 129 ∧ (k = 42 ∨ k = 43 ∨ k = 44 ∨ k = 45 ∨ k = 46 ∨ k = 47 ∨ k = 48 ∨ k = 49)) ∨ (i = 129 ∧ (k = 2 ∨ k = 57 ∨ k = 58 ∨ k = 61 ∨ k = 62 ∨ k = 63 ∨ k = 64)) ∨ i = 159 ∨ (i = 129 ∧ (k = 56 ∨ k = 65 ∨ k = 66)) ∨ (162 ≤ i ∧ i < 170) ∨ (158 ≤ i ∧ i < 162) ∨ (i = 129 ∧ (k = 31))) g0 K g12920 H locs := ⟨hW1, hW.2.1, hW.2.2⟩
          refine q_goto (tgt := 194) hM dX12_triedBy_165 (by decide) ?_
          refine q_istore (lv9 := [(4, .int r12992), (0, .ref (ad 129)), (1, .int wh), (2, .int n), (3, .int what)]) hM dX12_triedBy_194 hl (by decide) rfl (fun ls hl => ?_)
          refine q_aload_n hM dX12_triedBy_196 (lv_at hl 1 rfl) ?_
          refine q_iconst (v := (0 : Int32)) hM dX12_triedBy_197 (by decide) ?_
          refine q_callV (As := [.int (0 : Int32)]) (rest := []) hM hW.1 hR hC myX12_bringsBack (kAW (v_6_10 (List.mem_of_getElem? (i := 10) rfl)) rfl) (rfl : vwCl[12]? = some (RX12, TX12, 86)) rfl lb_129.1 (shO hW.2.1 lb_129) (s_X12_bringsBack_0 _ _ cA ad g12920  hW.2.1 hG (fun q hq => by rw [f12921, e12906 q hq]; exact hF q hq)) ⟨by decide, by decide⟩ rfl rfl hl.1 (Nat.le_of_ble_eq_true rfl) dX12_triedBy_198 (fun v g12998 H locs hp hW1 => ?_)
          obtain ⟨v12994, rfl, hs1, hG, hf1, q12995, e12996, e12997⟩ := hp
          have f12999 : arI g12998 162 = arI g12909 162 := (hf1.2.1 162 (by omega)).trans f12921
          have f13000 : arI g12998 166 = upd (arI g0 166) (0 : Int32).toNatClampNeg wk := (hf1.2.1 166 (by omega)).trans f12922
          have f13001 : fld g12998 129 31 = .int (0 : Int32) := (hf1.1 129 31 (by omega)).trans f12923
          have hW : WS ad cA (fun i k => i = 161 ∨ i = 156 ∨ i = 157 ∨ (i = 129 ∧ (k = 42 ∨ k = 43 ∨ k = 44 ∨ k = 45 ∨ k = 46 ∨ k = 47 ∨ k = 48 ∨ k = 49)) ∨ (i = 129 ∧ (k = 2 ∨ k = 57 ∨ k = 58 ∨ k = 61 ∨ k = 62 ∨ k = 63 ∨ k = 64)) ∨ i = 159 ∨ (i = 129 ∧ (k = 56 ∨ k = 65 ∨ k = 66)) ∨ (162 ≤ i ∧ i < 170) ∨ (158 ≤ i ∧ i < 162) ∨ (i = 129 ∧ (k = 31))) g0 K g12998 H locs := ⟨hW1, hs1, hW.2.2.tr hf1 (fun i k h => h.elim (fun h => (Or.inr (Or.inr (Or.inr (Or.inr (Or.inr (Or.inr (Or.inr (Or.inr (Or.inl h)))))))))) (fun h => (by omega)))⟩
          refine q_iload hM dX12_triedBy_201 (lv_at hl 0 rfl) ?_
          exact hE _ _ _ _ _ _ hW.1 ⟨v12994, _, rfl, hW.2.1, hG, hW.2.2, q12995, (fun q hq => by rw [e12996 q hq, f12921]; exact e12906 q hq), (fun q hq => by rw [f12999]; exact e12907 q hq), (by rw [f13000]; rfl), (by rw [e12997, f12922]; rfl)⟩ dX12_triedBy_203
      · refine q_tableIn (tgt := 112) hM dX12_triedBy_81 ((rfl : what.toInt = _).trans h81) (by decide) (by decide) rfl (by decide) ?_
        refine q_aload_n hM dX12_triedBy_112 (lv_at hl 0 rfl) ?_
        refine w_getI hM hW FG_X12_474 lb_129 (by decide) (by decide) dX12_triedBy_113 (fun x13003 fx13003 => ?_)
        refine q_istore (lv9 := [(4, .int x13003), (0, .ref (ad 129)), (1, .int wh), (2, .int n), (3, .int what)]) hM dX12_triedBy_116 hl (by decide) rfl (fun ls hl => ?_)
        refine q_goto (tgt := 196) hM dX12_triedBy_118 (by decide) ?_
        refine q_aload_n hM dX12_triedBy_196 (lv_at hl 1 rfl) ?_
        refine q_iconst (v := (0 : Int32)) hM dX12_triedBy_197 (by decide) ?_
        refine q_callV (As := [.int (0 : Int32)]) (rest := []) hM hW.1 hR hC myX12_bringsBack (kAW (v_6_10 (List.mem_of_getElem? (i := 10) rfl)) rfl) (rfl : vwCl[12]? = some (RX12, TX12, 86)) rfl lb_129.1 (shO hW.2.1 lb_129) (s_X12_bringsBack_0 _ _ cA ad g12920  hW.2.1 hG (fun q hq => by rw [f12921, e12906 q hq]; exact hF q hq)) ⟨by decide, by decide⟩ rfl rfl hl.1 (Nat.le_of_ble_eq_true rfl) dX12_triedBy_198 (fun v g13008 H locs hp hW1 => ?_)
        obtain ⟨v13004, rfl, hs1, hG, hf1, q13005, e13006, e13007⟩ := hp
        have f13009 : arI g13008 162 = arI g12909 162 := (hf1.2.1 162 (by omega)).trans f12921
        have f13010 : arI g13008 166 = upd (arI g0 166) (0 : Int32).toNatClampNeg wk := (hf1.2.1 166 (by omega)).trans f12922
        have f13011 : fld g13008 129 31 = .int (0 : Int32) := (hf1.1 129 31 (by omega)).trans f12923
        have f13012 : fld g13008 129 61 = .int x13003 := (hf1.1 129 61 (by omega)).trans fx13003
        have hW : WS ad cA (fun i k => i = 161 ∨ i = 156 ∨ i = 157 ∨ (i = 129 ∧ (k = 42 ∨ k = 43 ∨ k = 44 ∨ k = 45 ∨ k = 46 ∨ k = 47 ∨ k = 48 ∨ k = 49)) ∨ (i = 129 ∧ (k = 2 ∨ k = 57 ∨ k = 58 ∨ k = 61 ∨ k = 62 ∨ k = 63 ∨ k = 64)) ∨ i = 159 ∨ (i = 129 ∧ (k = 56 ∨ k = 65 ∨ k = 66)) ∨ (162 ≤ i ∧ i < 170) ∨ (158 ≤ i ∧ i < 162) ∨ (i = 129 ∧ (k = 31))) g0 K g13008 H locs := ⟨hW1, hs1, hW.2.2.tr hf1 (fun i k h => h.elim (fun h => (Or.inr (Or.inr (Or.inr (Or.inr (Or.inr (Or.inr (Or.inr (Or.inr (Or.inl h)))))))))) (fun h => (by omega)))⟩
        refine q_iload hM dX12_triedBy_201 (lv_at hl 0 rfl) ?_
        exact hE _ _ _ _ _ _ hW.1 ⟨v13004, _, rfl, hW.2.1, hG, hW.2.2, q13005, (fun q hq => by rw [e13006 q hq, f12921]; exact e12906 q hq), (fun q hq => by rw [f13009]; exact e12907 q hq), (by rw [f13010]; rfl), (by rw [e13007, f12922]; rfl)⟩ dX12_triedBy_203
      · refine q_tableIn (tgt := 121) hM dX12_triedBy_81 ((rfl : what.toInt = _).trans h81) (by decide) (by decide) rfl (by decide) ?_
        refine q_aload_n hM dX12_triedBy_121 (lv_at hl 0 rfl) ?_
        refine w_getI hM hW FG_X12_477 lb_129 (by decide) (by decide) dX12_triedBy_122 (fun x13014 fx13014 => ?_)
        refine q_istore (lv9 := [(4, .int x13014), (0, .ref (ad 129)), (1, .int wh), (2, .int n), (3, .int what)]) hM dX12_triedBy_125 hl (by decide) rfl (fun ls hl => ?_)
        refine q_goto (tgt := 196) hM dX12_triedBy_127 (by decide) ?_
        refine q_aload_n hM dX12_triedBy_196 (lv_at hl 1 rfl) ?_
        refine q_iconst (v := (0 : Int32)) hM dX12_triedBy_197 (by decide) ?_
        refine q_callV (As := [.int (0 : Int32)]) (rest := []) hM hW.1 hR hC myX12_bringsBack (kAW (v_6_10 (List.mem_of_getElem? (i := 10) rfl)) rfl) (rfl : vwCl[12]? = some (RX12, TX12, 86)) rfl lb_129.1 (shO hW.2.1 lb_129) (s_X12_bringsBack_0 _ _ cA ad g12920  hW.2.1 hG (fun q hq => by rw [f12921, e12906 q hq]; exact hF q hq)) ⟨by decide, by decide⟩ rfl rfl hl.1 (Nat.le_of_ble_eq_true rfl) dX12_triedBy_198 (fun v g13019 H locs hp hW1 => ?_)
        obtain ⟨v13015, rfl, hs1, hG, hf1, q13016, e13017, e13018⟩ := hp
        have f13020 : arI g13019 162 = arI g12909 162 := (hf1.2.1 162 (by omega)).trans f12921
        have f13021 : arI g13019 166 = upd (arI g0 166) (0 : Int32).toNatClampNeg wk := (hf1.2.1 166 (by omega)).trans f12922
        have f13022 : fld g13019 129 31 = .int (0 : Int32) := (hf1.1 129 31 (by omega)).trans f12923
        have f13023 : fld g13019 129 62 = .int x13014 := (hf1.1 129 62 (by omega)).trans fx13014
        have hW : WS ad cA (fun i k => i = 161 ∨ i = 156 ∨ i = 157 ∨ (i = 129 ∧ (k = 42 ∨ k = 43 ∨ k = 44 ∨ k = 45 ∨ k = 46 ∨ k = 47 ∨ k = 48 ∨ k = 49)) ∨ (i = 129 ∧ (k = 2 ∨ k = 57 ∨ k = 58 ∨ k = 61 ∨ k = 62 ∨ k = 63 ∨ k = 64)) ∨ i = 159 ∨ (i = 129 ∧ (k = 56 ∨ k = 65 ∨ k = 66)) ∨ (162 ≤ i ∧ i < 170) ∨ (158 ≤ i ∧ i < 162) ∨ (i = 129 ∧ (k = 31))) g0 K g13019 H locs := ⟨hW1, hs1, hW.2.2.tr hf1 (fun i k h => h.elim (fun h => (Or.inr (Or.inr (Or.inr (Or.inr (Or.inr (Or.inr (Or.inr (Or.inr (Or.inl h)))))))))) (fun h => (by omega)))⟩
        refine q_iload hM dX12_triedBy_201 (lv_at hl 0 rfl) ?_
        exact hE _ _ _ _ _ _ hW.1 ⟨v13015, _, rfl, hW.2.1, hG, hW.2.2, q13016, (fun q hq => by rw [e13017 q hq, f12921]; exact e12906 q hq), (fun q hq => by rw [f13020]; exact e12907 q hq), (by rw [f13021]; rfl), (by rw [e13018, f12922]; rfl)⟩ dX12_triedBy_203
      · refine q_tableIn (tgt := 130) hM dX12_triedBy_81 ((rfl : what.toInt = _).trans h81) (by decide) (by decide) rfl (by decide) ?_
        refine q_aload_n hM dX12_triedBy_130 (lv_at hl 0 rfl) ?_
        refine w_getI hM hW FG_X12_489 lb_129 (by decide) (by decide) dX12_triedBy_131 (fun x13025 fx13025 => ?_)
        refine q_istore (lv9 := [(4, .int x13025), (0, .ref (ad 129)), (1, .int wh), (2, .int n), (3, .int what)]) hM dX12_triedBy_134 hl (by decide) rfl (fun ls hl => ?_)
        refine q_goto (tgt := 196) hM dX12_triedBy_136 (by decide) ?_
        refine q_aload_n hM dX12_triedBy_196 (lv_at hl 1 rfl) ?_
        refine q_iconst (v := (0 : Int32)) hM dX12_triedBy_197 (by decide) ?_
        refine q_callV (As := [.int (0 : Int32)]) (rest := []) hM hW.1 hR hC myX12_bringsBack (kAW (v_6_10 (List.mem_of_getElem? (i := 10) rfl)) rfl) (rfl : vwCl[12]? = some (RX12, TX12, 86)) rfl lb_129.1 (shO hW.2.1 lb_129) (s_X12_bringsBack_0 _ _ cA ad g12920  hW.2.1 hG (fun q hq => by rw [f12921, e12906 q hq]; exact hF q hq)) ⟨by decide, by decide⟩ rfl rfl hl.1 (Nat.le_of_ble_eq_true rfl) dX12_triedBy_198 (fun v g13030 H locs hp hW1 => ?_)
        obtain ⟨v13026, rfl, hs1, hG, hf1, q13027, e13028, e13029⟩ := hp
        have f13031 : arI g13030 162 = arI g12909 162 := (hf1.2.1 162 (by omega)).trans f12921
        have f13032 : arI g13030 166 = upd (arI g0 166) (0 : Int32).toNatClampNeg wk := (hf1.2.1 166 (by omega)).trans f12922
        have f13033 : fld g13030 129 31 = .int (0 : Int32) := (hf1.1 129 31 (by omega)).trans f12923
        have f13034 : fld g13030 129 63 = .int x13025 := (hf1.1 129 63 (by omega)).trans fx13025
        have hW : WS ad cA (fun i k => i = 161 ∨ i = 156 ∨ i = 157 ∨ (i = 129 ∧ (k = 42 ∨ k = 43 ∨ k = 44 ∨ k = 45 ∨ k = 46 ∨ k = 47 ∨ k = 48 ∨ k = 49)) ∨ (i = 129 ∧ (k = 2 ∨ k = 57 ∨ k = 58 ∨ k = 61 ∨ k = 62 ∨ k = 63 ∨ k = 64)) ∨ i = 159 ∨ (i = 129 ∧ (k = 56 ∨ k = 65 ∨ k = 66)) ∨ (162 ≤ i ∧ i < 170) ∨ (158 ≤ i ∧ i < 162) ∨ (i = 129 ∧ (k = 31))) g0 K g13030 H locs := ⟨hW1, hs1, hW.2.2.tr hf1 (fun i k h => h.elim (fun h => (Or.inr (Or.inr (Or.inr (Or.inr (Or.inr (Or.inr (Or.inr (Or.inr (Or.inl h)))))))))) (fun h => (by omega)))⟩
        refine q_iload hM dX12_triedBy_201 (lv_at hl 0 rfl) ?_
        exact hE _ _ _ _ _ _ hW.1 ⟨v13026, _, rfl, hW.2.1, hG, hW.2.2, q13027, (fun q hq => by rw [e13028 q hq, f12921]; exact e12906 q hq), (fun q hq => by rw [f13031]; exact e12907 q hq), (by rw [f13032]; rfl), (by rw [e13029, f12922]; rfl)⟩ dX12_triedBy_203
      · refine q_tableIn (tgt := 139) hM dX12_triedBy_81 ((rfl : what.toInt = _).trans h81) (by decide) (by decide) rfl (by decide) ?_
        refine q_aload_n hM dX12_triedBy_139 (lv_at hl 0 rfl) ?_
        refine w_getI hM hW FG_X12_468 lb_129 (by decide) (by decide) dX12_triedBy_140 (fun x13036 fx13036 => ?_)
        refine q_istore (lv9 := [(4, .int x13036), (0, .ref (ad 129)), (1, .int wh), (2, .int n), (3, .int what)]) hM dX12_triedBy_143 hl (by decide) rfl (fun ls hl => ?_)
        refine q_goto (tgt := 196) hM dX12_triedBy_145 (by decide) ?_
        refine q_aload_n hM dX12_triedBy_196 (lv_at hl 1 rfl) ?_
        refine q_iconst (v := (0 : Int32)) hM dX12_triedBy_197 (by decide) ?_
        refine q_callV (As := [.int (0 : Int32)]) (rest := []) hM hW.1 hR hC myX12_bringsBack (kAW (v_6_10 (List.mem_of_getElem? (i := 10) rfl)) rfl) (rfl : vwCl[12]? = some (RX12, TX12, 86)) rfl lb_129.1 (shO hW.2.1 lb_129) (s_X12_bringsBack_0 _ _ cA ad g12920  hW.2.1 hG (fun q hq => by rw [f12921, e12906 q hq]; exact hF q hq)) ⟨by decide, by decide⟩ rfl rfl hl.1 (Nat.le_of_ble_eq_true rfl) dX12_triedBy_198 (fun v g13041 H locs hp hW1 => ?_)
        obtain ⟨v13037, rfl, hs1, hG, hf1, q13038, e13039, e13040⟩ := hp
        have f13042 : arI g13041 162 = arI g12909 162 := (hf1.2.1 162 (by omega)).trans f12921
        have f13043 : arI g13041 166 = upd (arI g0 166) (0 : Int32).toNatClampNeg wk := (hf1.2.1 166 (by omega)).trans f12922
        have f13044 : fld g13041 129 31 = .int (0 : Int32) := (hf1.1 129 31 (by omega)).trans f12923
        have f13045 : fld g13041 129 64 = .int x13036 := (hf1.1 129 64 (by omega)).trans fx13036
        have hW : WS ad cA (fun i k => i = 161 ∨ i = 156 ∨ i = 157 ∨ (i = 129 ∧ (k = 42 ∨ k = 43 ∨ k = 44 ∨ k = 45 ∨ k = 46 ∨ k = 47 ∨ k = 48 ∨ k = 49)) ∨ (i = 129 ∧ (k = 2 ∨ k = 57 ∨ k = 58 ∨ k = 61 ∨ k = 62 ∨ k = 63 ∨ k = 64)) ∨ i = 159 ∨ (i = 129 ∧ (k = 56 ∨ k = 65 ∨ k = 66)) ∨ (162 ≤ i ∧ i < 170) ∨ (158 ≤ i ∧ i < 162) ∨ (i = 129 ∧ (k = 31))) g0 K g13041 H locs := ⟨hW1, hs1, hW.2.2.tr hf1 (fun i k h => h.elim (fun h => (Or.inr (Or.inr (Or.inr (Or.inr (Or.inr (Or.inr (Or.inr (Or.inr (Or.inl h)))))))))) (fun h => (by omega)))⟩
        refine q_iload hM dX12_triedBy_201 (lv_at hl 0 rfl) ?_
        exact hE _ _ _ _ _ _ hW.1 ⟨v13037, _, rfl, hW.2.1, hG, hW.2.2, q13038, (fun q hq => by rw [e13039 q hq, f12921]; exact e12906 q hq), (fun q hq => by rw [f13042]; exact e12907 q hq), (by rw [f13043]; rfl), (by rw [e13040, f12922]; rfl)⟩ dX12_triedBy_203
    · refine q_aload_n hM dX12_triedBy_24 (lv_at hl 0 rfl) ?_
      refine q_iload_n hM dX12_triedBy_25 (lv_at hl 3 rfl) ?_
      refine q_bipush (v := (10 : Int32)) hM dX12_triedBy_26 (by decide) ?_
      refine q_isub hM dX12_triedBy_28 (fun z13047 hz13047 => ?_)
      first | have tz13047 := i_subT hz13047 (rfl : what.toInt = what.toInt) (kc_10 : (10 : Int32).toInt = 10) (by omega) (by omega) | skip
      have wz13047 := i_subW hz13047 (rfl : what.toInt = what.toInt) (kc_10 : (10 : Int32).toInt = 10)
      refine q_callV (As := [.int z13047]) (rest := []) hM hW.1 hR hC myX12_isThat (kAW (v_6_2 (List.mem_of_getElem? (i := 9) rfl)) rfl) (rfl : vwCl[12]? = some (RX12, TX12, 86)) rfl lb_129.1 (shO hW.2.1 lb_129) (a_X12_isThat _ _ cA ad g0 z13047 hW.2.1 hG) ⟨by decide, by decide⟩ rfl rfl hl.1 (Nat.le_of_ble_eq_true rfl) dX12_triedBy_29 (fun v g13049 H locs hp hW1 => ?_)
      obtain ⟨r13048, rfl, hr13048, rfl⟩ := hp
      have hW : WS ad cA (fun i k => i = 161 ∨ i = 156 ∨ i = 157 ∨ (i = 129 ∧ (k = 42 ∨ k = 43 ∨ k = 44 ∨ k = 45 ∨ k = 46 ∨ k = 47 ∨ k = 48 ∨ k = 49)) ∨ (i = 129 ∧ (k = 2 ∨ k = 57 ∨ k = 58 ∨ k = 61 ∨ k = 62 ∨ k = 63 ∨ k = 64)) ∨ i = 159 ∨ (i = 129 ∧ (k = 56 ∨ k = 65 ∨ k = 66)) ∨ (162 ≤ i ∧ i < 170) ∨ (158 ≤ i ∧ i < 162) ∨ (i = 129 ∧ (k = 31))) g0 K g0 H locs := ⟨hW1, hW.2.1, hW.2.2⟩
      refine q_if_ne (tgt := 59) hM dX12_triedBy_32 (by decide) (rfl : r13048.toInt = r13048.toInt) (fun h32 => ?_) (fun h32 => ?_)
      · refine q_aload_n hM dX12_triedBy_59 (lv_at hl 0 rfl) ?_
        refine q_iconst (v := (0 : Int32)) hM dX12_triedBy_60 (by decide) ?_
        refine q_callV (As := [.int (0 : Int32)]) (rest := []) hM hW.1 hR hC myX12_laysAside (kAW (v_6_10 (List.mem_of_getElem? (i := 2) rfl)) rfl) (rfl : vwCl[12]? = some (RX12, TX12, 86)) rfl lb_129.1 (shO hW.2.1 lb_129) (s_X12_laysAside_0 _ _ cA ad g0 wk hW.2.1 hG f12898 hF) ⟨by decide, by decide⟩ rfl rfl hl.1 (Nat.le_of_ble_eq_true rfl) dX12_triedBy_61 (fun v g13054 H locs hp hW1 => ?_)
        obtain ⟨rfl, hs1, hG, hf1, e13051, e13052, e13053⟩ := hp
        have f13055 : fld g13054 129 56 = .int wk := (hf1.1 129 56 (by omega)).trans f12898
        have hW : WS ad cA (fun i k => i = 161 ∨ i = 156 ∨ i = 157 ∨ (i = 129 ∧ (k = 42 ∨ k = 43 ∨ k = 44 ∨ k = 45 ∨ k = 46 ∨ k = 47 ∨ k = 48 ∨ k = 49)) ∨ (i = 129 ∧ (k = 2 ∨ k = 57 ∨ k = 58 ∨ k = 61 ∨ k = 62 ∨ k = 63 ∨ k = 64)) ∨ i = 159 ∨ (i = 129 ∧ (k = 56 ∨ k = 65 ∨ k = 66)) ∨ (162 ≤ i ∧ i < 170) ∨ (158 ≤ i ∧ i < 162) ∨ (i = 129 ∧ (k = 31))) g0 K g13054 H locs := ⟨hW1, hs1, hW.2.2.tr hf1 (fun i k h => (Or.inr (Or.inr (Or.inr (Or.inr (Or.inr (Or.inr (Or.inr (Or.inl h)))))))))⟩
        refine q_aload_n hM dX12_triedBy_64 (lv_at hl 0 rfl) ?_
        refine q_iload_n hM dX12_triedBy_65 (lv_at hl 1 rfl) ?_
        refine w_put hM hW FP_X12_402 lb_129 (by omega) (Or.inl ⟨_, rfl⟩) rfl rfl dX12_triedBy_66 (fun g13056 H locs hW e1 e2 => ?_)
        have f13057 : fld g13056 129 56 = .int wk := (e2.1 129 56 (by unfold Only; omega)).trans f13055
        have f13058 : arI g13056 162 = arI g13054 162 := (e2.2.1 162 (by unfold Only; omega)).trans (rfl : arI g13054 162 = arI g13054 162)
        have f13059 : arI g13056 166 = upd (arI g0 166) (0 : Int32).toNatClampNeg wk := (e2.2.1 166 (by unfold Only; omega)).trans e13053
        have f13060 : fld g13056 129 31 = .int wh := e1
        have hG := hG.put e1 e2 rF_129_31 (by decide) (by have := i_rng wh; omega) (by have := i_rng wh; omega)
        refine q_aload_n hM dX12_triedBy_69 (lv_at hl 0 rfl) ?_
        refine q_iload_n hM dX12_triedBy_70 (lv_at hl 2 rfl) ?_
        refine q_iconst (v := ((-1) : Int32)) hM dX12_triedBy_71 (by decide) ?_
        refine q_callV (As := [.int n, .int ((-1) : Int32)]) (rest := []) hM hW.1 hR hC myX12_go (kAW (v_6_7 (List.mem_of_getElem? (i := 13) rfl)) rfl) (rfl : vwCl[12]? = some (RX12, TX12, 86)) rfl lb_129.1 (shO hW.2.1 lb_129) (a_X12_go_m _ _ cA ad g13056 n hW.2.1 hG (by have := kc_m1; omega) (LawOK_fr hL hW.2.2 (by omega) (by omega) (by omega) (by omega) (by omega))) ⟨by decide, by decide⟩ rfl rfl hl.1 (Nat.le_of_ble_eq_true rfl) dX12_triedBy_72 (fun v g13061 H locs hp hW1 => ?_)
        obtain ⟨rfl, hs1, hG, hf1⟩ := hp
        have f13062 : arI g13061 162 = arI g13054 162 := (hf1.2.1 162 (by omega)).trans f13058
        have f13063 : arI g13061 166 = upd (arI g0 166) (0 : Int32).toNatClampNeg wk := (hf1.2.1 166 (by omega)).trans f13059
        have f13064 : fld g13061 129 31 = .int wh := (hf1.1 129 31 (by omega)).trans f13060
        have hW : WS ad cA (fun i k => i = 161 ∨ i = 156 ∨ i = 157 ∨ (i = 129 ∧ (k = 42 ∨ k = 43 ∨ k = 44 ∨ k = 45 ∨ k = 46 ∨ k = 47 ∨ k = 48 ∨ k = 49)) ∨ (i = 129 ∧ (k = 2 ∨ k = 57 ∨ k = 58 ∨ k = 61 ∨ k = 62 ∨ k = 63 ∨ k = 64)) ∨ i = 159 ∨ (i = 129 ∧ (k = 56 ∨ k = 65 ∨ k = 66)) ∨ (162 ≤ i ∧ i < 170) ∨ (158 ≤ i ∧ i < 162) ∨ (i = 129 ∧ (k = 31))) g0 K g13061 H locs := ⟨hW1, hs1, hW.2.2.tr hf1 (fun i k h => h.elim (fun h => (Or.inl h)) (fun h => h.elim (fun h => (Or.inr (Or.inl h))) (fun h => h.elim (fun h => (Or.inr (Or.inr (Or.inl h)))) (fun h => h.elim (fun h => (Or.inr (Or.inr (Or.inr (Or.inl h))))) (fun h => h.elim (fun h => (Or.inr (Or.inr (Or.inr (Or.inr (Or.inl h)))))) (fun h => h.elim (fun h => (Or.inr (Or.inr (Or.inr (Or.inr (Or.inr (Or.inl h))))))) (fun h => (Or.inr (Or.inr (Or.inr (Or.inr (Or.inr (Or.inr (Or.inl h))))))))))))))⟩
        refine q_aload_n hM dX12_triedBy_75 (lv_at hl 0 rfl) ?_
        refine q_iconst (v := (0 : Int32)) hM dX12_triedBy_76 (by decide) ?_
        refine w_put hM hW FP_X12_402 lb_129 (by omega) (Or.inl ⟨_, rfl⟩) rfl rfl dX12_triedBy_77 (fun g13065 H locs hW e1 e2 => ?_)
        have f13066 : arI g13065 162 = arI g13054 162 := (e2.2.1 162 (by unfold Only; omega)).trans f13062
        have f13067 : arI g13065 166 = upd (arI g0 166) (0 : Int32).toNatClampNeg wk := (e2.2.1 166 (by unfold Only; omega)).trans f13063
        have f13068 : fld g13065 129 31 = .int (0 : Int32) := e1
        have hG := hG.put e1 e2 rF_129_31 (by decide) (by have := kc_0; have := i_rng (0 : Int32); omega) (by have := kc_0; have := i_rng (0 : Int32); omega)
        refine q_iload_n hM dX12_triedBy_80 (lv_at hl 3 rfl) ?_
        rcases (show what.toInt < 0 ∨ 3 < what.toInt ∨ what.toInt = 0 ∨ what.toInt = 1 ∨ what.toInt = 2 ∨ what.toInt = 3 from by omega) with h81 | h81 | h81 | h81 | h81 | h81
        · refine q_tableOut (tgt := 148) hM dX12_triedBy_81 rfl (by omega) (by decide) ?_
          refine q_iload_n hM dX12_triedBy_148 (lv_at hl 3 rfl) ?_
          refine q_bipush (v := (20 : Int32)) hM dX12_triedBy_149 (by decide) ?_
          refine q_icmp_ge (tgt := 168) hM dX12_triedBy_151 (by decide) (rfl : what.toInt = what.toInt) (kc_20 : (20 : Int32).toInt = 20) (fun h151 => ?_) (fun h151 => ?_)
          · refine q_iload_n hM dX12_triedBy_168 (lv_at hl 3 rfl) ?_
            refine q_bipush (v := (30 : Int32)) hM dX12_triedBy_169 (by decide) ?_
            refine q_icmp_ge (tgt := 186) hM dX12_triedBy_171 (by decide) (rfl : what.toInt = what.toInt) (kc_30 : (30 : Int32).toInt = 30) (fun h171 => ?_) (fun h171 => ?_)
            · refine q_aload_n hM dX12_triedBy_186 (lv_at hl 0 rfl) ?_
              refine q_iload_n hM dX12_triedBy_187 (lv_at hl 3 rfl) ?_
              refine q_bipush (v := (30 : Int32)) hM dX12_triedBy_188 (by decide) ?_
              refine q_isub hM dX12_triedBy_190 (fun z13072 hz13072 => ?_)
              first | have tz13072 := i_subT hz13072 (rfl : what.toInt = what.toInt) (kc_30 : (30 : Int32).toInt = 30) (by omega) (by omega) | skip
              have wz13072 := i_subW hz13072 (rfl : what.toInt = what.toInt) (kc_30 : (30 : Int32).toInt = 30)
              refine q_callV (As := [.int z13072]) (rest := []) hM hW.1 hR hC myX12_whoKnows (kAW (v_6_10 (List.mem_of_getElem? (i := 6) rfl)) rfl) (rfl : vwCl[12]? = some (RX12, TX12, 86)) rfl lb_129.1 (shO hW.2.1 lb_129) (a_X12_whoKnows _ _ cA ad g13065 z13072 hW.2.1 hG (by  omega) (by  omega)) ⟨by decide, by decide⟩ rfl rfl hl.1 (Nat.le_of_ble_eq_true rfl) dX12_triedBy_191 (fun v g13074 H locs hp hW1 => ?_)
              obtain ⟨r13073, rfl, hr13073, rfl⟩ := hp
              have hW : WS ad cA (fun i k => i = 161 ∨ i = 156 ∨ i = 157 ∨ (i = 129 ∧ (k = 42 ∨ k = 43 ∨ k = 44 ∨ k = 45 ∨ k = 46 ∨ k = 47 ∨ k = 48 ∨ k = 49)) ∨ (i = 129 ∧ (k = 2 ∨ k = 57 ∨ k = 58 ∨ k = 61 ∨ k = 62 ∨ k = 63 ∨ k = 64)) ∨ i = 159 ∨ (i = 129 ∧ (k = 56 ∨ k = 65 ∨ k = 66)) ∨ (162 ≤ i ∧ i < 170) ∨ (158 ≤ i ∧ i < 162) ∨ (i = 129 ∧ (k = 31))) g0 K g13065 H locs := ⟨hW1, hW.2.1, hW.2.2⟩
              refine q_istore (lv9 := [(4, .int r13073), (0, .ref (ad 129)), (1, .int wh), (2, .int n), (3, .int what)]) hM dX12_triedBy_194 hl (by decide) rfl (fun ls hl => ?_)
              refine q_aload_n hM dX12_triedBy_196 (lv_at hl 1 rfl) ?_
              refine q_iconst (v := (0 : Int32)) hM dX12_triedBy_197 (by decide) ?_
              refine q_callV (As := [.int (0 : Int32)]) (rest := []) hM hW.1 hR hC myX12_bringsBack (kAW (v_6_10 (List.mem_of_getElem? (i := 10) rfl)) rfl) (rfl : vwCl[12]? = some (RX12, TX12, 86)) rfl lb_129.1 (shO hW.2.1 lb_129) (s_X12_bringsBack_0 _ _ cA ad g13065  hW.2.1 hG (fun q hq => by rw [f13066, e13051 q hq]; exact hF q hq)) ⟨by decide, by decide⟩ rfl rfl hl.1 (Nat.le_of_ble_eq_true rfl) dX12_triedBy_198 (fun v g13079 H locs hp hW1 => ?_)
              obtain ⟨v13075, rfl, hs1, hG, hf1, q13076, e13077, e13078⟩ := hp
              have f13080 : arI g13079 162 = arI g13054 162 := (hf1.2.1 162 (by omega)).trans f13066
              have f13081 : arI g13079 166 = upd (arI g0 166) (0 : Int32).toNatClampNeg wk := (hf1.2.1 166 (by omega)).trans f13067
              have f13082 : fld g13079 129 31 = .int (0 : Int32) := (hf1.1 129 31 (by omega)).trans f13068
              have hW : WS ad cA (fun i k => i = 161 ∨ i = 156 ∨ i = 157 ∨ (i = 129 ∧ (k = 42 ∨ k = 43 ∨ k = 44 ∨ k = 45 ∨ k = 46 ∨ k = 47 ∨ k = 48 ∨ k = 49)) ∨ (i = 129 ∧ (k = 2 ∨ k = 57 ∨ k = 58 ∨ k = 61 ∨ k = 62 ∨ k = 63 ∨ k = 64)) ∨ i = 159 ∨ (i = 129 ∧ (k = 56 ∨ k = 65 ∨ k = 66)) ∨ (162 ≤ i ∧ i < 170) ∨ (158 ≤ i ∧ i < 162) ∨ (i = 129 ∧ (k = 31))) g0 K g13079 H locs := ⟨hW1, hs1, hW.2.2.tr hf1 (fun i k h => h.elim (fun h => (Or.inr (Or.inr (Or.inr (Or.inr (Or.inr (Or.inr (Or.inr (Or.inr (Or.inl h)))))))))) (fun h => (by omega)))⟩
              refine q_iload hM dX12_triedBy_201 (lv_at hl 0 rfl) ?_
              exact hE _ _ _ _ _ _ hW.1 ⟨v13075, _, rfl, hW.2.1, hG, hW.2.2, q13076, (fun q hq => by rw [e13077 q hq, f13066]; exact e13051 q hq), (fun q hq => by rw [f13080]; exact e13052 q hq), (by rw [f13081]; rfl), (by rw [e13078, f13067]; rfl)⟩ dX12_triedBy_203
            · refine q_aload_n hM dX12_triedBy_174 (lv_at hl 0 rfl) ?_
              refine w_get (v := .ref (ad 159)) hM hW FG_X12_103 lb_129 (rf_129_53 hW.2.1) dX12_triedBy_175 ?_
              refine q_iload_n hM dX12_triedBy_178 (lv_at hl 3 rfl) ?_
              refine q_bipush (v := (20 : Int32)) hM dX12_triedBy_179 (by decide) ?_
              refine q_isub hM dX12_triedBy_181 (fun z13084 hz13084 => ?_)
              first | have tz13084 := i_subT hz13084 (rfl : what.toInt = what.toInt) (kc_20 : (20 : Int32).toInt = 20) (by omega) (by omega) | skip
              have wz13084 := i_subW hz13084 (rfl : what.toInt = what.toInt) (kc_20 : (20 : Int32).toInt = 20)
              refine w_iald hM hW lb_159 (i_in (by omega) (by omega)) dX12_triedBy_182 ?_
              refine q_top (fun y13085 hy13085 => ?_)
              have by13085 := hG.a hy13085 rA_159
              refine q_goto (tgt := 194) hM dX12_triedBy_183 (by decide) ?_
              refine q_istore (lv9 := [(4, .int y13085), (0, .ref (ad 129)), (1, .int wh), (2, .int n), (3, .int what)]) hM dX12_triedBy_194 hl (by decide) rfl (fun ls hl => ?_)
              refine q_aload_n hM dX12_triedBy_196 (lv_at hl 1 rfl) ?_
              refine q_iconst (v := (0 : Int32)) hM dX12_triedBy_197 (by decide) ?_
              refine q_callV (As := [.int (0 : Int32)]) (rest := []) hM hW.1 hR hC myX12_bringsBack (kAW (v_6_10 (List.mem_of_getElem? (i := 10) rfl)) rfl) (rfl : vwCl[12]? = some (RX12, TX12, 86)) rfl lb_129.1 (shO hW.2.1 lb_129) (s_X12_bringsBack_0 _ _ cA ad g13065  hW.2.1 hG (fun q hq => by rw [f13066, e13051 q hq]; exact hF q hq)) ⟨by decide, by decide⟩ rfl rfl hl.1 (Nat.le_of_ble_eq_true rfl) dX12_triedBy_198 (fun v g13090 H locs hp hW1 => ?_)
              obtain ⟨v13086, rfl, hs1, hG, hf1, q13087, e13088, e13089⟩ := hp
              have f13091 : arI g13090 162 = arI g13054 162 := (hf1.2.1 162 (by omega)).trans f13066
              have f13092 : arI g13090 166 = upd (arI g0 166) (0 : Int32).toNatClampNeg wk := (hf1.2.1 166 (by omega)).trans f13067
              have f13093 : fld g13090 129 31 = .int (0 : Int32) := (hf1.1 129 31 (by omega)).trans f13068
              have hW : WS ad cA (fun i k => i = 161 ∨ i = 156 ∨ i = 157 ∨ (i = 129 ∧ (k = 42 ∨ k = 43 ∨ k = 44 ∨ k = 45 ∨ k = 46 ∨ k = 47 ∨ k = 48 ∨ k = 49)) ∨ (i = 129 ∧ (k = 2 ∨ k = 57 ∨ k = 58 ∨ k = 61 ∨ k = 62 ∨ k = 63 ∨ k = 64)) ∨ i = 159 ∨ (i = 129 ∧ (k = 56 ∨ k = 65 ∨ k = 66)) ∨ (162 ≤ i ∧ i < 170) ∨ (158 ≤ i ∧ i < 162) ∨ (i = 129 ∧ (k = 31))) g0 K g13090 H locs := ⟨hW1, hs1, hW.2.2.tr hf1 (fun i k h => h.elim (fun h => (Or.inr (Or.inr (Or.inr (Or.inr (Or.inr (Or.inr (Or.inr (Or.inr (Or.inl h)))))))))) (fun h => (by omega)))⟩
              refine q_iload hM dX12_triedBy_201 (lv_at hl 0 rfl) ?_
              exact hE _ _ _ _ _ _ hW.1 ⟨v13086, _, rfl, hW.2.1, hG, hW.2.2, q13087, (fun q hq => by rw [e13088 q hq, f13066]; exact e13051 q hq), (fun q hq => by rw [f13091]; exact e13052 q hq), (by rw [f13092]; rfl), (by rw [e13089, f13067]; rfl)⟩ dX12_triedBy_203
          · refine q_aload_n hM dX12_triedBy_154 (lv_at hl 0 rfl) ?_
            refine q_iload_n hM dX12_triedBy_155 (lv_at hl 3 rfl) ?_
            refine q_bipush (v := (10 : Int32)) hM dX12_triedBy_156 (by decide) ?_
            refine q_isub hM dX12_triedBy_158 (fun z13095 hz13095 => ?_)
            first | have tz13095 := i_subT hz13095 (rfl : what.toInt = what.toInt) (kc_10 : (10 : Int32).toInt = 10) (by omega) (by omega) | skip
            have wz13095 := i_subW hz13095 (rfl : what.toInt = what.toInt) (kc_10 : (10 : Int32).toInt = 10)
            refine q_callV (As := [.int z13095]) (rest := []) hM hW.1 hR hC myX12_knownBy (kAW (v_6_4 (List.mem_of_getElem? (i := 11) rfl)) rfl) (rfl : vwCl[12]? = some (RX12, TX12, 86)) rfl lb_129.1 (shO hW.2.1 lb_129) (a_X12_knownBy _ _ cA ad g13065 z13095 hW.2.1 hG (by  omega) (by  omega)) ⟨by decide, by decide⟩ rfl rfl hl.1 (Nat.le_of_ble_eq_true rfl) dX12_triedBy_159 (fun v g13097 H locs hp hW1 => ?_)
            obtain ⟨r13096, rfl, hr13096, rfl⟩ := hp
            have hW : WS ad cA (fun i k => i = 161 ∨ i = 156 ∨ i = 157 ∨ (i = 129 ∧ (k = 42 ∨ k = 43 ∨ k = 44 ∨ k = 45 ∨ k = 46 ∨ k = 47 ∨ k = 48 ∨ k = 49)) ∨ (i = 129 ∧ (k = 2 ∨ k = 57 ∨ k = 58 ∨ k = 61 ∨ k = 62 ∨ k = 63 ∨ k = 64)) ∨ i = 159 ∨ (i = 129 ∧ (k = 56 ∨ k = 65 ∨ k = 66)) ∨ (162 ≤ i ∧ i < 170) ∨ (158 ≤ i ∧ i < 162) ∨ (i = 129 ∧ (k = 31))) g0 K g13065 H locs := ⟨hW1, hW.2.1, hW.2.2⟩
            refine q_callS (As := [.int r13096]) (rest := []) hM hW.1 hR hC myX12_sizeOf (kAW (v_5_6 (List.mem_of_getElem? (i := 14) rfl)) rfl) (a_X12_sizeOf _ _ cA ad g13065 r13096 hW.2.1 hG (by  omega)) ⟨by decide, by decide⟩ rfl rfl hl.1 (Nat.le_of_ble_eq_true rfl) dX12_triedBy_162 (fun v g13099 H locs hp hW1 => ?_)
            obtain ⟨r13098, rfl, hr13098, rfl⟩ := hp
            have hW : WS ad cA (fun i k => i = 161 ∨ i = 156 ∨ i = 157 ∨ (i = 129 ∧ (k = 42 ∨ k = 43 ∨ k = 44 ∨ k = 45 ∨ k = 46 ∨ k = 47 ∨ k = 48 ∨ k = 49)) ∨ (i = 129 ∧ (k = 2 ∨ k = 57 ∨ k = 58 ∨ k = 61 ∨ k = 62 ∨ k = 63 ∨ k = 64)) ∨ i = 159 ∨ (i = 129 ∧ (k = 56 ∨ k = 65 ∨ k = 66)) ∨ (162 ≤ i ∧ i < 170) ∨ (158 ≤ i ∧ i < 162) ∨ (i = 129 ∧ (k = 31))) g0 K g13065 H locs := ⟨hW1, hW.2.1, hW.2.2⟩
            refine q_goto (tgt := 194) hM dX12_triedBy_165 (by decide) ?_
            refine q_istore (lv9 := [(4, .int r13098), (0, .ref (ad 129)), (1, .int wh), (2, .int n), (3, .int what)]) hM dX12_triedBy_194 hl (by decide) rfl (fun ls hl => ?_)
            refine q_aload_n hM dX12_triedBy_196 (lv_at hl 1 rfl) ?_
            refine q_iconst (v := (0 : Int32)) hM dX12_triedBy_197 (by decide) ?_
            refine q_callV (As := [.int (0 : Int32)]) (rest := []) hM hW.1 hR hC myX12_bringsBack (kAW (v_6_10 (List.mem_of_getElem? (i := 10) rfl)) rfl) (rfl : vwCl[12]? = some (RX12, TX12, 86)) rfl lb_129.1 (shO hW.2.1 lb_129) (s_X12_bringsBack_0 _ _ cA ad g13065  hW.2.1 hG (fun q hq => by rw [f13066, e13051 q hq]; exact hF q hq)) ⟨by decide, by decide⟩ rfl rfl hl.1 (Nat.le_of_ble_eq_true rfl) dX12_triedBy_198 (fun v g13104 H locs hp hW1 => ?_)
            obtain ⟨v13100, rfl, hs1, hG, hf1, q13101, e13102, e13103⟩ := hp
            have f13105 : arI g13104 162 = arI g13054 162 := (hf1.2.1 162 (by omega)).trans f13066
            have f13106 : arI g13104 166 = upd (arI g0 166) (0 : Int32).toNatClampNeg wk := (hf1.2.1 166 (by omega)).trans f13067
            have f13107 : fld g13104 129 31 = .int (0 : Int32) := (hf1.1 129 31 (by omega)).trans f13068
            have hW : WS ad cA (fun i k => i = 161 ∨ i = 156 ∨ i = 157 ∨ (i = 129 ∧ (k = 42 ∨ k = 43 ∨ k = 44 ∨ k = 45 ∨ k = 46 ∨ k = 47 ∨ k = 48 ∨ k = 49)) ∨ (i = 129 ∧ (k = 2 ∨ k = 57 ∨ k = 58 ∨ k = 61 ∨ k = 62 ∨ k = 63 ∨ k = 64)) ∨ i = 159 ∨ (i = 129 ∧ (k = 56 ∨ k = 65 ∨ k = 66)) ∨ (162 ≤ i ∧ i < 170) ∨ (158 ≤ i ∧ i < 162) ∨ (i = 129 ∧ (k = 31))) g0 K g13104 H locs := ⟨hW1, hs1, hW.2.2.tr hf1 (fun i k h => h.elim (fun h => (Or.inr (Or.inr (Or.inr (Or.inr (Or.inr (Or.inr (Or.inr (Or.inr (Or.inl h)))))))))) (fun h => (by omega)))⟩
            refine q_iload hM dX12_triedBy_201 (lv_at hl 0 rfl) ?_
            exact hE _ _ _ _ _ _ hW.1 ⟨v13100, _, rfl, hW.2.1, hG, hW.2.2, q13101, (fun q hq => by rw [e13102 q hq, f13066]; exact e13051 q hq), (fun q hq => by rw [f13105]; exact e13052 q hq), (by rw [f13106]; rfl), (by rw [e13103, f13067]; rfl)⟩ dX12_triedBy_203
        · refine q_tableOut (tgt := 148) hM dX12_triedBy_81 rfl (by omega) (by decide) ?_
          refine q_iload_n hM dX12_triedBy_148 (lv_at hl 3 rfl) ?_
          refine q_bipush (v := (20 : Int32)) hM dX12_triedBy_149 (by decide) ?_
          refine q_icmp_ge (tgt := 168) hM dX12_triedBy_151 (by decide) (rfl : what.toInt = what.toInt) (kc_20 : (20 : Int32).toInt = 20) (fun h151 => ?_) (fun h151 => ?_)
          · refine q_iload_n hM dX12_triedBy_168 (lv_at hl 3 rfl) ?_
            refine q_bipush (v := (30 : Int32)) hM dX12_triedBy_169 (by decide) ?_
            refine q_icmp_ge (tgt := 186) hM dX12_triedBy_171 (by decide) (rfl : what.toInt = what.toInt) (kc_30 : (30 : Int32).toInt = 30) (fun h171 => ?_) (fun h171 => ?_)
            · refine q_aload_n hM dX12_triedBy_186 (lv_at hl 0 rfl) ?_
              refine q_iload_n hM dX12_triedBy_187 (lv_at hl 3 rfl) ?_
              refine q_bipush (v := (30 : Int32)) hM dX12_triedBy_188 (by decide) ?_
              refine q_isub hM dX12_triedBy_190 (fun z13111 hz13111 => ?_)
              first | have tz13111 := i_subT hz13111 (rfl : what.toInt = what.toInt) (kc_30 : (30 : Int32).toInt = 30) (by omega) (by omega) | skip
              have wz13111 := i_subW hz13111 (rfl : what.toInt = what.toInt) (kc_30 : (30 : Int32).toInt = 30)
              refine q_callV (As := [.int z13111]) (rest := []) hM hW.1 hR hC myX12_whoKnows (kAW (v_6_10 (List.mem_of_getElem? (i := 6) rfl)) rfl) (rfl : vwCl[12]? = some (RX12, TX12, 86)) rfl lb_129.1 (shO hW.2.1 lb_129) (a_X12_whoKnows _ _ cA ad g13065 z13111 hW.2.1 hG (by  omega) (by  omega)) ⟨by decide, by decide⟩ rfl rfl hl.1 (Nat.le_of_ble_eq_true rfl) dX12_triedBy_191 (fun v g13113 H locs hp hW1 => ?_)
              obtain ⟨r13112, rfl, hr13112, rfl⟩ := hp
              have hW : WS ad cA (fun i k => i = 161 ∨ i = 156 ∨ i = 157 ∨ (i = 129 ∧ (k = 42 ∨ k = 43 ∨ k = 44 ∨ k = 45 ∨ k = 46 ∨ k = 47 ∨ k = 48 ∨ k = 49)) ∨ (i = 129 ∧ (k = 2 ∨ k = 57 ∨ k = 58 ∨ k = 61 ∨ k = 62 ∨ k = 63 ∨ k = 64)) ∨ i = 159 ∨ (i = 129 ∧ (k = 56 ∨ k = 65 ∨ k = 66)) ∨ (162 ≤ i ∧ i < 170) ∨ (158 ≤ i ∧ i < 162) ∨ (i = 129 ∧ (k = 31))) g0 K g13065 H locs := ⟨hW1, hW.2.1, hW.2.2⟩
              refine q_istore (lv9 := [(4, .int r13112), (0, .ref (ad 129)), (1, .int wh), (2, .int n), (3, .int what)]) hM dX12_triedBy_194 hl (by decide) rfl (fun ls hl => ?_)
              refine q_aload_n hM dX12_triedBy_196 (lv_at hl 1 rfl) ?_
              refine q_iconst (v := (0 : Int32)) hM dX12_triedBy_197 (by decide) ?_
              refine q_callV (As := [.int (0 : Int32)]) (rest := []) hM hW.1 hR hC myX12_bringsBack (kAW (v_6_10 (List.mem_of_getElem? (i := 10) rfl)) rfl) (rfl : vwCl[12]? = some (RX12, TX12, 86)) rfl lb_129.1 (shO hW.2.1 lb_129) (s_X12_bringsBack_0 _ _ cA ad g13065  hW.2.1 hG (fun q hq => by rw [f13066, e13051 q hq]; exact hF q hq)) ⟨by decide, by decide⟩ rfl rfl hl.1 (Nat.le_of_ble_eq_true rfl) dX12_triedBy_198 (fun v g13118 H locs hp hW1 => ?_)
              obtain ⟨v13114, rfl, hs1, hG, hf1, q13115, e13116, e13117⟩ := hp
              have f13119 : arI g13118 162 = arI g13054 162 := (hf1.2.1 162 (by omega)).trans f13066
              have f13120 : arI g13118 166 = upd (arI g0 166) (0 : Int32).toNatClampNeg wk := (hf1.2.1 166 (by omega)).trans f13067
              have f13121 : fld g13118 129 31 = .int (0 : Int32) := (hf1.1 129 31 (by omega)).trans f13068
              have hW : WS ad cA (fun i k => i = 161 ∨ i = 156 ∨ i = 157 ∨ (i = 129 ∧ (k = 42 ∨ k = 43 ∨ k = 44 ∨ k = 45 ∨ k = 46 ∨ k = 47 ∨ k = 48 ∨ k = 49)) ∨ (i = 129 ∧ (k = 2 ∨ k = 57 ∨ k = 58 ∨ k = 61 ∨ k = 62 ∨ k = 63 ∨ k = 64)) ∨ i = 159 ∨ (i = 129 ∧ (k = 56 ∨ k = 65 ∨ k = 66)) ∨ (162 ≤ i ∧ i < 170) ∨ (158 ≤ i ∧ i < 162) ∨ (i = 129 ∧ (k = 31))) g0 K g13118 H locs := ⟨hW1, hs1, hW.2.2.tr hf1 (fun i k h => h.elim (fun h => (Or.inr (Or.inr (Or.inr (Or.inr (Or.inr (Or.inr (Or.inr (Or.inr (Or.inl h)))))))))) (fun h => (by omega)))⟩
              refine q_iload hM dX12_triedBy_201 (lv_at hl 0 rfl) ?_
              exact hE _ _ _ _ _ _ hW.1 ⟨v13114, _, rfl, hW.2.1, hG, hW.2.2, q13115, (fun q hq => by rw [e13116 q hq, f13066]; exact e13051 q hq), (fun q hq => by rw [f13119]; exact e13052 q hq), (by rw [f13120]; rfl), (by rw [e13117, f13067]; rfl)⟩ dX12_triedBy_203
            · refine q_aload_n hM dX12_triedBy_174 (lv_at hl 0 rfl) ?_
              refine w_get (v := .ref (ad 159)) hM hW FG_X12_103 lb_129 (rf_129_53 hW.2.1) dX12_triedBy_175 ?_
              refine q_iload_n hM dX12_triedBy_178 (lv_at hl 3 rfl) ?_
              refine q_bipush (v := (20 : Int32)) hM dX12_triedBy_179 (by decide) ?_
              refine q_isub hM dX12_triedBy_181 (fun z13123 hz13123 => ?_)
              first | have tz13123 := i_subT hz13123 (rfl : what.toInt = what.toInt) (kc_20 : (20 : Int32).toInt = 20) (by omega) (by omega) | skip
              have wz13123 := i_subW hz13123 (rfl : what.toInt = what.toInt) (kc_20 : (20 : Int32).toInt = 20)
              refine w_iald hM hW lb_159 (i_in (by omega) (by omega)) dX12_triedBy_182 ?_
              refine q_top (fun y13124 hy13124 => ?_)
              have by13124 := hG.a hy13124 rA_159
              refine q_goto (tgt := 194) hM dX12_triedBy_183 (by decide) ?_
              refine q_istore (lv9 := [(4, .int y13124), (0, .ref (ad 129)), (1, .int wh), (2, .int n), (3, .int what)]) hM dX12_triedBy_194 hl (by decide) rfl (fun ls hl => ?_)
              refine q_aload_n hM dX12_triedBy_196 (lv_at hl 1 rfl) ?_
              refine q_iconst (v := (0 : Int32)) hM dX12_triedBy_197 (by decide) ?_
              refine q_callV (As := [.int (0 : Int32)]) (rest := []) hM hW.1 hR hC myX12_bringsBack (kAW (v_6_10 (List.mem_of_getElem? (i := 10) rfl)) rfl) (rfl : vwCl[12]? = some (RX12, TX12, 86)) rfl lb_129.1 (shO hW.2.1 lb_129) (s_X12_bringsBack_0 _ _ cA ad g13065  hW.2.1 hG (fun q hq => by rw [f13066, e13051 q hq]; exact hF q hq)) ⟨by decide, by decide⟩ rfl rfl hl.1 (Nat.le_of_ble_eq_true rfl) dX12_triedBy_198 (fun v g13129 H locs hp hW1 => ?_)
              obtain ⟨v13125, rfl, hs1, hG, hf1, q13126, e13127, e13128⟩ := hp
              have f13130 : arI g13129 162 = arI g13054 162 := (hf1.2.1 162 (by omega)).trans f13066
              have f13131 : arI g13129 166 = upd (arI g0 166) (0 : Int32).toNatClampNeg wk := (hf1.2.1 166 (by omega)).trans f13067
              have f13132 : fld g13129 129 31 = .int (0 : Int32) := (hf1.1 129 31 (by omega)).trans f13068
              have hW : WS ad cA (fun i k => i = 161 ∨ i = 156 ∨ i = 157 ∨ (i = 129 ∧ (k = 42 ∨ k = 43 ∨ k = 44 ∨ k = 45 ∨ k = 46 ∨ k = 47 ∨ k = 48 ∨ k = 49)) ∨ (i = 129 ∧ (k = 2 ∨ k = 57 ∨ k = 58 ∨ k = 61 ∨ k = 62 ∨ k = 63 ∨ k = 64)) ∨ i = 159 ∨ (i = 129 ∧ (k = 56 ∨ k = 65 ∨ k = 66)) ∨ (162 ≤ i ∧ i < 170) ∨ (158 ≤ i ∧ i < 162) ∨ (i = 129 ∧ (k = 31))) g0 K g13129 H locs := ⟨hW1, hs1, hW.2.2.tr hf1 (fun i k h => h.elim (fun h => (Or.inr (Or.inr (Or.inr (Or.inr (Or.inr (Or.inr (Or.inr (Or.inr (Or.inl h)))))))))) (fun h => (by omega)))⟩
              refine q_iload hM dX12_triedBy_201 (lv_at hl 0 rfl) ?_
              exact hE _ _ _ _ _ _ hW.1 ⟨v13125, _, rfl, hW.2.1, hG, hW.2.2, q13126, (fun q hq => by rw [e13127 q hq, f13066]; exact e13051 q hq), (fun q hq => by rw [f13130]; exact e13052 q hq), (by rw [f13131]; rfl), (by rw [e13128, f13067]; rfl)⟩ dX12_triedBy_203
          · refine q_aload_n hM dX12_triedBy_154 (lv_at hl 0 rfl) ?_
            refine q_iload_n hM dX12_triedBy_155 (lv_at hl 3 rfl) ?_
            refine q_bipush (v := (10 : Int32)) hM dX12_triedBy_156 (by decide) ?_
            refine q_isub hM dX12_triedBy_158 (fun z13134 hz13134 => ?_)
            first | have tz13134 := i_subT hz13134 (rfl : what.toInt = what.toInt) (kc_10 : (10 : Int32).toInt = 10) (by omega) (by omega) | skip
            have wz13134 := i_subW hz13134 (rfl : what.toInt = what.toInt) (kc_10 : (10 : Int32).toInt = 10)
            refine q_callV (As := [.int z13134]) (rest := []) hM hW.1 hR hC myX12_knownBy (kAW (v_6_4 (List.mem_of_getElem? (i := 11) rfl)) rfl) (rfl : vwCl[12]? = some (RX12, TX12, 86)) rfl lb_129.1 (shO hW.2.1 lb_129) (a_X12_knownBy _ _ cA ad g13065 z13134 hW.2.1 hG (by  omega) (by  omega)) ⟨by decide, by decide⟩ rfl rfl hl.1 (Nat.le_of_ble_eq_true rfl) dX12_triedBy_159 (fun v g13136 H locs hp hW1 => ?_)
            obtain ⟨r13135, rfl, hr13135, rfl⟩ := hp
            have hW : WS ad cA (fun i k => i = 161 ∨ i = 156 ∨ i = 157 ∨ (i = 129 ∧ (k = 42 ∨ k = 43 ∨ k = 44 ∨ k = 45 ∨ k = 46 ∨ k = 47 ∨ k = 48 ∨ k = 49)) ∨ (i = 129 ∧ (k = 2 ∨ k = 57 ∨ k = 58 ∨ k = 61 ∨ k = 62 ∨ k = 63 ∨ k = 64)) ∨ i = 159 ∨ (i = 129 ∧ (k = 56 ∨ k = 65 ∨ k = 66)) ∨ (162 ≤ i ∧ i < 170) ∨ (158 ≤ i ∧ i < 162) ∨ (i = 129 ∧ (k = 31))) g0 K g13065 H locs := ⟨hW1, hW.2.1, hW.2.2⟩
            refine q_callS (As := [.int r13135]) (rest := []) hM hW.1 hR hC myX12_sizeOf (kAW (v_5_6 (List.mem_of_getElem? (i := 14) rfl)) rfl) (a_X12_sizeOf _ _ cA ad g13065 r13135 hW.2.1 hG (by  omega)) ⟨by decide, by decide⟩ rfl rfl hl.1 (Nat.le_of_ble_eq_true rfl) dX12_triedBy_162 (fun v g13138 H locs hp hW1 => ?_)
            obtain ⟨r13137, rfl, hr13137, rfl⟩ := hp
            have hW : WS ad cA (fun i k => i = 161 ∨ i = 156 ∨ i = 157 ∨ (i = 129 ∧ (k = 42 ∨ k = 43 ∨ k = 44 ∨ k = 45 ∨ k = 46 ∨ k = 47 ∨ k = 48 ∨ k = 49)) ∨ (i = 129 ∧ (k = 2 ∨ k = 57 ∨ k = 58 ∨ k = 61 ∨ k = 62 ∨ k = 63 ∨ k = 64)) ∨ i = 159 ∨ (i = 129 ∧ (k = 56 ∨ k = 65 ∨ k = 66)) ∨ (162 ≤ i ∧ i < 170) ∨ (158 ≤ i ∧ i < 162) ∨ (i = 129 ∧ (k = 31))) g0 K g13065 H locs := ⟨hW1, hW.2.1, hW.2.2⟩
            refine q_goto (tgt := 194) hM dX12_triedBy_165 (by decide) ?_
            refine q_istore (lv9 := [(4, .int r13137), (0, .ref (ad 129)), (1, .int wh), (2, .int n), (3, .int what)]) hM dX12_triedBy_194 hl (by decide) rfl (fun ls hl => ?_)
            refine q_aload_n hM dX12_triedBy_196 (lv_at hl 1 rfl) ?_
            refine q_iconst (v := (0 : Int32)) hM dX12_triedBy_197 (by decide) ?_
            refine q_callV (As := [.int (0 : Int32)]) (rest := []) hM hW.1 hR hC myX12_bringsBack (kAW (v_6_10 (List.mem_of_getElem? (i := 10) rfl)) rfl) (rfl : vwCl[12]? = some (RX12, TX12, 86)) rfl lb_129.1 (shO hW.2.1 lb_129) (s_X12_bringsBack_0 _ _ cA ad g13065  hW.2.1 hG (fun q hq => by rw [f13066, e13051 q hq]; exact hF q hq)) ⟨by decide, by decide⟩ rfl rfl hl.1 (Nat.le_of_ble_eq_true rfl) dX12_triedBy_198 (fun v g13143 H locs hp hW1 => ?_)
            obtain ⟨v13139, rfl, hs1, hG, hf1, q13140, e13141, e13142⟩ := hp
            have f13144 : arI g13143 162 = arI g13054 162 := (hf1.2.1 162 (by omega)).trans f13066
            have f13145 : arI g13143 166 = upd (arI g0 166) (0 : Int32).toNatClampNeg wk := (hf1.2.1 166 (by omega)).trans f13067
            have f13146 : fld g13143 129 31 = .int (0 : Int32) := (hf1.1 129 31 (by omega)).trans f13068
            have hW : WS ad cA (fun i k => i = 161 ∨ i = 156 ∨ i = 157 ∨ (i = 129 ∧ (k = 42 ∨ k = 43 ∨ k = 44 ∨ k = 45 ∨ k = 46 ∨ k = 47 ∨ k = 48 ∨ k = 49)) ∨ (i = 129 ∧ (k = 2 ∨ k = 57 ∨ k = 58 ∨ k = 61 ∨ k = 62 ∨ k = 63 ∨ k = 64)) ∨ i = 159 ∨ (i = 129 ∧ (k = 56 ∨ k = 65 ∨ k = 66)) ∨ (162 ≤ i ∧ i < 170) ∨ (158 ≤ i ∧ i < 162) ∨ (i = 129 ∧ (k = 31))) g0 K g13143 H locs := ⟨hW1, hs1, hW.2.2.tr hf1 (fun i k h => h.elim (fun h => (Or.inr (Or.inr (Or.inr (Or.inr (Or.inr (Or.inr (Or.inr (Or.inr (Or.inl h)))))))))) (fun h => (by omega)))⟩
            refine q_iload hM dX12_triedBy_201 (lv_at hl 0 rfl) ?_
            exact hE _ _ _ _ _ _ hW.1 ⟨v13139, _, rfl, hW.2.1, hG, hW.2.2, q13140, (fun q hq => by rw [e13141 q hq, f13066]; exact e13051 q hq), (fun q hq => by rw [f13144]; exact e13052 q hq), (by rw [f13145]; rfl), (by rw [e13142, f13067]; rfl)⟩ dX12_triedBy_203
        · refine q_tableIn (tgt := 112) hM dX12_triedBy_81 ((rfl : what.toInt = _).trans h81) (by decide) (by decide) rfl (by decide) ?_
          refine q_aload_n hM dX12_triedBy_112 (lv_at hl 0 rfl) ?_
          refine w_getI hM hW FG_X12_474 lb_129 (by decide) (by decide) dX12_triedBy_113 (fun x13148 fx13148 => ?_)
          refine q_istore (lv9 := [(4, .int x13148), (0, .ref (ad 129)), (1, .int wh), (2, .int n), (3, .int what)]) hM dX12_triedBy_116 hl (by decide) rfl (fun ls hl => ?_)
          refine q_goto (tgt := 196) hM dX12_triedBy_118 (by decide) ?_
          refine q_aload_n hM dX12_triedBy_196 (lv_at hl 1 rfl) ?_
          refine q_iconst (v := (0 : Int32)) hM dX12_triedBy_197 (by decide) ?_
          refine q_callV (As := [.int (0 : Int32)]) (rest := []) hM hW.1 hR hC myX12_bringsBack (kAW (v_6_10 (List.mem_of_getElem? (i := 10) rfl)) rfl) (rfl : vwCl[12]? = some (RX12, TX12, 86)) rfl lb_129.1 (shO hW.2.1 lb_129) (s_X12_bringsBack_0 _ _ cA ad g13065  hW.2.1 hG (fun q hq => by rw [f13066, e13051 q hq]; exact hF q hq)) ⟨by decide, by decide⟩ rfl rfl hl.1 (Nat.le_of_ble_eq_true rfl) dX12_triedBy_198 (fun v g13153 H locs hp hW1 => ?_)
          obtain ⟨v13149, rfl, hs1, hG, hf1, q13150, e13151, e13152⟩ := hp
          have f13154 : arI g13153 162 = arI g13054 162 := (hf1.2.1 162 (by omega)).trans f13066
          have f13155 : arI g13153 166 = upd (arI g0 166) (0 : Int32).toNatClampNeg wk := (hf1.2.1 166 (by omega)).trans f13067
          have f13156 : fld g13153 129 31 = .int (0 : Int32) := (hf1.1 129 31 (by omega)).trans f13068
          have f13157 : fld g13153 129 61 = .int x13148 := (hf1.1 129 61 (by omega)).trans fx13148
          have hW : WS ad cA (fun i k => i = 161 ∨ i = 156 ∨ i = 157 ∨ (i = 129 ∧ (k = 42 ∨ k = 43 ∨ k = 44 ∨ k = 45 ∨ k = 46 ∨ k = 47 ∨ k = 48 ∨ k = 49)) ∨ (i = 129 ∧ (k = 2 ∨ k = 57 ∨ k = 58 ∨ k = 61 ∨ k = 62 ∨ k = 63 ∨ k = 64)) ∨ i = 159 ∨ (i = 129 ∧ (k = 56 ∨ k = 65 ∨ k = 66)) ∨ (162 ≤ i ∧ i < 170) ∨ (158 ≤ i ∧ i < 162) ∨ (i = 129 ∧ (k = 31))) g0 K g13153 H locs := ⟨hW1, hs1, hW.2.2.tr hf1 (fun i k h => h.elim (fun h => (Or.inr (Or.inr (Or.inr (Or.inr (Or.inr (Or.inr (Or.inr (Or.inr (Or.inl h)))))))))) (fun h => (by omega)))⟩
          refine q_iload hM dX12_triedBy_201 (lv_at hl 0 rfl) ?_
          exact hE _ _ _ _ _ _ hW.1 ⟨v13149, _, rfl, hW.2.1, hG, hW.2.2, q13150, (fun q hq => by rw [e13151 q hq, f13066]; exact e13051 q hq), (fun q hq => by rw [f13154]; exact e13052 q hq), (by rw [f13155]; rfl), (by rw [e13152, f13067]; rfl)⟩ dX12_triedBy_203
        · refine q_tableIn (tgt := 121) hM dX12_triedBy_81 ((rfl : what.toInt = _).trans h81) (by decide) (by decide) rfl (by decide) ?_
          refine q_aload_n hM dX12_triedBy_121 (lv_at hl 0 rfl) ?_
          refine w_getI hM hW FG_X12_477 lb_129 (by decide) (by decide) dX12_triedBy_122 (fun x13159 fx13159 => ?_)
          refine q_istore (lv9 := [(4, .int x13159), (0, .ref (ad 129)), (1, .int wh), (2, .int n), (3, .int what)]) hM dX12_triedBy_125 hl (by decide) rfl (fun ls hl => ?_)
          refine q_goto (tgt := 196) hM dX12_triedBy_127 (by decide) ?_
          refine q_aload_n hM dX12_triedBy_196 (lv_at hl 1 rfl) ?_
          refine q_iconst (v := (0 : Int32)) hM dX12_triedBy_197 (by decide) ?_
          refine q_callV (As := [.int (0 : Int32)]) (rest := []) hM hW.1 hR hC myX12_bringsBack (kAW (v_6_10 (List.mem_of_getElem? (i := 10) rfl)) rfl) (rfl : vwCl[12]? = some (RX12, TX12, 86)) rfl lb_129.1 (shO hW.2.1 lb_129) (s_X12_bringsBack_0 _ _ cA ad g13065  hW.2.1 hG (fun q hq => by rw [f13066, e13051 q hq]; exact hF q hq)) ⟨by decide, by decide⟩ rfl rfl hl.1 (Nat.le_of_ble_eq_true rfl) dX12_triedBy_198 (fun v g13164 H locs hp hW1 => ?_)
          obtain ⟨v13160, rfl, hs1, hG, hf1, q13161, e13162, e13163⟩ := hp
          have f13165 : arI g13164 162 = arI g13054 162 := (hf1.2.1 162 (by omega)).trans f13066
          have f13166 : arI g13164 166 = upd (arI g0 166) (0 : Int32).toNatClampNeg wk := (hf1.2.1 166 (by omega)).trans f13067
          have f13167 : fld g13164 129 31 = .int (0 : Int32) := (hf1.1 129 31 (by omega)).trans f13068
          have f13168 : fld g13164 129 62 = .int x13159 := (hf1.1 129 62 (by omega)).trans fx13159
          have hW : WS ad cA (fun i k => i = 161 ∨ i = 156 ∨ i = 157 ∨ (i = 129 ∧ (k = 42 ∨ k = 43 ∨ k = 44 ∨ k = 45 ∨ k = 46 ∨ k = 47 ∨ k = 48 ∨ k = 49)) ∨ (i = 129 ∧ (k = 2 ∨ k = 57 ∨ k = 58 ∨ k = 61 ∨ k = 62 ∨ k = 63 ∨ k = 64)) ∨ i = 159 ∨ (i = 129 ∧ (k = 56 ∨ k = 65 ∨ k = 66)) ∨ (162 ≤ i ∧ i < 170) ∨ (158 ≤ i ∧ i < 162) ∨ (i = 129 ∧ (k = 31))) g0 K g13164 H locs := ⟨hW1, hs1, hW.2.2.tr hf1 (fun i k h => h.elim (fun h => (Or.inr (Or.inr (Or.inr (Or.inr (Or.inr (Or.inr (Or.inr (Or.inr (Or.inl h)))))))))) (fun h => (by omega)))⟩
          refine q_iload hM dX12_triedBy_201 (lv_at hl 0 rfl) ?_
          exact hE _ _ _ _ _ _ hW.1 ⟨v13160, _, rfl, hW.2.1, hG, hW.2.2, q13161, (fun q hq => by rw [e13162 q hq, f13066]; exact e13051 q hq), (fun q hq => by rw [f13165]; exact e13052 q hq), (by rw [f13166]; rfl), (by rw [e13163, f13067]; rfl)⟩ dX12_triedBy_203
        · refine q_tableIn (tgt := 130) hM dX12_triedBy_81 ((rfl : what.toInt = _).trans h81) (by decide) (by decide) rfl (by decide) ?_
          refine q_aload_n hM dX12_triedBy_130 (lv_at hl 0 rfl) ?_
          refine w_getI hM hW FG_X12_489 lb_129 (by decide) (by decide) dX12_triedBy_131 (fun x13170 fx13170 => ?_)
          refine q_istore (lv9 := [(4, .int x13170), (0, .ref (ad 129)), (1, .int wh), (2, .int n), (3, .int what)]) hM dX12_triedBy_134 hl (by decide) rfl (fun ls hl => ?_)
          refine q_goto (tgt := 196) hM dX12_triedBy_136 (by decide) ?_
          refine q_aload_n hM dX12_triedBy_196 (lv_at hl 1 rfl) ?_
          refine q_iconst (v := (0 : Int32)) hM dX12_triedBy_197 (by decide) ?_
          refine q_callV (As := [.int (0 : Int32)]) (rest := []) hM hW.1 hR hC myX12_bringsBack (kAW (v_6_10 (List.mem_of_getElem? (i := 10) rfl)) rfl) (rfl : vwCl[12]? = some (RX12, TX12, 86)) rfl lb_129.1 (shO hW.2.1 lb_129) (s_X12_bringsBack_0 _ _ cA ad g13065  hW.2.1 hG (fun q hq => by rw [f13066, e13051 q hq]; exact hF q hq)) ⟨by decide, by decide⟩ rfl rfl hl.1 (Nat.le_of_ble_eq_true rfl) dX12_triedBy_198 (fun v g13175 H locs hp hW1 => ?_)
          obtain ⟨v13171, rfl, hs1, hG, hf1, q13172, e13173, e13174⟩ := hp
          have f13176 : arI g13175 162 = arI g13054 162 := (hf1.2.1 162 (by omega)).trans f13066
          have f13177 : arI g13175 166 = upd (arI g0 166) (0 : Int32).toNatClampNeg wk := (hf1.2.1 166 (by omega)).trans f13067
          have f13178 : fld g13175 129 31 = .int (0 : Int32) := (hf1.1 129 31 (by omega)).trans f13068
          have f13179 : fld g13175 129 63 = .int x13170 := (hf1.1 129 63 (by omega)).trans fx13170
          have hW : WS ad cA (fun i k => i = 161 ∨ i = 156 ∨ i = 157 ∨ (i = 129 ∧ (k = 42 ∨ k = 43 ∨ k = 44 ∨ k = 45 ∨ k = 46 ∨ k = 47 ∨ k = 48 ∨ k = 49)) ∨ (i = 129 ∧ (k = 2 ∨ k = 57 ∨ k = 58 ∨ k = 61 ∨ k = 62 ∨ k = 63 ∨ k = 64)) ∨ i = 159 ∨ (i = 129 ∧ (k = 56 ∨ k = 65 ∨ k = 66)) ∨ (162 ≤ i ∧ i < 170) ∨ (158 ≤ i ∧ i < 162) ∨ (i = 129 ∧ (k = 31))) g0 K g13175 H locs := ⟨hW1, hs1, hW.2.2.tr hf1 (fun i k h => h.elim (fun h => (Or.inr (Or.inr (Or.inr (Or.inr (Or.inr (Or.inr (Or.inr (Or.inr (Or.inl h)))))))))) (fun h => (by omega)))⟩
          refine q_iload hM dX12_triedBy_201 (lv_at hl 0 rfl) ?_
          exact hE _ _ _ _ _ _ hW.1 ⟨v13171, _, rfl, hW.2.1, hG, hW.2.2, q13172, (fun q hq => by rw [e13173 q hq, f13066]; exact e13051 q hq), (fun q hq => by rw [f13176]; exact e13052 q hq), (by rw [f13177]; rfl), (by rw [e13174, f13067]; rfl)⟩ dX12_triedBy_203
        · refine q_tableIn (tgt := 139) hM dX12_triedBy_81 ((rfl : what.toInt = _).trans h81) (by decide) (by decide) rfl (by decide) ?_
          refine q_aload_n hM dX12_triedBy_139 (lv_at hl 0 rfl) ?_
          refine w_getI hM hW FG_X12_468 lb_129 (by decide) (by decide) dX12_triedBy_140 (fun x13181 fx13181 => ?_)
          refine q_istore (lv9 := [(4, .int x13181), (0, .ref (ad 129)), (1, .int wh), (2, .int n), (3, .int what)]) hM dX12_triedBy_143 hl (by decide) rfl (fun ls hl => ?_)
          refine q_goto (tgt := 196) hM dX12_triedBy_145 (by decide) ?_
          refine q_aload_n hM dX12_triedBy_196 (lv_at hl 1 rfl) ?_
          refine q_iconst (v := (0 : Int32)) hM dX12_triedBy_197 (by decide) ?_
          refine q_callV (As := [.int (0 : Int32)]) (rest := []) hM hW.1 hR hC myX12_bringsBack (kAW (v_6_10 (List.mem_of_getElem? (i := 10) rfl)) rfl) (rfl : vwCl[12]? = some (RX12, TX12, 86)) rfl lb_129.1 (shO hW.2.1 lb_129) (s_X12_bringsBack_0 _ _ cA ad g13065  hW.2.1 hG (fun q hq => by rw [f13066, e13051 q hq]; exact hF q hq)) ⟨by decide, by decide⟩ rfl rfl hl.1 (Nat.le_of_ble_eq_true rfl) dX12_triedBy_198 (fun v g13186 H locs hp hW1 => ?_)
          obtain ⟨v13182, rfl, hs1, hG, hf1, q13183, e13184, e13185⟩ := hp
          have f13187 : arI g13186 162 = arI g13054 162 := (hf1.2.1 162 (by omega)).trans f13066
          have f13188 : arI g13186 166 = upd (arI g0 166) (0 : Int32).toNatClampNeg wk := (hf1.2.1 166 (by omega)).trans f13067
          have f13189 : fld g13186 129 31 = .int (0 : Int32) := (hf1.1 129 31 (by omega)).trans f13068
          have f13190 : fld g13186 129 64 = .int x13181 := (hf1.1 129 64 (by omega)).trans fx13181
          have hW : WS ad cA (fun i k => i = 161 ∨ i = 156 ∨ i = 157 ∨ (i = 129 ∧ (k = 42 ∨ k = 43 ∨ k = 44 ∨ k = 45 ∨ k = 46 ∨ k = 47 ∨ k = 48 ∨ k = 49)) ∨ (i = 129 ∧ (k = 2 ∨ k = 57 ∨ k = 58 ∨ k = 61 ∨ k = 62 ∨ k = 63 ∨ k = 64)) ∨ i = 159 ∨ (i = 129 ∧ (k = 56 ∨ k = 65 ∨ k = 66)) ∨ (162 ≤ i ∧ i < 170) ∨ (158 ≤ i ∧ i < 162) ∨ (i = 129 ∧ (k = 31))) g0 K g13186 H locs := ⟨hW1, hs1, hW.2.2.tr hf1 (fun i k h => h.elim (fun h => (Or.inr (Or.inr (Or.inr (Or.inr (Or.inr (Or.inr (Or.inr (Or.inr (Or.inl h)))))))))) (fun h => (by omega)))⟩
          refine q_iload hM dX12_triedBy_201 (lv_at hl 0 rfl) ?_
          exact hE _ _ _ _ _ _ hW.1 ⟨v13182, _, rfl, hW.2.1, hG, hW.2.2, q13183, (fun q hq => by rw [e13184 q hq, f13066]; exact e13051 q hq), (fun q hq => by rw [f13187]; exact e13052 q hq), (by rw [f13188]; rfl), (by rw [e13185, f13067]; rfl)⟩ dX12_triedBy_203
      · refine q_aload_n hM dX12_triedBy_35 (lv_at hl 0 rfl) ?_
        refine q_iload_n hM dX12_triedBy_36 (lv_at hl 3 rfl) ?_
        refine q_bipush (v := (20 : Int32)) hM dX12_triedBy_37 (by decide) ?_
        refine q_isub hM dX12_triedBy_39 (fun z13192 hz13192 => ?_)
        first | have tz13192 := i_subT hz13192 (rfl : what.toInt = what.toInt) (kc_20 : (20 : Int32).toInt = 20) (by omega) (by omega) | skip
        have wz13192 := i_subW hz13192 (rfl : what.toInt = what.toInt) (kc_20 : (20 : Int32).toInt = 20)
        refine q_callV (As := [.int z13192]) (rest := []) hM hW.1 hR hC myX12_isThat (kAW (v_6_2 (List.mem_of_getElem? (i := 9) rfl)) rfl) (rfl : vwCl[12]? = some (RX12, TX12, 86)) rfl lb_129.1 (shO hW.2.1 lb_129) (a_X12_isThat _ _ cA ad g0 z13192 hW.2.1 hG) ⟨by decide, by decide⟩ rfl rfl hl.1 (Nat.le_of_ble_eq_true rfl) dX12_triedBy_40 (fun v g13194 H locs hp hW1 => ?_)
        obtain ⟨r13193, rfl, hr13193, rfl⟩ := hp
        have hW : WS ad cA (fun i k => i = 161 ∨ i = 156 ∨ i = 157 ∨ (i = 129 ∧ (k = 42 ∨ k = 43 ∨ k = 44 ∨ k = 45 ∨ k = 46 ∨ k = 47 ∨ k = 48 ∨ k = 49)) ∨ (i = 129 ∧ (k = 2 ∨ k = 57 ∨ k = 58 ∨ k = 61 ∨ k = 62 ∨ k = 63 ∨ k = 64)) ∨ i = 159 ∨ (i = 129 ∧ (k = 56 ∨ k = 65 ∨ k = 66)) ∨ (162 ≤ i ∧ i < 170) ∨ (158 ≤ i ∧ i < 162) ∨ (i = 129 ∧ (k = 31))) g0 K g0 H locs := ⟨hW1, hW.2.1, hW.2.2⟩
        refine q_if_ne (tgt := 59) hM dX12_triedBy_43 (by decide) (rfl : r13193.toInt = r13193.toInt) (fun h43 => ?_) (fun h43 => ?_)
        · refine q_aload_n hM dX12_triedBy_59 (lv_at hl 0 rfl) ?_
          refine q_iconst (v := (0 : Int32)) hM dX12_triedBy_60 (by decide) ?_
          refine q_callV (As := [.int (0 : Int32)]) (rest := []) hM hW.1 hR hC myX12_laysAside (kAW (v_6_10 (List.mem_of_getElem? (i := 2) rfl)) rfl) (rfl : vwCl[12]? = some (RX12, TX12, 86)) rfl lb_129.1 (shO hW.2.1 lb_129) (s_X12_laysAside_0 _ _ cA ad g0 wk hW.2.1 hG f12898 hF) ⟨by decide, by decide⟩ rfl rfl hl.1 (Nat.le_of_ble_eq_true rfl) dX12_triedBy_61 (fun v g13199 H locs hp hW1 => ?_)
          obtain ⟨rfl, hs1, hG, hf1, e13196, e13197, e13198⟩ := hp
          have f13200 : fld g13199 129 56 = .int wk := (hf1.1 129 56 (by omega)).trans f12898
          have hW : WS ad cA (fun i k => i = 161 ∨ i = 156 ∨ i = 157 ∨ (i = 129 ∧ (k = 42 ∨ k = 43 ∨ k = 44 ∨ k = 45 ∨ k = 46 ∨ k = 47 ∨ k = 48 ∨ k = 49)) ∨ (i = 129 ∧ (k = 2 ∨ k = 57 ∨ k = 58 ∨ k = 61 ∨ k = 62 ∨ k = 63 ∨ k = 64)) ∨ i = 159 ∨ (i = 129 ∧ (k = 56 ∨ k = 65 ∨ k = 66)) ∨ (162 ≤ i ∧ i < 170) ∨ (158 ≤ i ∧ i < 162) ∨ (i = 129 ∧ (k = 31))) g0 K g13199 H locs := ⟨hW1, hs1, hW.2.2.tr hf1 (fun i k h => (Or.inr (Or.inr (Or.inr (Or.inr (Or.inr (Or.inr (Or.inr (Or.inl h)))))))))⟩
          refine q_aload_n hM dX12_triedBy_64 (lv_at hl 0 rfl) ?_
          refine q_iload_n hM dX12_triedBy_65 (lv_at hl 1 rfl) ?_
          refine w_put hM hW FP_X12_402 lb_129 (by omega) (Or.inl ⟨_, rfl⟩) rfl rfl dX12_triedBy_66 (fun g13201 H locs hW e1 e2 => ?_)
          have f13202 : fld g13201 129 56 = .int wk := (e2.1 129 56 (by unfold Only; omega)).trans f13200
          have f13203 : arI g13201 162 = arI g13199 162 := (e2.2.1 162 (by unfold Only; omega)).trans (rfl : arI g13199 162 = arI g13199 162)
          have f13204 : arI g13201 166 = upd (arI g0 166) (0 : Int32).toNatClampNeg wk := (e2.2.1 166 (by unfold Only; omega)).trans e13198
          have f13205 : fld g13201 129 31 = .int wh := e1
          have hG := hG.put e1 e2 rF_129_31 (by decide) (by have := i_rng wh; omega) (by have := i_rng wh; omega)
          refine q_aload_n hM dX12_triedBy_69 (lv_at hl 0 rfl) ?_
          refine q_iload_n hM dX12_triedBy_70 (lv_at hl 2 rfl) ?_
          refine q_iconst (v := ((-1) : Int32)) hM dX12_triedBy_71 (by decide) ?_
          refine q_callV (As := [.int n, .int ((-1) : Int32)]) (rest := []) hM hW.1 hR hC myX12_go (kAW (v_6_7 (List.mem_of_getElem? (i := 13) rfl)) rfl) (rfl : vwCl[12]? = some (RX12, TX12, 86)) rfl lb_129.1 (shO hW.2.1 lb_129) (a_X12_go_m _ _ cA ad g13201 n hW.2.1 hG (by have := kc_m1; omega) (LawOK_fr hL hW.2.2 (by omega) (by omega) (by omega) (by omega) (by omega))) ⟨by decide, by decide⟩ rfl rfl hl.1 (Nat.le_of_ble_eq_true rfl) dX12_triedBy_72 (fun v g13206 H locs hp hW1 => ?_)
          obtain ⟨rfl, hs1, hG, hf1⟩ := hp
          have f13207 : arI g13206 162 = arI g13199 162 := (hf1.2.1 162 (by omega)).trans f13203
          have f13208 : arI g13206 166 = upd (arI g0 166) (0 : Int32).toNatClampNeg wk := (hf1.2.1 166 (by omega)).trans f13204
          have f13209 : fld g13206 129 31 = .int wh := (hf1.1 129 31 (by omega)).trans f13205
          have hW : WS ad cA (fun i k => i = 161 ∨ i = 156 ∨ i = 157 ∨ (i = 129 ∧ (k = 42 ∨ k = 43 ∨ k = 44 ∨ k = 45 ∨ k = 46 ∨ k = 47 ∨ k = 48 ∨ k = 49)) ∨ (i = 129 ∧ (k = 2 ∨ k = 57 ∨ k = 58 ∨ k = 61 ∨ k = 62 ∨ k = 63 ∨ k = 64)) ∨ i = 159 ∨ (i = 129 ∧ (k = 56 ∨ k = 65 ∨ k = 66)) ∨ (162 ≤ i ∧ i < 170) ∨ (158 ≤ i ∧ i < 162) ∨ (i = 129 ∧ (k = 31))) g0 K g13206 H locs := ⟨hW1, hs1, hW.2.2.tr hf1 (fun i k h => h.elim (fun h => (Or.inl h)) (fun h => h.elim (fun h => (Or.inr (Or.inl h))) (fun h => h.elim (fun h => (Or.inr (Or.inr (Or.inl h)))) (fun h => h.elim (fun h => (Or.inr (Or.inr (Or.inr (Or.inl h))))) (fun h => h.elim (fun h => (Or.inr (Or.inr (Or.inr (Or.inr (Or.inl h)))))) (fun h => h.elim (fun h => (Or.inr (Or.inr (Or.inr (Or.inr (Or.inr (Or.inl h))))))) (fun h => (Or.inr (Or.inr (Or.inr (Or.inr (Or.inr (Or.inr (Or.inl h))))))))))))))⟩
          refine q_aload_n hM dX12_triedBy_75 (lv_at hl 0 rfl) ?_
          refine q_iconst (v := (0 : Int32)) hM dX12_triedBy_76 (by decide) ?_
          refine w_put hM hW FP_X12_402 lb_129 (by omega) (Or.inl ⟨_, rfl⟩) rfl rfl dX12_triedBy_77 (fun g13210 H locs hW e1 e2 => ?_)
          have f13211 : arI g13210 162 = arI g13199 162 := (e2.2.1 162 (by unfold Only; omega)).trans f13207
          have f13212 : arI g13210 166 = upd (arI g0 166) (0 : Int32).toNatClampNeg wk := (e2.2.1 166 (by unfold Only; omega)).trans f13208
          have f13213 : fld g13210 129 31 = .int (0 : Int32) := e1
          have hG := hG.put e1 e2 rF_129_31 (by decide) (by have := kc_0; have := i_rng (0 : Int32); omega) (by have := kc_0; have := i_rng (0 : Int32); omega)
          refine q_iload_n hM dX12_triedBy_80 (lv_at hl 3 rfl) ?_
          rcases (show what.toInt < 0 ∨ 3 < what.toInt ∨ what.toInt = 0 ∨ what.toInt = 1 ∨ what.toInt = 2 ∨ what.toInt = 3 from by omega) with h81 | h81 | h81 | h81 | h81 | h81
          · refine q_tableOut (tgt := 148) hM dX12_triedBy_81 rfl (by omega) (by decide) ?_
            refine q_iload_n hM dX12_triedBy_148 (lv_at hl 3 rfl) ?_
            refine q_bipush (v := (20 : Int32)) hM dX12_triedBy_149 (by decide) ?_
            refine q_icmp_ge (tgt := 168) hM dX12_triedBy_151 (by decide) (rfl : what.toInt = what.toInt) (kc_20 : (20 : Int32).toInt = 20) (fun h151 => ?_) (fun h151 => ?_)
            · refine q_iload_n hM dX12_triedBy_168 (lv_at hl 3 rfl) ?_
              refine q_bipush (v := (30 : Int32)) hM dX12_triedBy_169 (by decide) ?_
              refine q_icmp_ge (tgt := 186) hM dX12_triedBy_171 (by decide) (rfl : what.toInt = what.toInt) (kc_30 : (30 : Int32).toInt = 30) (fun h171 => ?_) (fun h171 => ?_)
              · refine q_aload_n hM dX12_triedBy_186 (lv_at hl 0 rfl) ?_
                refine q_iload_n hM dX12_triedBy_187 (lv_at hl 3 rfl) ?_
                refine q_bipush (v := (30 : Int32)) hM dX12_triedBy_188 (by decide) ?_
                refine q_isub hM dX12_triedBy_190 (fun z13217 hz13217 => ?_)
                first | have tz13217 := i_subT hz13217 (rfl : what.toInt = what.toInt) (kc_30 : (30 : Int32).toInt = 30) (by omega) (by omega) | skip
                have wz13217 := i_subW hz13217 (rfl : what.toInt = what.toInt) (kc_30 : (30 : Int32).toInt = 30)
                refine q_callV (As := [.int z13217]) (rest := []) hM hW.1 hR hC myX12_whoKnows (kAW (v_6_10 (List.mem_of_getElem? (i := 6) rfl)) rfl) (rfl : vwCl[12]? = some (RX12, TX12, 86)) rfl lb_129.1 (shO hW.2.1 lb_129) (a_X12_whoKnows _ _ cA ad g13210 z13217 hW.2.1 hG (by  omega) (by  omega)) ⟨by decide, by decide⟩ rfl rfl hl.1 (Nat.le_of_ble_eq_true rfl) dX12_triedBy_191 (fun v g13219 H locs hp hW1 => ?_)
                obtain ⟨r13218, rfl, hr13218, rfl⟩ := hp
                have hW : WS ad cA (fun i k => i = 161 ∨ i = 156 ∨ i = 157 ∨ (i = 129 ∧ (k = 42 ∨ k = 43 ∨ k = 44 ∨ k = 45 ∨ k = 46 ∨ k = 47 ∨ k = 48 ∨ k = 49)) ∨ (i = 129 ∧ (k = 2 ∨ k = 57 ∨ k = 58 ∨ k = 61 ∨ k = 62 ∨ k = 63 ∨ k = 64)) ∨ i = 159 ∨ (i = 129 ∧ (k = 56 ∨ k = 65 ∨ k = 66)) ∨ (162 ≤ i ∧ i < 170) ∨ (158 ≤ i ∧ i < 162) ∨ (i = 129 ∧ (k = 31))) g0 K g13210 H locs := ⟨hW1, hW.2.1, hW.2.2⟩
                refine q_istore (lv9 := [(4, .int r13218), (0, .ref (ad 129)), (1, .int wh), (2, .int n), (3, .int what)]) hM dX12_triedBy_194 hl (by decide) rfl (fun ls hl => ?_)
                refine q_aload_n hM dX12_triedBy_196 (lv_at hl 1 rfl) ?_
                refine q_iconst (v := (0 : Int32)) hM dX12_triedBy_197 (by decide) ?_
                refine q_callV (As := [.int (0 : Int32)]) (rest := []) hM hW.1 hR hC myX12_bringsBack (kAW (v_6_10 (List.mem_of_getElem? (i := 10) rfl)) rfl) (rfl : vwCl[12]? = some (RX12, TX12, 86)) rfl lb_129.1 (shO hW.2.1 lb_129) (s_X12_bringsBack_0 _ _ cA ad g13210  hW.2.1 hG (fun q hq => by rw [f13211, e13196 q hq]; exact hF q hq)) ⟨by decide, by decide⟩ rfl rfl hl.1 (Nat.le_of_ble_eq_true rfl) dX12_triedBy_198 (fun v g13224 H locs hp hW1 => ?_)
                obtain ⟨v13220, rfl, hs1, hG, hf1, q13221, e13222, e13223⟩ := hp
                have f13225 : arI g13224 162 = arI g13199 162 := (hf1.2.1 162 (by omega)).trans f13211
                have f13226 : arI g13224 166 = upd (arI g0 166) (0 : Int32).toNatClampNeg wk := (hf1.2.1 166 (by omega)).trans f13212
                have f13227 : fld g13224 129 31 = .int (0 : Int32) := (hf1.1 129 31 (by omega)).trans f13213
                have hW : WS ad cA (fun i k => i = 161 ∨ i = 156 ∨ i = 157 ∨ (i = 129 ∧ (k = 42 ∨ k = 43 ∨ k = 44 ∨ k = 45 ∨ k = 46 ∨ k = 47 ∨ k = 48 ∨ k = 49)) ∨ (i = 129 ∧ (k = 2 ∨ k = 57 ∨ k = 58 ∨ k = 61 ∨ k = 62 ∨ k = 63 ∨ k = 64)) ∨ i = 159 ∨ (i = 129 ∧ (k = 56 ∨ k = 65 ∨ k = 66)) ∨ (162 ≤ i ∧ i < 170) ∨ (158 ≤ i ∧ i < 162) ∨ (i = 129 ∧ (k = 31))) g0 K g13224 H locs := ⟨hW1, hs1, hW.2.2.tr hf1 (fun i k h => h.elim (fun h => (Or.inr (Or.inr (Or.inr (Or.inr (Or.inr (Or.inr (Or.inr (Or.inr (Or.inl h)))))))))) (fun h => (by omega)))⟩
                refine q_iload hM dX12_triedBy_201 (lv_at hl 0 rfl) ?_
                exact hE _ _ _ _ _ _ hW.1 ⟨v13220, _, rfl, hW.2.1, hG, hW.2.2, q13221, (fun q hq => by rw [e13222 q hq, f13211]; exact e13196 q hq), (fun q hq => by rw [f13225]; exact e13197 q hq), (by rw [f13226]; rfl), (by rw [e13223, f13212]; rfl)⟩ dX12_triedBy_203
              · refine q_aload_n hM dX12_triedBy_174 (lv_at hl 0 rfl) ?_
                refine w_get (v := .ref (ad 159)) hM hW FG_X12_103 lb_129 (rf_129_53 hW.2.1) dX12_triedBy_175 ?_
                refine q_iload_n hM dX12_triedBy_178 (lv_at hl 3 rfl) ?_
                refine q_bipush (v := (20 : Int32)) hM dX12_triedBy_179 (by decide) ?_
                refine q_isub hM dX12_triedBy_181 (fun z13229 hz13229 => ?_)
                first | have tz13229 := i_subT hz13229 (rfl : what.toInt = what.toInt) (kc_20 : (20 : Int32).toInt = 20) (by omega) (by omega) | skip
                have wz13229 := i_subW hz13229 (rfl : what.toInt = what.toInt) (kc_20 : (20 : Int32).toInt = 20)
                refine w_iald hM hW lb_159 (i_in (by omega) (by omega)) dX12_triedBy_182 ?_
                refine q_top (fun y13230 hy13230 => ?_)
                have by13230 := hG.a hy13230 rA_159
                refine q_goto (tgt := 194) hM dX12_triedBy_183 (by decide) ?_
                refine q_istore (lv9 := [(4, .int y13230), (0, .ref (ad 129)), (1, .int wh), (2, .int n), (3, .int what)]) hM dX12_triedBy_194 hl (by decide) rfl (fun ls hl => ?_)
                refine q_aload_n hM dX12_triedBy_196 (lv_at hl 1 rfl) ?_
                refine q_iconst (v := (0 : Int32)) hM dX12_triedBy_197 (by decide) ?_
                refine q_callV (As := [.int (0 : Int32)]) (rest := []) hM hW.1 hR hC myX12_bringsBack (kAW (v_6_10 (List.mem_of_getElem? (i := 10) rfl)) rfl) (rfl : vwCl[12]? = some (RX12, TX12, 86)) rfl lb_129.1 (shO hW.2.1 lb_129) (s_X12_bringsBack_0 _ _ cA ad g13210  hW.2.1 hG (fun q hq => by rw [f13211, e13196 q hq]; exact hF q hq)) ⟨by decide, by decide⟩ rfl rfl hl.1 (Nat.le_of_ble_eq_true rfl) dX12_triedBy_198 (fun v g13235 H locs hp hW1 => ?_)
                obtain ⟨v13231, rfl, hs1, hG, hf1, q13232, e13233, e13234⟩ := hp
                have f13236 : arI g13235 162 = arI g13199 162 := (hf1.2.1 162 (by omega)).trans f13211
                have f13237 : arI g13235 166 = upd (arI g0 166) (0 : Int32).toNatClampNeg wk := (hf1.2.1 166 (by omega)).trans f13212
                have f13238 : fld g13235 129 31 = .int (0 : Int32) := (hf1.1 129 31 (by omega)).trans f13213
                have hW : WS ad cA (fun i k => i = 161 ∨ i = 156 ∨ i = 157 ∨ (i = 129 ∧ (k = 42 ∨ k = 43 ∨ k = 44 ∨ k = 45 ∨ k = 46 ∨ k = 47 ∨ k = 48 ∨ k = 49)) ∨ (i = 129 ∧ (k = 2 ∨ k = 57 ∨ k = 58 ∨ k = 61 ∨ k = 62 ∨ k = 63 ∨ k = 64)) ∨ i = 159 ∨ (i = 129 ∧ (k = 56 ∨ k = 65 ∨ k = 66)) ∨ (162 ≤ i ∧ i < 170) ∨ (158 ≤ i ∧ i < 162) ∨ (i = 129 ∧ (k = 31))) g0 K g13235 H locs := ⟨hW1, hs1, hW.2.2.tr hf1 (fun i k h => h.elim (fun h => (Or.inr (Or.inr (Or.inr (Or.inr (Or.inr (Or.inr (Or.inr (Or.inr (Or.inl h)))))))))) (fun h => (by omega)))⟩
                refine q_iload hM dX12_triedBy_201 (lv_at hl 0 rfl) ?_
                exact hE _ _ _ _ _ _ hW.1 ⟨v13231, _, rfl, hW.2.1, hG, hW.2.2, q13232, (fun q hq => by rw [e13233 q hq, f13211]; exact e13196 q hq), (fun q hq => by rw [f13236]; exact e13197 q hq), (by rw [f13237]; rfl), (by rw [e13234, f13212]; rfl)⟩ dX12_triedBy_203
            · refine q_aload_n hM dX12_triedBy_154 (lv_at hl 0 rfl) ?_
              refine q_iload_n hM dX12_triedBy_155 (lv_at hl 3 rfl) ?_
              refine q_bipush (v := (10 : Int32)) hM dX12_triedBy_156 (by decide) ?_
              refine q_isub hM dX12_triedBy_158 (fun z13240 hz13240 => ?_)
              first | have tz13240 := i_subT hz13240 (rfl : what.toInt = what.toInt) (kc_10 : (10 : Int32).toInt = 10) (by omega) (by omega) | skip
              have wz13240 := i_subW hz13240 (rfl : what.toInt = what.toInt) (kc_10 : (10 : Int32).toInt = 10)
              refine q_callV (As := [.int z13240]) (rest := []) hM hW.1 hR hC myX12_knownBy (kAW (v_6_4 (List.mem_of_getElem? (i := 11) rfl)) rfl) (rfl : vwCl[12]? = some (RX12, TX12, 86)) rfl lb_129.1 (shO hW.2.1 lb_129) (a_X12_knownBy _ _ cA ad g13210 z13240 hW.2.1 hG (by  omega) (by  omega)) ⟨by decide, by decide⟩ rfl rfl hl.1 (Nat.le_of_ble_eq_true rfl) dX12_triedBy_159 (fun v g13242 H locs hp hW1 => ?_)
              obtain ⟨r13241, rfl, hr13241, rfl⟩ := hp
              have hW : WS ad cA (fun i k => i = 161 ∨ i = 156 ∨ i = 157 ∨ (i = 129 ∧ (k = 42 ∨ k = 43 ∨ k = 44 ∨ k = 45 ∨ k = 46 ∨ k = 47 ∨ k = 48 ∨ k = 49)) ∨ (i = 129 ∧ (k = 2 ∨ k = 57 ∨ k = 58 ∨ k = 61 ∨ k = 62 ∨ k = 63 ∨ k = 64)) ∨ i = 159 ∨ (i = 129 ∧ (k = 56 ∨ k = 65 ∨ k = 66)) ∨ (162 ≤ i ∧ i < 170) ∨ (158 ≤ i ∧ i < 162) ∨ (i = 129 ∧ (k = 31))) g0 K g13210 H locs := ⟨hW1, hW.2.1, hW.2.2⟩
              refine q_callS (As := [.int r13241]) (rest := []) hM hW.1 hR hC myX12_sizeOf (kAW (v_5_6 (List.mem_of_getElem? (i := 14) rfl)) rfl) (a_X12_sizeOf _ _ cA ad g13210 r13241 hW.2.1 hG (by  omega)) ⟨by decide, by decide⟩ rfl rfl hl.1 (Nat.le_of_ble_eq_true rfl) dX12_triedBy_162 (fun v g13244 H locs hp hW1 => ?_)
              obtain ⟨r13243, rfl, hr13243, rfl⟩ := hp
              have hW : WS ad cA (fun i k => i = 161 ∨ i = 156 ∨ i = 157 ∨ (i = 129 ∧ (k = 42 ∨ k = 43 ∨ k = 44 ∨ k = 45 ∨ k = 46 ∨ k = 47 ∨ k = 48 ∨ k = 49)) ∨ (i = 129 ∧ (k = 2 ∨ k = 57 ∨ k = 58 ∨ k = 61 ∨ k = 62 ∨ k = 63 ∨ k = 64)) ∨ i = 159 ∨ (i = 129 ∧ (k = 56 ∨ k = 65 ∨ k = 66)) ∨ (162 ≤ i ∧ i < 170) ∨ (158 ≤ i ∧ i < 162) ∨ (i = 129 ∧ (k = 31))) g0 K g13210 H locs := ⟨hW1, hW.2.1, hW.2.2⟩
              refine q_goto (tgt := 194) hM dX12_triedBy_165 (by decide) ?_
              refine q_istore (lv9 := [(4, .int r13243), (0, .ref (ad 129)), (1, .int wh), (2, .int n), (3, .int what)]) hM dX12_triedBy_194 hl (by decide) rfl (fun ls hl => ?_)
              refine q_aload_n hM dX12_triedBy_196 (lv_at hl 1 rfl) ?_
              refine q_iconst (v := (0 : Int32)) hM dX12_triedBy_197 (by decide) ?_
              refine q_callV (As := [.int (0 : Int32)]) (rest := []) hM hW.1 hR hC myX12_bringsBack (kAW (v_6_10 (List.mem_of_getElem? (i := 10) rfl)) rfl) (rfl : vwCl[12]? = some (RX12, TX12, 86)) rfl lb_129.1 (shO hW.2.1 lb_129) (s_X12_bringsBack_0 _ _ cA ad g13210  hW.2.1 hG (fun q hq => by rw [f13211, e13196 q hq]; exact hF q hq)) ⟨by decide, by decide⟩ rfl rfl hl.1 (Nat.le_of_ble_eq_true rfl) dX12_triedBy_198 (fun v g13249 H locs hp hW1 => ?_)
              obtain ⟨v13245, rfl, hs1, hG, hf1, q13246, e13247, e13248⟩ := hp
              have f13250 : arI g13249 162 = arI g13199 162 := (hf1.2.1 162 (by omega)).trans f13211
              have f13251 : arI g13249 166 = upd (arI g0 166) (0 : Int32).toNatClampNeg wk := (hf1.2.1 166 (by omega)).trans f13212
              have f13252 : fld g13249 129 31 = .int (0 : Int32) := (hf1.1 129 31 (by omega)).trans f13213
              have hW : WS ad cA (fun i k => i = 161 ∨ i = 156 ∨ i = 157 ∨ (i = 129 ∧ (k = 42 ∨ k = 43 ∨ k = 44 ∨ k = 45 ∨ k = 46 ∨ k = 47 ∨ k = 48 ∨ k = 49)) ∨ (i = 129 ∧ (k = 2 ∨ k = 57 ∨ k = 58 ∨ k = 61 ∨ k = 62 ∨ k = 63 ∨ k = 64)) ∨ i = 159 ∨ (i = 129 ∧ (k = 56 ∨ k = 65 ∨ k = 66)) ∨ (162 ≤ i ∧ i < 170) ∨ (158 ≤ i ∧ i < 162) ∨ (i = 129 ∧ (k = 31))) g0 K g13249 H locs := ⟨hW1, hs1, hW.2.2.tr hf1 (fun i k h => h.elim (fun h => (Or.inr (Or.inr (Or.inr (Or.inr (Or.inr (Or.inr (Or.inr (Or.inr (Or.inl h)))))))))) (fun h => (by omega)))⟩
              refine q_iload hM dX12_triedBy_201 (lv_at hl 0 rfl) ?_
              exact hE _ _ _ _ _ _ hW.1 ⟨v13245, _, rfl, hW.2.1, hG, hW.2.2, q13246, (fun q hq => by rw [e13247 q hq, f13211]; exact e13196 q hq), (fun q hq => by rw [f13250]; exact e13197 q hq), (by rw [f13251]; rfl), (by rw [e13248, f13212]; rfl)⟩ dX12_triedBy_203
          · refine q_tableOut (tgt := 148) hM dX12_triedBy_81 rfl (by omega) (by decide) ?_
            refine q_iload_n hM dX12_triedBy_148 (lv_at hl 3 rfl) ?_
            refine q_bipush (v := (20 : Int32)) hM dX12_triedBy_149 (by decide) ?_
            refine q_icmp_ge (tgt := 168) hM dX12_triedBy_151 (by decide) (rfl : what.toInt = what.toInt) (kc_20 : (20 : Int32).toInt = 20) (fun h151 => ?_) (fun h151 => ?_)
            · refine q_iload_n hM dX12_triedBy_168 (lv_at hl 3 rfl) ?_
              refine q_bipush (v := (30 : Int32)) hM dX12_triedBy_169 (by decide) ?_
              refine q_icmp_ge (tgt := 186) hM dX12_triedBy_171 (by decide) (rfl : what.toInt = what.toInt) (kc_30 : (30 : Int32).toInt = 30) (fun h171 => ?_) (fun h171 => ?_)
              · refine q_aload_n hM dX12_triedBy_186 (lv_at hl 0 rfl) ?_
                refine q_iload_n hM dX12_triedBy_187 (lv_at hl 3 rfl) ?_
                refine q_bipush (v := (30 : Int32)) hM dX12_triedBy_188 (by decide) ?_
                refine q_isub hM dX12_triedBy_190 (fun z13256 hz13256 => ?_)
                first | have tz13256 := i_subT hz13256 (rfl : what.toInt = what.toInt) (kc_30 : (30 : Int32).toInt = 30) (by omega) (by omega) | skip
                have wz13256 := i_subW hz13256 (rfl : what.toInt = what.toInt) (kc_30 : (30 : Int32).toInt = 30)
                refine q_callV (As := [.int z13256]) (rest := []) hM hW.1 hR hC myX12_whoKnows (kAW (v_6_10 (List.mem_of_getElem? (i := 6) rfl)) rfl) (rfl : vwCl[12]? = some (RX12, TX12, 86)) rfl lb_129.1 (shO hW.2.1 lb_129) (a_X12_whoKnows _ _ cA ad g13210 z13256 hW.2.1 hG (by  omega) (by  omega)) ⟨by decide, by decide⟩ rfl rfl hl.1 (Nat.le_of_ble_eq_true rfl) dX12_triedBy_191 (fun v g13258 H locs hp hW1 => ?_)
                obtain ⟨r13257, rfl, hr13257, rfl⟩ := hp
                have hW : WS ad cA (fun i k => i = 161 ∨ i = 156 ∨ i = 157 ∨ (i = 129 ∧ (k = 42 ∨ k = 43 ∨ k = 44 ∨ k = 45 ∨ k = 46 ∨ k = 47 ∨ k = 48 ∨ k = 49)) ∨ (i = 129 ∧ (k = 2 ∨ k = 57 ∨ k = 58 ∨ k = 61 ∨ k = 62 ∨ k = 63 ∨ k = 64)) ∨ i = 159 ∨ (i = 129 ∧ (k = 56 ∨ k = 65 ∨ k = 66)) ∨ (162 ≤ i ∧ i < 170) ∨ (158 ≤ i ∧ i < 162) ∨ (i = 129 ∧ (k = 31))) g0 K g13210 H locs := ⟨hW1, hW.2.1, hW.2.2⟩
                refine q_istore (lv9 := [(4, .int r13257), (0, .ref (ad 129)), (1, .int wh), (2, .int n), (3, .int what)]) hM dX12_triedBy_194 hl (by decide) rfl (fun ls hl => ?_)
                refine q_aload_n hM dX12_triedBy_196 (lv_at hl 1 rfl) ?_
                refine q_iconst (v := (0 : Int32)) hM dX12_triedBy_197 (by decide) ?_
                refine q_callV (As := [.int (0 : Int32)]) (rest := []) hM hW.1 hR hC myX12_bringsBack (kAW (v_6_10 (List.mem_of_getElem? (i := 10) rfl)) rfl) (rfl : vwCl[12]? = some (RX12, TX12, 86)) rfl lb_129.1 (shO hW.2.1 lb_129) (s_X12_bringsBack_0 _ _ cA ad g13210  hW.2.1 hG (fun q hq => by rw [f13211, e13196 q hq]; exact hF q hq)) ⟨by decide, by decide⟩ rfl rfl hl.1 (Nat.le_of_ble_eq_true rfl) dX12_triedBy_198 (fun v g13263 H locs hp hW1 => ?_)
                obtain ⟨v13259, rfl, hs1, hG, hf1, q13260, e13261, e13262⟩ := hp
                have f13264 : arI g13263 162 = arI g13199 162 := (hf1.2.1 162 (by omega)).trans f13211
                have f13265 : arI g13263 166 = upd (arI g0 166) (0 : Int32).toNatClampNeg wk := (hf1.2.1 166 (by omega)).trans f13212
                have f13266 : fld g13263 129 31 = .int (0 : Int32) := (hf1.1 129 31 (by omega)).trans f13213
                have hW : WS ad cA (fun i k => i = 161 ∨ i = 156 ∨ i = 157 ∨ (i = 129 ∧ (k = 42 ∨ k = 43 ∨ k = 44 ∨ k = 45 ∨ k = 46 ∨ k = 47 ∨ k = 48 ∨ k = 49)) ∨ (i = 129 ∧ (k = 2 ∨ k = 57 ∨ k = 58 ∨ k = 61 ∨ k = 62 ∨ k = 63 ∨ k = 64)) ∨ i = 159 ∨ (i = 129 ∧ (k = 56 ∨ k = 65 ∨ k = 66)) ∨ (162 ≤ i ∧ i < 170) ∨ (158 ≤ i ∧ i < 162) ∨ (i = 129 ∧ (k = 31))) g0 K g13263 H locs := ⟨hW1, hs1, hW.2.2.tr hf1 (fun i k h => h.elim (fun h => (Or.inr (Or.inr (Or.inr (Or.inr (Or.inr (Or.inr (Or.inr (Or.inr (Or.inl h)))))))))) (fun h => (by omega)))⟩
                refine q_iload hM dX12_triedBy_201 (lv_at hl 0 rfl) ?_
                exact hE _ _ _ _ _ _ hW.1 ⟨v13259, _, rfl, hW.2.1, hG, hW.2.2, q13260, (fun q hq => by rw [e13261 q hq, f13211]; exact e13196 q hq), (fun q hq => by rw [f13264]; exact e13197 q hq), (by rw [f13265]; rfl), (by rw [e13262, f13212]; rfl)⟩ dX12_triedBy_203
              · refine q_aload_n hM dX12_triedBy_174 (lv_at hl 0 rfl) ?_
                refine w_get (v := .ref (ad 159)) hM hW FG_X12_103 lb_129 (rf_129_53 hW.2.1) dX12_triedBy_175 ?_
                refine q_iload_n hM dX12_triedBy_178 (lv_at hl 3 rfl) ?_
                refine q_bipush (v := (20 : Int32)) hM dX12_triedBy_179 (by decide) ?_
                refine q_isub hM dX12_triedBy_181 (fun z13268 hz13268 => ?_)
                first | have tz13268 := i_subT hz13268 (rfl : what.toInt = what.toInt) (kc_20 : (20 : Int32).toInt = 20) (by omega) (by omega) | skip
                have wz13268 := i_subW hz13268 (rfl : what.toInt = what.toInt) (kc_20 : (20 : Int32).toInt = 20)
                refine w_iald hM hW lb_159 (i_in (by omega) (by omega)) dX12_triedBy_182 ?_
                refine q_top (fun y13269 hy13269 => ?_)
                have by13269 := hG.a hy13269 rA_159
                refine q_goto (tgt := 194) hM dX12_triedBy_183 (by decide) ?_
                refine q_istore (lv9 := [(4, .int y13269), (0, .ref (ad 129)), (1, .int wh), (2, .int n), (3, .int what)]) hM dX12_triedBy_194 hl (by decide) rfl (fun ls hl => ?_)
                refine q_aload_n hM dX12_triedBy_196 (lv_at hl 1 rfl) ?_
                refine q_iconst (v := (0 : Int32)) hM dX12_triedBy_197 (by decide) ?_
                refine q_callV (As := [.int (0 : Int32)]) (rest := []) hM hW.1 hR hC myX12_bringsBack (kAW (v_6_10 (List.mem_of_getElem? (i := 10) rfl)) rfl) (rfl : vwCl[12]? = some (RX12, TX12, 86)) rfl lb_129.1 (shO hW.2.1 lb_129) (s_X12_bringsBack_0 _ _ cA ad g13210  hW.2.1 hG (fun q hq => by rw [f13211, e13196 q hq]; exact hF q hq)) ⟨by decide, by decide⟩ rfl rfl hl.1 (Nat.le_of_ble_eq_true rfl) dX12_triedBy_198 (fun v g13274 H locs hp hW1 => ?_)
                obtain ⟨v13270, rfl, hs1, hG, hf1, q13271, e13272, e13273⟩ := hp
                have f13275 : arI g13274 162 = arI g13199 162 := (hf1.2.1 162 (by omega)).trans f13211
                have f13276 : arI g13274 166 = upd (arI g0 166) (0 : Int32).toNatClampNeg wk := (hf1.2.1 166 (by omega)).trans f13212
                have f13277 : fld g13274 129 31 = .int (0 : Int32) := (hf1.1 129 31 (by omega)).trans f13213
                have hW : WS ad cA (fun i k => i = 161 ∨ i = 156 ∨ i = 157 ∨ (i = 129 ∧ (k = 42 ∨ k = 43 ∨ k = 44 ∨ k = 45 ∨ k = 46 ∨ k = 47 ∨ k = 48 ∨ k = 49)) ∨ (i = 129 ∧ (k = 2 ∨ k = 57 ∨ k = 58 ∨ k = 61 ∨ k = 62 ∨ k = 63 ∨ k = 64)) ∨ i = 159 ∨ (i = 129 ∧ (k = 56 ∨ k = 65 ∨ k = 66)) ∨ (162 ≤ i ∧ i < 170) ∨ (158 ≤ i ∧ i < 162) ∨ (i = 129 ∧ (k = 31))) g0 K g13274 H locs := ⟨hW1, hs1, hW.2.2.tr hf1 (fun i k h => h.elim (fun h => (Or.inr (Or.inr (Or.inr (Or.inr (Or.inr (Or.inr (Or.inr (Or.inr (Or.inl h)))))))))) (fun h => (by omega)))⟩
                refine q_iload hM dX12_triedBy_201 (lv_at hl 0 rfl) ?_
                exact hE _ _ _ _ _ _ hW.1 ⟨v13270, _, rfl, hW.2.1, hG, hW.2.2, q13271, (fun q hq => by rw [e13272 q hq, f13211]; exact e13196 q hq), (fun q hq => by rw [f13275]; exact e13197 q hq), (by rw [f13276]; rfl), (by rw [e13273, f13212]; rfl)⟩ dX12_triedBy_203
            · refine q_aload_n hM dX12_triedBy_154 (lv_at hl 0 rfl) ?_
              refine q_iload_n hM dX12_triedBy_155 (lv_at hl 3 rfl) ?_
              refine q_bipush (v := (10 : Int32)) hM dX12_triedBy_156 (by decide) ?_
              refine q_isub hM dX12_triedBy_158 (fun z13279 hz13279 => ?_)
              first | have tz13279 := i_subT hz13279 (rfl : what.toInt = what.toInt) (kc_10 : (10 : Int32).toInt = 10) (by omega) (by omega) | skip
              have wz13279 := i_subW hz13279 (rfl : what.toInt = what.toInt) (kc_10 : (10 : Int32).toInt = 10)
              refine q_callV (As := [.int z13279]) (rest := []) hM hW.1 hR hC myX12_knownBy (kAW (v_6_4 (List.mem_of_getElem? (i := 11) rfl)) rfl) (rfl : vwCl[12]? = some (RX12, TX12, 86)) rfl lb_129.1 (shO hW.2.1 lb_129) (a_X12_knownBy _ _ cA ad g13210 z13279 hW.2.1 hG (by  omega) (by  omega)) ⟨by decide, by decide⟩ rfl rfl hl.1 (Nat.le_of_ble_eq_true rfl) dX12_triedBy_159 (fun v g13281 H locs hp hW1 => ?_)
              obtain ⟨r13280, rfl, hr13280, rfl⟩ := hp
              have hW : WS ad cA (fun i k => i = 161 ∨ i = 156 ∨ i = 157 ∨ (i = 129 ∧ (k = 42 ∨ k = 43 ∨ k = 44 ∨ k = 45 ∨ k = 46 ∨ k = 47 ∨ k = 48 ∨ k = 49)) ∨ (i = 129 ∧ (k = 2 ∨ k = 57 ∨ k = 58 ∨ k = 61 ∨ k = 62 ∨ k = 63 ∨ k = 64)) ∨ i = 159 ∨ (i = 129 ∧ (k = 56 ∨ k = 65 ∨ k = 66)) ∨ (162 ≤ i ∧ i < 170) ∨ (158 ≤ i ∧ i < 162) ∨ (i = 129 ∧ (k = 31))) g0 K g13210 H locs := ⟨hW1, hW.2.1, hW.2.2⟩
              refine q_callS (As := [.int r13280]) (rest := []) hM hW.1 hR hC myX12_sizeOf (kAW (v_5_6 (List.mem_of_getElem? (i := 14) rfl)) rfl) (a_X12_sizeOf _ _ cA ad g13210 r13280 hW.2.1 hG (by  omega)) ⟨by decide, by decide⟩ rfl rfl hl.1 (Nat.le_of_ble_eq_true rfl) dX12_triedBy_162 (fun v g13283 H locs hp hW1 => ?_)
              obtain ⟨r13282, rfl, hr13282, rfl⟩ := hp
              have hW : WS ad cA (fun i k => i = 161 ∨ i = 156 ∨ i = 157 ∨ (i = 129 ∧ (k = 42 ∨ k = 43 ∨ k = 44 ∨ k = 45 ∨ k = 46 ∨ k = 47 ∨ k = 48 ∨ k = 49)) ∨ (i = 129 ∧ (k = 2 ∨ k = 57 ∨ k = 58 ∨ k = 61 ∨ k = 62 ∨ k = 63 ∨ k = 64)) ∨ i = 159 ∨ (i = 129 ∧ (k = 56 ∨ k = 65 ∨ k = 66)) ∨ (162 ≤ i ∧ i < 170) ∨ (158 ≤ i ∧ i < 162) ∨ (i = 129 ∧ (k = 31))) g0 K g13210 H locs := ⟨hW1, hW.2.1, hW.2.2⟩
              refine q_goto (tgt := 194) hM dX12_triedBy_165 (by decide) ?_
              refine q_istore (lv9 := [(4, .int r13282), (0, .ref (ad 129)), (1, .int wh), (2, .int n), (3, .int what)]) hM dX12_triedBy_194 hl (by decide) rfl (fun ls hl => ?_)
              refine q_aload_n hM dX12_triedBy_196 (lv_at hl 1 rfl) ?_
              refine q_iconst (v := (0 : Int32)) hM dX12_triedBy_197 (by decide) ?_
              refine q_callV (As := [.int (0 : Int32)]) (rest := []) hM hW.1 hR hC myX12_bringsBack (kAW (v_6_10 (List.mem_of_getElem? (i := 10) rfl)) rfl) (rfl : vwCl[12]? = some (RX12, TX12, 86)) rfl lb_129.1 (shO hW.2.1 lb_129) (s_X12_bringsBack_0 _ _ cA ad g13210  hW.2.1 hG (fun q hq => by rw [f13211, e13196 q hq]; exact hF q hq)) ⟨by decide, by decide⟩ rfl rfl hl.1 (Nat.le_of_ble_eq_true rfl) dX12_triedBy_198 (fun v g13288 H locs hp hW1 => ?_)
              obtain ⟨v13284, rfl, hs1, hG, hf1, q13285, e13286, e13287⟩ := hp
              have f13289 : arI g13288 162 = arI g13199 162 := (hf1.2.1 162 (by omega)).trans f13211
              have f13290 : arI g13288 166 = upd (arI g0 166) (0 : Int32).toNatClampNeg wk := (hf1.2.1 166 (by omega)).trans f13212
              have f13291 : fld g13288 129 31 = .int (0 : Int32) := (hf1.1 129 31 (by omega)).trans f13213
              have hW : WS ad cA (fun i k => i = 161 ∨ i = 156 ∨ i = 157 ∨ (i = 129 ∧ (k = 42 ∨ k = 43 ∨ k = 44 ∨ k = 45 ∨ k = 46 ∨ k = 47 ∨ k = 48 ∨ k = 49)) ∨ (i = 129 ∧ (k = 2 ∨ k = 57 ∨ k = 58 ∨ k = 61 ∨ k = 62 ∨ k = 63 ∨ k = 64)) ∨ i = 159 ∨ (i = 129 ∧ (k = 56 ∨ k = 65 ∨ k = 66)) ∨ (162 ≤ i ∧ i < 170) ∨ (158 ≤ i ∧ i < 162) ∨ (i = 129 ∧ (k = 31))) g0 K g13288 H locs := ⟨hW1, hs1, hW.2.2.tr hf1 (fun i k h => h.elim (fun h => (Or.inr (Or.inr (Or.inr (Or.inr (Or.inr (Or.inr (Or.inr (Or.inr (Or.inl h)))))))))) (fun h => (by omega)))⟩
              refine q_iload hM dX12_triedBy_201 (lv_at hl 0 rfl) ?_
              exact hE _ _ _ _ _ _ hW.1 ⟨v13284, _, rfl, hW.2.1, hG, hW.2.2, q13285, (fun q hq => by rw [e13286 q hq, f13211]; exact e13196 q hq), (fun q hq => by rw [f13289]; exact e13197 q hq), (by rw [f13290]; rfl), (by rw [e13287, f13212]; rfl)⟩ dX12_triedBy_203
          · refine q_tableIn (tgt := 112) hM dX12_triedBy_81 ((rfl : what.toInt = _).trans h81) (by decide) (by decide) rfl (by decide) ?_
            refine q_aload_n hM dX12_triedBy_112 (lv_at hl 0 rfl) ?_
            refine w_getI hM hW FG_X12_474 lb_129 (by decide) (by decide) dX12_triedBy_113 (fun x13293 fx13293 => ?_)
            refine q_istore (lv9 := [(4, .int x13293), (0, .ref (ad 129)), (1, .int wh), (2, .int n), (3, .int what)]) hM dX12_triedBy_116 hl (by decide) rfl (fun ls hl => ?_)
            refine q_goto (tgt := 196) hM dX12_triedBy_118 (by decide) ?_
            refine q_aload_n hM dX12_triedBy_196 (lv_at hl 1 rfl) ?_
            refine q_iconst (v := (0 : Int32)) hM dX12_triedBy_197 (by decide) ?_
            refine q_callV (As := [.int (0 : Int32)]) (rest := []) hM hW.1 hR hC myX12_bringsBack (kAW (v_6_10 (List.mem_of_getElem? (i := 10) rfl)) rfl) (rfl : vwCl[12]? = some (RX12, TX12, 86)) rfl lb_129.1 (shO hW.2.1 lb_129) (s_X12_bringsBack_0 _ _ cA ad g13210  hW.2.1 hG (fun q hq => by rw [f13211, e13196 q hq]; exact hF q hq)) ⟨by decide, by decide⟩ rfl rfl hl.1 (Nat.le_of_ble_eq_true rfl) dX12_triedBy_198 (fun v g13298 H locs hp hW1 => ?_)
            obtain ⟨v13294, rfl, hs1, hG, hf1, q13295, e13296, e13297⟩ := hp
            have f13299 : arI g13298 162 = arI g13199 162 := (hf1.2.1 162 (by omega)).trans f13211
            have f13300 : arI g13298 166 = upd (arI g0 166) (0 : Int32).toNatClampNeg wk := (hf1.2.1 166 (by omega)).trans f13212
            have f13301 : fld g13298 129 31 = .int (0 : Int32) := (hf1.1 129 31 (by omega)).trans f13213
            have f13302 : fld g13298 129 61 = .int x13293 := (hf1.1 129 61 (by omega)).trans fx13293
            have hW : WS ad cA (fun i k => i = 161 ∨ i = 156 ∨ i = 157 ∨ (i = 129 ∧ (k = 42 ∨ k = 43 ∨ k = 44 ∨ k = 45 ∨ k = 46 ∨ k = 47 ∨ k = 48 ∨ k = 49)) ∨ (i = 129 ∧ (k = 2 ∨ k = 57 ∨ k = 58 ∨ k = 61 ∨ k = 62 ∨ k = 63 ∨ k = 64)) ∨ i = 159 ∨ (i = 129 ∧ (k = 56 ∨ k = 65 ∨ k = 66)) ∨ (162 ≤ i ∧ i < 170) ∨ (158 ≤ i ∧ i < 162) ∨ (i = 129 ∧ (k = 31))) g0 K g13298 H locs := ⟨hW1, hs1, hW.2.2.tr hf1 (fun i k h => h.elim (fun h => (Or.inr (Or.inr (Or.inr (Or.inr (Or.inr (Or.inr (Or.inr (Or.inr (Or.inl h)))))))))) (fun h => (by omega)))⟩
            refine q_iload hM dX12_triedBy_201 (lv_at hl 0 rfl) ?_
            exact hE _ _ _ _ _ _ hW.1 ⟨v13294, _, rfl, hW.2.1, hG, hW.2.2, q13295, (fun q hq => by rw [e13296 q hq, f13211]; exact e13196 q hq), (fun q hq => by rw [f13299]; exact e13197 q hq), (by rw [f13300]; rfl), (by rw [e13297, f13212]; rfl)⟩ dX12_triedBy_203
          · refine q_tableIn (tgt := 121) hM dX12_triedBy_81 ((rfl : what.toInt = _).trans h81) (by decide) (by decide) rfl (by decide) ?_
            refine q_aload_n hM dX12_triedBy_121 (lv_at hl 0 rfl) ?_
            refine w_getI hM hW FG_X12_477 lb_129 (by decide) (by decide) dX12_triedBy_122 (fun x13304 fx13304 => ?_)
            refine q_istore (lv9 := [(4, .int x13304), (0, .ref (ad 129)), (1, .int wh), (2, .int n), (3, .int what)]) hM dX12_triedBy_125 hl (by decide) rfl (fun ls hl => ?_)
            refine q_goto (tgt := 196) hM dX12_triedBy_127 (by decide) ?_
            refine q_aload_n hM dX12_triedBy_196 (lv_at hl 1 rfl) ?_
            refine q_iconst (v := (0 : Int32)) hM dX12_triedBy_197 (by decide) ?_
            refine q_callV (As := [.int (0 : Int32)]) (rest := []) hM hW.1 hR hC myX12_bringsBack (kAW (v_6_10 (List.mem_of_getElem? (i := 10) rfl)) rfl) (rfl : vwCl[12]? = some (RX12, TX12, 86)) rfl lb_129.1 (shO hW.2.1 lb_129) (s_X12_bringsBack_0 _ _ cA ad g13210  hW.2.1 hG (fun q hq => by rw [f13211, e13196 q hq]; exact hF q hq)) ⟨by decide, by decide⟩ rfl rfl hl.1 (Nat.le_of_ble_eq_true rfl) dX12_triedBy_198 (fun v g13309 H locs hp hW1 => ?_)
            obtain ⟨v13305, rfl, hs1, hG, hf1, q13306, e13307, e13308⟩ := hp
            have f13310 : arI g13309 162 = arI g13199 162 := (hf1.2.1 162 (by omega)).trans f13211
            have f13311 : arI g13309 166 = upd (arI g0 166) (0 : Int32).toNatClampNeg wk := (hf1.2.1 166 (by omega)).trans f13212
            have f13312 : fld g13309 129 31 = .int (0 : Int32) := (hf1.1 129 31 (by omega)).trans f13213
            have f13313 : fld g13309 129 62 = .int x13304 := (hf1.1 129 62 (by omega)).trans fx13304
            have hW : WS ad cA (fun i k => i = 161 ∨ i = 156 ∨ i = 157 ∨ (i = 129 ∧ (k = 42 ∨ k = 43 ∨ k = 44 ∨ k = 45 ∨ k = 46 ∨ k = 47 ∨ k = 48 ∨ k = 49)) ∨ (i = 129 ∧ (k = 2 ∨ k = 57 ∨ k = 58 ∨ k = 61 ∨ k = 62 ∨ k = 63 ∨ k = 64)) ∨ i = 159 ∨ (i = 129 ∧ (k = 56 ∨ k = 65 ∨ k = 66)) ∨ (162 ≤ i ∧ i < 170) ∨ (158 ≤ i ∧ i < 162) ∨ (i = 129 ∧ (k = 31))) g0 K g13309 H locs := ⟨hW1, hs1, hW.2.2.tr hf1 (fun i k h => h.elim (fun h => (Or.inr (Or.inr (Or.inr (Or.inr (Or.inr (Or.inr (Or.inr (Or.inr (Or.inl h)))))))))) (fun h => (by omega)))⟩
            refine q_iload hM dX12_triedBy_201 (lv_at hl 0 rfl) ?_
            exact hE _ _ _ _ _ _ hW.1 ⟨v13305, _, rfl, hW.2.1, hG, hW.2.2, q13306, (fun q hq => by rw [e13307 q hq, f13211]; exact e13196 q hq), (fun q hq => by rw [f13310]; exact e13197 q hq), (by rw [f13311]; rfl), (by rw [e13308, f13212]; rfl)⟩ dX12_triedBy_203
          · refine q_tableIn (tgt := 130) hM dX12_triedBy_81 ((rfl : what.toInt = _).trans h81) (by decide) (by decide) rfl (by decide) ?_
            refine q_aload_n hM dX12_triedBy_130 (lv_at hl 0 rfl) ?_
            refine w_getI hM hW FG_X12_489 lb_129 (by decide) (by decide) dX12_triedBy_131 (fun x13315 fx13315 => ?_)
            refine q_istore (lv9 := [(4, .int x13315), (0, .ref (ad 129)), (1, .int wh), (2, .int n), (3, .int what)]) hM dX12_triedBy_134 hl (by decide) rfl (fun ls hl => ?_)
            refine q_goto (tgt := 196) hM dX12_triedBy_136 (by decide) ?_
            refine q_aload_n hM dX12_triedBy_196 (lv_at hl 1 rfl) ?_
            refine q_iconst (v := (0 : Int32)) hM dX12_triedBy_197 (by decide) ?_
            refine q_callV (As := [.int (0 : Int32)]) (rest := []) hM hW.1 hR hC myX12_bringsBack (kAW (v_6_10 (List.mem_of_getElem? (i := 10) rfl)) rfl) (rfl : vwCl[12]? = some (RX12, TX12, 86)) rfl lb_129.1 (shO hW.2.1 lb_129) (s_X12_bringsBack_0 _ _ cA ad g13210  hW.2.1 hG (fun q hq => by rw [f13211, e13196 q hq]; exact hF q hq)) ⟨by decide, by decide⟩ rfl rfl hl.1 (Nat.le_of_ble_eq_true rfl) dX12_triedBy_198 (fun v g13320 H locs hp hW1 => ?_)
            obtain ⟨v13316, rfl, hs1, hG, hf1, q13317, e13318, e13319⟩ := hp
            have f13321 : arI g13320 162 = arI g13199 162 := (hf1.2.1 162 (by omega)).trans f13211
            have f13322 : arI g13320 166 = upd (arI g0 166) (0 : Int32).toNatClampNeg wk := (hf1.2.1 166 (by omega)).trans f13212
            have f13323 : fld g13320 129 31 = .int (0 : Int32) := (hf1.1 129 31 (by omega)).trans f13213
            have f13324 : fld g13320 129 63 = .int x13315 := (hf1.1 129 63 (by omega)).trans fx13315
            have hW : WS ad cA (fun i k => i = 161 ∨ i = 156 ∨ i = 157 ∨ (i = 129 ∧ (k = 42 ∨ k = 43 ∨ k = 44 ∨ k = 45 ∨ k = 46 ∨ k = 47 ∨ k = 48 ∨ k = 49)) ∨ (i = 129 ∧ (k = 2 ∨ k = 57 ∨ k = 58 ∨ k = 61 ∨ k = 62 ∨ k = 63 ∨ k = 64)) ∨ i = 159 ∨ (i = 129 ∧ (k = 56 ∨ k = 65 ∨ k = 66)) ∨ (162 ≤ i ∧ i < 170) ∨ (158 ≤ i ∧ i < 162) ∨ (i = 129 ∧ (k = 31))) g0 K g13320 H locs := ⟨hW1, hs1, hW.2.2.tr hf1 (fun i k h => h.elim (fun h => (Or.inr (Or.inr (Or.inr (Or.inr (Or.inr (Or.inr (Or.inr (Or.inr (Or.inl h)))))))))) (fun h => (by omega)))⟩
            refine q_iload hM dX12_triedBy_201 (lv_at hl 0 rfl) ?_
            exact hE _ _ _ _ _ _ hW.1 ⟨v13316, _, rfl, hW.2.1, hG, hW.2.2, q13317, (fun q hq => by rw [e13318 q hq, f13211]; exact e13196 q hq), (fun q hq => by rw [f13321]; exact e13197 q hq), (by rw [f13322]; rfl), (by rw [e13319, f13212]; rfl)⟩ dX12_triedBy_203
          · refine q_tableIn (tgt := 139) hM dX12_triedBy_81 ((rfl : what.toInt = _).trans h81) (by decide) (by decide) rfl (by decide) ?_
            refine q_aload_n hM dX12_triedBy_139 (lv_at hl 0 rfl) ?_
            refine w_getI hM hW FG_X12_468 lb_129 (by decide) (by decide) dX12_triedBy_140 (fun x13326 fx13326 => ?_)
            refine q_istore (lv9 := [(4, .int x13326), (0, .ref (ad 129)), (1, .int wh), (2, .int n), (3, .int what)]) hM dX12_triedBy_143 hl (by decide) rfl (fun ls hl => ?_)
            refine q_goto (tgt := 196) hM dX12_triedBy_145 (by decide) ?_
            refine q_aload_n hM dX12_triedBy_196 (lv_at hl 1 rfl) ?_
            refine q_iconst (v := (0 : Int32)) hM dX12_triedBy_197 (by decide) ?_
            refine q_callV (As := [.int (0 : Int32)]) (rest := []) hM hW.1 hR hC myX12_bringsBack (kAW (v_6_10 (List.mem_of_getElem? (i := 10) rfl)) rfl) (rfl : vwCl[12]? = some (RX12, TX12, 86)) rfl lb_129.1 (shO hW.2.1 lb_129) (s_X12_bringsBack_0 _ _ cA ad g13210  hW.2.1 hG (fun q hq => by rw [f13211, e13196 q hq]; exact hF q hq)) ⟨by decide, by decide⟩ rfl rfl hl.1 (Nat.le_of_ble_eq_true rfl) dX12_triedBy_198 (fun v g13331 H locs hp hW1 => ?_)
            obtain ⟨v13327, rfl, hs1, hG, hf1, q13328, e13329, e13330⟩ := hp
            have f13332 : arI g13331 162 = arI g13199 162 := (hf1.2.1 162 (by omega)).trans f13211
            have f13333 : arI g13331 166 = upd (arI g0 166) (0 : Int32).toNatClampNeg wk := (hf1.2.1 166 (by omega)).trans f13212
            have f13334 : fld g13331 129 31 = .int (0 : Int32) := (hf1.1 129 31 (by omega)).trans f13213
            have f13335 : fld g13331 129 64 = .int x13326 := (hf1.1 129 64 (by omega)).trans fx13326
            have hW : WS ad cA (fun i k => i = 161 ∨ i = 156 ∨ i = 157 ∨ (i = 129 ∧ (k = 42 ∨ k = 43 ∨ k = 44 ∨ k = 45 ∨ k = 46 ∨ k = 47 ∨ k = 48 ∨ k = 49)) ∨ (i = 129 ∧ (k = 2 ∨ k = 57 ∨ k = 58 ∨ k = 61 ∨ k = 62 ∨ k = 63 ∨ k = 64)) ∨ i = 159 ∨ (i = 129 ∧ (k = 56 ∨ k = 65 ∨ k = 66)) ∨ (162 ≤ i ∧ i < 170) ∨ (158 ≤ i ∧ i < 162) ∨ (i = 129 ∧ (k = 31))) g0 K g13331 H locs := ⟨hW1, hs1, hW.2.2.tr hf1 (fun i k h => h.elim (fun h => (Or.inr (Or.inr (Or.inr (Or.inr (Or.inr (Or.inr (Or.inr (Or.inr (Or.inl h)))))))))) (fun h => (by omega)))⟩
            refine q_iload hM dX12_triedBy_201 (lv_at hl 0 rfl) ?_
            exact hE _ _ _ _ _ _ hW.1 ⟨v13327, _, rfl, hW.2.1, hG, hW.2.2, q13328, (fun q hq => by rw [e13329 q hq, f13211]; exact e13196 q hq), (fun q hq => by rw [f13332]; exact e13197 q hq), (by rw [f13333]; rfl), (by rw [e13330, f13212]; rfl)⟩ dX12_triedBy_203
        · refine q_aload_n hM dX12_triedBy_46 (lv_at hl 0 rfl) ?_
          refine q_iload_n hM dX12_triedBy_47 (lv_at hl 3 rfl) ?_
          refine q_bipush (v := (30 : Int32)) hM dX12_triedBy_48 (by decide) ?_
          refine q_isub hM dX12_triedBy_50 (fun z13337 hz13337 => ?_)
          first | have tz13337 := i_subT hz13337 (rfl : what.toInt = what.toInt) (kc_30 : (30 : Int32).toInt = 30) (by omega) (by omega) | skip
          have wz13337 := i_subW hz13337 (rfl : what.toInt = what.toInt) (kc_30 : (30 : Int32).toInt = 30)
          refine q_callV (As := [.int z13337]) (rest := []) hM hW.1 hR hC myX12_isTold (kAW (v_5_5 (List.mem_of_getElem? (i := 6) rfl)) rfl) (rfl : vwCl[12]? = some (RX12, TX12, 86)) rfl lb_129.1 (shO hW.2.1 lb_129) (a_X12_isTold _ _ cA ad g0 z13337 hW.2.1 hG) ⟨by decide, by decide⟩ rfl rfl hl.1 (Nat.le_of_ble_eq_true rfl) dX12_triedBy_51 (fun v g13339 H locs hp hW1 => ?_)
          obtain ⟨r13338, rfl, hr13338, rfl⟩ := hp
          have hW : WS ad cA (fun i k => i = 161 ∨ i = 156 ∨ i = 157 ∨ (i = 129 ∧ (k = 42 ∨ k = 43 ∨ k = 44 ∨ k = 45 ∨ k = 46 ∨ k = 47 ∨ k = 48 ∨ k = 49)) ∨ (i = 129 ∧ (k = 2 ∨ k = 57 ∨ k = 58 ∨ k = 61 ∨ k = 62 ∨ k = 63 ∨ k = 64)) ∨ i = 159 ∨ (i = 129 ∧ (k = 56 ∨ k = 65 ∨ k = 66)) ∨ (162 ≤ i ∧ i < 170) ∨ (158 ≤ i ∧ i < 162) ∨ (i = 129 ∧ (k = 31))) g0 K g0 H locs := ⟨hW1, hW.2.1, hW.2.2⟩
          refine q_if_ne (tgt := 59) hM dX12_triedBy_54 (by decide) (rfl : r13338.toInt = r13338.toInt) (fun h54 => ?_) (fun h54 => ?_)
          · refine q_aload_n hM dX12_triedBy_59 (lv_at hl 0 rfl) ?_
            refine q_iconst (v := (0 : Int32)) hM dX12_triedBy_60 (by decide) ?_
            refine q_callV (As := [.int (0 : Int32)]) (rest := []) hM hW.1 hR hC myX12_laysAside (kAW (v_6_10 (List.mem_of_getElem? (i := 2) rfl)) rfl) (rfl : vwCl[12]? = some (RX12, TX12, 86)) rfl lb_129.1 (shO hW.2.1 lb_129) (s_X12_laysAside_0 _ _ cA ad g0 wk hW.2.1 hG f12898 hF) ⟨by decide, by decide⟩ rfl rfl hl.1 (Nat.le_of_ble_eq_true rfl) dX12_triedBy_61 (fun v g13344 H locs hp hW1 => ?_)
            obtain ⟨rfl, hs1, hG, hf1, e13341, e13342, e13343⟩ := hp
            have f13345 : fld g13344 129 56 = .int wk := (hf1.1 129 56 (by omega)).trans f12898
            have hW : WS ad cA (fun i k => i = 161 ∨ i = 156 ∨ i = 157 ∨ (i = 129 ∧ (k = 42 ∨ k = 43 ∨ k = 44 ∨ k = 45 ∨ k = 46 ∨ k = 47 ∨ k = 48 ∨ k = 49)) ∨ (i = 129 ∧ (k = 2 ∨ k = 57 ∨ k = 58 ∨ k = 61 ∨ k = 62 ∨ k = 63 ∨ k = 64)) ∨ i = 159 ∨ (i = 129 ∧ (k = 56 ∨ k = 65 ∨ k = 66)) ∨ (162 ≤ i ∧ i < 170) ∨ (158 ≤ i ∧ i < 162) ∨ (i = 129 ∧ (k = 31))) g0 K g13344 H locs := ⟨hW1, hs1, hW.2.2.tr hf1 (fun i k h => (Or.inr (Or.inr (Or.inr (Or.inr (Or.inr (Or.inr (Or.inr (Or.inl h)))))))))⟩
            refine q_aload_n hM dX12_triedBy_64 (lv_at hl 0 rfl) ?_
            refine q_iload_n hM dX12_triedBy_65 (lv_at hl 1 rfl) ?_
            refine w_put hM hW FP_X12_402 lb_129 (by omega) (Or.inl ⟨_, rfl⟩) rfl rfl dX12_triedBy_66 (fun g13346 H locs hW e1 e2 => ?_)
            have f13347 : fld g13346 129 56 = .int wk := (e2.1 129 56 (by unfold Only; omega)).trans f13345
            have f13348 : arI g13346 162 = arI g13344 162 := (e2.2.1 162 (by unfold Only; omega)).trans (rfl : arI g13344 162 = arI g13344 162)
            have f13349 : arI g13346 166 = upd (arI g0 166) (0 : Int32).toNatClampNeg wk := (e2.2.1 166 (by unfold Only; omega)).trans e13343
            have f13350 : fld g13346 129 31 = .int wh := e1
            have hG := hG.put e1 e2 rF_129_31 (by decide) (by have := i_rng wh; omega) (by have := i_rng wh; omega)
            refine q_aload_n hM dX12_triedBy_69 (lv_at hl 0 rfl) ?_
            refine q_iload_n hM dX12_triedBy_70 (lv_at hl 2 rfl) ?_
            refine q_iconst (v := ((-1) : Int32)) hM dX12_triedBy_71 (by decide) ?_
            refine q_callV (As := [.int n, .int ((-1) : Int32)]) (rest := []) hM hW.1 hR hC myX12_go (kAW (v_6_7 (List.mem_of_getElem? (i := 13) rfl)) rfl) (rfl : vwCl[12]? = some (RX12, TX12, 86)) rfl lb_129.1 (shO hW.2.1 lb_129) (a_X12_go_m _ _ cA ad g13346 n hW.2.1 hG (by have := kc_m1; omega) (LawOK_fr hL hW.2.2 (by omega) (by omega) (by omega) (by omega) (by omega))) ⟨by decide, by decide⟩ rfl rfl hl.1 (Nat.le_of_ble_eq_true rfl) dX12_triedBy_72 (fun v g13351 H locs hp hW1 => ?_)
            obtain ⟨rfl, hs1, hG, hf1⟩ := hp
            have f13352 : arI g13351 162 = arI g13344 162 := (hf1.2.1 162 (by omega)).trans f13348
            have f13353 : arI g13351 166 = upd (arI g0 166) (0 : Int32).toNatClampNeg wk := (hf1.2.1 166 (by omega)).trans f13349
            have f13354 : fld g13351 129 31 = .int wh := (hf1.1 129 31 (by omega)).trans f13350
            have hW : WS ad cA (fun i k => i = 161 ∨ i = 156 ∨ i = 157 ∨ (i = 129 ∧ (k = 42 ∨ k = 43 ∨ k = 44 ∨ k = 45 ∨ k = 46 ∨ k = 47 ∨ k = 48 ∨ k = 49)) ∨ (i = 129 ∧ (k = 2 ∨ k = 57 ∨ k = 58 ∨ k = 61 ∨ k = 62 ∨ k = 63 ∨ k = 64)) ∨ i = 159 ∨ (i = 129 ∧ (k = 56 ∨ k = 65 ∨ k = 66)) ∨ (162 ≤ i ∧ i < 170) ∨ (158 ≤ i ∧ i < 162) ∨ (i = 129 ∧ (k = 31))) g0 K g13351 H locs := ⟨hW1, hs1, hW.2.2.tr hf1 (fun i k h => h.elim (fun h => (Or.inl h)) (fun h => h.elim (fun h => (Or.inr (Or.inl h))) (fun h => h.elim (fun h => (Or.inr (Or.inr (Or.inl h)))) (fun h => h.elim (fun h => (Or.inr (Or.inr (Or.inr (Or.inl h))))) (fun h => h.elim (fun h => (Or.inr (Or.inr (Or.inr (Or.inr (Or.inl h)))))) (fun h => h.elim (fun h => (Or.inr (Or.inr (Or.inr (Or.inr (Or.inr (Or.inl h))))))) (fun h => (Or.inr (Or.inr (Or.inr (Or.inr (Or.inr (Or.inr (Or.inl h))))))))))))))⟩
            refine q_aload_n hM dX12_triedBy_75 (lv_at hl 0 rfl) ?_
            refine q_iconst (v := (0 : Int32)) hM dX12_triedBy_76 (by decide) ?_
            refine w_put hM hW FP_X12_402 lb_129 (by omega) (Or.inl ⟨_, rfl⟩) rfl rfl dX12_triedBy_77 (fun g13355 H locs hW e1 e2 => ?_)
            have f13356 : arI g13355 162 = arI g13344 162 := (e2.2.1 162 (by unfold Only; omega)).trans f13352
            have f13357 : arI g13355 166 = upd (arI g0 166) (0 : Int32).toNatClampNeg wk := (e2.2.1 166 (by unfold Only; omega)).trans f13353
            have f13358 : fld g13355 129 31 = .int (0 : Int32) := e1
            have hG := hG.put e1 e2 rF_129_31 (by decide) (by have := kc_0; have := i_rng (0 : Int32); omega) (by have := kc_0; have := i_rng (0 : Int32); omega)
            refine q_iload_n hM dX12_triedBy_80 (lv_at hl 3 rfl) ?_
            rcases (show what.toInt < 0 ∨ 3 < what.toInt ∨ what.toInt = 0 ∨ what.toInt = 1 ∨ what.toInt = 2 ∨ what.toInt = 3 from by omega) with h81 | h81 | h81 | h81 | h81 | h81
            · refine q_tableOut (tgt := 148) hM dX12_triedBy_81 rfl (by omega) (by decide) ?_
              refine q_iload_n hM dX12_triedBy_148 (lv_at hl 3 rfl) ?_
              refine q_bipush (v := (20 : Int32)) hM dX12_triedBy_149 (by decide) ?_
              refine q_icmp_ge (tgt := 168) hM dX12_triedBy_151 (by decide) (rfl : what.toInt = what.toInt) (kc_20 : (20 : Int32).toInt = 20) (fun h151 => ?_) (fun h151 => ?_)
              · refine q_iload_n hM dX12_triedBy_168 (lv_at hl 3 rfl) ?_
                refine q_bipush (v := (30 : Int32)) hM dX12_triedBy_169 (by decide) ?_
                refine q_icmp_ge (tgt := 186) hM dX12_triedBy_171 (by decide) (rfl : what.toInt = what.toInt) (kc_30 : (30 : Int32).toInt = 30) (fun h171 => ?_) (fun h171 => ?_)
                · refine q_aload_n hM dX12_triedBy_186 (lv_at hl 0 rfl) ?_
                  refine q_iload_n hM dX12_triedBy_187 (lv_at hl 3 rfl) ?_
                  refine q_bipush (v := (30 : Int32)) hM dX12_triedBy_188 (by decide) ?_
                  refine q_isub hM dX12_triedBy_190 (fun z13362 hz13362 => ?_)
                  first | have tz13362 := i_subT hz13362 (rfl : what.toInt = what.toInt) (kc_30 : (30 : Int32).toInt = 30) (by omega) (by omega) | skip
                  have wz13362 := i_subW hz13362 (rfl : what.toInt = what.toInt) (kc_30 : (30 : Int32).toInt = 30)
                  refine q_callV (As := [.int z13362]) (rest := []) hM hW.1 hR hC myX12_whoKnows (kAW (v_6_10 (List.mem_of_getElem? (i := 6) rfl)) rfl) (rfl : vwCl[12]? = some (RX12, TX12, 86)) rfl lb_129.1 (shO hW.2.1 lb_129) (a_X12_whoKnows _ _ cA ad g13355 z13362 hW.2.1 hG (by  omega) (by  omega)) ⟨by decide, by decide⟩ rfl rfl hl.1 (Nat.le_of_ble_eq_true rfl) dX12_triedBy_191 (fun v g13364 H locs hp hW1 => ?_)
                  obtain ⟨r13363, rfl, hr13363, rfl⟩ := hp
                  have hW : WS ad cA (fun i k => i = 161 ∨ i = 156 ∨ i = 157 ∨ (i = 129 ∧ (k = 42 ∨ k = 43 ∨ k = 44 ∨ k = 45 ∨ k = 46 ∨ k = 47 ∨ k = 48 ∨ k = 49)) ∨ (i = 129 ∧ (k = 2 ∨ k = 57 ∨ k = 58 ∨ k = 61 ∨ k = 62 ∨ k = 63 ∨ k = 64)) ∨ i = 159 ∨ (i = 129 ∧ (k = 56 ∨ k = 65 ∨ k = 66)) ∨ (162 ≤ i ∧ i < 170) ∨ (158 ≤ i ∧ i < 162) ∨ (i = 129 ∧ (k = 31))) g0 K g13355 H locs := ⟨hW1, hW.2.1, hW.2.2⟩
                  refine q_istore (lv9 := [(4, .int r13363), (0, .ref (ad 129)), (1, .int wh), (2, .int n), (3, .int what)]) hM dX12_triedBy_194 hl (by decide) rfl (fun ls hl => ?_)
                  refine q_aload_n hM dX12_triedBy_196 (lv_at hl 1 rfl) ?_
                  refine q_iconst (v := (0 : Int32)) hM dX12_triedBy_197 (by decide) ?_
                  refine q_callV (As := [.int (0 : Int32)]) (rest := []) hM hW.1 hR hC myX12_bringsBack (kAW (v_6_10 (List.mem_of_getElem? (i := 10) rfl)) rfl) (rfl : vwCl[12]? = some (RX12, TX12, 86)) rfl lb_129.1 (shO hW.2.1 lb_129) (s_X12_bringsBack_0 _ _ cA ad g13355  hW.2.1 hG (fun q hq => by rw [f13356, e13341 q hq]; exact hF q hq)) ⟨by decide, by decide⟩ rfl rfl hl.1 (Nat.le_of_ble_eq_true rfl) dX12_triedBy_198 (fun v g13369 H locs hp hW1 => ?_)
                  obtain ⟨v13365, rfl, hs1, hG, hf1, q13366, e13367, e13368⟩ := hp
                  have f13370 : arI g13369 162 = arI g13344 162 := (hf1.2.1 162 (by omega)).trans f13356
                  have f13371 : arI g13369 166 = upd (arI g0 166) (0 : Int32).toNatClampNeg wk := (hf1.2.1 166 (by omega)).trans f13357
                  have f13372 : fld g13369 129 31 = .int (0 : Int32) := (hf1.1 129 31 (by omega)).trans f13358
                  have hW : WS ad cA (fun i k => i = 161 ∨ i = 156 ∨ i = 157 ∨ (i = 129 ∧ (k = 42 ∨ k = 43 ∨ k = 44 ∨ k = 45 ∨ k = 46 ∨ k = 47 ∨ k = 48 ∨ k = 49)) ∨ (i = 129 ∧ (k = 2 ∨ k = 57 ∨ k = 58 ∨ k = 61 ∨ k = 62 ∨ k = 63 ∨ k = 64)) ∨ i = 159 ∨ (i = 129 ∧ (k = 56 ∨ k = 65 ∨ k = 66)) ∨ (162 ≤ i ∧ i < 170) ∨ (158 ≤ i ∧ i < 162) ∨ (i = 129 ∧ (k = 31))) g0 K g13369 H locs := ⟨hW1, hs1, hW.2.2.tr hf1 (fun i k h => h.elim (fun h => (Or.inr (Or.inr (Or.inr (Or.inr (Or.inr (Or.inr (Or.inr (Or.inr (Or.inl h)))))))))) (fun h => (by omega)))⟩
                  refine q_iload hM dX12_triedBy_201 (lv_at hl 0 rfl) ?_
                  exact hE _ _ _ _ _ _ hW.1 ⟨v13365, _, rfl, hW.2.1, hG, hW.2.2, q13366, (fun q hq => by rw [e13367 q hq, f13356]; exact e13341 q hq), (fun q hq => by rw [f13370]; exact e13342 q hq), (by rw [f13371]; rfl), (by rw [e13368, f13357]; rfl)⟩ dX12_triedBy_203
                · refine q_aload_n hM dX12_triedBy_174 (lv_at hl 0 rfl) ?_
                  refine w_get (v := .ref (ad 159)) hM hW FG_X12_103 lb_129 (rf_129_53 hW.2.1) dX12_triedBy_175 ?_
                  refine q_iload_n hM dX12_triedBy_178 (lv_at hl 3 rfl) ?_
                  refine q_bipush (v := (20 : Int32)) hM dX12_triedBy_179 (by decide) ?_
                  refine q_isub hM dX12_triedBy_181 (fun z13374 hz13374 => ?_)
                  first | have tz13374 := i_subT hz13374 (rfl : what.toInt = what.toInt) (kc_20 : (20 : Int32).toInt = 20) (by omega) (by omega) | skip
                  have wz13374 := i_subW hz13374 (rfl : what.toInt = what.toInt) (kc_20 : (20 : Int32).toInt = 20)
                  refine w_iald hM hW lb_159 (i_in (by omega) (by omega)) dX12_triedBy_182 ?_
                  refine q_top (fun y13375 hy13375 => ?_)
                  have by13375 := hG.a hy13375 rA_159
                  refine q_goto (tgt := 194) hM dX12_triedBy_183 (by decide) ?_
                  refine q_istore (lv9 := [(4, .int y13375), (0, .ref (ad 129)), (1, .int wh), (2, .int n), (3, .int what)]) hM dX12_triedBy_194 hl (by decide) rfl (fun ls hl => ?_)
                  refine q_aload_n hM dX12_triedBy_196 (lv_at hl 1 rfl) ?_
                  refine q_iconst (v := (0 : Int32)) hM dX12_triedBy_197 (by decide) ?_
                  refine q_callV (As := [.int (0 : Int32)]) (rest := []) hM hW.1 hR hC myX12_bringsBack (kAW (v_6_10 (List.mem_of_getElem? (i := 10) rfl)) rfl) (rfl : vwCl[12]? = some (RX12, TX12, 86)) rfl lb_129.1 (shO hW.2.1 lb_129) (s_X12_bringsBack_0 _ _ cA ad g13355  hW.2.1 hG (fun q hq => by rw [f13356, e13341 q hq]; exact hF q hq)) ⟨by decide, by decide⟩ rfl rfl hl.1 (Nat.le_of_ble_eq_true rfl) dX12_triedBy_198 (fun v g13380 H locs hp hW1 => ?_)
                  obtain ⟨v13376, rfl, hs1, hG, hf1, q13377, e13378, e13379⟩ := hp
                  have f13381 : arI g13380 162 = arI g13344 162 := (hf1.2.1 162 (by omega)).trans f13356
                  have f13382 : arI g13380 166 = upd (arI g0 166) (0 : Int32).toNatClampNeg wk := (hf1.2.1 166 (by omega)).trans f13357
                  have f13383 : fld g13380 129 31 = .int (0 : Int32) := (hf1.1 129 31 (by omega)).trans f13358
                  have hW : WS ad cA (fun i k => i = 161 ∨ i = 156 ∨ i = 157 ∨ (i = 129 ∧ (k = 42 ∨ k = 43 ∨ k = 44 ∨ k = 45 ∨ k = 46 ∨ k = 47 ∨ k = 48 ∨ k = 49)) ∨ (i = 129 ∧ (k = 2 ∨ k = 57 ∨ k = 58 ∨ k = 61 ∨ k = 62 ∨ k = 63 ∨ k = 64)) ∨ i = 159 ∨ (i = 129 ∧ (k = 56 ∨ k = 65 ∨ k = 66)) ∨ (162 ≤ i ∧ i < 170) ∨ (158 ≤ i ∧ i < 162) ∨ (i = 129 ∧ (k = 31))) g0 K g13380 H locs := ⟨hW1, hs1, hW.2.2.tr hf1 (fun i k h => h.elim (fun h => (Or.inr (Or.inr (Or.inr (Or.inr (Or.inr (Or.inr (Or.inr (Or.inr (Or.inl h)))))))))) (fun h => (by omega)))⟩
                  refine q_iload hM dX12_triedBy_201 (lv_at hl 0 rfl) ?_
                  exact hE _ _ _ _ _ _ hW.1 ⟨v13376, _, rfl, hW.2.1, hG, hW.2.2, q13377, (fun q hq => by rw [e13378 q hq, f13356]; exact e13341 q hq), (fun q hq => by rw [f13381]; exact e13342 q hq), (by rw [f13382]; rfl), (by rw [e13379, f13357]; rfl)⟩ dX12_triedBy_203
              · refine q_aload_n hM dX12_triedBy_154 (lv_at hl 0 rfl) ?_
                refine q_iload_n hM dX12_triedBy_155 (lv_at hl 3 rfl) ?_
                refine q_bipush (v := (10 : Int32)) hM dX12_triedBy_156 (by decide) ?_
                refine q_isub hM dX12_triedBy_158 (fun z13385 hz13385 => ?_)
                first | have tz13385 := i_subT hz13385 (rfl : what.toInt = what.toInt) (kc_10 : (10 : Int32).toInt = 10) (by omega) (by omega) | skip
                have wz13385 := i_subW hz13385 (rfl : what.toInt = what.toInt) (kc_10 : (10 : Int32).toInt = 10)
                refine q_callV (As := [.int z13385]) (rest := []) hM hW.1 hR hC myX12_knownBy (kAW (v_6_4 (List.mem_of_getElem? (i := 11) rfl)) rfl) (rfl : vwCl[12]? = some (RX12, TX12, 86)) rfl lb_129.1 (shO hW.2.1 lb_129) (a_X12_knownBy _ _ cA ad g13355 z13385 hW.2.1 hG (by  omega) (by  omega)) ⟨by decide, by decide⟩ rfl rfl hl.1 (Nat.le_of_ble_eq_true rfl) dX12_triedBy_159 (fun v g13387 H locs hp hW1 => ?_)
                obtain ⟨r13386, rfl, hr13386, rfl⟩ := hp
                have hW : WS ad cA (fun i k => i = 161 ∨ i = 156 ∨ i = 157 ∨ (i = 129 ∧ (k = 42 ∨ k = 43 ∨ k = 44 ∨ k = 45 ∨ k = 46 ∨ k = 47 ∨ k = 48 ∨ k = 49)) ∨ (i = 129 ∧ (k = 2 ∨ k = 57 ∨ k = 58 ∨ k = 61 ∨ k = 62 ∨ k = 63 ∨ k = 64)) ∨ i = 159 ∨ (i = 129 ∧ (k = 56 ∨ k = 65 ∨ k = 66)) ∨ (162 ≤ i ∧ i < 170) ∨ (158 ≤ i ∧ i < 162) ∨ (i = 129 ∧ (k = 31))) g0 K g13355 H locs := ⟨hW1, hW.2.1, hW.2.2⟩
                refine q_callS (As := [.int r13386]) (rest := []) hM hW.1 hR hC myX12_sizeOf (kAW (v_5_6 (List.mem_of_getElem? (i := 14) rfl)) rfl) (a_X12_sizeOf _ _ cA ad g13355 r13386 hW.2.1 hG (by  omega)) ⟨by decide, by decide⟩ rfl rfl hl.1 (Nat.le_of_ble_eq_true rfl) dX12_triedBy_162 (fun v g13389 H locs hp hW1 => ?_)
                obtain ⟨r13388, rfl, hr13388, rfl⟩ := hp
                have hW : WS ad cA (fun i k => i = 161 ∨ i = 156 ∨ i = 157 ∨ (i = 129 ∧ (k = 42 ∨ k = 43 ∨ k = 44 ∨ k = 45 ∨ k = 46 ∨ k = 47 ∨ k = 48 ∨ k = 49)) ∨ (i = 129 ∧ (k = 2 ∨ k = 57 ∨ k = 58 ∨ k = 61 ∨ k = 62 ∨ k = 63 ∨ k = 64)) ∨ i = 159 ∨ (i = 129 ∧ (k = 56 ∨ k = 65 ∨ k = 66)) ∨ (162 ≤ i ∧ i < 170) ∨ (158 ≤ i ∧ i < 162) ∨ (i = 129 ∧ (k = 31))) g0 K g13355 H locs := ⟨hW1, hW.2.1, hW.2.2⟩
                refine q_goto (tgt := 194) hM dX12_triedBy_165 (by decide) ?_
                refine q_istore (lv9 := [(4, .int r13388), (0, .ref (ad 129)), (1, .int wh), (2, .int n), (3, .int what)]) hM dX12_triedBy_194 hl (by decide) rfl (fun ls hl => ?_)
                refine q_aload_n hM dX12_triedBy_196 (lv_at hl 1 rfl) ?_
                refine q_iconst (v := (0 : Int32)) hM dX12_triedBy_197 (by decide) ?_
                refine q_callV (As := [.int (0 : Int32)]) (rest := []) hM hW.1 hR hC myX12_bringsBack (kAW (v_6_10 (List.mem_of_getElem? (i := 10) rfl)) rfl) (rfl : vwCl[12]? = some (RX12, TX12, 86)) rfl lb_129.1 (shO hW.2.1 lb_129) (s_X12_bringsBack_0 _ _ cA ad g13355  hW.2.1 hG (fun q hq => by rw [f13356, e13341 q hq]; exact hF q hq)) ⟨by decide, by decide⟩ rfl rfl hl.1 (Nat.le_of_ble_eq_true rfl) dX12_triedBy_198 (fun v g13394 H locs hp hW1 => ?_)
                obtain ⟨v13390, rfl, hs1, hG, hf1, q13391, e13392, e13393⟩ := hp
                have f13395 : arI g13394 162 = arI g13344 162 := (hf1.2.1 162 (by omega)).trans f13356
                have f13396 : arI g13394 166 = upd (arI g0 166) (0 : Int32).toNatClampNeg wk := (hf1.2.1 166 (by omega)).trans f13357
                have f13397 : fld g13394 129 31 = .int (0 : Int32) := (hf1.1 129 31 (by omega)).trans f13358
                have hW : WS ad cA (fun i k => i = 161 ∨ i = 156 ∨ i = 157 ∨ (i = 129 ∧ (k = 42 ∨ k = 43 ∨ k = 44 ∨ k = 45 ∨ k = 46 ∨ k = 47 ∨ k = 48 ∨ k = 49)) ∨ (i = 129 ∧ (k = 2 ∨ k = 57 ∨ k = 58 ∨ k = 61 ∨ k = 62 ∨ k = 63 ∨ k = 64)) ∨ i = 159 ∨ (i = 129 ∧ (k = 56 ∨ k = 65 ∨ k = 66)) ∨ (162 ≤ i ∧ i < 170) ∨ (158 ≤ i ∧ i < 162) ∨ (i = 129 ∧ (k = 31))) g0 K g13394 H locs := ⟨hW1, hs1, hW.2.2.tr hf1 (fun i k h => h.elim (fun h => (Or.inr (Or.inr (Or.inr (Or.inr (Or.inr (Or.inr (Or.inr (Or.inr (Or.inl h)))))))))) (fun h => (by omega)))⟩
                refine q_iload hM dX12_triedBy_201 (lv_at hl 0 rfl) ?_
                exact hE _ _ _ _ _ _ hW.1 ⟨v13390, _, rfl, hW.2.1, hG, hW.2.2, q13391, (fun q hq => by rw [e13392 q hq, f13356]; exact e13341 q hq), (fun q hq => by rw [f13395]; exact e13342 q hq), (by rw [f13396]; rfl), (by rw [e13393, f13357]; rfl)⟩ dX12_triedBy_203
            · refine q_tableOut (tgt := 148) hM dX12_triedBy_81 rfl (by omega) (by decide) ?_
              refine q_iload_n hM dX12_triedBy_148 (lv_at hl 3 rfl) ?_
              refine q_bipush (v := (20 : Int32)) hM dX12_triedBy_149 (by decide) ?_
              refine q_icmp_ge (tgt := 168) hM dX12_triedBy_151 (by decide) (rfl : what.toInt = what.toInt) (kc_20 : (20 : Int32).toInt = 20) (fun h151 => ?_) (fun h151 => ?_)
              · refine q_iload_n hM dX12_triedBy_168 (lv_at hl 3 rfl) ?_
                refine q_bipush (v := (30 : Int32)) hM dX12_triedBy_169 (by decide) ?_
                refine q_icmp_ge (tgt := 186) hM dX12_triedBy_171 (by decide) (rfl : what.toInt = what.toInt) (kc_30 : (30 : Int32).toInt = 30) (fun h171 => ?_) (fun h171 => ?_)
                · refine q_aload_n hM dX12_triedBy_186 (lv_at hl 0 rfl) ?_
                  refine q_iload_n hM dX12_triedBy_187 (lv_at hl 3 rfl) ?_
                  refine q_bipush (v := (30 : Int32)) hM dX12_triedBy_188 (by decide) ?_
                  refine q_isub hM dX12_triedBy_190 (fun z13401 hz13401 => ?_)
                  first | have tz13401 := i_subT hz13401 (rfl : what.toInt = what.toInt) (kc_30 : (30 : Int32).toInt = 30) (by omega) (by omega) | skip
                  have wz13401 := i_subW hz13401 (rfl : what.toInt = what.toInt) (kc_30 : (30 : Int32).toInt = 30)
                  refine q_callV (As := [.int z13401]) (rest := []) hM hW.1 hR hC myX12_whoKnows (kAW (v_6_10 (List.mem_of_getElem? (i := 6) rfl)) rfl) (rfl : vwCl[12]? = some (RX12, TX12, 86)) rfl lb_129.1 (shO hW.2.1 lb_129) (a_X12_whoKnows _ _ cA ad g13355 z13401 hW.2.1 hG (by  omega) (by  omega)) ⟨by decide, by decide⟩ rfl rfl hl.1 (Nat.le_of_ble_eq_true rfl) dX12_triedBy_191 (fun v g13403 H locs hp hW1 => ?_)
                  obtain ⟨r13402, rfl, hr13402, rfl⟩ := hp
                  have hW : WS ad cA (fun i k => i = 161 ∨ i = 156 ∨ i = 157 ∨ (i = 129 ∧ (k = 42 ∨ k = 43 ∨ k = 44 ∨ k = 45 ∨ k = 46 ∨ k = 47 ∨ k = 48 ∨ k = 49)) ∨ (i = 129 ∧ (k = 2 ∨ k = 57 ∨ k = 58 ∨ k = 61 ∨ k = 62 ∨ k = 63 ∨ k = 64)) ∨ i = 159 ∨ (i = 129 ∧ (k = 56 ∨ k = 65 ∨ k = 66)) ∨ (162 ≤ i ∧ i < 170) ∨ (158 ≤ i ∧ i < 162) ∨ (i = 129 ∧ (k = 31))) g0 K g13355 H locs := ⟨hW1, hW.2.1, hW.2.2⟩
                  refine q_istore (lv9 := [(4, .int r13402), (0, .ref (ad 129)), (1, .int wh), (2, .int n), (3, .int what)]) hM dX12_triedBy_194 hl (by decide) rfl (fun ls hl => ?_)
                  refine q_aload_n hM dX12_triedBy_196 (lv_at hl 1 rfl) ?_
                  refine q_iconst (v := (0 : Int32)) hM dX12_triedBy_197 (by decide) ?_
                  refine q_callV (As := [.int (0 : Int32)]) (rest := []) hM hW.1 hR hC myX12_bringsBack (kAW (v_6_10 (List.mem_of_getElem? (i := 10) rfl)) rfl) (rfl : vwCl[12]? = some (RX12, TX12, 86)) rfl lb_129.1 (shO hW.2.1 lb_129) (s_X12_bringsBack_0 _ _ cA ad g13355  hW.2.1 hG (fun q hq => by rw [f13356, e13341 q hq]; exact hF q hq)) ⟨by decide, by decide⟩ rfl rfl hl.1 (Nat.le_of_ble_eq_true rfl) dX12_triedBy_198 (fun v g13408 H locs hp hW1 => ?_)
                  obtain ⟨v13404, rfl, hs1, hG, hf1, q13405, e13406, e13407⟩ := hp
                  have f13409 : arI g13408 162 = arI g13344 162 := (hf1.2.1 162 (by omega)).trans f13356
                  have f13410 : arI g13408 166 = upd (arI g0 166) (0 : Int32).toNatClampNeg wk := (hf1.2.1 166 (by omega)).trans f13357
                  have f13411 : fld g13408 129 31 = .int (0 : Int32) := (hf1.1 129 31 (by omega)).trans f13358
                  have hW : WS ad cA (fun i k => i = 161 ∨ i = 156 ∨ i = 157 ∨ (i = 129 ∧ (k = 42 ∨ k = 43 ∨ k = 44 ∨ k = 45 ∨ k = 46 ∨ k = 47 ∨ k = 48 ∨ k = 49)) ∨ (i = 129 ∧ (k = 2 ∨ k = 57 ∨ k = 58 ∨ k = 61 ∨ k = 62 ∨ k = 63 ∨ k = 64)) ∨ i = 159 ∨ (i = 129 ∧ (k = 56 ∨ k = 65 ∨ k = 66)) ∨ (162 ≤ i ∧ i < 170) ∨ (158 ≤ i ∧ i < 162) ∨ (i = 129 ∧ (k = 31))) g0 K g13408 H locs := ⟨hW1, hs1, hW.2.2.tr hf1 (fun i k h => h.elim (fun h => (Or.inr (Or.inr (Or.inr (Or.inr (Or.inr (Or.inr (Or.inr (Or.inr (Or.inl h)))))))))) (fun h => (by omega)))⟩
                  refine q_iload hM dX12_triedBy_201 (lv_at hl 0 rfl) ?_
                  exact hE _ _ _ _ _ _ hW.1 ⟨v13404, _, rfl, hW.2.1, hG, hW.2.2, q13405, (fun q hq => by rw [e13406 q hq, f13356]; exact e13341 q hq), (fun q hq => by rw [f13409]; exact e13342 q hq), (by rw [f13410]; rfl), (by rw [e13407, f13357]; rfl)⟩ dX12_triedBy_203
                · refine q_aload_n hM dX12_triedBy_174 (lv_at hl 0 rfl) ?_
                  refine w_get (v := .ref (ad 159)) hM hW FG_X12_103 lb_129 (rf_129_53 hW.2.1) dX12_triedBy_175 ?_
                  refine q_iload_n hM dX12_triedBy_178 (lv_at hl 3 rfl) ?_
                  refine q_bipush (v := (20 : Int32)) hM dX12_triedBy_179 (by decide) ?_
                  refine q_isub hM dX12_triedBy_181 (fun z13413 hz13413 => ?_)
                  first | have tz13413 := i_subT hz13413 (rfl : what.toInt = what.toInt) (kc_20 : (20 : Int32).toInt = 20) (by omega) (by omega) | skip
                  have wz13413 := i_subW hz13413 (rfl : what.toInt = what.toInt) (kc_20 : (20 : Int32).toInt = 20)
                  refine w_iald hM hW lb_159 (i_in (by omega) (by omega)) dX12_triedBy_182 ?_
                  refine q_top (fun y13414 hy13414 => ?_)
                  have by13414 := hG.a hy13414 rA_159
                  refine q_goto (tgt := 194) hM dX12_triedBy_183 (by decide) ?_
                  refine q_istore (lv9 := [(4, .int y13414), (0, .ref (ad 129)), (1, .int wh), (2, .int n), (3, .int what)]) hM dX12_triedBy_194 hl (by decide) rfl (fun ls hl => ?_)
                  refine q_aload_n hM dX12_triedBy_196 (lv_at hl 1 rfl) ?_
                  refine q_iconst (v := (0 : Int32)) hM dX12_triedBy_197 (by decide) ?_
                  refine q_callV (As := [.int (0 : Int32)]) (rest := []) hM hW.1 hR hC myX12_bringsBack (kAW (v_6_10 (List.mem_of_getElem? (i := 10) rfl)) rfl) (rfl : vwCl[12]? = some (RX12, TX12, 86)) rfl lb_129.1 (shO hW.2.1 lb_129) (s_X12_bringsBack_0 _ _ cA ad g13355  hW.2.1 hG (fun q hq => by rw [f13356, e13341 q hq]; exact hF q hq)) ⟨by decide, by decide⟩ rfl rfl hl.1 (Nat.le_of_ble_eq_true rfl) dX12_triedBy_198 (fun v g13419 H locs hp hW1 => ?_)
                  obtain ⟨v13415, rfl, hs1, hG, hf1, q13416, e13417, e13418⟩ := hp
                  have f13420 : arI g13419 162 = arI g13344 162 := (hf1.2.1 162 (by omega)).trans f13356
                  have f13421 : arI g13419 166 = upd (arI g0 166) (0 : Int32).toNatClampNeg wk := (hf1.2.1 166 (by omega)).trans f13357
                  have f13422 : fld g13419 129 31 = .int (0 : Int32) := (hf1.1 129 31 (by omega)).trans f13358
                  have hW : WS ad cA (fun i k => i = 161 ∨ i = 156 ∨ i = 157 ∨ (i = 129 ∧ (k = 42 ∨ k = 43 ∨ k = 44 ∨ k = 45 ∨ k = 46 ∨ k = 47 ∨ k = 48 ∨ k = 49)) ∨ (i = 129 ∧ (k = 2 ∨ k = 57 ∨ k = 58 ∨ k = 61 ∨ k = 62 ∨ k = 63 ∨ k = 64)) ∨ i = 159 ∨ (i = 129 ∧ (k = 56 ∨ k = 65 ∨ k = 66)) ∨ (162 ≤ i ∧ i < 170) ∨ (158 ≤ i ∧ i < 162) ∨ (i = 129 ∧ (k = 31))) g0 K g13419 H locs := ⟨hW1, hs1, hW.2.2.tr hf1 (fun i k h => h.elim (fun h => (Or.inr (Or.inr (Or.inr (Or.inr (Or.inr (Or.inr (Or.inr (Or.inr (Or.inl h)))))))))) (fun h => (by omega)))⟩
                  refine q_iload hM dX12_triedBy_201 (lv_at hl 0 rfl) ?_
                  exact hE _ _ _ _ _ _ hW.1 ⟨v13415, _, rfl, hW.2.1, hG, hW.2.2, q13416, (fun q hq => by rw [e13417 q hq, f13356]; exact e13341 q hq), (fun q hq => by rw [f13420]; exact e13342 q hq), (by rw [f13421]; rfl), (by rw [e13418, f13357]; rfl)⟩ dX12_triedBy_203
              · refine q_aload_n hM dX12_triedBy_154 (lv_at hl 0 rfl) ?_
                refine q_iload_n hM dX12_triedBy_155 (lv_at hl 3 rfl) ?_
                refine q_bipush (v := (10 : Int32)) hM dX12_triedBy_156 (by decide) ?_
                refine q_isub hM dX12_triedBy_158 (fun z13424 hz13424 => ?_)
                first | have tz13424 := i_subT hz13424 (rfl : what.toInt = what.toInt) (kc_10 : (10 : Int32).toInt = 10) (by omega) (by omega) | skip
                have wz13424 := i_subW hz13424 (rfl : what.toInt = what.toInt) (kc_10 : (10 : Int32).toInt = 10)
                refine q_callV (As := [.int z13424]) (rest := []) hM hW.1 hR hC myX12_knownBy (kAW (v_6_4 (List.mem_of_getElem? (i := 11) rfl)) rfl) (rfl : vwCl[12]? = some (RX12, TX12, 86)) rfl lb_129.1 (shO hW.2.1 lb_129) (a_X12_knownBy _ _ cA ad g13355 z13424 hW.2.1 hG (by  omega) (by  omega)) ⟨by decide, by decide⟩ rfl rfl hl.1 (Nat.le_of_ble_eq_true rfl) dX12_triedBy_159 (fun v g13426 H locs hp hW1 => ?_)
                obtain ⟨r13425, rfl, hr13425, rfl⟩ := hp
                have hW : WS ad cA (fun i k => i = 161 ∨ i = 156 ∨ i = 157 ∨ (i = 129 ∧ (k = 42 ∨ k = 43 ∨ k = 44 ∨ k = 45 ∨ k = 46 ∨ k = 47 ∨ k = 48 ∨ k = 49)) ∨ (i = 129 ∧ (k = 2 ∨ k = 57 ∨ k = 58 ∨ k = 61 ∨ k = 62 ∨ k = 63 ∨ k = 64)) ∨ i = 159 ∨ (i = 129 ∧ (k = 56 ∨ k = 65 ∨ k = 66)) ∨ (162 ≤ i ∧ i < 170) ∨ (158 ≤ i ∧ i < 162) ∨ (i = 129 ∧ (k = 31))) g0 K g13355 H locs := ⟨hW1, hW.2.1, hW.2.2⟩
                refine q_callS (As := [.int r13425]) (rest := []) hM hW.1 hR hC myX12_sizeOf (kAW (v_5_6 (List.mem_of_getElem? (i := 14) rfl)) rfl) (a_X12_sizeOf _ _ cA ad g13355 r13425 hW.2.1 hG (by  omega)) ⟨by decide, by decide⟩ rfl rfl hl.1 (Nat.le_of_ble_eq_true rfl) dX12_triedBy_162 (fun v g13428 H locs hp hW1 => ?_)
                obtain ⟨r13427, rfl, hr13427, rfl⟩ := hp
                have hW : WS ad cA (fun i k => i = 161 ∨ i = 156 ∨ i = 157 ∨ (i = 129 ∧ (k = 42 ∨ k = 43 ∨ k = 44 ∨ k = 45 ∨ k = 46 ∨ k = 47 ∨ k = 48 ∨ k = 49)) ∨ (i = 129 ∧ (k = 2 ∨ k = 57 ∨ k = 58 ∨ k = 61 ∨ k = 62 ∨ k = 63 ∨ k = 64)) ∨ i = 159 ∨ (i = 129 ∧ (k = 56 ∨ k = 65 ∨ k = 66)) ∨ (162 ≤ i ∧ i < 170) ∨ (158 ≤ i ∧ i < 162) ∨ (i = 129 ∧ (k = 31))) g0 K g13355 H locs := ⟨hW1, hW.2.1, hW.2.2⟩
                refine q_goto (tgt := 194) hM dX12_triedBy_165 (by decide) ?_
                refine q_istore (lv9 := [(4, .int r13427), (0, .ref (ad 129)), (1, .int wh), (2, .int n), (3, .int what)]) hM dX12_triedBy_194 hl (by decide) rfl (fun ls hl => ?_)
                refine q_aload_n hM dX12_triedBy_196 (lv_at hl 1 rfl) ?_
                refine q_iconst (v := (0 : Int32)) hM dX12_triedBy_197 (by decide) ?_
                refine q_callV (As := [.int (0 : Int32)]) (rest := []) hM hW.1 hR hC myX12_bringsBack (kAW (v_6_10 (List.mem_of_getElem? (i := 10) rfl)) rfl) (rfl : vwCl[12]? = some (RX12, TX12, 86)) rfl lb_129.1 (shO hW.2.1 lb_129) (s_X12_bringsBack_0 _ _ cA ad g13355  hW.2.1 hG (fun q hq => by rw [f13356, e13341 q hq]; exact hF q hq)) ⟨by decide, by decide⟩ rfl rfl hl.1 (Nat.le_of_ble_eq_true rfl) dX12_triedBy_198 (fun v g13433 H locs hp hW1 => ?_)
                obtain ⟨v13429, rfl, hs1, hG, hf1, q13430, e13431, e13432⟩ := hp
                have f13434 : arI g13433 162 = arI g13344 162 := (hf1.2.1 162 (by omega)).trans f13356
                have f13435 : arI g13433 166 = upd (arI g0 166) (0 : Int32).toNatClampNeg wk := (hf1.2.1 166 (by omega)).trans f13357
                have f13436 : fld g13433 129 31 = .int (0 : Int32) := (hf1.1 129 31 (by omega)).trans f13358
                have hW : WS ad cA (fun i k => i = 161 ∨ i = 156 ∨ i = 157 ∨ (i = 129 ∧ (k = 42 ∨ k = 43 ∨ k = 44 ∨ k = 45 ∨ k = 46 ∨ k = 47 ∨ k = 48 ∨ k = 49)) ∨ (i = 129 ∧ (k = 2 ∨ k = 57 ∨ k = 58 ∨ k = 61 ∨ k = 62 ∨ k = 63 ∨ k = 64)) ∨ i = 159 ∨ (i = 129 ∧ (k = 56 ∨ k = 65 ∨ k = 66)) ∨ (162 ≤ i ∧ i < 170) ∨ (158 ≤ i ∧ i < 162) ∨ (i = 129 ∧ (k = 31))) g0 K g13433 H locs := ⟨hW1, hs1, hW.2.2.tr hf1 (fun i k h => h.elim (fun h => (Or.inr (Or.inr (Or.inr (Or.inr (Or.inr (Or.inr (Or.inr (Or.inr (Or.inl h)))))))))) (fun h => (by omega)))⟩
                refine q_iload hM dX12_triedBy_201 (lv_at hl 0 rfl) ?_
                exact hE _ _ _ _ _ _ hW.1 ⟨v13429, _, rfl, hW.2.1, hG, hW.2.2, q13430, (fun q hq => by rw [e13431 q hq, f13356]; exact e13341 q hq), (fun q hq => by rw [f13434]; exact e13342 q hq), (by rw [f13435]; rfl), (by rw [e13432, f13357]; rfl)⟩ dX12_triedBy_203
            · refine q_tableIn (tgt := 112) hM dX12_triedBy_81 ((rfl : what.toInt = _).trans h81) (by decide) (by decide) rfl (by decide) ?_
              refine q_aload_n hM dX12_triedBy_112 (lv_at hl 0 rfl) ?_
              refine w_getI hM hW FG_X12_474 lb_129 (by decide) (by decide) dX12_triedBy_113 (fun x13438 fx13438 => ?_)
              refine q_istore (lv9 := [(4, .int x13438), (0, .ref (ad 129)), (1, .int wh), (2, .int n), (3, .int what)]) hM dX12_triedBy_116 hl (by decide) rfl (fun ls hl => ?_)
              refine q_goto (tgt := 196) hM dX12_triedBy_118 (by decide) ?_
              refine q_aload_n hM dX12_triedBy_196 (lv_at hl 1 rfl) ?_
              refine q_iconst (v := (0 : Int32)) hM dX12_triedBy_197 (by decide) ?_
              refine q_callV (As := [.int (0 : Int32)]) (rest := []) hM hW.1 hR hC myX12_bringsBack (kAW (v_6_10 (List.mem_of_getElem? (i := 10) rfl)) rfl) (rfl : vwCl[12]? = some (RX12, TX12, 86)) rfl lb_129.1 (shO hW.2.1 lb_129) (s_X12_bringsBack_0 _ _ cA ad g13355  hW.2.1 hG (fun q hq => by rw [f13356, e13341 q hq]; exact hF q hq)) ⟨by decide, by decide⟩ rfl rfl hl.1 (Nat.le_of_ble_eq_true rfl) dX12_triedBy_198 (fun v g13443 H locs hp hW1 => ?_)
              obtain ⟨v13439, rfl, hs1, hG, hf1, q13440, e13441, e13442⟩ := hp
              have f13444 : arI g13443 162 = arI g13344 162 := (hf1.2.1 162 (by omega)).trans f13356
              have f13445 : arI g13443 166 = upd (arI g0 166) (0 : Int32).toNatClampNeg wk := (hf1.2.1 166 (by omega)).trans f13357
              have f13446 : fld g13443 129 31 = .int (0 : Int32) := (hf1.1 129 31 (by omega)).trans f13358
              have f13447 : fld g13443 129 61 = .int x13438 := (hf1.1 129 61 (by omega)).trans fx13438
              have hW : WS ad cA (fun i k => i = 161 ∨ i = 156 ∨ i = 157 ∨ (i = 129 ∧ (k = 42 ∨ k = 43 ∨ k = 44 ∨ k = 45 ∨ k = 46 ∨ k = 47 ∨ k = 48 ∨ k = 49)) ∨ (i = 129 ∧ (k = 2 ∨ k = 57 ∨ k = 58 ∨ k = 61 ∨ k = 62 ∨ k = 63 ∨ k = 64)) ∨ i = 159 ∨ (i = 129 ∧ (k = 56 ∨ k = 65 ∨ k = 66)) ∨ (162 ≤ i ∧ i < 170) ∨ (158 ≤ i ∧ i < 162) ∨ (i = 129 ∧ (k = 31))) g0 K g13443 H locs := ⟨hW1, hs1, hW.2.2.tr hf1 (fun i k h => h.elim (fun h => (Or.inr (Or.inr (Or.inr (Or.inr (Or.inr (Or.inr (Or.inr (Or.inr (Or.inl h)))))))))) (fun h => (by omega)))⟩
              refine q_iload hM dX12_triedBy_201 (lv_at hl 0 rfl) ?_
              exact hE _ _ _ _ _ _ hW.1 ⟨v13439, _, rfl, hW.2.1, hG, hW.2.2, q13440, (fun q hq => by rw [e13441 q hq, f13356]; exact e13341 q hq), (fun q hq => by rw [f13444]; exact e13342 q hq), (by rw [f13445]; rfl), (by rw [e13442, f13357]; rfl)⟩ dX12_triedBy_203
            · refine q_tableIn (tgt := 121) hM dX12_triedBy_81 ((rfl : what.toInt = _).trans h81) (by decide) (by decide) rfl (by decide) ?_
              refine q_aload_n hM dX12_triedBy_121 (lv_at hl 0 rfl) ?_
              refine w_getI hM hW FG_X12_477 lb_129 (by decide) (by decide) dX12_triedBy_122 (fun x13449 fx13449 => ?_)
              refine q_istore (lv9 := [(4, .int x13449), (0, .ref (ad 129)), (1, .int wh), (2, .int n), (3, .int what)]) hM dX12_triedBy_125 hl (by decide) rfl (fun ls hl => ?_)
              refine q_goto (tgt := 196) hM dX12_triedBy_127 (by decide) ?_
              refine q_aload_n hM dX12_triedBy_196 (lv_at hl 1 rfl) ?_
              refine q_iconst (v := (0 : Int32)) hM dX12_triedBy_197 (by decide) ?_
              refine q_callV (As := [.int (0 : Int32)]) (rest := []) hM hW.1 hR hC myX12_bringsBack (kAW (v_6_10 (List.mem_of_getElem? (i := 10) rfl)) rfl) (rfl : vwCl[12]? = some (RX12, TX12, 86)) rfl lb_129.1 (shO hW.2.1 lb_129) (s_X12_bringsBack_0 _ _ cA ad g13355  hW.2.1 hG (fun q hq => by rw [f13356, e13341 q hq]; exact hF q hq)) ⟨by decide, by decide⟩ rfl rfl hl.1 (Nat.le_of_ble_eq_true rfl) dX12_triedBy_198 (fun v g13454 H locs hp hW1 => ?_)
              obtain ⟨v13450, rfl, hs1, hG, hf1, q13451, e13452, e13453⟩ := hp
              have f13455 : arI g13454 162 = arI g13344 162 := (hf1.2.1 162 (by omega)).trans f13356
              have f13456 : arI g13454 166 = upd (arI g0 166) (0 : Int32).toNatClampNeg wk := (hf1.2.1 166 (by omega)).trans f13357
              have f13457 : fld g13454 129 31 = .int (0 : Int32) := (hf1.1 129 31 (by omega)).trans f13358
              have f13458 : fld g13454 129 62 = .int x13449 := (hf1.1 129 62 (by omega)).trans fx13449
              have hW : WS ad cA (fun i k => i = 161 ∨ i = 156 ∨ i = 157 ∨ (i = 129 ∧ (k = 42 ∨ k = 43 ∨ k = 44 ∨ k = 45 ∨ k = 46 ∨ k = 47 ∨ k = 48 ∨ k = 49)) ∨ (i = 129 ∧ (k = 2 ∨ k = 57 ∨ k = 58 ∨ k = 61 ∨ k = 62 ∨ k = 63 ∨ k = 64)) ∨ i = 159 ∨ (i = 129 ∧ (k = 56 ∨ k = 65 ∨ k = 66)) ∨ (162 ≤ i ∧ i < 170) ∨ (158 ≤ i ∧ i < 162) ∨ (i = 129 ∧ (k = 31))) g0 K g13454 H locs := ⟨hW1, hs1, hW.2.2.tr hf1 (fun i k h => h.elim (fun h => (Or.inr (Or.inr (Or.inr (Or.inr (Or.inr (Or.inr (Or.inr (Or.inr (Or.inl h)))))))))) (fun h => (by omega)))⟩
              refine q_iload hM dX12_triedBy_201 (lv_at hl 0 rfl) ?_
              exact hE _ _ _ _ _ _ hW.1 ⟨v13450, _, rfl, hW.2.1, hG, hW.2.2, q13451, (fun q hq => by rw [e13452 q hq, f13356]; exact e13341 q hq), (fun q hq => by rw [f13455]; exact e13342 q hq), (by rw [f13456]; rfl), (by rw [e13453, f13357]; rfl)⟩ dX12_triedBy_203
            · refine q_tableIn (tgt := 130) hM dX12_triedBy_81 ((rfl : what.toInt = _).trans h81) (by decide) (by decide) rfl (by decide) ?_
              refine q_aload_n hM dX12_triedBy_130 (lv_at hl 0 rfl) ?_
              refine w_getI hM hW FG_X12_489 lb_129 (by decide) (by decide) dX12_triedBy_131 (fun x13460 fx13460 => ?_)
              refine q_istore (lv9 := [(4, .int x13460), (0, .ref (ad 129)), (1, .int wh), (2, .int n), (3, .int what)]) hM dX12_triedBy_134 hl (by decide) rfl (fun ls hl => ?_)
              refine q_goto (tgt := 196) hM dX12_triedBy_136 (by decide) ?_
              refine q_aload_n hM dX12_triedBy_196 (lv_at hl 1 rfl) ?_
              refine q_iconst (v := (0 : Int32)) hM dX12_triedBy_197 (by decide) ?_
              refine q_callV (As := [.int (0 : Int32)]) (rest := []) hM hW.1 hR hC myX12_bringsBack (kAW (v_6_10 (List.mem_of_getElem? (i := 10) rfl)) rfl) (rfl : vwCl[12]? = some (RX12, TX12, 86)) rfl lb_129.1 (shO hW.2.1 lb_129) (s_X12_bringsBack_0 _ _ cA ad g13355  hW.2.1 hG (fun q hq => by rw [f13356, e13341 q hq]; exact hF q hq)) ⟨by decide, by decide⟩ rfl rfl hl.1 (Nat.le_of_ble_eq_true rfl) dX12_triedBy_198 (fun v g13465 H locs hp hW1 => ?_)
              obtain ⟨v13461, rfl, hs1, hG, hf1, q13462, e13463, e13464⟩ := hp
              have f13466 : arI g13465 162 = arI g13344 162 := (hf1.2.1 162 (by omega)).trans f13356
              have f13467 : arI g13465 166 = upd (arI g0 166) (0 : Int32).toNatClampNeg wk := (hf1.2.1 166 (by omega)).trans f13357
              have f13468 : fld g13465 129 31 = .int (0 : Int32) := (hf1.1 129 31 (by omega)).trans f13358
              have f13469 : fld g13465 129 63 = .int x13460 := (hf1.1 129 63 (by omega)).trans fx13460
              have hW : WS ad cA (fun i k => i = 161 ∨ i = 156 ∨ i = 157 ∨ (i = 129 ∧ (k = 42 ∨ k = 43 ∨ k = 44 ∨ k = 45 ∨ k = 46 ∨ k = 47 ∨ k = 48 ∨ k = 49)) ∨ (i = 129 ∧ (k = 2 ∨ k = 57 ∨ k = 58 ∨ k = 61 ∨ k = 62 ∨ k = 63 ∨ k = 64)) ∨ i = 159 ∨ (i = 129 ∧ (k = 56 ∨ k = 65 ∨ k = 66)) ∨ (162 ≤ i ∧ i < 170) ∨ (158 ≤ i ∧ i < 162) ∨ (i = 129 ∧ (k = 31))) g0 K g13465 H locs := ⟨hW1, hs1, hW.2.2.tr hf1 (fun i k h => h.elim (fun h => (Or.inr (Or.inr (Or.inr (Or.inr (Or.inr (Or.inr (Or.inr (Or.inr (Or.inl h)))))))))) (fun h => (by omega)))⟩
              refine q_iload hM dX12_triedBy_201 (lv_at hl 0 rfl) ?_
              exact hE _ _ _ _ _ _ hW.1 ⟨v13461, _, rfl, hW.2.1, hG, hW.2.2, q13462, (fun q hq => by rw [e13463 q hq, f13356]; exact e13341 q hq), (fun q hq => by rw [f13466]; exact e13342 q hq), (by rw [f13467]; rfl), (by rw [e13464, f13357]; rfl)⟩ dX12_triedBy_203
            · refine q_tableIn (tgt := 139) hM dX12_triedBy_81 ((rfl : what.toInt = _).trans h81) (by decide) (by decide) rfl (by decide) ?_
              refine q_aload_n hM dX12_triedBy_139 (lv_at hl 0 rfl) ?_
              refine w_getI hM hW FG_X12_468 lb_129 (by decide) (by decide) dX12_triedBy_140 (fun x13471 fx13471 => ?_)
              refine q_istore (lv9 := [(4, .int x13471), (0, .ref (ad 129)), (1, .int wh), (2, .int n), (3, .int what)]) hM dX12_triedBy_143 hl (by decide) rfl (fun ls hl => ?_)
              refine q_goto (tgt := 196) hM dX12_triedBy_145 (by decide) ?_
              refine q_aload_n hM dX12_triedBy_196 (lv_at hl 1 rfl) ?_
              refine q_iconst (v := (0 : Int32)) hM dX12_triedBy_197 (by decide) ?_
              refine q_callV (As := [.int (0 : Int32)]) (rest := []) hM hW.1 hR hC myX12_bringsBack (kAW (v_6_10 (List.mem_of_getElem? (i := 10) rfl)) rfl) (rfl : vwCl[12]? = some (RX12, TX12, 86)) rfl lb_129.1 (shO hW.2.1 lb_129) (s_X12_bringsBack_0 _ _ cA ad g13355  hW.2.1 hG (fun q hq => by rw [f13356, e13341 q hq]; exact hF q hq)) ⟨by decide, by decide⟩ rfl rfl hl.1 (Nat.le_of_ble_eq_true rfl) dX12_triedBy_198 (fun v g13476 H locs hp hW1 => ?_)
              obtain ⟨v13472, rfl, hs1, hG, hf1, q13473, e13474, e13475⟩ := hp
              have f13477 : arI g13476 162 = arI g13344 162 := (hf1.2.1 162 (by omega)).trans f13356
              have f13478 : arI g13476 166 = upd (arI g0 166) (0 : Int32).toNatClampNeg wk := (hf1.2.1 166 (by omega)).trans f13357
              have f13479 : fld g13476 129 31 = .int (0 : Int32) := (hf1.1 129 31 (by omega)).trans f13358
              have f13480 : fld g13476 129 64 = .int x13471 := (hf1.1 129 64 (by omega)).trans fx13471
              have hW : WS ad cA (fun i k => i = 161 ∨ i = 156 ∨ i = 157 ∨ (i = 129 ∧ (k = 42 ∨ k = 43 ∨ k = 44 ∨ k = 45 ∨ k = 46 ∨ k = 47 ∨ k = 48 ∨ k = 49)) ∨ (i = 129 ∧ (k = 2 ∨ k = 57 ∨ k = 58 ∨ k = 61 ∨ k = 62 ∨ k = 63 ∨ k = 64)) ∨ i = 159 ∨ (i = 129 ∧ (k = 56 ∨ k = 65 ∨ k = 66)) ∨ (162 ≤ i ∧ i < 170) ∨ (158 ≤ i ∧ i < 162) ∨ (i = 129 ∧ (k = 31))) g0 K g13476 H locs := ⟨hW1, hs1, hW.2.2.tr hf1 (fun i k h => h.elim (fun h => (Or.inr (Or.inr (Or.inr (Or.inr (Or.inr (Or.inr (Or.inr (Or.inr (Or.inl h)))))))))) (fun h => (by omega)))⟩
              refine q_iload hM dX12_triedBy_201 (lv_at hl 0 rfl) ?_
              exact hE _ _ _ _ _ _ hW.1 ⟨v13472, _, rfl, hW.2.1, hG, hW.2.2, q13473, (fun q hq => by rw [e13474 q hq, f13356]; exact e13341 q hq), (fun q hq => by rw [f13477]; exact e13342 q hq), (by rw [f13478]; rfl), (by rw [e13475, f13357]; rfl)⟩ dX12_triedBy_203
          · refine q_iconst (v := ((-1) : Int32)) hM dX12_triedBy_57 (by decide) ?_
            exact hE _ _ _ _ _ _ hW.1 ⟨wk, _, rfl, hW.2.1, hG, hW.2.2, f12898, (fun _ _ => rfl), (fun _ _ => rfl), rfl, rfl⟩ dX12_triedBy_58
