theorem FR.wk {T T1 : Nat → Nat → Prop} {g g1 : Nat → va_E} (h : FR T g g1) (hs : ∀ i k, T i k → T1 i k) : FR T1 g g1 := ⟨fun i k hn => h.1 i k (fun q => hn (hs i k q)), fun i hn => h.2.1 i (fun q => hn (hs i 0 q)), h.2.2⟩
theorem bc_ne {a b r1 r2 : Int32} (h1 : r1 = bcF a) (h2 : r2 = bcF b) (ha : a = 0) (hb1 : 1 ≤ b.toInt) (hb2 : b.toInt ≤ 63) (h : r1.toInt = r2.toInt) : False := by
  have e : r1 = r2 := Int32.toInt_inj.mp h
  rw [h1, h2, ha, bcF_0] at e
  obtain ⟨k, hk⟩ : ∃ k : Nat, b.toInt = k := ⟨b.toInt.toNat, by omega⟩
  rw [nI_k hk (by omega)] at e
  exact bcF_pos k (by omega) (by omega) e.symm

theorem dX11_fact_0 : decode cX11_fact 0 = .ok (.iload_n 1, 1) := by decide +kernel
theorem dX11_fact_1 : decode cX11_fact 1 = .ok (.iconst 0, 1) := by decide +kernel
theorem dX11_fact_2 : decode cX11_fact 2 = .ok (.bipush 11, 2) := by decide +kernel
theorem dX11_fact_4 : decode cX11_fact 4 = .ok (.invokestatic 112, 3) := by decide +kernel
theorem dX11_fact_7 : decode cX11_fact 7 = .ok (.ifCond .eq 13, 3) := by decide +kernel
theorem dX11_fact_10 : decode cX11_fact 10 = .ok (.iload_n 2, 1) := by decide +kernel
theorem dX11_fact_11 : decode cX11_fact 11 = .ok (.iconst 0, 1) := by decide +kernel
theorem dX11_fact_12 : decode cX11_fact 12 = .ok (.bipush 8, 2) := by decide +kernel
theorem dX11_fact_14 : decode cX11_fact 14 = .ok (.invokestatic 112, 3) := by decide +kernel
theorem dX11_fact_17 : decode cX11_fact 17 = .ok (.ifCond .ne 5, 3) := by decide +kernel
theorem dX11_fact_20 : decode cX11_fact 20 = .ok (.iconst 0, 1) := by decide +kernel
theorem dX11_fact_21 : decode cX11_fact 21 = .ok (.ireturn, 1) := by decide +kernel
theorem dX11_fact_22 : decode cX11_fact 22 = .ok (.aload_n 0, 1) := by decide +kernel
theorem dX11_fact_23 : decode cX11_fact 23 = .ok (.getfield 19, 3) := by decide +kernel
theorem dX11_fact_26 : decode cX11_fact 26 = .ok (.dup, 1) := by decide +kernel
theorem dX11_fact_27 : decode cX11_fact 27 = .ok (.getfield 116, 3) := by decide +kernel
theorem dX11_fact_30 : decode cX11_fact 30 = .ok (.iconst 1, 1) := by decide +kernel
theorem dX11_fact_31 : decode cX11_fact 31 = .ok (.iload_n 1, 1) := by decide +kernel
theorem dX11_fact_32 : decode cX11_fact 32 = .ok (.ishl, 1) := by decide +kernel
theorem dX11_fact_33 : decode cX11_fact 33 = .ok (.ior, 1) := by decide +kernel
theorem dX11_fact_34 : decode cX11_fact 34 = .ok (.putfield 116, 3) := by decide +kernel
theorem dX11_fact_37 : decode cX11_fact 37 = .ok (.aload_n 0, 1) := by decide +kernel
theorem dX11_fact_38 : decode cX11_fact 38 = .ok (.getfield 19, 3) := by decide +kernel
theorem dX11_fact_41 : decode cX11_fact 41 = .ok (.getfield 120, 3) := by decide +kernel
theorem dX11_fact_44 : decode cX11_fact 44 = .ok (.iload_n 1, 1) := by decide +kernel
theorem dX11_fact_45 : decode cX11_fact 45 = .ok (.iload_n 2, 1) := by decide +kernel
theorem dX11_fact_46 : decode cX11_fact 46 = .ok (.iastore, 1) := by decide +kernel
theorem dX11_fact_47 : decode cX11_fact 47 = .ok (.iconst 1, 1) := by decide +kernel
theorem dX11_fact_48 : decode cX11_fact 48 = .ok (.ireturn, 1) := by decide +kernel
theorem FP_X11_116 : FPX RX11 116 5 3 2 .int := ⟨⟨RX5, TX5, tyX5, rfl, wX5, by decide, kAW (v_0_3 (List.mem_of_getElem? (i := 11) rfl)) rfl, rfl, tyX5_ok, nmX5, by decide +kernel, rfl⟩, by decide +kernel⟩
theorem FG_X11_120 : FG RX11 120 5 3 0 := ⟨RX5, TX5, rfl, wX5, by decide, kAW (v_0_3 (List.mem_of_getElem? (i := 6) rfl)) rfl, rfl⟩
set_option maxRecDepth 100000 in
set_option maxHeartbeats 4000000 in
theorem p_X11_fact (l : Launch) (D : va_G) (cA : Nat → ClassId) (ad : Nat → Nat) (g0 : Nat → va_E) (a b : Int32) (hSh : Shp ad cA g0) (hF : ∀ j, j < NN → g0 j = gF ad cA j) : CT l NN ad cA D yX11_fact cX11_fact 3 (some FieldType.boolean) (1, 22) [.ref (ad 0), .int a, .int b] g0 (fun v g' => ∃ r : Int32, v = some (.int r) ∧ Shp ad cA g' ∧ FR (fun i _ => i < 129) g0 g' ∧ ((r.toInt = 1 ∧ 0 ≤ a.toInt ∧ a.toInt ≤ 11 ∧ 0 ≤ b.toInt ∧ b.toInt ≤ 8) ∨ (r.toInt = 0 ∧ ¬ (0 ≤ a.toInt ∧ a.toInt ≤ 11 ∧ 0 ≤ b.toInt ∧ b.toInt ≤ 8)))) := by
  refine q_enterZ (by decide) (Nat.le_of_ble_eq_true rfl) (fun K H locs ls _ _ hM hW0 hR hC hE hl => ?_)
  have hl : lv_has ls 3 [(0, .ref (ad 0)), (1, .int a), (2, .int b)] := hl
  have hW : WS ad cA (fun i k => (i = 3 ∧ (k = 2)) ∨ i = 4) g0 K g0 H locs := ⟨hW0, hSh, FR.rf⟩
  have := kc_0
  have := kc_8
  have := kc_11
  have f194 : fld g0 3 2 = .int (0 : Int32) := (zf hF (by decide) rfl : fld g0 3 2 = .int (0 : Int32))
  refine q_iload_n hM dX11_fact_0 (lv_at hl 1 rfl) ?_
  refine q_iconst (v := (0 : Int32)) hM dX11_fact_1 (by decide) ?_
  refine q_bipush (v := (11 : Int32)) hM dX11_fact_2 (by decide) ?_
  refine q_callS (As := [.int a, .int (0 : Int32), .int (11 : Int32)]) (rest := []) hM hW.1 hR hC myX11_within (kAW (v_1_10 (List.mem_of_getElem? (i := 1) rfl)) rfl) (c_X11_within _ _ cA ad g0 a (0 : Int32) (11 : Int32) hW.2.1) ⟨by decide, by decide⟩ rfl rfl hl.1 (Nat.le_of_ble_eq_true rfl) dX11_fact_4 (fun v g196 H locs hp hW1 => ?_)
  obtain ⟨r195, rfl, hr195, rfl⟩ := hp
  have hW : WS ad cA (fun i k => (i = 3 ∧ (k = 2)) ∨ i = 4) g0 K g0 H locs := ⟨hW1, hW.2.1, hW.2.2⟩
  refine q_if_eq (tgt := 20) hM dX11_fact_7 (by decide) (rfl : r195.toInt = r195.toInt) (fun h7 => ?_) (fun h7 => ?_)
  · refine q_iconst (v := (0 : Int32)) hM dX11_fact_20 (by decide) ?_
    exact hE _ _ _ _ _ _ hW.1 nz_0 ⟨_, rfl, hW.2.1, FR.wk hW.2.2 (fun i k h => by omega), (by have := kc_0; omega)⟩ dX11_fact_21
  · refine q_iload_n hM dX11_fact_10 (lv_at hl 2 rfl) ?_
    refine q_iconst (v := (0 : Int32)) hM dX11_fact_11 (by decide) ?_
    refine q_bipush (v := (8 : Int32)) hM dX11_fact_12 (by decide) ?_
    refine q_callS (As := [.int b, .int (0 : Int32), .int (8 : Int32)]) (rest := []) hM hW.1 hR hC myX11_within (kAW (v_1_10 (List.mem_of_getElem? (i := 1) rfl)) rfl) (c_X11_within _ _ cA ad g0 b (0 : Int32) (8 : Int32) hW.2.1) ⟨by decide, by decide⟩ rfl rfl hl.1 (Nat.le_of_ble_eq_true rfl) dX11_fact_14 (fun v g198 H locs hp hW1 => ?_)
    obtain ⟨r197, rfl, hr197, rfl⟩ := hp
    have hW : WS ad cA (fun i k => (i = 3 ∧ (k = 2)) ∨ i = 4) g0 K g0 H locs := ⟨hW1, hW.2.1, hW.2.2⟩
    refine q_if_ne (tgt := 22) hM dX11_fact_17 (by decide) (rfl : r197.toInt = r197.toInt) (fun h17 => ?_) (fun h17 => ?_)
    · refine q_aload_n hM dX11_fact_22 (lv_at hl 0 rfl) ?_
      refine w_get (v := .ref (ad 3)) hM hW FG_X11_19 lb_0 (rf_0_1 hW.2.1) dX11_fact_23 ?_
      refine q_dup hM dX11_fact_26 rfl ?_
      refine w_get (v := .int (0 : Int32)) hM hW FG_X11_116 lb_3 f194 dX11_fact_27 ?_
      refine q_iconst (v := (1 : Int32)) hM dX11_fact_30 (by decide) ?_
      refine q_iload_n hM dX11_fact_31 (lv_at hl 1 rfl) ?_
      refine q_ishl hM dX11_fact_32 (fun z199 hz199 => ?_)
      refine q_ior hM dX11_fact_33 (fun z200 hz200 => ?_)
      refine w_put hM hW FP_X11_116 lb_3 (by omega) (Or.inl ⟨_, rfl⟩) rfl rfl dX11_fact_34 (fun g201 H locs hW e1 e2 => ?_)
      have f202 : fld g201 3 2 = .int z200 := e1
      refine q_aload_n hM dX11_fact_37 (lv_at hl 0 rfl) ?_
      refine w_get (v := .ref (ad 3)) hM hW FG_X11_19 lb_0 (rf_0_1 hW.2.1) dX11_fact_38 ?_
      refine w_get (v := .ref (ad 4)) hM hW FG_X11_120 lb_3 (rf_3_0 hW.2.1) dX11_fact_41 ?_
      refine q_iload_n hM dX11_fact_44 (lv_at hl 1 rfl) ?_
      refine q_iload_n hM dX11_fact_45 (lv_at hl 2 rfl) ?_
      refine w_iast hM hW lb_4 (by omega) (i_in (by omega) (by omega)) dX11_fact_46 (fun g203 H locs hW e1 e2 => ?_)
      have f204 : fld g203 3 2 = .int z200 := (e2.1 3 2 (by unfold Only; omega)).trans f202
      refine q_iconst (v := (1 : Int32)) hM dX11_fact_47 (by decide) ?_
      exact hE _ _ _ _ _ _ hW.1 nz_1 ⟨_, rfl, hW.2.1, FR.wk hW.2.2 (fun i k h => by omega), (by have := kc_1; omega)⟩ dX11_fact_48
    · refine q_iconst (v := (0 : Int32)) hM dX11_fact_20 (by decide) ?_
      exact hE _ _ _ _ _ _ hW.1 nz_0 ⟨_, rfl, hW.2.1, FR.wk hW.2.2 (fun i k h => by omega), (by have := kc_0; omega)⟩ dX11_fact_21

theorem dX11_link_0 : decode cX11_link 0 = .ok (.aload_n 0, 1) := by decide +kernel
theorem dX11_link_1 : decode cX11_link 1 = .ok (.getfield 19, 3) := by decide +kernel
theorem dX11_link_4 : decode cX11_link 4 = .ok (.getfield 116, 3) := by decide +kernel
theorem dX11_link_7 : decode cX11_link 7 = .ok (.iload_n 1, 1) := by decide +kernel
theorem dX11_link_8 : decode cX11_link 8 = .ok (.invokestatic 123, 3) := by decide +kernel
theorem dX11_link_11 : decode cX11_link 11 = .ok (.ifCond .eq 32, 3) := by decide +kernel
theorem dX11_link_43 : decode cX11_link 43 = .ok (.iconst 0, 1) := by decide +kernel
theorem dX11_link_44 : decode cX11_link 44 = .ok (.ireturn, 1) := by decide +kernel
set_option maxRecDepth 100000 in
set_option maxHeartbeats 4000000 in
theorem p_X11_link (l : Launch) (D : va_G) (cA : Nat → ClassId) (ad : Nat → Nat) (g0 : Nat → va_E) (a b c : Int32) (hSh : Shp ad cA g0) (hF : ∀ j, j < NN → g0 j = gF ad cA j) : CT l NN ad cA D yX11_link cX11_link 4 (some FieldType.boolean) (1, 21) [.ref (ad 0), .int a, .int b, .int c] g0 (fun v g' => ∃ r : Int32, v = some (.int r) ∧ Shp ad cA g' ∧ FR (fun i _ => i < 129) g0 g' ∧ (r.toInt = 0)) := by
  refine q_enterZ (by decide) (Nat.le_of_ble_eq_true rfl) (fun K H locs ls _ _ hM hW0 hR hC hE hl => ?_)
  have hl : lv_has ls 4 [(0, .ref (ad 0)), (1, .int a), (2, .int b), (3, .int c)] := hl
  have hW : WS ad cA (fun i k => False) g0 K g0 H locs := ⟨hW0, hSh, FR.rf⟩
  refine q_aload_n hM dX11_link_0 (lv_at hl 0 rfl) ?_
  refine w_get (v := .ref (ad 3)) hM hW FG_X11_19 lb_0 (rf_0_1 hW.2.1) dX11_link_1 ?_
  refine w_get (v := .int (0 : Int32)) hM hW FG_X11_116 lb_3 ((hW.2.2.1 3 2 (fun h => h)).trans (zf hF (by decide) rfl : fld g0 3 2 = .int (0 : Int32))) dX11_link_4 ?_
  refine q_iload_n hM dX11_link_7 (lv_at hl 1 rfl) ?_
  refine q_callS (As := [.int (0 : Int32), .int a]) (rest := []) hM hW.1 hR hC myX11_has (kAW (v_1_10 (List.mem_of_getElem? (i := 8) rfl)) rfl) (c_X11_has _ _ cA ad g0 (0 : Int32) a hW.2.1) ⟨by decide, by decide⟩ rfl rfl hl.1 (Nat.le_of_ble_eq_true rfl) dX11_link_8 (fun v g206 H locs hp hW1 => ?_)
  obtain ⟨r205, rfl, hr205, rfl⟩ := hp
  have hW : WS ad cA (fun i k => False) g0 K g0 H locs := ⟨hW1, hW.2.1, hW.2.2⟩
  have kr205 : r205.toInt = 0 := has_r0 hr205
  refine q_if_eq (tgt := 43) hM dX11_link_11 (by decide) (kr205 : r205.toInt = 0) (fun h11 => ?_) (fun h11 => ?_)
  · refine q_iconst (v := (0 : Int32)) hM dX11_link_43 (by decide) ?_
    exact hE _ _ _ _ _ _ hW.1 nz_0 ⟨_, rfl, hW.2.1, FR.wk hW.2.2 (fun _ _ h => h.elim), (by have := kc_0; omega)⟩ dX11_link_44
  · omega

theorem dX11_knows_0 : decode cX11_knows 0 = .ok (.aload_n 0, 1) := by decide +kernel
theorem dX11_knows_1 : decode cX11_knows 1 = .ok (.getfield 26, 3) := by decide +kernel
theorem dX11_knows_4 : decode cX11_knows 4 = .ok (.getfield 135, 3) := by decide +kernel
theorem dX11_knows_7 : decode cX11_knows 7 = .ok (.iload_n 1, 1) := by decide +kernel
theorem dX11_knows_8 : decode cX11_knows 8 = .ok (.invokestatic 123, 3) := by decide +kernel
theorem dX11_knows_11 : decode cX11_knows 11 = .ok (.ifCond .eq 27, 3) := by decide +kernel
theorem dX11_knows_38 : decode cX11_knows 38 = .ok (.iconst 0, 1) := by decide +kernel
theorem dX11_knows_39 : decode cX11_knows 39 = .ok (.ireturn, 1) := by decide +kernel
set_option maxRecDepth 100000 in
set_option maxHeartbeats 4000000 in
theorem p_X11_knows (l : Launch) (D : va_G) (cA : Nat → ClassId) (ad : Nat → Nat) (g0 : Nat → va_E) (a b c : Int32) (hSh : Shp ad cA g0) (hF : ∀ j, j < NN → g0 j = gF ad cA j) : CT l NN ad cA D yX11_knows cX11_knows 4 (some FieldType.boolean) (1, 21) [.ref (ad 0), .int a, .int b, .int c] g0 (fun v g' => ∃ r : Int32, v = some (.int r) ∧ Shp ad cA g' ∧ FR (fun i _ => i < 129) g0 g' ∧ (r.toInt = 0)) := by
  refine q_enterZ (by decide) (Nat.le_of_ble_eq_true rfl) (fun K H locs ls _ _ hM hW0 hR hC hE hl => ?_)
  have hl : lv_has ls 4 [(0, .ref (ad 0)), (1, .int a), (2, .int b), (3, .int c)] := hl
  have hW : WS ad cA (fun i k => False) g0 K g0 H locs := ⟨hW0, hSh, FR.rf⟩
  refine q_aload_n hM dX11_knows_0 (lv_at hl 0 rfl) ?_
  refine w_get (v := .ref (ad 18)) hM hW FG_X11_26 lb_0 (rf_0_10 hW.2.1) dX11_knows_1 ?_
  refine w_get (v := .int (0 : Int32)) hM hW FG_X11_135 lb_18 ((hW.2.2.1 18 3 (fun h => h)).trans (zf hF (by decide) rfl : fld g0 18 3 = .int (0 : Int32))) dX11_knows_4 ?_
  refine q_iload_n hM dX11_knows_7 (lv_at hl 1 rfl) ?_
  refine q_callS (As := [.int (0 : Int32), .int a]) (rest := []) hM hW.1 hR hC myX11_has (kAW (v_1_10 (List.mem_of_getElem? (i := 8) rfl)) rfl) (c_X11_has _ _ cA ad g0 (0 : Int32) a hW.2.1) ⟨by decide, by decide⟩ rfl rfl hl.1 (Nat.le_of_ble_eq_true rfl) dX11_knows_8 (fun v g208 H locs hp hW1 => ?_)
  obtain ⟨r207, rfl, hr207, rfl⟩ := hp
  have hW : WS ad cA (fun i k => False) g0 K g0 H locs := ⟨hW1, hW.2.1, hW.2.2⟩
  have kr207 : r207.toInt = 0 := has_r0 hr207
  refine q_if_eq (tgt := 38) hM dX11_knows_11 (by decide) (kr207 : r207.toInt = 0) (fun h11 => ?_) (fun h11 => ?_)
  · refine q_iconst (v := (0 : Int32)) hM dX11_knows_38 (by decide) ?_
    exact hE _ _ _ _ _ _ hW.1 nz_0 ⟨_, rfl, hW.2.1, FR.wk hW.2.2 (fun _ _ h => h.elim), (by have := kc_0; omega)⟩ dX11_knows_39
  · omega

theorem dX11_reminds_0 : decode cX11_reminds 0 = .ok (.aload_n 0, 1) := by decide +kernel
theorem dX11_reminds_1 : decode cX11_reminds 1 = .ok (.getfield 26, 3) := by decide +kernel
theorem dX11_reminds_4 : decode cX11_reminds 4 = .ok (.getfield 135, 3) := by decide +kernel
theorem dX11_reminds_7 : decode cX11_reminds 7 = .ok (.iload_n 1, 1) := by decide +kernel
theorem dX11_reminds_8 : decode cX11_reminds 8 = .ok (.invokestatic 123, 3) := by decide +kernel
theorem dX11_reminds_11 : decode cX11_reminds 11 = .ok (.ifCond .eq 32, 3) := by decide +kernel
theorem dX11_reminds_43 : decode cX11_reminds 43 = .ok (.iconst 0, 1) := by decide +kernel
theorem dX11_reminds_44 : decode cX11_reminds 44 = .ok (.ireturn, 1) := by decide +kernel
set_option maxRecDepth 100000 in
set_option maxHeartbeats 4000000 in
theorem p_X11_reminds (l : Launch) (D : va_G) (cA : Nat → ClassId) (ad : Nat → Nat) (g0 : Nat → va_E) (a b c : Int32) (hSh : Shp ad cA g0) (hF : ∀ j, j < NN → g0 j = gF ad cA j) : CT l NN ad cA D yX11_reminds cX11_reminds 4 (some FieldType.boolean) (1, 21) [.ref (ad 0), .int a, .int b, .int c] g0 (fun v g' => ∃ r : Int32, v = some (.int r) ∧ Shp ad cA g' ∧ FR (fun i _ => i < 129) g0 g' ∧ (r.toInt = 0)) := by
  refine q_enterZ (by decide) (Nat.le_of_ble_eq_true rfl) (fun K H locs ls _ _ hM hW0 hR hC hE hl => ?_)
  have hl : lv_has ls 4 [(0, .ref (ad 0)), (1, .int a), (2, .int b), (3, .int c)] := hl
  have hW : WS ad cA (fun i k => False) g0 K g0 H locs := ⟨hW0, hSh, FR.rf⟩
  refine q_aload_n hM dX11_reminds_0 (lv_at hl 0 rfl) ?_
  refine w_get (v := .ref (ad 18)) hM hW FG_X11_26 lb_0 (rf_0_10 hW.2.1) dX11_reminds_1 ?_
  refine w_get (v := .int (0 : Int32)) hM hW FG_X11_135 lb_18 ((hW.2.2.1 18 3 (fun h => h)).trans (zf hF (by decide) rfl : fld g0 18 3 = .int (0 : Int32))) dX11_reminds_4 ?_
  refine q_iload_n hM dX11_reminds_7 (lv_at hl 1 rfl) ?_
  refine q_callS (As := [.int (0 : Int32), .int a]) (rest := []) hM hW.1 hR hC myX11_has (kAW (v_1_10 (List.mem_of_getElem? (i := 8) rfl)) rfl) (c_X11_has _ _ cA ad g0 (0 : Int32) a hW.2.1) ⟨by decide, by decide⟩ rfl rfl hl.1 (Nat.le_of_ble_eq_true rfl) dX11_reminds_8 (fun v g210 H locs hp hW1 => ?_)
  obtain ⟨r209, rfl, hr209, rfl⟩ := hp
  have hW : WS ad cA (fun i k => False) g0 K g0 H locs := ⟨hW1, hW.2.1, hW.2.2⟩
  have kr209 : r209.toInt = 0 := has_r0 hr209
  refine q_if_eq (tgt := 43) hM dX11_reminds_11 (by decide) (kr209 : r209.toInt = 0) (fun h11 => ?_) (fun h11 => ?_)
  · refine q_iconst (v := (0 : Int32)) hM dX11_reminds_43 (by decide) ?_
    exact hE _ _ _ _ _ _ hW.1 nz_0 ⟨_, rfl, hW.2.1, FR.wk hW.2.2 (fun _ _ h => h.elim), (by have := kc_0; omega)⟩ dX11_reminds_44
  · omega

theorem dX11_grade_0 : decode cX11_grade 0 = .ok (.iload_n 1, 1) := by decide +kernel
theorem dX11_grade_1 : decode cX11_grade 1 = .ok (.iconst 1, 1) := by decide +kernel
theorem dX11_grade_2 : decode cX11_grade 2 = .ok (.bipush 9, 2) := by decide +kernel
theorem dX11_grade_4 : decode cX11_grade 4 = .ok (.invokestatic 112, 3) := by decide +kernel
theorem dX11_grade_7 : decode cX11_grade 7 = .ok (.ifCond .eq 12, 3) := by decide +kernel
theorem dX11_grade_10 : decode cX11_grade 10 = .ok (.iload_n 2, 1) := by decide +kernel
theorem dX11_grade_11 : decode cX11_grade 11 = .ok (.iconst (-1), 1) := by decide +kernel
theorem dX11_grade_12 : decode cX11_grade 12 = .ok (.iconst 5, 1) := by decide +kernel
theorem dX11_grade_13 : decode cX11_grade 13 = .ok (.invokestatic 112, 3) := by decide +kernel
theorem dX11_grade_16 : decode cX11_grade 16 = .ok (.ifCond .ne 5, 3) := by decide +kernel
theorem dX11_grade_19 : decode cX11_grade 19 = .ok (.iconst 0, 1) := by decide +kernel
theorem dX11_grade_20 : decode cX11_grade 20 = .ok (.ireturn, 1) := by decide +kernel
theorem dX11_grade_21 : decode cX11_grade 21 = .ok (.aload_n 0, 1) := by decide +kernel
theorem dX11_grade_22 : decode cX11_grade 22 = .ok (.getfield 83, 3) := by decide +kernel
theorem dX11_grade_25 : decode cX11_grade 25 = .ok (.getfield 164, 3) := by decide +kernel
theorem dX11_grade_28 : decode cX11_grade 28 = .ok (.iload_n 1, 1) := by decide +kernel
theorem dX11_grade_29 : decode cX11_grade 29 = .ok (.iload_n 2, 1) := by decide +kernel
theorem dX11_grade_30 : decode cX11_grade 30 = .ok (.iastore, 1) := by decide +kernel
theorem dX11_grade_31 : decode cX11_grade 31 = .ok (.iconst 1, 1) := by decide +kernel
theorem dX11_grade_32 : decode cX11_grade 32 = .ok (.ireturn, 1) := by decide +kernel
theorem FG_X11_164 : FG RX11 164 2 11 2 := ⟨RX2, TX2, rfl, wX2, by decide, kAW (v_0_14 (List.mem_of_getElem? (i := 8) rfl)) rfl, rfl⟩
set_option maxRecDepth 100000 in
set_option maxHeartbeats 4000000 in
theorem p_X11_grade (l : Launch) (D : va_G) (cA : Nat → ClassId) (ad : Nat → Nat) (g0 : Nat → va_E) (a b : Int32) (hSh : Shp ad cA g0) (hF : ∀ j, j < NN → g0 j = gF ad cA j) : CT l NN ad cA D yX11_grade cX11_grade 3 (some FieldType.boolean) (1, 22) [.ref (ad 0), .int a, .int b] g0 (fun v g' => ∃ r : Int32, v = some (.int r) ∧ Shp ad cA g' ∧ FR (fun i _ => i < 129) g0 g' ∧ ((r.toInt = 1 ∧ 1 ≤ a.toInt ∧ a.toInt ≤ 9 ∧ -1 ≤ b.toInt ∧ b.toInt ≤ 5) ∨ (r.toInt = 0 ∧ ¬ (1 ≤ a.toInt ∧ a.toInt ≤ 9 ∧ -1 ≤ b.toInt ∧ b.toInt ≤ 5)))) := by
  refine q_enterZ (by decide) (Nat.le_of_ble_eq_true rfl) (fun K H locs ls _ _ hM hW0 hR hC hE hl => ?_)
  have hl : lv_has ls 3 [(0, .ref (ad 0)), (1, .int a), (2, .int b)] := hl
  have hW : WS ad cA (fun i k => i = 82) g0 K g0 H locs := ⟨hW0, hSh, FR.rf⟩
  have := kc_1
  have := kc_9
  have := kc_m1
  have := kc_5
  have := kc_0
  refine q_iload_n hM dX11_grade_0 (lv_at hl 1 rfl) ?_
  refine q_iconst (v := (1 : Int32)) hM dX11_grade_1 (by decide) ?_
  refine q_bipush (v := (9 : Int32)) hM dX11_grade_2 (by decide) ?_
  refine q_callS (As := [.int a, .int (1 : Int32), .int (9 : Int32)]) (rest := []) hM hW.1 hR hC myX11_within (kAW (v_1_10 (List.mem_of_getElem? (i := 1) rfl)) rfl) (c_X11_within _ _ cA ad g0 a (1 : Int32) (9 : Int32) hW.2.1) ⟨by decide, by decide⟩ rfl rfl hl.1 (Nat.le_of_ble_eq_true rfl) dX11_grade_4 (fun v g212 H locs hp hW1 => ?_)
  obtain ⟨r211, rfl, hr211, rfl⟩ := hp
  have hW : WS ad cA (fun i k => i = 82) g0 K g0 H locs := ⟨hW1, hW.2.1, hW.2.2⟩
  refine q_if_eq (tgt := 19) hM dX11_grade_7 (by decide) (rfl : r211.toInt = r211.toInt) (fun h7 => ?_) (fun h7 => ?_)
  · refine q_iconst (v := (0 : Int32)) hM dX11_grade_19 (by decide) ?_
    exact hE _ _ _ _ _ _ hW.1 nz_0 ⟨_, rfl, hW.2.1, FR.wk hW.2.2 (fun i k h => by omega), (by have := kc_0; omega)⟩ dX11_grade_20
  · refine q_iload_n hM dX11_grade_10 (lv_at hl 2 rfl) ?_
    refine q_iconst (v := ((-1) : Int32)) hM dX11_grade_11 (by decide) ?_
    refine q_iconst (v := (5 : Int32)) hM dX11_grade_12 (by decide) ?_
    refine q_callS (As := [.int b, .int ((-1) : Int32), .int (5 : Int32)]) (rest := []) hM hW.1 hR hC myX11_within (kAW (v_1_10 (List.mem_of_getElem? (i := 1) rfl)) rfl) (c_X11_within _ _ cA ad g0 b ((-1) : Int32) (5 : Int32) hW.2.1) ⟨by decide, by decide⟩ rfl rfl hl.1 (Nat.le_of_ble_eq_true rfl) dX11_grade_13 (fun v g214 H locs hp hW1 => ?_)
    obtain ⟨r213, rfl, hr213, rfl⟩ := hp
    have hW : WS ad cA (fun i k => i = 82) g0 K g0 H locs := ⟨hW1, hW.2.1, hW.2.2⟩
    refine q_if_ne (tgt := 21) hM dX11_grade_16 (by decide) (rfl : r213.toInt = r213.toInt) (fun h16 => ?_) (fun h16 => ?_)
    · refine q_aload_n hM dX11_grade_21 (lv_at hl 0 rfl) ?_
      refine w_get (v := .ref (ad 80)) hM hW FG_X11_83 lb_0 (rf_0_2 hW.2.1) dX11_grade_22 ?_
      refine w_get (v := .ref (ad 82)) hM hW FG_X11_164 lb_80 (rf_80_2 hW.2.1) dX11_grade_25 ?_
      refine q_iload_n hM dX11_grade_28 (lv_at hl 1 rfl) ?_
      refine q_iload_n hM dX11_grade_29 (lv_at hl 2 rfl) ?_
      refine w_iast hM hW lb_82 (by omega) (i_in (by omega) (by omega)) dX11_grade_30 (fun g215 H locs hW e1 e2 => ?_)
      refine q_iconst (v := (1 : Int32)) hM dX11_grade_31 (by decide) ?_
      exact hE _ _ _ _ _ _ hW.1 nz_1 ⟨_, rfl, hW.2.1, FR.wk hW.2.2 (fun i k h => by omega), (by have := kc_1; omega)⟩ dX11_grade_32
    · refine q_iconst (v := (0 : Int32)) hM dX11_grade_19 (by decide) ?_
      exact hE _ _ _ _ _ _ hW.1 nz_0 ⟨_, rfl, hW.2.1, FR.wk hW.2.2 (fun i k h => by omega), (by have := kc_0; omega)⟩ dX11_grade_20

theorem dX11_exam_0 : decode cX11_exam 0 = .ok (.iload_n 1, 1) := by decide +kernel
theorem dX11_exam_1 : decode cX11_exam 1 = .ok (.iconst 0, 1) := by decide +kernel
theorem dX11_exam_2 : decode cX11_exam 2 = .ok (.sipush 4095, 3) := by decide +kernel
theorem dX11_exam_5 : decode cX11_exam 5 = .ok (.invokestatic 112, 3) := by decide +kernel
theorem dX11_exam_8 : decode cX11_exam 8 = .ok (.ifCond .eq 13, 3) := by decide +kernel
theorem dX11_exam_11 : decode cX11_exam 11 = .ok (.iload_n 2, 1) := by decide +kernel
theorem dX11_exam_12 : decode cX11_exam 12 = .ok (.iconst 0, 1) := by decide +kernel
theorem dX11_exam_13 : decode cX11_exam 13 = .ok (.bipush 12, 2) := by decide +kernel
theorem dX11_exam_15 : decode cX11_exam 15 = .ok (.invokestatic 112, 3) := by decide +kernel
theorem dX11_exam_18 : decode cX11_exam 18 = .ok (.ifCond .ne 5, 3) := by decide +kernel
theorem dX11_exam_21 : decode cX11_exam 21 = .ok (.iconst 0, 1) := by decide +kernel
theorem dX11_exam_22 : decode cX11_exam 22 = .ok (.ireturn, 1) := by decide +kernel
theorem dX11_exam_23 : decode cX11_exam 23 = .ok (.aload_n 0, 1) := by decide +kernel
theorem dX11_exam_24 : decode cX11_exam 24 = .ok (.getfield 83, 3) := by decide +kernel
theorem dX11_exam_27 : decode cX11_exam 27 = .ok (.iload_n 1, 1) := by decide +kernel
theorem dX11_exam_28 : decode cX11_exam 28 = .ok (.putfield 167, 3) := by decide +kernel
theorem dX11_exam_31 : decode cX11_exam 31 = .ok (.aload_n 0, 1) := by decide +kernel
theorem dX11_exam_32 : decode cX11_exam 32 = .ok (.getfield 83, 3) := by decide +kernel
theorem dX11_exam_35 : decode cX11_exam 35 = .ok (.iload_n 2, 1) := by decide +kernel
theorem dX11_exam_36 : decode cX11_exam 36 = .ok (.putfield 170, 3) := by decide +kernel
theorem dX11_exam_39 : decode cX11_exam 39 = .ok (.iconst 1, 1) := by decide +kernel
theorem dX11_exam_40 : decode cX11_exam 40 = .ok (.ireturn, 1) := by decide +kernel
theorem FP_X11_167 : FPX RX11 167 2 11 5 .int := ⟨⟨RX2, TX2, tyX2, rfl, wX2, by decide, kAW (v_0_14 (List.mem_of_getElem? (i := 13) rfl)) rfl, rfl, tyX2_ok, nmX2, by decide +kernel, rfl⟩, by decide +kernel⟩
theorem FP_X11_170 : FPX RX11 170 2 11 6 .int := ⟨⟨RX2, TX2, tyX2, rfl, wX2, by decide, kAW (v_0_14 (List.mem_of_getElem? (i := 15) rfl)) rfl, rfl, tyX2_ok, nmX2, by decide +kernel, rfl⟩, by decide +kernel⟩
set_option maxRecDepth 100000 in
set_option maxHeartbeats 4000000 in
theorem p_X11_exam (l : Launch) (D : va_G) (cA : Nat → ClassId) (ad : Nat → Nat) (g0 : Nat → va_E) (a b : Int32) (hSh : Shp ad cA g0) (hF : ∀ j, j < NN → g0 j = gF ad cA j) : CT l NN ad cA D yX11_exam cX11_exam 3 (some FieldType.boolean) (1, 22) [.ref (ad 0), .int a, .int b] g0 (fun v g' => ∃ r : Int32, v = some (.int r) ∧ Shp ad cA g' ∧ FR (fun i _ => i < 129) g0 g' ∧ ((r.toInt = 1 ∧ 0 ≤ a.toInt ∧ a.toInt ≤ 4095 ∧ 0 ≤ b.toInt ∧ b.toInt ≤ 12) ∨ (r.toInt = 0 ∧ ¬ (0 ≤ a.toInt ∧ a.toInt ≤ 4095 ∧ 0 ≤ b.toInt ∧ b.toInt ≤ 12)))) := by
  refine q_enterZ (by decide) (Nat.le_of_ble_eq_true rfl) (fun K H locs ls _ _ hM hW0 hR hC hE hl => ?_)
  have hl : lv_has ls 3 [(0, .ref (ad 0)), (1, .int a), (2, .int b)] := hl
  have hW : WS ad cA (fun i k => (i = 80 ∧ (k = 5 ∨ k = 6))) g0 K g0 H locs := ⟨hW0, hSh, FR.rf⟩
  have := kc_0
  have := kc_4095
  have := kc_12
  have f216 : fld g0 80 5 = .int (0 : Int32) := (zf hF (by decide) rfl : fld g0 80 5 = .int (0 : Int32))
  have f217 : fld g0 80 6 = .int (0 : Int32) := (zf hF (by decide) rfl : fld g0 80 6 = .int (0 : Int32))
  refine q_iload_n hM dX11_exam_0 (lv_at hl 1 rfl) ?_
  refine q_iconst (v := (0 : Int32)) hM dX11_exam_1 (by decide) ?_
  refine q_sipush (v := (4095 : Int32)) hM dX11_exam_2 (by decide) ?_
  refine q_callS (As := [.int a, .int (0 : Int32), .int (4095 : Int32)]) (rest := []) hM hW.1 hR hC myX11_within (kAW (v_1_10 (List.mem_of_getElem? (i := 1) rfl)) rfl) (c_X11_within _ _ cA ad g0 a (0 : Int32) (4095 : Int32) hW.2.1) ⟨by decide, by decide⟩ rfl rfl hl.1 (Nat.le_of_ble_eq_true rfl) dX11_exam_5 (fun v g219 H locs hp hW1 => ?_)
  obtain ⟨r218, rfl, hr218, rfl⟩ := hp
  have hW : WS ad cA (fun i k => (i = 80 ∧ (k = 5 ∨ k = 6))) g0 K g0 H locs := ⟨hW1, hW.2.1, hW.2.2⟩
  refine q_if_eq (tgt := 21) hM dX11_exam_8 (by decide) (rfl : r218.toInt = r218.toInt) (fun h8 => ?_) (fun h8 => ?_)
  · refine q_iconst (v := (0 : Int32)) hM dX11_exam_21 (by decide) ?_
    exact hE _ _ _ _ _ _ hW.1 nz_0 ⟨_, rfl, hW.2.1, FR.wk hW.2.2 (fun i k h => by omega), (by have := kc_0; omega)⟩ dX11_exam_22
  · refine q_iload_n hM dX11_exam_11 (lv_at hl 2 rfl) ?_
    refine q_iconst (v := (0 : Int32)) hM dX11_exam_12 (by decide) ?_
    refine q_bipush (v := (12 : Int32)) hM dX11_exam_13 (by decide) ?_
    refine q_callS (As := [.int b, .int (0 : Int32), .int (12 : Int32)]) (rest := []) hM hW.1 hR hC myX11_within (kAW (v_1_10 (List.mem_of_getElem? (i := 1) rfl)) rfl) (c_X11_within _ _ cA ad g0 b (0 : Int32) (12 : Int32) hW.2.1) ⟨by decide, by decide⟩ rfl rfl hl.1 (Nat.le_of_ble_eq_true rfl) dX11_exam_15 (fun v g221 H locs hp hW1 => ?_)
    obtain ⟨r220, rfl, hr220, rfl⟩ := hp
    have hW : WS ad cA (fun i k => (i = 80 ∧ (k = 5 ∨ k = 6))) g0 K g0 H locs := ⟨hW1, hW.2.1, hW.2.2⟩
    refine q_if_ne (tgt := 23) hM dX11_exam_18 (by decide) (rfl : r220.toInt = r220.toInt) (fun h18 => ?_) (fun h18 => ?_)
    · refine q_aload_n hM dX11_exam_23 (lv_at hl 0 rfl) ?_
      refine w_get (v := .ref (ad 80)) hM hW FG_X11_83 lb_0 (rf_0_2 hW.2.1) dX11_exam_24 ?_
      refine q_iload_n hM dX11_exam_27 (lv_at hl 1 rfl) ?_
      refine w_put hM hW FP_X11_167 lb_80 (by omega) (Or.inl ⟨_, rfl⟩) rfl rfl dX11_exam_28 (fun g222 H locs hW e1 e2 => ?_)
      have f223 : fld g222 80 6 = .int (0 : Int32) := (e2.1 80 6 (by unfold Only; omega)).trans f217
      have f224 : fld g222 80 5 = .int a := e1
      refine q_aload_n hM dX11_exam_31 (lv_at hl 0 rfl) ?_
      refine w_get (v := .ref (ad 80)) hM hW FG_X11_83 lb_0 (rf_0_2 hW.2.1) dX11_exam_32 ?_
      refine q_iload_n hM dX11_exam_35 (lv_at hl 2 rfl) ?_
      refine w_put hM hW FP_X11_170 lb_80 (by omega) (Or.inl ⟨_, rfl⟩) rfl rfl dX11_exam_36 (fun g225 H locs hW e1 e2 => ?_)
      have f226 : fld g225 80 5 = .int a := (e2.1 80 5 (by unfold Only; omega)).trans f224
      have f227 : fld g225 80 6 = .int b := e1
      refine q_iconst (v := (1 : Int32)) hM dX11_exam_39 (by decide) ?_
      exact hE _ _ _ _ _ _ hW.1 nz_1 ⟨_, rfl, hW.2.1, FR.wk hW.2.2 (fun i k h => by omega), (by have := kc_1; omega)⟩ dX11_exam_40
    · refine q_iconst (v := (0 : Int32)) hM dX11_exam_21 (by decide) ?_
      exact hE _ _ _ _ _ _ hW.1 nz_0 ⟨_, rfl, hW.2.1, FR.wk hW.2.2 (fun i k h => by omega), (by have := kc_0; omega)⟩ dX11_exam_22

theorem dX11_art_0 : decode cX11_art 0 = .ok (.iload_n 1, 1) := by decide +kernel
theorem dX11_art_1 : decode cX11_art 1 = .ok (.iconst 0, 1) := by decide +kernel
theorem dX11_art_2 : decode cX11_art 2 = .ok (.iconst 5, 1) := by decide +kernel
theorem dX11_art_3 : decode cX11_art 3 = .ok (.invokestatic 112, 3) := by decide +kernel
theorem dX11_art_6 : decode cX11_art 6 = .ok (.ifCond .eq 24, 3) := by decide +kernel
theorem dX11_art_9 : decode cX11_art 9 = .ok (.iload_n 2, 1) := by decide +kernel
theorem dX11_art_10 : decode cX11_art 10 = .ok (.iconst 1, 1) := by decide +kernel
theorem dX11_art_11 : decode cX11_art 11 = .ok (.bipush 60, 2) := by decide +kernel
theorem dX11_art_13 : decode cX11_art 13 = .ok (.invokestatic 112, 3) := by decide +kernel
theorem dX11_art_16 : decode cX11_art 16 = .ok (.ifCond .eq 14, 3) := by decide +kernel
theorem dX11_art_19 : decode cX11_art 19 = .ok (.iload_n 2, 1) := by decide +kernel
theorem dX11_art_20 : decode cX11_art 20 = .ok (.aload_n 0, 1) := by decide +kernel
theorem dX11_art_21 : decode cX11_art 21 = .ok (.getfield 10, 3) := by decide +kernel
theorem dX11_art_24 : decode cX11_art 24 = .ok (.getfield 139, 3) := by decide +kernel
theorem dX11_art_27 : decode cX11_art 27 = .ok (.if_icmp .le 5, 3) := by decide +kernel
theorem dX11_art_30 : decode cX11_art 30 = .ok (.iconst (-1), 1) := by decide +kernel
theorem dX11_art_31 : decode cX11_art 31 = .ok (.ireturn, 1) := by decide +kernel
theorem FG_X11_10 : FG RX11 10 11 16 0 := ⟨RX11, TX11, rfl, wX11, by decide, kAW (v_1_6 (List.mem_of_getElem? (i := 12) rfl)) rfl, rfl⟩
theorem FG_X11_139 : FG RX11 139 10 2 1 := ⟨RX10, TX10, rfl, wX10, by decide, kAW (v_0_2 (List.mem_of_getElem? (i := 6) rfl)) rfl, rfl⟩
set_option maxRecDepth 100000 in
set_option maxHeartbeats 4000000 in
theorem p_X11_art (l : Launch) (D : va_G) (cA : Nat → ClassId) (ad : Nat → Nat) (g0 : Nat → va_E) (a b : Int32) (hSh : Shp ad cA g0) (hF : ∀ j, j < NN → g0 j = gF ad cA j) : CT l NN ad cA D yX11_art cX11_art 4 (some FieldType.int) (1, 22) [.ref (ad 0), .int a, .int b] g0 (fun v g' => ∃ r : Int32, v = some (.int r) ∧ Shp ad cA g' ∧ FR (fun i _ => i < 129) g0 g' ∧ (r.toInt = -1)) := by
  refine q_enterI (by decide) (Nat.le_of_ble_eq_true rfl) rfl (fun K H locs ls _ _ hM hW0 hR hC hE hl => ?_)
  have hl : lv_has ls 4 [(0, .ref (ad 0)), (1, .int a), (2, .int b)] := hl
  have hW : WS ad cA (fun i k => False) g0 K g0 H locs := ⟨hW0, hSh, FR.rf⟩
  have := kc_0
  have := kc_1
  have := kc_5
  have := kc_60
  refine q_iload_n hM dX11_art_0 (lv_at hl 1 rfl) ?_
  refine q_iconst (v := (0 : Int32)) hM dX11_art_1 (by decide) ?_
  refine q_iconst (v := (5 : Int32)) hM dX11_art_2 (by decide) ?_
  refine q_callS (As := [.int a, .int (0 : Int32), .int (5 : Int32)]) (rest := []) hM hW.1 hR hC myX11_within (kAW (v_1_10 (List.mem_of_getElem? (i := 1) rfl)) rfl) (c_X11_within _ _ cA ad g0 a (0 : Int32) (5 : Int32) hW.2.1) ⟨by decide, by decide⟩ rfl rfl hl.1 (Nat.le_of_ble_eq_true rfl) dX11_art_3 (fun v g229 H locs hp hW1 => ?_)
  obtain ⟨r228, rfl, hr228, rfl⟩ := hp
  have hW : WS ad cA (fun i k => False) g0 K g0 H locs := ⟨hW1, hW.2.1, hW.2.2⟩
  refine q_if_eq (tgt := 30) hM dX11_art_6 (by decide) (rfl : r228.toInt = r228.toInt) (fun h6 => ?_) (fun h6 => ?_)
  · refine q_iconst (v := ((-1) : Int32)) hM dX11_art_30 (by decide) ?_
    exact hE _ _ _ _ _ _ hW.1 ⟨_, rfl, hW.2.1, FR.wk hW.2.2 (fun _ _ h => h.elim), (by have := kc_m1; omega)⟩ dX11_art_31
  · refine q_iload_n hM dX11_art_9 (lv_at hl 2 rfl) ?_
    refine q_iconst (v := (1 : Int32)) hM dX11_art_10 (by decide) ?_
    refine q_bipush (v := (60 : Int32)) hM dX11_art_11 (by decide) ?_
    refine q_callS (As := [.int b, .int (1 : Int32), .int (60 : Int32)]) (rest := []) hM hW.1 hR hC myX11_within (kAW (v_1_10 (List.mem_of_getElem? (i := 1) rfl)) rfl) (c_X11_within _ _ cA ad g0 b (1 : Int32) (60 : Int32) hW.2.1) ⟨by decide, by decide⟩ rfl rfl hl.1 (Nat.le_of_ble_eq_true rfl) dX11_art_13 (fun v g231 H locs hp hW1 => ?_)
    obtain ⟨r230, rfl, hr230, rfl⟩ := hp
    have hW : WS ad cA (fun i k => False) g0 K g0 H locs := ⟨hW1, hW.2.1, hW.2.2⟩
    refine q_if_eq (tgt := 30) hM dX11_art_16 (by decide) (rfl : r230.toInt = r230.toInt) (fun h16 => ?_) (fun h16 => ?_)
    · refine q_iconst (v := ((-1) : Int32)) hM dX11_art_30 (by decide) ?_
      exact hE _ _ _ _ _ _ hW.1 ⟨_, rfl, hW.2.1, FR.wk hW.2.2 (fun _ _ h => h.elim), (by have := kc_m1; omega)⟩ dX11_art_31
    · refine q_iload_n hM dX11_art_19 (lv_at hl 2 rfl) ?_
      refine q_aload_n hM dX11_art_20 (lv_at hl 0 rfl) ?_
      refine w_get (v := .ref (ad 1)) hM hW FG_X11_10 lb_0 (rf_0_0 hW.2.1) dX11_art_21 ?_
      refine w_get (v := .int (0 : Int32)) hM hW FG_X11_139 lb_1 ((hW.2.2.1 1 1 (fun h => h)).trans (zf hF (by decide) rfl : fld g0 1 1 = .int (0 : Int32))) dX11_art_24 ?_
      refine q_icmp_le (tgt := 32) hM dX11_art_27 (by decide) (rfl : b.toInt = b.toInt) (kc_0 : (0 : Int32).toInt = 0) (fun h27 => ?_) (fun h27 => ?_)
      · omega
      · refine q_iconst (v := ((-1) : Int32)) hM dX11_art_30 (by decide) ?_
        exact hE _ _ _ _ _ _ hW.1 ⟨_, rfl, hW.2.1, FR.wk hW.2.2 (fun _ _ h => h.elim), (by have := kc_m1; omega)⟩ dX11_art_31

theorem dX11_law_0 : decode cX11_law 0 = .ok (.iload_n 1, 1) := by decide +kernel
theorem dX11_law_1 : decode cX11_law 1 = .ok (.iconst 1, 1) := by decide +kernel
theorem dX11_law_2 : decode cX11_law 2 = .ok (.sipush 240, 3) := by decide +kernel
theorem dX11_law_5 : decode cX11_law 5 = .ok (.invokestatic 112, 3) := by decide +kernel
theorem dX11_law_8 : decode cX11_law 8 = .ok (.ifCond .eq 14, 3) := by decide +kernel
theorem dX11_law_11 : decode cX11_law 11 = .ok (.iload_n 1, 1) := by decide +kernel
theorem dX11_law_12 : decode cX11_law 12 = .ok (.aload_n 0, 1) := by decide +kernel
theorem dX11_law_13 : decode cX11_law 13 = .ok (.getfield 10, 3) := by decide +kernel
theorem dX11_law_16 : decode cX11_law 16 = .ok (.getfield 139, 3) := by decide +kernel
theorem dX11_law_19 : decode cX11_law 19 = .ok (.if_icmp .le 5, 3) := by decide +kernel
theorem dX11_law_22 : decode cX11_law 22 = .ok (.iconst (-1), 1) := by decide +kernel
theorem dX11_law_23 : decode cX11_law 23 = .ok (.ireturn, 1) := by decide +kernel
set_option maxRecDepth 100000 in
set_option maxHeartbeats 4000000 in
theorem p_X11_law (l : Launch) (D : va_G) (cA : Nat → ClassId) (ad : Nat → Nat) (g0 : Nat → va_E) (a : Int32) (hSh : Shp ad cA g0) (hF : ∀ j, j < NN → g0 j = gF ad cA j) : CT l NN ad cA D yX11_law cX11_law 4 (some FieldType.int) (1, 22) [.ref (ad 0), .int a] g0 (fun v g' => ∃ r : Int32, v = some (.int r) ∧ Shp ad cA g' ∧ FR (fun i _ => i < 129) g0 g' ∧ (r.toInt = -1)) := by
  refine q_enterI (by decide) (Nat.le_of_ble_eq_true rfl) rfl (fun K H locs ls _ _ hM hW0 hR hC hE hl => ?_)
  have hl : lv_has ls 4 [(0, .ref (ad 0)), (1, .int a)] := hl
  have hW : WS ad cA (fun i k => False) g0 K g0 H locs := ⟨hW0, hSh, FR.rf⟩
  have := kc_1
  have := kc_240
  have := kc_0
  refine q_iload_n hM dX11_law_0 (lv_at hl 1 rfl) ?_
  refine q_iconst (v := (1 : Int32)) hM dX11_law_1 (by decide) ?_
  refine q_sipush (v := (240 : Int32)) hM dX11_law_2 (by decide) ?_
  refine q_callS (As := [.int a, .int (1 : Int32), .int (240 : Int32)]) (rest := []) hM hW.1 hR hC myX11_within (kAW (v_1_10 (List.mem_of_getElem? (i := 1) rfl)) rfl) (c_X11_within _ _ cA ad g0 a (1 : Int32) (240 : Int32) hW.2.1) ⟨by decide, by decide⟩ rfl rfl hl.1 (Nat.le_of_ble_eq_true rfl) dX11_law_5 (fun v g233 H locs hp hW1 => ?_)
  obtain ⟨r232, rfl, hr232, rfl⟩ := hp
  have hW : WS ad cA (fun i k => False) g0 K g0 H locs := ⟨hW1, hW.2.1, hW.2.2⟩
  refine q_if_eq (tgt := 22) hM dX11_law_8 (by decide) (rfl : r232.toInt = r232.toInt) (fun h8 => ?_) (fun h8 => ?_)
  · refine q_iconst (v := ((-1) : Int32)) hM dX11_law_22 (by decide) ?_
    exact hE _ _ _ _ _ _ hW.1 ⟨_, rfl, hW.2.1, FR.wk hW.2.2 (fun _ _ h => h.elim), (by have := kc_m1; omega)⟩ dX11_law_23
  · refine q_iload_n hM dX11_law_11 (lv_at hl 1 rfl) ?_
    refine q_aload_n hM dX11_law_12 (lv_at hl 0 rfl) ?_
    refine w_get (v := .ref (ad 1)) hM hW FG_X11_10 lb_0 (rf_0_0 hW.2.1) dX11_law_13 ?_
    refine w_get (v := .int (0 : Int32)) hM hW FG_X11_139 lb_1 ((hW.2.2.1 1 1 (fun h => h)).trans (zf hF (by decide) rfl : fld g0 1 1 = .int (0 : Int32))) dX11_law_16 ?_
    refine q_icmp_le (tgt := 24) hM dX11_law_19 (by decide) (rfl : a.toInt = a.toInt) (kc_0 : (0 : Int32).toInt = 0) (fun h19 => ?_) (fun h19 => ?_)
    · omega
    · refine q_iconst (v := ((-1) : Int32)) hM dX11_law_22 (by decide) ?_
      exact hE _ _ _ _ _ _ hW.1 ⟨_, rfl, hW.2.1, FR.wk hW.2.2 (fun _ _ h => h.elim), (by have := kc_m1; omega)⟩ dX11_law_23

theorem dX11_weeks_0 : decode cX11_weeks 0 = .ok (.iload_n 1, 1) := by decide +kernel
theorem dX11_weeks_1 : decode cX11_weeks 1 = .ok (.iconst 1, 1) := by decide +kernel
theorem dX11_weeks_2 : decode cX11_weeks 2 = .ok (.bipush 60, 2) := by decide +kernel
theorem dX11_weeks_4 : decode cX11_weeks 4 = .ok (.invokestatic 112, 3) := by decide +kernel
theorem dX11_weeks_7 : decode cX11_weeks 7 = .ok (.ifCond .ne 5, 3) := by decide +kernel
theorem dX11_weeks_10 : decode cX11_weeks 10 = .ok (.iconst (-1), 1) := by decide +kernel
theorem dX11_weeks_11 : decode cX11_weeks 11 = .ok (.ireturn, 1) := by decide +kernel
theorem dX11_weeks_12 : decode cX11_weeks 12 = .ok (.aload_n 0, 1) := by decide +kernel
theorem dX11_weeks_13 : decode cX11_weeks 13 = .ok (.getfield 26, 3) := by decide +kernel
theorem dX11_weeks_16 : decode cX11_weeks 16 = .ok (.getfield 173, 3) := by decide +kernel
theorem dX11_weeks_19 : decode cX11_weeks 19 = .ok (.istore_n 2, 1) := by decide +kernel
theorem dX11_weeks_20 : decode cX11_weeks 20 = .ok (.aload_n 0, 1) := by decide +kernel
theorem dX11_weeks_21 : decode cX11_weeks 21 = .ok (.getfield 83, 3) := by decide +kernel
theorem dX11_weeks_24 : decode cX11_weeks 24 = .ok (.aload_n 0, 1) := by decide +kernel
theorem dX11_weeks_25 : decode cX11_weeks 25 = .ok (.getfield 39, 3) := by decide +kernel
theorem dX11_weeks_28 : decode cX11_weeks 28 = .ok (.aload_n 0, 1) := by decide +kernel
theorem dX11_weeks_29 : decode cX11_weeks 29 = .ok (.getfield 26, 3) := by decide +kernel
theorem dX11_weeks_32 : decode cX11_weeks 32 = .ok (.invokevirtual 176, 3) := by decide +kernel
theorem dX11_weeks_35 : decode cX11_weeks 35 = .ok (.aload_n 0, 1) := by decide +kernel
theorem dX11_weeks_36 : decode cX11_weeks 36 = .ok (.getfield 83, 3) := by decide +kernel
theorem dX11_weeks_39 : decode cX11_weeks 39 = .ok (.iload_n 1, 1) := by decide +kernel
theorem dX11_weeks_40 : decode cX11_weeks 40 = .ok (.invokevirtual 180, 3) := by decide +kernel
theorem dX11_weeks_43 : decode cX11_weeks 43 = .ok (.aload_n 0, 1) := by decide +kernel
theorem dX11_weeks_44 : decode cX11_weeks 44 = .ok (.getfield 26, 3) := by decide +kernel
theorem dX11_weeks_47 : decode cX11_weeks 47 = .ok (.getfield 173, 3) := by decide +kernel
theorem dX11_weeks_50 : decode cX11_weeks 50 = .ok (.iload_n 2, 1) := by decide +kernel
theorem dX11_weeks_51 : decode cX11_weeks 51 = .ok (.isub, 1) := by decide +kernel
theorem dX11_weeks_52 : decode cX11_weeks 52 = .ok (.ireturn, 1) := by decide +kernel
theorem FG_X11_39 : FG RX11 39 11 16 13 := ⟨RX11, TX11, rfl, wX11, by decide, kAW (v_1_7 (List.mem_of_getElem? (i := 9) rfl)) rfl, rfl⟩
theorem myX2_go : MI yX2_go cX2_go 4 none 1 := ⟨kAW (v_2_10 (List.mem_of_getElem? (i := 2) rfl)) rfl, kAW (v_0_0 (List.mem_of_getElem? (i := 9) rfl)) rfl, kAW (v_2_10 (List.mem_of_getElem? (i := 0) rfl)) rfl, kAW (v_2_10 (List.mem_of_getElem? (i := 1) rfl)) rfl, by decide, by decide, by decide +kernel⟩
set_option maxRecDepth 100000 in
set_option maxHeartbeats 4000000 in
theorem p_X11_weeks (l : Launch) (D : va_G) (cA : Nat → ClassId) (ad : Nat → Nat) (g0 : Nat → va_E) (a : Int32) (hSh : Shp ad cA g0) (hF : ∀ j, j < NN → g0 j = gF ad cA j) : CT l NN ad cA D yX11_weeks cX11_weeks 3 (some FieldType.int) (2, 44) [.ref (ad 0), .int a] g0 (fun v g' => ∃ r : Int32, v = some (.int r) ∧ Shp ad cA g' ∧ FR (fun i _ => i < 129) g0 g' ∧ (((1 ≤ a.toInt ∧ a.toInt ≤ 60) ∧ r.toInt = 0) ∨ (¬ (1 ≤ a.toInt ∧ a.toInt ≤ 60) ∧ r.toInt = -1))) := by
  refine q_enterI (by decide) (Nat.le_of_ble_eq_true rfl) rfl (fun K H locs ls _ _ hM hW0 hR hC hE hl => ?_)
  have hl : lv_has ls 3 [(0, .ref (ad 0)), (1, .int a)] := hl
  have hW : WS ad cA (fun i k => (i = 18 ∧ (k = 4)) ∨ (i = 80 ∧ (k = 7 ∨ k = 8 ∨ k = 9 ∨ k = 10))) g0 K g0 H locs := ⟨hW0, hSh, FR.rf⟩
  have := kc_0
  have := kc_1
  have := kc_60
  have := kc_m1
  have f234 : fld g0 18 4 = .int (0 : Int32) := (zf hF (by decide) rfl : fld g0 18 4 = .int (0 : Int32))
  have f235 : fld g0 80 7 = .int (0 : Int32) := (zf hF (by decide) rfl : fld g0 80 7 = .int (0 : Int32))
  have f236 : fld g0 80 8 = .int (0 : Int32) := (zf hF (by decide) rfl : fld g0 80 8 = .int (0 : Int32))
  have f237 : fld g0 80 9 = .ref (ad 54) := (zf hF (by decide) rfl : fld g0 80 9 = .ref (ad 54))
  have f238 : fld g0 80 10 = .ref (ad 18) := (zf hF (by decide) rfl : fld g0 80 10 = .ref (ad 18))
  refine q_iload_n hM dX11_weeks_0 (lv_at hl 1 rfl) ?_
  refine q_iconst (v := (1 : Int32)) hM dX11_weeks_1 (by decide) ?_
  refine q_bipush (v := (60 : Int32)) hM dX11_weeks_2 (by decide) ?_
  refine q_callS (As := [.int a, .int (1 : Int32), .int (60 : Int32)]) (rest := []) hM hW.1 hR hC myX11_within (kAW (v_1_10 (List.mem_of_getElem? (i := 1) rfl)) rfl) (c_X11_within _ _ cA ad g0 a (1 : Int32) (60 : Int32) hW.2.1) ⟨by decide, by decide⟩ rfl rfl hl.1 (Nat.le_of_ble_eq_true rfl) dX11_weeks_4 (fun v g240 H locs hp hW1 => ?_)
  obtain ⟨r239, rfl, hr239, rfl⟩ := hp
  have hW : WS ad cA (fun i k => (i = 18 ∧ (k = 4)) ∨ (i = 80 ∧ (k = 7 ∨ k = 8 ∨ k = 9 ∨ k = 10))) g0 K g0 H locs := ⟨hW1, hW.2.1, hW.2.2⟩
  refine q_if_ne (tgt := 12) hM dX11_weeks_7 (by decide) (rfl : r239.toInt = r239.toInt) (fun h7 => ?_) (fun h7 => ?_)
  · refine q_aload_n hM dX11_weeks_12 (lv_at hl 0 rfl) ?_
    refine w_get (v := .ref (ad 18)) hM hW FG_X11_26 lb_0 (rf_0_10 hW.2.1) dX11_weeks_13 ?_
    refine w_get (v := .int (0 : Int32)) hM hW FG_X11_173 lb_18 ((hW.2.2.1 18 5 (by omega)).trans (zf hF (by decide) rfl : fld g0 18 5 = .int (0 : Int32))) dX11_weeks_16 ?_
    refine q_istore_n (lv9 := [(2, .int (0 : Int32)), (0, .ref (ad 0)), (1, .int a)]) hM dX11_weeks_19 hl (by decide) rfl (fun ls hl => ?_)
    refine q_aload_n hM dX11_weeks_20 (lv_at hl 1 rfl) ?_
    refine w_get (v := .ref (ad 80)) hM hW FG_X11_83 lb_0 (rf_0_2 hW.2.1) dX11_weeks_21 ?_
    refine q_aload_n hM dX11_weeks_24 (lv_at hl 1 rfl) ?_
    refine w_get (v := .ref (ad 54)) hM hW FG_X11_39 lb_0 ((hW.2.2.1 0 13 (by omega)).trans (zf hF (by decide) rfl : fld g0 0 13 = .ref (ad 54))) dX11_weeks_25 ?_
    refine q_aload_n hM dX11_weeks_28 (lv_at hl 1 rfl) ?_
    refine w_get (v := .ref (ad 18)) hM hW FG_X11_26 lb_0 (rf_0_10 hW.2.1) dX11_weeks_29 ?_
    refine q_callV (As := [.ref (ad 54), .ref (ad 18)]) (rest := []) hM hW.1 hR hC myX2_begin (kAW (v_2_9 (List.mem_of_getElem? (i := 11) rfl)) rfl) (rfl : vwCl[2]? = some (RX2, TX2, 11)) rfl lb_80.1 (shO hW.2.1 lb_80) (c_X2_begin _ _ cA ad g0 54 18 hW.2.1) ⟨by decide, by decide⟩ rfl rfl hl.1 (Nat.le_of_ble_eq_true rfl) dX11_weeks_32 (fun v g245 H locs hp hW1 => ?_)
    obtain ⟨rfl, hs1, hf1, q241, q242, q243, q244⟩ := hp
    have f246 : fld g245 18 4 = .int (0 : Int32) := (hf1.1 18 4 (by omega)).trans f234
    have hW : WS ad cA (fun i k => (i = 18 ∧ (k = 4)) ∨ (i = 80 ∧ (k = 7 ∨ k = 8 ∨ k = 9 ∨ k = 10))) g0 K g245 H locs := ⟨hW1, hs1, hW.2.2.tr hf1 (fun i k h => by omega)⟩
    refine q_aload_n hM dX11_weeks_35 (lv_at hl 1 rfl) ?_
    refine w_get (v := .ref (ad 80)) hM hW FG_X11_83 lb_0 (rf_0_2 hW.2.1) dX11_weeks_36 ?_
    refine q_iload_n hM dX11_weeks_39 (lv_at hl 2 rfl) ?_
    refine q_callV (As := [.int a]) (rest := []) hM hW.1 hR hC myX2_go (kAW (v_2_9 (List.mem_of_getElem? (i := 15) rfl)) rfl) (rfl : vwCl[2]? = some (RX2, TX2, 11)) rfl lb_80.1 (shO hW.2.1 lb_80) (c_X2_go_18 _ _ cA ad g245 a (0 : Int32) hW.2.1 q244 ((hW.2.2.1 18 3 (by omega)).trans (zf hF (by decide) rfl : fld g0 18 3 = .int (0 : Int32))) f246 (by have := kc_0; omega)) ⟨by decide, by decide⟩ rfl rfl hl.1 (Nat.le_of_ble_eq_true rfl) dX11_weeks_40 (fun v g249 H locs hp hW1 => ?_)
    obtain ⟨v247, rfl, hs1, hf1, q248⟩ := hp
    have f250 : fld g249 80 7 = .int (0 : Int32) := (hf1.1 80 7 (by omega)).trans q241
    have f251 : fld g249 80 8 = .int (0 : Int32) := (hf1.1 80 8 (by omega)).trans q242
    have f252 : fld g249 80 9 = .ref (ad 54) := (hf1.1 80 9 (by omega)).trans q243
    have f253 : fld g249 80 10 = .ref (ad 18) := (hf1.1 80 10 (by omega)).trans q244
    have hW : WS ad cA (fun i k => (i = 18 ∧ (k = 4)) ∨ (i = 80 ∧ (k = 7 ∨ k = 8 ∨ k = 9 ∨ k = 10))) g0 K g249 H locs := ⟨hW1, hs1, hW.2.2.tr hf1 (fun i k h => by omega)⟩
    refine q_aload_n hM dX11_weeks_43 (lv_at hl 1 rfl) ?_
    refine w_get (v := .ref (ad 18)) hM hW FG_X11_26 lb_0 (rf_0_10 hW.2.1) dX11_weeks_44 ?_
    refine w_get (v := .int (0 : Int32)) hM hW FG_X11_173 lb_18 ((hW.2.2.1 18 5 (by omega)).trans (zf hF (by decide) rfl : fld g0 18 5 = .int (0 : Int32))) dX11_weeks_47 ?_
    refine q_iload_n hM dX11_weeks_50 (lv_at hl 0 rfl) ?_
    refine q_isub hM dX11_weeks_51 (fun z254 hz254 => ?_)
    have tz254 := i_subT hz254 (kc_0 : (0 : Int32).toInt = 0) (kc_0 : (0 : Int32).toInt = 0) (by omega) (by omega)
    exact hE _ _ _ _ _ _ hW.1 ⟨_, rfl, hW.2.1, FR.wk hW.2.2 (fun i k h => by omega), (by omega)⟩ dX11_weeks_52
  · refine q_iconst (v := ((-1) : Int32)) hM dX11_weeks_10 (by decide) ?_
    exact hE _ _ _ _ _ _ hW.1 ⟨_, rfl, hW.2.1, FR.wk hW.2.2 (fun i k h => by omega), (by have := kc_m1; omega)⟩ dX11_weeks_11

theorem dX11_does_0 : decode cX11_does 0 = .ok (.aload_n 0, 1) := by decide +kernel
theorem dX11_does_1 : decode cX11_does 1 = .ok (.getfield 26, 3) := by decide +kernel
theorem dX11_does_4 : decode cX11_does 4 = .ok (.getfield 135, 3) := by decide +kernel
theorem dX11_does_7 : decode cX11_does 7 = .ok (.iload_n 1, 1) := by decide +kernel
theorem dX11_does_8 : decode cX11_does 8 = .ok (.invokestatic 123, 3) := by decide +kernel
theorem dX11_does_11 : decode cX11_does 11 = .ok (.ifCond .eq 17, 3) := by decide +kernel
theorem dX11_does_28 : decode cX11_does 28 = .ok (.iconst (-1), 1) := by decide +kernel
theorem dX11_does_29 : decode cX11_does 29 = .ok (.ireturn, 1) := by decide +kernel
set_option maxRecDepth 100000 in
set_option maxHeartbeats 4000000 in
theorem p_X11_does (l : Launch) (D : va_G) (cA : Nat → ClassId) (ad : Nat → Nat) (g0 : Nat → va_E) (a b : Int32) (hSh : Shp ad cA g0) (hF : ∀ j, j < NN → g0 j = gF ad cA j) : CT l NN ad cA D yX11_does cX11_does 3 (some FieldType.int) (1, 21) [.ref (ad 0), .int a, .int b] g0 (fun v g' => ∃ r : Int32, v = some (.int r) ∧ Shp ad cA g' ∧ FR (fun i _ => i < 129) g0 g' ∧ (r.toInt = -1)) := by
  refine q_enterI (by decide) (Nat.le_of_ble_eq_true rfl) rfl (fun K H locs ls _ _ hM hW0 hR hC hE hl => ?_)
  have hl : lv_has ls 3 [(0, .ref (ad 0)), (1, .int a), (2, .int b)] := hl
  have hW : WS ad cA (fun i k => False) g0 K g0 H locs := ⟨hW0, hSh, FR.rf⟩
  have := kc_1
  have := kc_60
  refine q_aload_n hM dX11_does_0 (lv_at hl 0 rfl) ?_
  refine w_get (v := .ref (ad 18)) hM hW FG_X11_26 lb_0 (rf_0_10 hW.2.1) dX11_does_1 ?_
  refine w_get (v := .int (0 : Int32)) hM hW FG_X11_135 lb_18 ((hW.2.2.1 18 3 (fun h => h)).trans (zf hF (by decide) rfl : fld g0 18 3 = .int (0 : Int32))) dX11_does_4 ?_
  refine q_iload_n hM dX11_does_7 (lv_at hl 1 rfl) ?_
  refine q_callS (As := [.int (0 : Int32), .int a]) (rest := []) hM hW.1 hR hC myX11_has (kAW (v_1_10 (List.mem_of_getElem? (i := 8) rfl)) rfl) (c_X11_has _ _ cA ad g0 (0 : Int32) a hW.2.1) ⟨by decide, by decide⟩ rfl rfl hl.1 (Nat.le_of_ble_eq_true rfl) dX11_does_8 (fun v g256 H locs hp hW1 => ?_)
  obtain ⟨r255, rfl, hr255, rfl⟩ := hp
  have hW : WS ad cA (fun i k => False) g0 K g0 H locs := ⟨hW1, hW.2.1, hW.2.2⟩
  have kr255 : r255.toInt = 0 := has_r0 hr255
  refine q_if_eq (tgt := 28) hM dX11_does_11 (by decide) (kr255 : r255.toInt = 0) (fun h11 => ?_) (fun h11 => ?_)
  · refine q_iconst (v := ((-1) : Int32)) hM dX11_does_28 (by decide) ?_
    exact hE _ _ _ _ _ _ hW.1 ⟨_, rfl, hW.2.1, FR.wk hW.2.2 (fun _ _ h => h.elim), (by have := kc_m1; omega)⟩ dX11_does_29
  · omega

theorem dX11_pupilIs_0 : decode cX11_pupilIs 0 = .ok (.aload_n 0, 1) := by decide +kernel
theorem dX11_pupilIs_1 : decode cX11_pupilIs 1 = .ok (.getfield 26, 3) := by decide +kernel
theorem dX11_pupilIs_4 : decode cX11_pupilIs 4 = .ok (.getfield 135, 3) := by decide +kernel
theorem dX11_pupilIs_7 : decode cX11_pupilIs 7 = .ok (.iload_n 1, 1) := by decide +kernel
theorem dX11_pupilIs_8 : decode cX11_pupilIs 8 = .ok (.invokestatic 123, 3) := by decide +kernel
theorem dX11_pupilIs_11 : decode cX11_pupilIs 11 = .ok (.ifCond .ne 5, 3) := by decide +kernel
theorem dX11_pupilIs_14 : decode cX11_pupilIs 14 = .ok (.iconst (-1), 1) := by decide +kernel
theorem dX11_pupilIs_15 : decode cX11_pupilIs 15 = .ok (.ireturn, 1) := by decide +kernel
set_option maxRecDepth 100000 in
set_option maxHeartbeats 4000000 in
theorem p_X11_pupilIs (l : Launch) (D : va_G) (cA : Nat → ClassId) (ad : Nat → Nat) (g0 : Nat → va_E) (a b : Int32) (hSh : Shp ad cA g0) (hF : ∀ j, j < NN → g0 j = gF ad cA j) : CT l NN ad cA D yX11_pupilIs cX11_pupilIs 3 (some FieldType.int) (1, 21) [.ref (ad 0), .int a, .int b] g0 (fun v g' => ∃ r : Int32, v = some (.int r) ∧ Shp ad cA g' ∧ FR (fun i _ => i < 129) g0 g' ∧ (r.toInt = -1)) := by
  refine q_enterI (by decide) (Nat.le_of_ble_eq_true rfl) rfl (fun K H locs ls _ _ hM hW0 hR hC hE hl => ?_)
  have hl : lv_has ls 3 [(0, .ref (ad 0)), (1, .int a), (2, .int b)] := hl
  have hW : WS ad cA (fun i k => False) g0 K g0 H locs := ⟨hW0, hSh, FR.rf⟩
  have := kc_1
  have := kc_60
  refine q_aload_n hM dX11_pupilIs_0 (lv_at hl 0 rfl) ?_
  refine w_get (v := .ref (ad 18)) hM hW FG_X11_26 lb_0 (rf_0_10 hW.2.1) dX11_pupilIs_1 ?_
  refine w_get (v := .int (0 : Int32)) hM hW FG_X11_135 lb_18 ((hW.2.2.1 18 3 (fun h => h)).trans (zf hF (by decide) rfl : fld g0 18 3 = .int (0 : Int32))) dX11_pupilIs_4 ?_
  refine q_iload_n hM dX11_pupilIs_7 (lv_at hl 1 rfl) ?_
  refine q_callS (As := [.int (0 : Int32), .int a]) (rest := []) hM hW.1 hR hC myX11_has (kAW (v_1_10 (List.mem_of_getElem? (i := 8) rfl)) rfl) (c_X11_has _ _ cA ad g0 (0 : Int32) a hW.2.1) ⟨by decide, by decide⟩ rfl rfl hl.1 (Nat.le_of_ble_eq_true rfl) dX11_pupilIs_8 (fun v g258 H locs hp hW1 => ?_)
  obtain ⟨r257, rfl, hr257, rfl⟩ := hp
  have hW : WS ad cA (fun i k => False) g0 K g0 H locs := ⟨hW1, hW.2.1, hW.2.2⟩
  have kr257 : r257.toInt = 0 := has_r0 hr257
  refine q_if_ne (tgt := 16) hM dX11_pupilIs_11 (by decide) (kr257 : r257.toInt = 0) (fun h11 => ?_) (fun h11 => ?_)
  · omega
  · refine q_iconst (v := ((-1) : Int32)) hM dX11_pupilIs_14 (by decide) ?_
    exact hE _ _ _ _ _ _ hW.1 ⟨_, rfl, hW.2.1, FR.wk hW.2.2 (fun _ _ h => h.elim), (by have := kc_m1; omega)⟩ dX11_pupilIs_15

theorem dX11_strength_0 : decode cX11_strength 0 = .ok (.aload_n 0, 1) := by decide +kernel
theorem dX11_strength_1 : decode cX11_strength 1 = .ok (.getfield 26, 3) := by decide +kernel
theorem dX11_strength_4 : decode cX11_strength 4 = .ok (.getfield 135, 3) := by decide +kernel
theorem dX11_strength_7 : decode cX11_strength 7 = .ok (.iload_n 1, 1) := by decide +kernel
theorem dX11_strength_8 : decode cX11_strength 8 = .ok (.invokestatic 123, 3) := by decide +kernel
theorem dX11_strength_11 : decode cX11_strength 11 = .ok (.ifCond .eq 31, 3) := by decide +kernel
theorem dX11_strength_42 : decode cX11_strength 42 = .ok (.iconst (-1), 1) := by decide +kernel
theorem dX11_strength_43 : decode cX11_strength 43 = .ok (.ireturn, 1) := by decide +kernel
set_option maxRecDepth 100000 in
set_option maxHeartbeats 4000000 in
theorem p_X11_strength (l : Launch) (D : va_G) (cA : Nat → ClassId) (ad : Nat → Nat) (g0 : Nat → va_E) (a b : Int32) (hSh : Shp ad cA g0) (hF : ∀ j, j < NN → g0 j = gF ad cA j) : CT l NN ad cA D yX11_strength cX11_strength 3 (some FieldType.int) (1, 21) [.ref (ad 0), .int a, .int b] g0 (fun v g' => ∃ r : Int32, v = some (.int r) ∧ Shp ad cA g' ∧ FR (fun i _ => i < 129) g0 g' ∧ (r.toInt = -1)) := by
  refine q_enterI (by decide) (Nat.le_of_ble_eq_true rfl) rfl (fun K H locs ls _ _ hM hW0 hR hC hE hl => ?_)
  have hl : lv_has ls 3 [(0, .ref (ad 0)), (1, .int a), (2, .int b)] := hl
  have hW : WS ad cA (fun i k => False) g0 K g0 H locs := ⟨hW0, hSh, FR.rf⟩
  have := kc_1
  have := kc_60
  refine q_aload_n hM dX11_strength_0 (lv_at hl 0 rfl) ?_
  refine w_get (v := .ref (ad 18)) hM hW FG_X11_26 lb_0 (rf_0_10 hW.2.1) dX11_strength_1 ?_
  refine w_get (v := .int (0 : Int32)) hM hW FG_X11_135 lb_18 ((hW.2.2.1 18 3 (fun h => h)).trans (zf hF (by decide) rfl : fld g0 18 3 = .int (0 : Int32))) dX11_strength_4 ?_
  refine q_iload_n hM dX11_strength_7 (lv_at hl 1 rfl) ?_
  refine q_callS (As := [.int (0 : Int32), .int a]) (rest := []) hM hW.1 hR hC myX11_has (kAW (v_1_10 (List.mem_of_getElem? (i := 8) rfl)) rfl) (c_X11_has _ _ cA ad g0 (0 : Int32) a hW.2.1) ⟨by decide, by decide⟩ rfl rfl hl.1 (Nat.le_of_ble_eq_true rfl) dX11_strength_8 (fun v g260 H locs hp hW1 => ?_)
  obtain ⟨r259, rfl, hr259, rfl⟩ := hp
  have hW : WS ad cA (fun i k => False) g0 K g0 H locs := ⟨hW1, hW.2.1, hW.2.2⟩
  have kr259 : r259.toInt = 0 := has_r0 hr259
  refine q_if_eq (tgt := 42) hM dX11_strength_11 (by decide) (kr259 : r259.toInt = 0) (fun h11 => ?_) (fun h11 => ?_)
  · refine q_iconst (v := ((-1) : Int32)) hM dX11_strength_42 (by decide) ?_
    exact hE _ _ _ _ _ _ hW.1 ⟨_, rfl, hW.2.1, FR.wk hW.2.2 (fun _ _ h => h.elim), (by have := kc_m1; omega)⟩ dX11_strength_43
  · omega

theorem dX11_heard_0 : decode cX11_heard 0 = .ok (.aload_n 0, 1) := by decide +kernel
theorem dX11_heard_1 : decode cX11_heard 1 = .ok (.getfield 26, 3) := by decide +kernel
theorem dX11_heard_4 : decode cX11_heard 4 = .ok (.getfield 135, 3) := by decide +kernel
theorem dX11_heard_7 : decode cX11_heard 7 = .ok (.iload_n 1, 1) := by decide +kernel
theorem dX11_heard_8 : decode cX11_heard 8 = .ok (.invokestatic 123, 3) := by decide +kernel
theorem dX11_heard_11 : decode cX11_heard 11 = .ok (.ifCond .eq 37, 3) := by decide +kernel
theorem dX11_heard_48 : decode cX11_heard 48 = .ok (.iconst (-1), 1) := by decide +kernel
theorem dX11_heard_49 : decode cX11_heard 49 = .ok (.ireturn, 1) := by decide +kernel
set_option maxRecDepth 100000 in
set_option maxHeartbeats 4000000 in
theorem p_X11_heard (l : Launch) (D : va_G) (cA : Nat → ClassId) (ad : Nat → Nat) (g0 : Nat → va_E) (a b : Int32) (hSh : Shp ad cA g0) (hF : ∀ j, j < NN → g0 j = gF ad cA j) : CT l NN ad cA D yX11_heard cX11_heard 3 (some FieldType.int) (1, 21) [.ref (ad 0), .int a, .int b] g0 (fun v g' => ∃ r : Int32, v = some (.int r) ∧ Shp ad cA g' ∧ FR (fun i _ => i < 129) g0 g' ∧ (r.toInt = -1)) := by
  refine q_enterI (by decide) (Nat.le_of_ble_eq_true rfl) rfl (fun K H locs ls _ _ hM hW0 hR hC hE hl => ?_)
  have hl : lv_has ls 3 [(0, .ref (ad 0)), (1, .int a), (2, .int b)] := hl
  have hW : WS ad cA (fun i k => False) g0 K g0 H locs := ⟨hW0, hSh, FR.rf⟩
  have := kc_1
  have := kc_60
  refine q_aload_n hM dX11_heard_0 (lv_at hl 0 rfl) ?_
  refine w_get (v := .ref (ad 18)) hM hW FG_X11_26 lb_0 (rf_0_10 hW.2.1) dX11_heard_1 ?_
  refine w_get (v := .int (0 : Int32)) hM hW FG_X11_135 lb_18 ((hW.2.2.1 18 3 (fun h => h)).trans (zf hF (by decide) rfl : fld g0 18 3 = .int (0 : Int32))) dX11_heard_4 ?_
  refine q_iload_n hM dX11_heard_7 (lv_at hl 1 rfl) ?_
  refine q_callS (As := [.int (0 : Int32), .int a]) (rest := []) hM hW.1 hR hC myX11_has (kAW (v_1_10 (List.mem_of_getElem? (i := 8) rfl)) rfl) (c_X11_has _ _ cA ad g0 (0 : Int32) a hW.2.1) ⟨by decide, by decide⟩ rfl rfl hl.1 (Nat.le_of_ble_eq_true rfl) dX11_heard_8 (fun v g262 H locs hp hW1 => ?_)
  obtain ⟨r261, rfl, hr261, rfl⟩ := hp
  have hW : WS ad cA (fun i k => False) g0 K g0 H locs := ⟨hW1, hW.2.1, hW.2.2⟩
  have kr261 : r261.toInt = 0 := has_r0 hr261
  refine q_if_eq (tgt := 48) hM dX11_heard_11 (by decide) (kr261 : r261.toInt = 0) (fun h11 => ?_) (fun h11 => ?_)
  · refine q_iconst (v := ((-1) : Int32)) hM dX11_heard_48 (by decide) ?_
    exact hE _ _ _ _ _ _ hW.1 ⟨_, rfl, hW.2.1, FR.wk hW.2.2 (fun _ _ h => h.elim), (by have := kc_m1; omega)⟩ dX11_heard_49
  · omega

theorem dX11_order_0 : decode cX11_order 0 = .ok (.aload_n 0, 1) := by decide +kernel
theorem dX11_order_1 : decode cX11_order 1 = .ok (.getfield 26, 3) := by decide +kernel
theorem dX11_order_4 : decode cX11_order 4 = .ok (.getfield 135, 3) := by decide +kernel
theorem dX11_order_7 : decode cX11_order 7 = .ok (.iload_n 1, 1) := by decide +kernel
theorem dX11_order_8 : decode cX11_order 8 = .ok (.invokestatic 123, 3) := by decide +kernel
theorem dX11_order_11 : decode cX11_order 11 = .ok (.ifCond .eq 65, 3) := by decide +kernel
theorem dX11_order_76 : decode cX11_order 76 = .ok (.iconst (-1), 1) := by decide +kernel
theorem dX11_order_77 : decode cX11_order 77 = .ok (.ireturn, 1) := by decide +kernel
set_option maxRecDepth 100000 in
set_option maxHeartbeats 4000000 in
theorem p_X11_order (l : Launch) (D : va_G) (cA : Nat → ClassId) (ad : Nat → Nat) (g0 : Nat → va_E) (a b c d e : Int32) (hSh : Shp ad cA g0) (hF : ∀ j, j < NN → g0 j = gF ad cA j) : CT l NN ad cA D yX11_order cX11_order 7 (some FieldType.int) (1, 21) [.ref (ad 0), .int a, .int b, .int c, .int d, .int e] g0 (fun v g' => ∃ r : Int32, v = some (.int r) ∧ Shp ad cA g' ∧ FR (fun i _ => i < 129) g0 g' ∧ (r.toInt = -1)) := by
  refine q_enterI (by decide) (Nat.le_of_ble_eq_true rfl) rfl (fun K H locs ls _ _ hM hW0 hR hC hE hl => ?_)
  have hl : lv_has ls 7 [(0, .ref (ad 0)), (1, .int a), (2, .int b), (3, .int c), (4, .int d), (5, .int e)] := hl
  have hW : WS ad cA (fun i k => False) g0 K g0 H locs := ⟨hW0, hSh, FR.rf⟩
  have := kc_1
  have := kc_60
  refine q_aload_n hM dX11_order_0 (lv_at hl 0 rfl) ?_
  refine w_get (v := .ref (ad 18)) hM hW FG_X11_26 lb_0 (rf_0_10 hW.2.1) dX11_order_1 ?_
  refine w_get (v := .int (0 : Int32)) hM hW FG_X11_135 lb_18 ((hW.2.2.1 18 3 (fun h => h)).trans (zf hF (by decide) rfl : fld g0 18 3 = .int (0 : Int32))) dX11_order_4 ?_
  refine q_iload_n hM dX11_order_7 (lv_at hl 1 rfl) ?_
  refine q_callS (As := [.int (0 : Int32), .int a]) (rest := []) hM hW.1 hR hC myX11_has (kAW (v_1_10 (List.mem_of_getElem? (i := 8) rfl)) rfl) (c_X11_has _ _ cA ad g0 (0 : Int32) a hW.2.1) ⟨by decide, by decide⟩ rfl rfl hl.1 (Nat.le_of_ble_eq_true rfl) dX11_order_8 (fun v g264 H locs hp hW1 => ?_)
  obtain ⟨r263, rfl, hr263, rfl⟩ := hp
  have hW : WS ad cA (fun i k => False) g0 K g0 H locs := ⟨hW1, hW.2.1, hW.2.2⟩
  have kr263 : r263.toInt = 0 := has_r0 hr263
  refine q_if_eq (tgt := 76) hM dX11_order_11 (by decide) (kr263 : r263.toInt = 0) (fun h11 => ?_) (fun h11 => ?_)
  · refine q_iconst (v := ((-1) : Int32)) hM dX11_order_76 (by decide) ?_
    exact hE _ _ _ _ _ _ hW.1 ⟨_, rfl, hW.2.1, FR.wk hW.2.2 (fun _ _ h => h.elim), (by have := kc_m1; omega)⟩ dX11_order_77
  · omega

theorem dX11_still_0 : decode cX11_still 0 = .ok (.aload_n 0, 1) := by decide +kernel
theorem dX11_still_1 : decode cX11_still 1 = .ok (.getfield 26, 3) := by decide +kernel
theorem dX11_still_4 : decode cX11_still 4 = .ok (.getfield 135, 3) := by decide +kernel
theorem dX11_still_7 : decode cX11_still 7 = .ok (.iload_n 1, 1) := by decide +kernel
theorem dX11_still_8 : decode cX11_still 8 = .ok (.invokestatic 123, 3) := by decide +kernel
theorem dX11_still_11 : decode cX11_still 11 = .ok (.ifCond .eq 26, 3) := by decide +kernel
theorem dX11_still_37 : decode cX11_still 37 = .ok (.iconst (-1), 1) := by decide +kernel
theorem dX11_still_38 : decode cX11_still 38 = .ok (.ireturn, 1) := by decide +kernel
set_option maxRecDepth 100000 in
set_option maxHeartbeats 4000000 in
theorem p_X11_still (l : Launch) (D : va_G) (cA : Nat → ClassId) (ad : Nat → Nat) (g0 : Nat → va_E) (a b c : Int32) (hSh : Shp ad cA g0) (hF : ∀ j, j < NN → g0 j = gF ad cA j) : CT l NN ad cA D yX11_still cX11_still 5 (some FieldType.int) (1, 21) [.ref (ad 0), .int a, .int b, .int c] g0 (fun v g' => ∃ r : Int32, v = some (.int r) ∧ Shp ad cA g' ∧ FR (fun i _ => i < 129) g0 g' ∧ (r.toInt = -1)) := by
  refine q_enterI (by decide) (Nat.le_of_ble_eq_true rfl) rfl (fun K H locs ls _ _ hM hW0 hR hC hE hl => ?_)
  have hl : lv_has ls 5 [(0, .ref (ad 0)), (1, .int a), (2, .int b), (3, .int c)] := hl
  have hW : WS ad cA (fun i k => False) g0 K g0 H locs := ⟨hW0, hSh, FR.rf⟩
  have := kc_1
  have := kc_60
  refine q_aload_n hM dX11_still_0 (lv_at hl 0 rfl) ?_
  refine w_get (v := .ref (ad 18)) hM hW FG_X11_26 lb_0 (rf_0_10 hW.2.1) dX11_still_1 ?_
  refine w_get (v := .int (0 : Int32)) hM hW FG_X11_135 lb_18 ((hW.2.2.1 18 3 (fun h => h)).trans (zf hF (by decide) rfl : fld g0 18 3 = .int (0 : Int32))) dX11_still_4 ?_
  refine q_iload_n hM dX11_still_7 (lv_at hl 1 rfl) ?_
  refine q_callS (As := [.int (0 : Int32), .int a]) (rest := []) hM hW.1 hR hC myX11_has (kAW (v_1_10 (List.mem_of_getElem? (i := 8) rfl)) rfl) (c_X11_has _ _ cA ad g0 (0 : Int32) a hW.2.1) ⟨by decide, by decide⟩ rfl rfl hl.1 (Nat.le_of_ble_eq_true rfl) dX11_still_8 (fun v g266 H locs hp hW1 => ?_)
  obtain ⟨r265, rfl, hr265, rfl⟩ := hp
  have hW : WS ad cA (fun i k => False) g0 K g0 H locs := ⟨hW1, hW.2.1, hW.2.2⟩
  have kr265 : r265.toInt = 0 := has_r0 hr265
  refine q_if_eq (tgt := 37) hM dX11_still_11 (by decide) (kr265 : r265.toInt = 0) (fun h11 => ?_) (fun h11 => ?_)
  · refine q_iconst (v := ((-1) : Int32)) hM dX11_still_37 (by decide) ?_
    exact hE _ _ _ _ _ _ hW.1 ⟨_, rfl, hW.2.1, FR.wk hW.2.2 (fun _ _ h => h.elim), (by have := kc_m1; omega)⟩ dX11_still_38
  · omega

theorem dX11_cut_0 : decode cX11_cut 0 = .ok (.aload_n 0, 1) := by decide +kernel
theorem dX11_cut_1 : decode cX11_cut 1 = .ok (.getfield 19, 3) := by decide +kernel
theorem dX11_cut_4 : decode cX11_cut 4 = .ok (.getfield 116, 3) := by decide +kernel
theorem dX11_cut_7 : decode cX11_cut 7 = .ok (.iload_n 1, 1) := by decide +kernel
theorem dX11_cut_8 : decode cX11_cut 8 = .ok (.invokestatic 123, 3) := by decide +kernel
theorem dX11_cut_11 : decode cX11_cut 11 = .ok (.ifCond .eq 31, 3) := by decide +kernel
theorem dX11_cut_42 : decode cX11_cut 42 = .ok (.iconst (-1), 1) := by decide +kernel
theorem dX11_cut_43 : decode cX11_cut 43 = .ok (.ireturn, 1) := by decide +kernel
set_option maxRecDepth 100000 in
set_option maxHeartbeats 4000000 in
theorem p_X11_cut (l : Launch) (D : va_G) (cA : Nat → ClassId) (ad : Nat → Nat) (g0 : Nat → va_E) (a b c : Int32) (hSh : Shp ad cA g0) (hF : ∀ j, j < NN → g0 j = gF ad cA j) : CT l NN ad cA D yX11_cut cX11_cut 5 (some FieldType.int) (1, 21) [.ref (ad 0), .int a, .int b, .int c] g0 (fun v g' => ∃ r : Int32, v = some (.int r) ∧ Shp ad cA g' ∧ FR (fun i _ => i < 129) g0 g' ∧ (r.toInt = -1)) := by
  refine q_enterI (by decide) (Nat.le_of_ble_eq_true rfl) rfl (fun K H locs ls _ _ hM hW0 hR hC hE hl => ?_)
  have hl : lv_has ls 5 [(0, .ref (ad 0)), (1, .int a), (2, .int b), (3, .int c)] := hl
  have hW : WS ad cA (fun i k => False) g0 K g0 H locs := ⟨hW0, hSh, FR.rf⟩
  have := kc_1
  have := kc_60
  refine q_aload_n hM dX11_cut_0 (lv_at hl 0 rfl) ?_
  refine w_get (v := .ref (ad 3)) hM hW FG_X11_19 lb_0 (rf_0_1 hW.2.1) dX11_cut_1 ?_
  refine w_get (v := .int (0 : Int32)) hM hW FG_X11_116 lb_3 ((hW.2.2.1 3 2 (fun h => h)).trans (zf hF (by decide) rfl : fld g0 3 2 = .int (0 : Int32))) dX11_cut_4 ?_
  refine q_iload_n hM dX11_cut_7 (lv_at hl 1 rfl) ?_
  refine q_callS (As := [.int (0 : Int32), .int a]) (rest := []) hM hW.1 hR hC myX11_has (kAW (v_1_10 (List.mem_of_getElem? (i := 8) rfl)) rfl) (c_X11_has _ _ cA ad g0 (0 : Int32) a hW.2.1) ⟨by decide, by decide⟩ rfl rfl hl.1 (Nat.le_of_ble_eq_true rfl) dX11_cut_8 (fun v g268 H locs hp hW1 => ?_)
  obtain ⟨r267, rfl, hr267, rfl⟩ := hp
  have hW : WS ad cA (fun i k => False) g0 K g0 H locs := ⟨hW1, hW.2.1, hW.2.2⟩
  have kr267 : r267.toInt = 0 := has_r0 hr267
  refine q_if_eq (tgt := 42) hM dX11_cut_11 (by decide) (kr267 : r267.toInt = 0) (fun h11 => ?_) (fun h11 => ?_)
  · refine q_iconst (v := ((-1) : Int32)) hM dX11_cut_42 (by decide) ?_
    exact hE _ _ _ _ _ _ hW.1 ⟨_, rfl, hW.2.1, FR.wk hW.2.2 (fun _ _ h => h.elim), (by have := kc_m1; omega)⟩ dX11_cut_43
  · omega

theorem dX11_recalls_0 : decode cX11_recalls 0 = .ok (.aload_n 0, 1) := by decide +kernel
theorem dX11_recalls_1 : decode cX11_recalls 1 = .ok (.getfield 19, 3) := by decide +kernel
theorem dX11_recalls_4 : decode cX11_recalls 4 = .ok (.getfield 116, 3) := by decide +kernel
theorem dX11_recalls_7 : decode cX11_recalls 7 = .ok (.iload_n 1, 1) := by decide +kernel
theorem dX11_recalls_8 : decode cX11_recalls 8 = .ok (.invokestatic 123, 3) := by decide +kernel
theorem dX11_recalls_11 : decode cX11_recalls 11 = .ok (.ifCond .eq 15, 3) := by decide +kernel
theorem dX11_recalls_26 : decode cX11_recalls 26 = .ok (.iconst (-1), 1) := by decide +kernel
theorem dX11_recalls_27 : decode cX11_recalls 27 = .ok (.ireturn, 1) := by decide +kernel
set_option maxRecDepth 100000 in
set_option maxHeartbeats 4000000 in
theorem p_X11_recalls (l : Launch) (D : va_G) (cA : Nat → ClassId) (ad : Nat → Nat) (g0 : Nat → va_E) (a : Int32) (hSh : Shp ad cA g0) (hF : ∀ j, j < NN → g0 j = gF ad cA j) : CT l NN ad cA D yX11_recalls cX11_recalls 2 (some FieldType.int) (1, 21) [.ref (ad 0), .int a] g0 (fun v g' => ∃ r : Int32, v = some (.int r) ∧ Shp ad cA g' ∧ FR (fun i _ => i < 129) g0 g' ∧ (r.toInt = -1)) := by
  refine q_enterI (by decide) (Nat.le_of_ble_eq_true rfl) rfl (fun K H locs ls _ _ hM hW0 hR hC hE hl => ?_)
  have hl : lv_has ls 2 [(0, .ref (ad 0)), (1, .int a)] := hl
  have hW : WS ad cA (fun i k => False) g0 K g0 H locs := ⟨hW0, hSh, FR.rf⟩
  have := kc_1
  have := kc_60
  refine q_aload_n hM dX11_recalls_0 (lv_at hl 0 rfl) ?_
  refine w_get (v := .ref (ad 3)) hM hW FG_X11_19 lb_0 (rf_0_1 hW.2.1) dX11_recalls_1 ?_
  refine w_get (v := .int (0 : Int32)) hM hW FG_X11_116 lb_3 ((hW.2.2.1 3 2 (fun h => h)).trans (zf hF (by decide) rfl : fld g0 3 2 = .int (0 : Int32))) dX11_recalls_4 ?_
  refine q_iload_n hM dX11_recalls_7 (lv_at hl 1 rfl) ?_
  refine q_callS (As := [.int (0 : Int32), .int a]) (rest := []) hM hW.1 hR hC myX11_has (kAW (v_1_10 (List.mem_of_getElem? (i := 8) rfl)) rfl) (c_X11_has _ _ cA ad g0 (0 : Int32) a hW.2.1) ⟨by decide, by decide⟩ rfl rfl hl.1 (Nat.le_of_ble_eq_true rfl) dX11_recalls_8 (fun v g270 H locs hp hW1 => ?_)
  obtain ⟨r269, rfl, hr269, rfl⟩ := hp
  have hW : WS ad cA (fun i k => False) g0 K g0 H locs := ⟨hW1, hW.2.1, hW.2.2⟩
  have kr269 : r269.toInt = 0 := has_r0 hr269
  refine q_if_eq (tgt := 26) hM dX11_recalls_11 (by decide) (kr269 : r269.toInt = 0) (fun h11 => ?_) (fun h11 => ?_)
  · refine q_iconst (v := ((-1) : Int32)) hM dX11_recalls_26 (by decide) ?_
    exact hE _ _ _ _ _ _ hW.1 ⟨_, rfl, hW.2.1, FR.wk hW.2.2 (fun _ _ h => h.elim), (by have := kc_m1; omega)⟩ dX11_recalls_27
  · omega

theorem dX11_questions_0 : decode cX11_questions 0 = .ok (.aload_n 0, 1) := by decide +kernel
theorem dX11_questions_1 : decode cX11_questions 1 = .ok (.iload_n 1, 1) := by decide +kernel
theorem dX11_questions_2 : decode cX11_questions 2 = .ok (.invokevirtual 254, 3) := by decide +kernel
theorem dX11_questions_5 : decode cX11_questions 5 = .ok (.ifCond .eq 12, 3) := by decide +kernel
theorem dX11_questions_17 : decode cX11_questions 17 = .ok (.iconst (-1), 1) := by decide +kernel
theorem dX11_questions_18 : decode cX11_questions 18 = .ok (.ireturn, 1) := by decide +kernel
theorem myX11_areSome : MI yX11_areSome cX11_areSome 2 (some FieldType.boolean) 1 := ⟨kAW (v_3_10 (List.mem_of_getElem? (i := 5) rfl)) rfl, kAW (v_0_0 (List.mem_of_getElem? (i := 1) rfl)) rfl, kAW (v_3_10 (List.mem_of_getElem? (i := 4) rfl)) rfl, kAW (tp_t1 (List.mem_of_getElem? (i := 12) rfl)) rfl, by decide, by decide, by decide +kernel⟩
set_option maxRecDepth 100000 in
set_option maxHeartbeats 4000000 in
theorem p_X11_questions (l : Launch) (D : va_G) (cA : Nat → ClassId) (ad : Nat → Nat) (g0 : Nat → va_E) (a b : Int32) (hSh : Shp ad cA g0) (hF : ∀ j, j < NN → g0 j = gF ad cA j) : CT l NN ad cA D yX11_questions cX11_questions 4 (some FieldType.int) (2, 42) [.ref (ad 0), .int a, .int b] g0 (fun v g' => ∃ r : Int32, v = some (.int r) ∧ Shp ad cA g' ∧ FR (fun i _ => i < 129) g0 g' ∧ (r.toInt = -1)) := by
  refine q_enterI (by decide) (Nat.le_of_ble_eq_true rfl) rfl (fun K H locs ls _ _ hM hW0 hR hC hE hl => ?_)
  have hl : lv_has ls 4 [(0, .ref (ad 0)), (1, .int a), (2, .int b)] := hl
  have hW : WS ad cA (fun i k => False) g0 K g0 H locs := ⟨hW0, hSh, FR.rf⟩
  have := kc_1
  have := kc_60
  refine q_aload_n hM dX11_questions_0 (lv_at hl 0 rfl) ?_
  refine q_iload_n hM dX11_questions_1 (lv_at hl 1 rfl) ?_
  refine q_callV (As := [.int a]) (rest := []) hM hW.1 hR hC myX11_areSome (kAW (v_3_10 (List.mem_of_getElem? (i := 2) rfl)) rfl) (rfl : vwCl[11]? = some (RX11, TX11, 16)) rfl lb_0.1 (shO hW.2.1 lb_0) (c_X11_areSome _ _ cA ad g0 a hW.2.1 hF) ⟨by decide, by decide⟩ rfl rfl hl.1 (Nat.le_of_ble_eq_true rfl) dX11_questions_2 (fun v g272 H locs hp hW1 => ?_)
  obtain ⟨r271, rfl, hr271, rfl⟩ := hp
  have hW : WS ad cA (fun i k => False) g0 K g0 H locs := ⟨hW1, hW.2.1, hW.2.2⟩
  refine q_if_eq (tgt := 17) hM dX11_questions_5 (by decide) (hr271 : r271.toInt = 0) (fun h5 => ?_) (fun h5 => ?_)
  · refine q_iconst (v := ((-1) : Int32)) hM dX11_questions_17 (by decide) ?_
    exact hE _ _ _ _ _ _ hW.1 ⟨_, rfl, hW.2.1, FR.wk hW.2.2 (fun _ _ h => h.elim), (by have := kc_m1; omega)⟩ dX11_questions_18
  · omega

theorem dX11_parted_0 : decode cX11_parted 0 = .ok (.aload_n 0, 1) := by decide +kernel
theorem dX11_parted_1 : decode cX11_parted 1 = .ok (.iload_n 1, 1) := by decide +kernel
theorem dX11_parted_2 : decode cX11_parted 2 = .ok (.invokevirtual 254, 3) := by decide +kernel
theorem dX11_parted_5 : decode cX11_parted 5 = .ok (.ifCond .eq 12, 3) := by decide +kernel
theorem dX11_parted_17 : decode cX11_parted 17 = .ok (.iconst (-1), 1) := by decide +kernel
theorem dX11_parted_18 : decode cX11_parted 18 = .ok (.ireturn, 1) := by decide +kernel
set_option maxRecDepth 100000 in
set_option maxHeartbeats 4000000 in
theorem p_X11_parted (l : Launch) (D : va_G) (cA : Nat → ClassId) (ad : Nat → Nat) (g0 : Nat → va_E) (a b : Int32) (hSh : Shp ad cA g0) (hF : ∀ j, j < NN → g0 j = gF ad cA j) : CT l NN ad cA D yX11_parted cX11_parted 4 (some FieldType.int) (2, 42) [.ref (ad 0), .int a, .int b] g0 (fun v g' => ∃ r : Int32, v = some (.int r) ∧ Shp ad cA g' ∧ FR (fun i _ => i < 129) g0 g' ∧ (r.toInt = -1)) := by
  refine q_enterI (by decide) (Nat.le_of_ble_eq_true rfl) rfl (fun K H locs ls _ _ hM hW0 hR hC hE hl => ?_)
  have hl : lv_has ls 4 [(0, .ref (ad 0)), (1, .int a), (2, .int b)] := hl
  have hW : WS ad cA (fun i k => False) g0 K g0 H locs := ⟨hW0, hSh, FR.rf⟩
  have := kc_1
  have := kc_60
  refine q_aload_n hM dX11_parted_0 (lv_at hl 0 rfl) ?_
  refine q_iload_n hM dX11_parted_1 (lv_at hl 1 rfl) ?_
  refine q_callV (As := [.int a]) (rest := []) hM hW.1 hR hC myX11_areSome (kAW (v_3_10 (List.mem_of_getElem? (i := 2) rfl)) rfl) (rfl : vwCl[11]? = some (RX11, TX11, 16)) rfl lb_0.1 (shO hW.2.1 lb_0) (c_X11_areSome _ _ cA ad g0 a hW.2.1 hF) ⟨by decide, by decide⟩ rfl rfl hl.1 (Nat.le_of_ble_eq_true rfl) dX11_parted_2 (fun v g274 H locs hp hW1 => ?_)
  obtain ⟨r273, rfl, hr273, rfl⟩ := hp
  have hW : WS ad cA (fun i k => False) g0 K g0 H locs := ⟨hW1, hW.2.1, hW.2.2⟩
  refine q_if_eq (tgt := 17) hM dX11_parted_5 (by decide) (hr273 : r273.toInt = 0) (fun h5 => ?_) (fun h5 => ?_)
  · refine q_iconst (v := ((-1) : Int32)) hM dX11_parted_17 (by decide) ?_
    exact hE _ _ _ _ _ _ hW.1 ⟨_, rfl, hW.2.1, FR.wk hW.2.2 (fun _ _ h => h.elim), (by have := kc_m1; omega)⟩ dX11_parted_18
  · omega

theorem dX11_odds_0 : decode cX11_odds 0 = .ok (.aload_n 0, 1) := by decide +kernel
theorem dX11_odds_1 : decode cX11_odds 1 = .ok (.getfield 26, 3) := by decide +kernel
theorem dX11_odds_4 : decode cX11_odds 4 = .ok (.getfield 135, 3) := by decide +kernel
theorem dX11_odds_7 : decode cX11_odds 7 = .ok (.iload_n 1, 1) := by decide +kernel
theorem dX11_odds_8 : decode cX11_odds 8 = .ok (.invokestatic 123, 3) := by decide +kernel
theorem dX11_odds_11 : decode cX11_odds 11 = .ok (.ifCond .eq 46, 3) := by decide +kernel
theorem dX11_odds_57 : decode cX11_odds 57 = .ok (.iconst (-1), 1) := by decide +kernel
theorem dX11_odds_58 : decode cX11_odds 58 = .ok (.ireturn, 1) := by decide +kernel
set_option maxRecDepth 100000 in
set_option maxHeartbeats 4000000 in
theorem p_X11_odds (l : Launch) (D : va_G) (cA : Nat → ClassId) (ad : Nat → Nat) (g0 : Nat → va_E) (a b c d : Int32) (hSh : Shp ad cA g0) (hF : ∀ j, j < NN → g0 j = gF ad cA j) : CT l NN ad cA D yX11_odds cX11_odds 6 (some FieldType.int) (1, 21) [.ref (ad 0), .int a, .int b, .int c, .int d] g0 (fun v g' => ∃ r : Int32, v = some (.int r) ∧ Shp ad cA g' ∧ FR (fun i _ => i < 129) g0 g' ∧ (r.toInt = -1)) := by
  refine q_enterI (by decide) (Nat.le_of_ble_eq_true rfl) rfl (fun K H locs ls _ _ hM hW0 hR hC hE hl => ?_)
  have hl : lv_has ls 6 [(0, .ref (ad 0)), (1, .int a), (2, .int b), (3, .int c), (4, .int d)] := hl
  have hW : WS ad cA (fun i k => False) g0 K g0 H locs := ⟨hW0, hSh, FR.rf⟩
  have := kc_1
  have := kc_60
  refine q_aload_n hM dX11_odds_0 (lv_at hl 0 rfl) ?_
  refine w_get (v := .ref (ad 18)) hM hW FG_X11_26 lb_0 (rf_0_10 hW.2.1) dX11_odds_1 ?_
  refine w_get (v := .int (0 : Int32)) hM hW FG_X11_135 lb_18 ((hW.2.2.1 18 3 (fun h => h)).trans (zf hF (by decide) rfl : fld g0 18 3 = .int (0 : Int32))) dX11_odds_4 ?_
  refine q_iload_n hM dX11_odds_7 (lv_at hl 1 rfl) ?_
  refine q_callS (As := [.int (0 : Int32), .int a]) (rest := []) hM hW.1 hR hC myX11_has (kAW (v_1_10 (List.mem_of_getElem? (i := 8) rfl)) rfl) (c_X11_has _ _ cA ad g0 (0 : Int32) a hW.2.1) ⟨by decide, by decide⟩ rfl rfl hl.1 (Nat.le_of_ble_eq_true rfl) dX11_odds_8 (fun v g276 H locs hp hW1 => ?_)
  obtain ⟨r275, rfl, hr275, rfl⟩ := hp
  have hW : WS ad cA (fun i k => False) g0 K g0 H locs := ⟨hW1, hW.2.1, hW.2.2⟩
  have kr275 : r275.toInt = 0 := has_r0 hr275
  refine q_if_eq (tgt := 57) hM dX11_odds_11 (by decide) (kr275 : r275.toInt = 0) (fun h11 => ?_) (fun h11 => ?_)
  · refine q_iconst (v := ((-1) : Int32)) hM dX11_odds_57 (by decide) ?_
    exact hE _ _ _ _ _ _ hW.1 ⟨_, rfl, hW.2.1, FR.wk hW.2.2 (fun _ _ h => h.elim), (by have := kc_m1; omega)⟩ dX11_odds_58
  · omega

theorem dX11_crib_0 : decode cX11_crib 0 = .ok (.aload_n 0, 1) := by decide +kernel
theorem dX11_crib_1 : decode cX11_crib 1 = .ok (.getfield 26, 3) := by decide +kernel
theorem dX11_crib_4 : decode cX11_crib 4 = .ok (.getfield 135, 3) := by decide +kernel
theorem dX11_crib_7 : decode cX11_crib 7 = .ok (.iload_n 1, 1) := by decide +kernel
theorem dX11_crib_8 : decode cX11_crib 8 = .ok (.invokestatic 123, 3) := by decide +kernel
theorem dX11_crib_11 : decode cX11_crib 11 = .ok (.ifCond .eq 12, 3) := by decide +kernel
theorem dX11_crib_23 : decode cX11_crib 23 = .ok (.iconst (-1), 1) := by decide +kernel
theorem dX11_crib_24 : decode cX11_crib 24 = .ok (.ireturn, 1) := by decide +kernel
set_option maxRecDepth 100000 in
set_option maxHeartbeats 4000000 in
theorem p_X11_crib (l : Launch) (D : va_G) (cA : Nat → ClassId) (ad : Nat → Nat) (g0 : Nat → va_E) (a b : Int32) (hSh : Shp ad cA g0) (hF : ∀ j, j < NN → g0 j = gF ad cA j) : CT l NN ad cA D yX11_crib cX11_crib 7 (some FieldType.int) (1, 21) [.ref (ad 0), .int a, .int b] g0 (fun v g' => ∃ r : Int32, v = some (.int r) ∧ Shp ad cA g' ∧ FR (fun i _ => i < 129) g0 g' ∧ (r.toInt = -1)) := by
  refine q_enterI (by decide) (Nat.le_of_ble_eq_true rfl) rfl (fun K H locs ls _ _ hM hW0 hR hC hE hl => ?_)
  have hl : lv_has ls 7 [(0, .ref (ad 0)), (1, .int a), (2, .int b)] := hl
  have hW : WS ad cA (fun i k => False) g0 K g0 H locs := ⟨hW0, hSh, FR.rf⟩
  have := kc_1
  have := kc_60
  refine q_aload_n hM dX11_crib_0 (lv_at hl 0 rfl) ?_
  refine w_get (v := .ref (ad 18)) hM hW FG_X11_26 lb_0 (rf_0_10 hW.2.1) dX11_crib_1 ?_
  refine w_get (v := .int (0 : Int32)) hM hW FG_X11_135 lb_18 ((hW.2.2.1 18 3 (fun h => h)).trans (zf hF (by decide) rfl : fld g0 18 3 = .int (0 : Int32))) dX11_crib_4 ?_
  refine q_iload_n hM dX11_crib_7 (lv_at hl 1 rfl) ?_
  refine q_callS (As := [.int (0 : Int32), .int a]) (rest := []) hM hW.1 hR hC myX11_has (kAW (v_1_10 (List.mem_of_getElem? (i := 8) rfl)) rfl) (c_X11_has _ _ cA ad g0 (0 : Int32) a hW.2.1) ⟨by decide, by decide⟩ rfl rfl hl.1 (Nat.le_of_ble_eq_true rfl) dX11_crib_8 (fun v g278 H locs hp hW1 => ?_)
  obtain ⟨r277, rfl, hr277, rfl⟩ := hp
  have hW : WS ad cA (fun i k => False) g0 K g0 H locs := ⟨hW1, hW.2.1, hW.2.2⟩
  have kr277 : r277.toInt = 0 := has_r0 hr277
  refine q_if_eq (tgt := 23) hM dX11_crib_11 (by decide) (kr277 : r277.toInt = 0) (fun h11 => ?_) (fun h11 => ?_)
  · refine q_iconst (v := ((-1) : Int32)) hM dX11_crib_23 (by decide) ?_
    exact hE _ _ _ _ _ _ hW.1 ⟨_, rfl, hW.2.1, FR.wk hW.2.2 (fun _ _ h => h.elim), (by have := kc_m1; omega)⟩ dX11_crib_24
  · omega

theorem dX11_undo_0 : decode cX11_undo 0 = .ok (.aload_n 0, 1) := by decide +kernel
theorem dX11_undo_1 : decode cX11_undo 1 = .ok (.getfield 108, 3) := by decide +kernel
theorem dX11_undo_4 : decode cX11_undo 4 = .ok (.ifCond .ne 5, 3) := by decide +kernel
theorem dX11_undo_7 : decode cX11_undo 7 = .ok (.iconst 0, 1) := by decide +kernel
theorem dX11_undo_8 : decode cX11_undo 8 = .ok (.ireturn, 1) := by decide +kernel
theorem FG_X11_108 : FG RX11 108 11 16 15 := ⟨RX11, TX11, rfl, wX11, by decide, kAW (v_1_7 (List.mem_of_getElem? (i := 11) rfl)) rfl, rfl⟩
set_option maxRecDepth 100000 in
set_option maxHeartbeats 4000000 in
theorem p_X11_undo (l : Launch) (D : va_G) (cA : Nat → ClassId) (ad : Nat → Nat) (g0 : Nat → va_E)  (hSh : Shp ad cA g0) (hF : ∀ j, j < NN → g0 j = gF ad cA j) : CT l NN ad cA D yX11_undo cX11_undo 1 (some FieldType.boolean) (0, 0) [.ref (ad 0)] g0 (fun v g' => ∃ r : Int32, v = some (.int r) ∧ Shp ad cA g' ∧ FR (fun i _ => i < 129) g0 g' ∧ (r.toInt = 0)) := by
  refine q_enterZ (by decide) (Nat.le_of_ble_eq_true rfl) (fun K H locs ls _ _ hM hW0 hR hC hE hl => ?_)
  have hl : lv_has ls 1 [(0, .ref (ad 0))] := hl
  have hW : WS ad cA (fun i k => False) g0 K g0 H locs := ⟨hW0, hSh, FR.rf⟩
  have := kc_1
  have := kc_60
  refine q_aload_n hM dX11_undo_0 (lv_at hl 0 rfl) ?_
  refine w_get (v := .int (0 : Int32)) hM hW FG_X11_108 lb_0 ((hW.2.2.1 0 15 (fun h => h)).trans (zf hF (by decide) rfl : fld g0 0 15 = .int (0 : Int32))) dX11_undo_1 ?_
  refine q_if_ne (tgt := 9) hM dX11_undo_4 (by decide) (kc_0 : (0 : Int32).toInt = 0) (fun h4 => ?_) (fun h4 => ?_)
  · omega
  · refine q_iconst (v := (0 : Int32)) hM dX11_undo_7 (by decide) ?_
    exact hE _ _ _ _ _ _ hW.1 nz_0 ⟨_, rfl, hW.2.1, FR.wk hW.2.2 (fun _ _ h => h.elim), (by have := kc_0; omega)⟩ dX11_undo_8

theorem dX11_check_0 : decode cX11_check 0 = .ok (.aload_n 0, 1) := by decide +kernel
theorem dX11_check_1 : decode cX11_check 1 = .ok (.getfield 26, 3) := by decide +kernel
theorem dX11_check_4 : decode cX11_check 4 = .ok (.getfield 135, 3) := by decide +kernel
theorem dX11_check_7 : decode cX11_check 7 = .ok (.iload_n 1, 1) := by decide +kernel
theorem dX11_check_8 : decode cX11_check 8 = .ok (.invokestatic 123, 3) := by decide +kernel
theorem dX11_check_11 : decode cX11_check 11 = .ok (.ifCond .eq 24, 3) := by decide +kernel
theorem dX11_check_35 : decode cX11_check 35 = .ok (.bipush (-2), 2) := by decide +kernel
theorem dX11_check_37 : decode cX11_check 37 = .ok (.ireturn, 1) := by decide +kernel
set_option maxRecDepth 100000 in
set_option maxHeartbeats 4000000 in
theorem p_X11_check (l : Launch) (D : va_G) (cA : Nat → ClassId) (ad : Nat → Nat) (g0 : Nat → va_E) (a b : Int32) (hSh : Shp ad cA g0) (hF : ∀ j, j < NN → g0 j = gF ad cA j) : CT l NN ad cA D yX11_check cX11_check 4 (some FieldType.int) (1, 21) [.ref (ad 0), .int a, .int b] g0 (fun v g' => ∃ r : Int32, v = some (.int r) ∧ Shp ad cA g' ∧ FR (fun i _ => i < 129) g0 g' ∧ (r.toInt = -2)) := by
  refine q_enterI (by decide) (Nat.le_of_ble_eq_true rfl) rfl (fun K H locs ls _ _ hM hW0 hR hC hE hl => ?_)
  have hl : lv_has ls 4 [(0, .ref (ad 0)), (1, .int a), (2, .int b)] := hl
  have hW : WS ad cA (fun i k => False) g0 K g0 H locs := ⟨hW0, hSh, FR.rf⟩
  have := kc_1
  have := kc_60
  refine q_aload_n hM dX11_check_0 (lv_at hl 0 rfl) ?_
  refine w_get (v := .ref (ad 18)) hM hW FG_X11_26 lb_0 (rf_0_10 hW.2.1) dX11_check_1 ?_
  refine w_get (v := .int (0 : Int32)) hM hW FG_X11_135 lb_18 ((hW.2.2.1 18 3 (fun h => h)).trans (zf hF (by decide) rfl : fld g0 18 3 = .int (0 : Int32))) dX11_check_4 ?_
  refine q_iload_n hM dX11_check_7 (lv_at hl 1 rfl) ?_
  refine q_callS (As := [.int (0 : Int32), .int a]) (rest := []) hM hW.1 hR hC myX11_has (kAW (v_1_10 (List.mem_of_getElem? (i := 8) rfl)) rfl) (c_X11_has _ _ cA ad g0 (0 : Int32) a hW.2.1) ⟨by decide, by decide⟩ rfl rfl hl.1 (Nat.le_of_ble_eq_true rfl) dX11_check_8 (fun v g280 H locs hp hW1 => ?_)
  obtain ⟨r279, rfl, hr279, rfl⟩ := hp
  have hW : WS ad cA (fun i k => False) g0 K g0 H locs := ⟨hW1, hW.2.1, hW.2.2⟩
  have kr279 : r279.toInt = 0 := has_r0 hr279
  refine q_if_eq (tgt := 35) hM dX11_check_11 (by decide) (kr279 : r279.toInt = 0) (fun h11 => ?_) (fun h11 => ?_)
  · refine q_bipush (v := ((-2) : Int32)) hM dX11_check_35 (by decide) ?_
    exact hE _ _ _ _ _ _ hW.1 ⟨_, rfl, hW.2.1, FR.wk hW.2.2 (fun _ _ h => h.elim), (by have := kc_m2; omega)⟩ dX11_check_37
  · omega

theorem dX11_first_0 : decode cX11_first 0 = .ok (.iload_n 1, 1) := by decide +kernel
theorem dX11_first_1 : decode cX11_first 1 = .ok (.iconst 1, 1) := by decide +kernel
theorem dX11_first_2 : decode cX11_first 2 = .ok (.bipush 60, 2) := by decide +kernel
theorem dX11_first_4 : decode cX11_first 4 = .ok (.invokestatic 112, 3) := by decide +kernel
theorem dX11_first_7 : decode cX11_first 7 = .ok (.ifCond .eq 26, 3) := by decide +kernel
theorem dX11_first_10 : decode cX11_first 10 = .ok (.aload_n 0, 1) := by decide +kernel
theorem dX11_first_11 : decode cX11_first 11 = .ok (.getfield 19, 3) := by decide +kernel
theorem dX11_first_14 : decode cX11_first 14 = .ok (.getfield 116, 3) := by decide +kernel
theorem dX11_first_17 : decode cX11_first 17 = .ok (.iload_n 2, 1) := by decide +kernel
theorem dX11_first_18 : decode cX11_first 18 = .ok (.invokestatic 123, 3) := by decide +kernel
theorem dX11_first_21 : decode cX11_first 21 = .ok (.ifCond .eq 12, 3) := by decide +kernel
theorem dX11_first_33 : decode cX11_first 33 = .ok (.iconst (-1), 1) := by decide +kernel
theorem dX11_first_34 : decode cX11_first 34 = .ok (.ireturn, 1) := by decide +kernel
set_option maxRecDepth 100000 in
set_option maxHeartbeats 4000000 in
theorem p_X11_first (l : Launch) (D : va_G) (cA : Nat → ClassId) (ad : Nat → Nat) (g0 : Nat → va_E) (a b c : Int32) (hSh : Shp ad cA g0) (hF : ∀ j, j < NN → g0 j = gF ad cA j) : CT l NN ad cA D yX11_first cX11_first 6 (some FieldType.int) (1, 22) [.ref (ad 0), .int a, .int b, .int c] g0 (fun v g' => ∃ r : Int32, v = some (.int r) ∧ Shp ad cA g' ∧ FR (fun i _ => i < 129) g0 g' ∧ (r.toInt = -1)) := by
  refine q_enterI (by decide) (Nat.le_of_ble_eq_true rfl) rfl (fun K H locs ls _ _ hM hW0 hR hC hE hl => ?_)
  have hl : lv_has ls 6 [(0, .ref (ad 0)), (1, .int a), (2, .int b), (3, .int c)] := hl
  have hW : WS ad cA (fun i k => False) g0 K g0 H locs := ⟨hW0, hSh, FR.rf⟩
  have := kc_1
  have := kc_60
  refine q_iload_n hM dX11_first_0 (lv_at hl 1 rfl) ?_
  refine q_iconst (v := (1 : Int32)) hM dX11_first_1 (by decide) ?_
  refine q_bipush (v := (60 : Int32)) hM dX11_first_2 (by decide) ?_
  refine q_callS (As := [.int a, .int (1 : Int32), .int (60 : Int32)]) (rest := []) hM hW.1 hR hC myX11_within (kAW (v_1_10 (List.mem_of_getElem? (i := 1) rfl)) rfl) (c_X11_within _ _ cA ad g0 a (1 : Int32) (60 : Int32) hW.2.1) ⟨by decide, by decide⟩ rfl rfl hl.1 (Nat.le_of_ble_eq_true rfl) dX11_first_4 (fun v g282 H locs hp hW1 => ?_)
  obtain ⟨r281, rfl, hr281, rfl⟩ := hp
  have hW : WS ad cA (fun i k => False) g0 K g0 H locs := ⟨hW1, hW.2.1, hW.2.2⟩
  refine q_if_eq (tgt := 33) hM dX11_first_7 (by decide) (rfl : r281.toInt = r281.toInt) (fun h7 => ?_) (fun h7 => ?_)
  · refine q_iconst (v := ((-1) : Int32)) hM dX11_first_33 (by decide) ?_
    exact hE _ _ _ _ _ _ hW.1 ⟨_, rfl, hW.2.1, FR.wk hW.2.2 (fun _ _ h => h.elim), (by have := kc_m1; omega)⟩ dX11_first_34
  · refine q_aload_n hM dX11_first_10 (lv_at hl 0 rfl) ?_
    refine w_get (v := .ref (ad 3)) hM hW FG_X11_19 lb_0 (rf_0_1 hW.2.1) dX11_first_11 ?_
    refine w_get (v := .int (0 : Int32)) hM hW FG_X11_116 lb_3 ((hW.2.2.1 3 2 (fun h => h)).trans (zf hF (by decide) rfl : fld g0 3 2 = .int (0 : Int32))) dX11_first_14 ?_
    refine q_iload_n hM dX11_first_17 (lv_at hl 2 rfl) ?_
    refine q_callS (As := [.int (0 : Int32), .int b]) (rest := []) hM hW.1 hR hC myX11_has (kAW (v_1_10 (List.mem_of_getElem? (i := 8) rfl)) rfl) (c_X11_has _ _ cA ad g0 (0 : Int32) b hW.2.1) ⟨by decide, by decide⟩ rfl rfl hl.1 (Nat.le_of_ble_eq_true rfl) dX11_first_18 (fun v g284 H locs hp hW1 => ?_)
    obtain ⟨r283, rfl, hr283, rfl⟩ := hp
    have hW : WS ad cA (fun i k => False) g0 K g0 H locs := ⟨hW1, hW.2.1, hW.2.2⟩
    have kr283 : r283.toInt = 0 := has_r0 hr283
    refine q_if_eq (tgt := 33) hM dX11_first_21 (by decide) (kr283 : r283.toInt = 0) (fun h21 => ?_) (fun h21 => ?_)
    · refine q_iconst (v := ((-1) : Int32)) hM dX11_first_33 (by decide) ?_
      exact hE _ _ _ _ _ _ hW.1 ⟨_, rfl, hW.2.1, FR.wk hW.2.2 (fun _ _ h => h.elim), (by have := kc_m1; omega)⟩ dX11_first_34
    · omega

theorem dX11_hummed_0 : decode cX11_hummed 0 = .ok (.iload_n 1, 1) := by decide +kernel
theorem dX11_hummed_1 : decode cX11_hummed 1 = .ok (.iconst 1, 1) := by decide +kernel
theorem dX11_hummed_2 : decode cX11_hummed 2 = .ok (.bipush 6, 2) := by decide +kernel
theorem dX11_hummed_4 : decode cX11_hummed 4 = .ok (.invokestatic 112, 3) := by decide +kernel
theorem dX11_hummed_7 : decode cX11_hummed 7 = .ok (.ifCond .eq 44, 3) := by decide +kernel
theorem dX11_hummed_10 : decode cX11_hummed 10 = .ok (.iload_n 2, 1) := by decide +kernel
theorem dX11_hummed_11 : decode cX11_hummed 11 = .ok (.iconst 1, 1) := by decide +kernel
theorem dX11_hummed_12 : decode cX11_hummed 12 = .ok (.bipush 9, 2) := by decide +kernel
theorem dX11_hummed_14 : decode cX11_hummed 14 = .ok (.invokestatic 112, 3) := by decide +kernel
theorem dX11_hummed_17 : decode cX11_hummed 17 = .ok (.ifCond .eq 34, 3) := by decide +kernel
theorem dX11_hummed_20 : decode cX11_hummed 20 = .ok (.iload_n 3, 1) := by decide +kernel
theorem dX11_hummed_21 : decode cX11_hummed 21 = .ok (.iconst 0, 1) := by decide +kernel
theorem dX11_hummed_22 : decode cX11_hummed 22 = .ok (.iconst 1, 1) := by decide +kernel
theorem dX11_hummed_23 : decode cX11_hummed 23 = .ok (.invokestatic 112, 3) := by decide +kernel
theorem dX11_hummed_26 : decode cX11_hummed 26 = .ok (.ifCond .eq 25, 3) := by decide +kernel
theorem dX11_hummed_29 : decode cX11_hummed 29 = .ok (.iload_n 1, 1) := by decide +kernel
theorem dX11_hummed_30 : decode cX11_hummed 30 = .ok (.aload_n 0, 1) := by decide +kernel
theorem dX11_hummed_31 : decode cX11_hummed 31 = .ok (.getfield 10, 3) := by decide +kernel
theorem dX11_hummed_34 : decode cX11_hummed 34 = .ok (.getfield 139, 3) := by decide +kernel
theorem dX11_hummed_37 : decode cX11_hummed 37 = .ok (.if_icmp .gt 14, 3) := by decide +kernel
theorem dX11_hummed_51 : decode cX11_hummed 51 = .ok (.iconst (-1), 1) := by decide +kernel
theorem dX11_hummed_52 : decode cX11_hummed 52 = .ok (.ireturn, 1) := by decide +kernel
set_option maxRecDepth 100000 in
set_option maxHeartbeats 4000000 in
theorem p_X11_hummed (l : Launch) (D : va_G) (cA : Nat → ClassId) (ad : Nat → Nat) (g0 : Nat → va_E) (a b c : Int32) (hSh : Shp ad cA g0) (hF : ∀ j, j < NN → g0 j = gF ad cA j) : CT l NN ad cA D yX11_hummed cX11_hummed 8 (some FieldType.int) (1, 22) [.ref (ad 0), .int a, .int b, .int c] g0 (fun v g' => ∃ r : Int32, v = some (.int r) ∧ Shp ad cA g' ∧ FR (fun i _ => i < 129) g0 g' ∧ (r.toInt = -1)) := by
  refine q_enterI (by decide) (Nat.le_of_ble_eq_true rfl) rfl (fun K H locs ls _ _ hM hW0 hR hC hE hl => ?_)
  have hl : lv_has ls 8 [(0, .ref (ad 0)), (1, .int a), (2, .int b), (3, .int c)] := hl
  have hW : WS ad cA (fun i k => False) g0 K g0 H locs := ⟨hW0, hSh, FR.rf⟩
  have := kc_0
  have := kc_1
  have := kc_6
  have := kc_9
  refine q_iload_n hM dX11_hummed_0 (lv_at hl 1 rfl) ?_
  refine q_iconst (v := (1 : Int32)) hM dX11_hummed_1 (by decide) ?_
  refine q_bipush (v := (6 : Int32)) hM dX11_hummed_2 (by decide) ?_
  refine q_callS (As := [.int a, .int (1 : Int32), .int (6 : Int32)]) (rest := []) hM hW.1 hR hC myX11_within (kAW (v_1_10 (List.mem_of_getElem? (i := 1) rfl)) rfl) (c_X11_within _ _ cA ad g0 a (1 : Int32) (6 : Int32) hW.2.1) ⟨by decide, by decide⟩ rfl rfl hl.1 (Nat.le_of_ble_eq_true rfl) dX11_hummed_4 (fun v g286 H locs hp hW1 => ?_)
  obtain ⟨r285, rfl, hr285, rfl⟩ := hp
  have hW : WS ad cA (fun i k => False) g0 K g0 H locs := ⟨hW1, hW.2.1, hW.2.2⟩
  refine q_if_eq (tgt := 51) hM dX11_hummed_7 (by decide) (rfl : r285.toInt = r285.toInt) (fun h7 => ?_) (fun h7 => ?_)
  · refine q_iconst (v := ((-1) : Int32)) hM dX11_hummed_51 (by decide) ?_
    exact hE _ _ _ _ _ _ hW.1 ⟨_, rfl, hW.2.1, FR.wk hW.2.2 (fun _ _ h => h.elim), (by have := kc_m1; omega)⟩ dX11_hummed_52
  · refine q_iload_n hM dX11_hummed_10 (lv_at hl 2 rfl) ?_
    refine q_iconst (v := (1 : Int32)) hM dX11_hummed_11 (by decide) ?_
    refine q_bipush (v := (9 : Int32)) hM dX11_hummed_12 (by decide) ?_
    refine q_callS (As := [.int b, .int (1 : Int32), .int (9 : Int32)]) (rest := []) hM hW.1 hR hC myX11_within (kAW (v_1_10 (List.mem_of_getElem? (i := 1) rfl)) rfl) (c_X11_within _ _ cA ad g0 b (1 : Int32) (9 : Int32) hW.2.1) ⟨by decide, by decide⟩ rfl rfl hl.1 (Nat.le_of_ble_eq_true rfl) dX11_hummed_14 (fun v g288 H locs hp hW1 => ?_)
    obtain ⟨r287, rfl, hr287, rfl⟩ := hp
    have hW : WS ad cA (fun i k => False) g0 K g0 H locs := ⟨hW1, hW.2.1, hW.2.2⟩
    refine q_if_eq (tgt := 51) hM dX11_hummed_17 (by decide) (rfl : r287.toInt = r287.toInt) (fun h17 => ?_) (fun h17 => ?_)
    · refine q_iconst (v := ((-1) : Int32)) hM dX11_hummed_51 (by decide) ?_
      exact hE _ _ _ _ _ _ hW.1 ⟨_, rfl, hW.2.1, FR.wk hW.2.2 (fun _ _ h => h.elim), (by have := kc_m1; omega)⟩ dX11_hummed_52
    · refine q_iload_n hM dX11_hummed_20 (lv_at hl 3 rfl) ?_
      refine q_iconst (v := (0 : Int32)) hM dX11_hummed_21 (by decide) ?_
      refine q_iconst (v := (1 : Int32)) hM dX11_hummed_22 (by decide) ?_
      refine q_callS (As := [.int c, .int (0 : Int32), .int (1 : Int32)]) (rest := []) hM hW.1 hR hC myX11_within (kAW (v_1_10 (List.mem_of_getElem? (i := 1) rfl)) rfl) (c_X11_within _ _ cA ad g0 c (0 : Int32) (1 : Int32) hW.2.1) ⟨by decide, by decide⟩ rfl rfl hl.1 (Nat.le_of_ble_eq_true rfl) dX11_hummed_23 (fun v g290 H locs hp hW1 => ?_)
      obtain ⟨r289, rfl, hr289, rfl⟩ := hp
      have hW : WS ad cA (fun i k => False) g0 K g0 H locs := ⟨hW1, hW.2.1, hW.2.2⟩
      refine q_if_eq (tgt := 51) hM dX11_hummed_26 (by decide) (rfl : r289.toInt = r289.toInt) (fun h26 => ?_) (fun h26 => ?_)
      · refine q_iconst (v := ((-1) : Int32)) hM dX11_hummed_51 (by decide) ?_
        exact hE _ _ _ _ _ _ hW.1 ⟨_, rfl, hW.2.1, FR.wk hW.2.2 (fun _ _ h => h.elim), (by have := kc_m1; omega)⟩ dX11_hummed_52
      · refine q_iload_n hM dX11_hummed_29 (lv_at hl 1 rfl) ?_
        refine q_aload_n hM dX11_hummed_30 (lv_at hl 0 rfl) ?_
        refine w_get (v := .ref (ad 1)) hM hW FG_X11_10 lb_0 (rf_0_0 hW.2.1) dX11_hummed_31 ?_
        refine w_get (v := .int (0 : Int32)) hM hW FG_X11_139 lb_1 ((hW.2.2.1 1 1 (fun h => h)).trans (zf hF (by decide) rfl : fld g0 1 1 = .int (0 : Int32))) dX11_hummed_34 ?_
        refine q_icmp_gt (tgt := 51) hM dX11_hummed_37 (by decide) (rfl : a.toInt = a.toInt) (kc_0 : (0 : Int32).toInt = 0) (fun h37 => ?_) (fun h37 => ?_)
        · refine q_iconst (v := ((-1) : Int32)) hM dX11_hummed_51 (by decide) ?_
          exact hE _ _ _ _ _ _ hW.1 ⟨_, rfl, hW.2.1, FR.wk hW.2.2 (fun _ _ h => h.elim), (by have := kc_m1; omega)⟩ dX11_hummed_52
        · omega

theorem dX11_seed_0 : decode cX11_seed 0 = .ok (.iload_n 1, 1) := by decide +kernel
theorem dX11_seed_1 : decode cX11_seed 1 = .ok (.iconst 0, 1) := by decide +kernel
theorem dX11_seed_2 : decode cX11_seed 2 = .ok (.ldc_w 315, 3) := by decide +kernel
theorem dX11_seed_5 : decode cX11_seed 5 = .ok (.invokestatic 112, 3) := by decide +kernel
theorem dX11_seed_8 : decode cX11_seed 8 = .ok (.ifCond .ne 5, 3) := by decide +kernel
theorem dX11_seed_11 : decode cX11_seed 11 = .ok (.iconst 0, 1) := by decide +kernel
theorem dX11_seed_12 : decode cX11_seed 12 = .ok (.ireturn, 1) := by decide +kernel
theorem dX11_seed_13 : decode cX11_seed 13 = .ok (.aload_n 0, 1) := by decide +kernel
theorem dX11_seed_14 : decode cX11_seed 14 = .ok (.getfield 26, 3) := by decide +kernel
theorem dX11_seed_17 : decode cX11_seed 17 = .ok (.iload_n 1, 1) := by decide +kernel
theorem dX11_seed_18 : decode cX11_seed 18 = .ok (.putfield 316, 3) := by decide +kernel
theorem dX11_seed_21 : decode cX11_seed 21 = .ok (.iconst 1, 1) := by decide +kernel
theorem dX11_seed_22 : decode cX11_seed 22 = .ok (.ireturn, 1) := by decide +kernel
theorem FP_X11_316 : FPX RX11 316 7 8 7 .int := ⟨⟨RX7, TX7, tyX7, rfl, wX7, by decide, kAW (v_0_6 (List.mem_of_getElem? (i := 2) rfl)) rfl, rfl, tyX7_ok, nmX7, by decide +kernel, rfl⟩, by decide +kernel⟩
set_option maxRecDepth 100000 in
set_option maxHeartbeats 4000000 in
theorem p_X11_seed (l : Launch) (D : va_G) (cA : Nat → ClassId) (ad : Nat → Nat) (g0 : Nat → va_E) (a : Int32) (hSh : Shp ad cA g0) (hF : ∀ j, j < NN → g0 j = gF ad cA j) : CT l NN ad cA D yX11_seed cX11_seed 2 (some FieldType.boolean) (1, 22) [.ref (ad 0), .int a] g0 (fun v g' => ∃ r : Int32, v = some (.int r) ∧ Shp ad cA g' ∧ FR (fun i _ => i < 129) g0 g' ∧ ((r.toInt = 1 ∧ 0 ≤ a.toInt ∧ a.toInt ≤ 65535) ∨ (r.toInt = 0 ∧ ¬ (0 ≤ a.toInt ∧ a.toInt ≤ 65535)))) := by
  refine q_enterZ (by decide) (Nat.le_of_ble_eq_true rfl) (fun K H locs ls _ _ hM hW0 hR hC hE hl => ?_)
  have hl : lv_has ls 2 [(0, .ref (ad 0)), (1, .int a)] := hl
  have hW : WS ad cA (fun i k => (i = 18 ∧ (k = 7))) g0 K g0 H locs := ⟨hW0, hSh, FR.rf⟩
  have := kc_0
  have := kc_65535
  have f291 : fld g0 18 7 = .int (1 : Int32) := (zf hF (by decide) rfl : fld g0 18 7 = .int (1 : Int32))
  refine q_iload_n hM dX11_seed_0 (lv_at hl 1 rfl) ?_
  refine q_iconst (v := (0 : Int32)) hM dX11_seed_1 (by decide) ?_
  refine q_ldcw (v := (65535 : Int32)) hM (kAW (v_4_1 (List.mem_of_getElem? (i := 6) rfl)) rfl) dX11_seed_2 ?_
  refine q_callS (As := [.int a, .int (0 : Int32), .int (65535 : Int32)]) (rest := []) hM hW.1 hR hC myX11_within (kAW (v_1_10 (List.mem_of_getElem? (i := 1) rfl)) rfl) (c_X11_within _ _ cA ad g0 a (0 : Int32) (65535 : Int32) hW.2.1) ⟨by decide, by decide⟩ rfl rfl hl.1 (Nat.le_of_ble_eq_true rfl) dX11_seed_5 (fun v g293 H locs hp hW1 => ?_)
  obtain ⟨r292, rfl, hr292, rfl⟩ := hp
  have hW : WS ad cA (fun i k => (i = 18 ∧ (k = 7))) g0 K g0 H locs := ⟨hW1, hW.2.1, hW.2.2⟩
  refine q_if_ne (tgt := 13) hM dX11_seed_8 (by decide) (rfl : r292.toInt = r292.toInt) (fun h8 => ?_) (fun h8 => ?_)
  · refine q_aload_n hM dX11_seed_13 (lv_at hl 0 rfl) ?_
    refine w_get (v := .ref (ad 18)) hM hW FG_X11_26 lb_0 (rf_0_10 hW.2.1) dX11_seed_14 ?_
    refine q_iload_n hM dX11_seed_17 (lv_at hl 1 rfl) ?_
    refine w_put hM hW FP_X11_316 lb_18 (by omega) (Or.inl ⟨_, rfl⟩) rfl rfl dX11_seed_18 (fun g294 H locs hW e1 e2 => ?_)
    have f295 : fld g294 18 7 = .int a := e1
    refine q_iconst (v := (1 : Int32)) hM dX11_seed_21 (by decide) ?_
    exact hE _ _ _ _ _ _ hW.1 nz_1 ⟨_, rfl, hW.2.1, FR.wk hW.2.2 (fun i k h => by omega), (by have := kc_1; omega)⟩ dX11_seed_22
  · refine q_iconst (v := (0 : Int32)) hM dX11_seed_11 (by decide) ?_
    exact hE _ _ _ _ _ _ hW.1 nz_0 ⟨_, rfl, hW.2.1, FR.wk hW.2.2 (fun i k h => by omega), (by have := kc_0; omega)⟩ dX11_seed_12

theorem dX11_taught_0 : decode cX11_taught 0 = .ok (.iload_n 1, 1) := by decide +kernel
theorem dX11_taught_1 : decode cX11_taught 1 = .ok (.aload_n 0, 1) := by decide +kernel
theorem dX11_taught_2 : decode cX11_taught 2 = .ok (.getfield 90, 3) := by decide +kernel
theorem dX11_taught_5 : decode cX11_taught 5 = .ok (.getfield 273, 3) := by decide +kernel
theorem dX11_taught_8 : decode cX11_taught 8 = .ok (.invokestatic 227, 3) := by decide +kernel
theorem dX11_taught_11 : decode cX11_taught 11 = .ok (.ifCond .eq 24, 3) := by decide +kernel
theorem dX11_taught_14 : decode cX11_taught 14 = .ok (.iload_n 2, 1) := by decide +kernel
theorem dX11_taught_15 : decode cX11_taught 15 = .ok (.iconst 1, 1) := by decide +kernel
theorem dX11_taught_16 : decode cX11_taught 16 = .ok (.bipush 63, 2) := by decide +kernel
theorem dX11_taught_18 : decode cX11_taught 18 = .ok (.invokestatic 112, 3) := by decide +kernel
theorem dX11_taught_21 : decode cX11_taught 21 = .ok (.ifCond .eq 14, 3) := by decide +kernel
theorem dX11_taught_24 : decode cX11_taught 24 = .ok (.iload_n 1, 1) := by decide +kernel
theorem dX11_taught_25 : decode cX11_taught 25 = .ok (.invokestatic 206, 3) := by decide +kernel
theorem dX11_taught_28 : decode cX11_taught 28 = .ok (.iload_n 2, 1) := by decide +kernel
theorem dX11_taught_29 : decode cX11_taught 29 = .ok (.invokestatic 206, 3) := by decide +kernel
theorem dX11_taught_32 : decode cX11_taught 32 = .ok (.if_icmp .eq 5, 3) := by decide +kernel
theorem dX11_taught_35 : decode cX11_taught 35 = .ok (.iconst (-1), 1) := by decide +kernel
theorem dX11_taught_36 : decode cX11_taught 36 = .ok (.ireturn, 1) := by decide +kernel
theorem FG_X11_90 : FG RX11 90 11 16 3 := ⟨RX11, TX11, rfl, wX11, by decide, kAW (v_1_6 (List.mem_of_getElem? (i := 15) rfl)) rfl, rfl⟩
theorem FG_X11_273 : FG RX11 273 9 5 4 := ⟨RX9, TX9, rfl, wX9, by decide, kAW (v_1_2 (List.mem_of_getElem? (i := 13) rfl)) rfl, rfl⟩
set_option maxRecDepth 100000 in
set_option maxHeartbeats 4000000 in
theorem p_X11_taught (l : Launch) (D : va_G) (cA : Nat → ClassId) (ad : Nat → Nat) (g0 : Nat → va_E) (a b c : Int32) (hSh : Shp ad cA g0) (hF : ∀ j, j < NN → g0 j = gF ad cA j) : CT l NN ad cA D yX11_taught cX11_taught 5 (some FieldType.int) (1, 22) [.ref (ad 0), .int a, .int b, .int c] g0 (fun v g' => ∃ r : Int32, v = some (.int r) ∧ Shp ad cA g' ∧ FR (fun i _ => i < 129) g0 g' ∧ (r.toInt = -1)) := by
  refine q_enterI (by decide) (Nat.le_of_ble_eq_true rfl) rfl (fun K H locs ls _ _ hM hW0 hR hC hE hl => ?_)
  have hl : lv_has ls 5 [(0, .ref (ad 0)), (1, .int a), (2, .int b), (3, .int c)] := hl
  have hW : WS ad cA (fun i k => False) g0 K g0 H locs := ⟨hW0, hSh, FR.rf⟩
  have := kc_1
  have := kc_63
  refine q_iload_n hM dX11_taught_0 (lv_at hl 1 rfl) ?_
  refine q_aload_n hM dX11_taught_1 (lv_at hl 0 rfl) ?_
  refine w_get (v := .ref (ad 102)) hM hW FG_X11_90 lb_0 (rf_0_3 hW.2.1) dX11_taught_2 ?_
  refine w_get (v := .int (0 : Int32)) hM hW FG_X11_273 lb_102 ((hW.2.2.1 102 4 (fun h => h)).trans (zf hF (by decide) rfl : fld g0 102 4 = .int (0 : Int32))) dX11_taught_5 ?_
  refine q_callS (As := [.int a, .int (0 : Int32)]) (rest := []) hM hW.1 hR hC myX11_areOf (kAW (v_3_4 (List.mem_of_getElem? (i := 6) rfl)) rfl) (c_X11_areOf _ _ cA ad g0 a (0 : Int32) hW.2.1) ⟨by decide, by decide⟩ rfl rfl hl.1 (Nat.le_of_ble_eq_true rfl) dX11_taught_8 (fun v g297 H locs hp hW1 => ?_)
  obtain ⟨r296, rfl, hr296, rfl⟩ := hp
  have hW : WS ad cA (fun i k => False) g0 K g0 H locs := ⟨hW1, hW.2.1, hW.2.2⟩
  refine q_if_eq (tgt := 35) hM dX11_taught_11 (by decide) (rfl : r296.toInt = r296.toInt) (fun h11 => ?_) (fun h11 => ?_)
  · refine q_iconst (v := ((-1) : Int32)) hM dX11_taught_35 (by decide) ?_
    exact hE _ _ _ _ _ _ hW.1 ⟨_, rfl, hW.2.1, FR.wk hW.2.2 (fun _ _ h => h.elim), (by have := kc_m1; omega)⟩ dX11_taught_36
  · refine q_iload_n hM dX11_taught_14 (lv_at hl 2 rfl) ?_
    refine q_iconst (v := (1 : Int32)) hM dX11_taught_15 (by decide) ?_
    refine q_bipush (v := (63 : Int32)) hM dX11_taught_16 (by decide) ?_
    refine q_callS (As := [.int b, .int (1 : Int32), .int (63 : Int32)]) (rest := []) hM hW.1 hR hC myX11_within (kAW (v_1_10 (List.mem_of_getElem? (i := 1) rfl)) rfl) (c_X11_within _ _ cA ad g0 b (1 : Int32) (63 : Int32) hW.2.1) ⟨by decide, by decide⟩ rfl rfl hl.1 (Nat.le_of_ble_eq_true rfl) dX11_taught_18 (fun v g299 H locs hp hW1 => ?_)
    obtain ⟨r298, rfl, hr298, rfl⟩ := hp
    have hW : WS ad cA (fun i k => False) g0 K g0 H locs := ⟨hW1, hW.2.1, hW.2.2⟩
    refine q_if_eq (tgt := 35) hM dX11_taught_21 (by decide) (rfl : r298.toInt = r298.toInt) (fun h21 => ?_) (fun h21 => ?_)
    · refine q_iconst (v := ((-1) : Int32)) hM dX11_taught_35 (by decide) ?_
      exact hE _ _ _ _ _ _ hW.1 ⟨_, rfl, hW.2.1, FR.wk hW.2.2 (fun _ _ h => h.elim), (by have := kc_m1; omega)⟩ dX11_taught_36
    · refine q_iload_n hM dX11_taught_24 (lv_at hl 1 rfl) ?_
      refine q_callS (As := [.int a]) (rest := []) hM hW.1 hR hC myJ6_bitCount_0f7a4 (kAW (v_3_1 (List.mem_of_getElem? (i := 2) rfl)) rfl) (c_J6_bitCount_0f7a4 _ _ cA ad g0 a hW.2.1) ⟨by decide, by decide⟩ rfl rfl hl.1 (Nat.le_of_ble_eq_true rfl) dX11_taught_25 (fun v g301 H locs hp hW1 => ?_)
      obtain ⟨r300, rfl, hr300, rfl⟩ := hp
      have hW : WS ad cA (fun i k => False) g0 K g0 H locs := ⟨hW1, hW.2.1, hW.2.2⟩
      refine q_iload_n hM dX11_taught_28 (lv_at hl 2 rfl) ?_
      refine q_callS (As := [.int b]) (rest := [.int r300]) hM hW.1 hR hC myJ6_bitCount_0f7a4 (kAW (v_3_1 (List.mem_of_getElem? (i := 2) rfl)) rfl) (c_J6_bitCount_0f7a4 _ _ cA ad g0 b hW.2.1) ⟨by decide, by decide⟩ rfl rfl hl.1 (Nat.le_of_ble_eq_true rfl) dX11_taught_29 (fun v g303 H locs hp hW1 => ?_)
      obtain ⟨r302, rfl, hr302, rfl⟩ := hp
      have hW : WS ad cA (fun i k => False) g0 K g0 H locs := ⟨hW1, hW.2.1, hW.2.2⟩
      refine q_icmp_eq (tgt := 37) hM dX11_taught_32 (by decide) (rfl : r300.toInt = r300.toInt) (rfl : r302.toInt = r302.toInt) (fun h32 => ?_) (fun h32 => ?_)
      · exact (bc_ne hr300 hr302 (areOf_0 hr296 h11) (by omega) (by omega) h32).elim
      · refine q_iconst (v := ((-1) : Int32)) hM dX11_taught_35 (by decide) ?_
        exact hE _ _ _ _ _ _ hW.1 ⟨_, rfl, hW.2.1, FR.wk hW.2.2 (fun _ _ h => h.elim), (by have := kc_m1; omega)⟩ dX11_taught_36

theorem dX11_copy_0 : decode cX11_copy 0 = .ok (.aload_n 0, 1) := by decide +kernel
theorem dX11_copy_1 : decode cX11_copy 1 = .ok (.getfield 43, 3) := by decide +kernel
theorem dX11_copy_4 : decode cX11_copy 4 = .ok (.aload_n 0, 1) := by decide +kernel
theorem dX11_copy_5 : decode cX11_copy 5 = .ok (.getfield 39, 3) := by decide +kernel
theorem dX11_copy_8 : decode cX11_copy 8 = .ok (.invokevirtual 194, 3) := by decide +kernel
theorem dX11_copy_11 : decode cX11_copy 11 = .ok (.aload_n 0, 1) := by decide +kernel
theorem dX11_copy_12 : decode cX11_copy 12 = .ok (.getfield 43, 3) := by decide +kernel
theorem dX11_copy_15 : decode cX11_copy 15 = .ok (.getfield 196, 3) := by decide +kernel
theorem dX11_copy_18 : decode cX11_copy 18 = .ok (.ireturn, 1) := by decide +kernel
theorem FG_X11_43 : FG RX11 43 11 16 9 := ⟨RX11, TX11, rfl, wX11, by decide, kAW (v_1_7 (List.mem_of_getElem? (i := 5) rfl)) rfl, rfl⟩
theorem myX3_become : MI yX3_become cX3_become 3 none 1 := ⟨kAW (v_3_2 (List.mem_of_getElem? (i := 3) rfl)) rfl, kAW (v_0_0 (List.mem_of_getElem? (i := 5) rfl)) rfl, kAW (v_3_2 (List.mem_of_getElem? (i := 1) rfl)) rfl, kAW (v_3_2 (List.mem_of_getElem? (i := 2) rfl)) rfl, by decide, by decide, by decide +kernel⟩
theorem FG_X11_196 : FG RX11 196 3 8 6 := ⟨RX3, TX3, rfl, wX3, by decide, kAW (v_0_8 (List.mem_of_getElem? (i := 5) rfl)) rfl, rfl⟩
set_option maxRecDepth 100000 in
set_option maxHeartbeats 4000000 in
theorem p_X11_copy (l : Launch) (D : va_G) (cA : Nat → ClassId) (ad : Nat → Nat) (g0 : Nat → va_E)  (hSh : Shp ad cA g0) (hF : ∀ j, j < NN → g0 j = gF ad cA j) : CT l NN ad cA D yX11_copy cX11_copy 1 (some FieldType.int) (1, 22) [.ref (ad 0)] g0 (fun v g' => ∃ r : Int32, v = some (.int r) ∧ Shp ad cA g' ∧ FR (fun i _ => i < 129) g0 g' ∧ (r.toInt = 0)) := by
  refine q_enterI (by decide) (Nat.le_of_ble_eq_true rfl) rfl (fun K H locs ls _ _ hM hW0 hR hC hE hl => ?_)
  have hl : lv_has ls 1 [(0, .ref (ad 0))] := hl
  have hW : WS ad cA (fun i k => (i = 61 ∧ (k = 6 ∨ k = 7)) ∨ (62 ≤ i ∧ i < 67)) g0 K g0 H locs := ⟨hW0, hSh, FR.rf⟩
  have f304 : fld g0 61 6 = .int (0 : Int32) := (zf hF (by decide) rfl : fld g0 61 6 = .int (0 : Int32))
  have f305 : fld g0 61 7 = .int (0 : Int32) := (zf hF (by decide) rfl : fld g0 61 7 = .int (0 : Int32))
  refine q_aload_n hM dX11_copy_0 (lv_at hl 0 rfl) ?_
  refine w_get (v := .ref (ad 61)) hM hW FG_X11_43 lb_0 (rf_0_9 hW.2.1) dX11_copy_1 ?_
  refine q_aload_n hM dX11_copy_4 (lv_at hl 0 rfl) ?_
  refine w_get (v := .ref (ad 54)) hM hW FG_X11_39 lb_0 ((hW.2.2.1 0 13 (by omega)).trans (zf hF (by decide) rfl : fld g0 0 13 = .ref (ad 54))) dX11_copy_5 ?_
  refine q_callV (As := [.ref (ad 54)]) (rest := []) hM hW.1 hR hC myX3_become (kAW (v_3_2 (List.mem_of_getElem? (i := 0) rfl)) rfl) (rfl : vwCl[3]? = some (RX3, TX3, 8)) rfl lb_61.1 (shO hW.2.1 lb_61) (c_X3_become _ _ cA ad g0 (0 : Int32) (0 : Int32) hW.2.1 ((hW.2.2.1 54 6 (by omega)).trans (zf hF (by decide) rfl : fld g0 54 6 = .int (0 : Int32))) ((hW.2.2.1 54 7 (by omega)).trans (zf hF (by decide) rfl : fld g0 54 7 = .int (0 : Int32)))) ⟨by decide, by decide⟩ rfl rfl hl.1 (Nat.le_of_ble_eq_true rfl) dX11_copy_8 (fun v g307 H locs hp hW1 => ?_)
  obtain ⟨rfl, hs1, hf1, q306⟩ := hp
  have hW : WS ad cA (fun i k => (i = 61 ∧ (k = 6 ∨ k = 7)) ∨ (62 ≤ i ∧ i < 67)) g0 K g307 H locs := ⟨hW1, hs1, hW.2.2.tr hf1 (fun i k h => by omega)⟩
  refine q_aload_n hM dX11_copy_11 (lv_at hl 0 rfl) ?_
  refine w_get (v := .ref (ad 61)) hM hW FG_X11_43 lb_0 (rf_0_9 hW.2.1) dX11_copy_12 ?_
  refine w_get (v := .int (0 : Int32)) hM hW FG_X11_196 lb_61 q306 dX11_copy_15 ?_
  exact hE _ _ _ _ _ _ hW.1 ⟨_, rfl, hW.2.1, FR.wk hW.2.2 (fun i k h => by omega), (by have := kc_0; omega)⟩ dX11_copy_18

theorem dX11_keep_0 : decode cX11_keep 0 = .ok (.aload_n 0, 1) := by decide +kernel
theorem dX11_keep_1 : decode cX11_keep 1 = .ok (.getfield 30, 3) := by decide +kernel
theorem dX11_keep_4 : decode cX11_keep 4 = .ok (.aload_n 0, 1) := by decide +kernel
theorem dX11_keep_5 : decode cX11_keep 5 = .ok (.getfield 26, 3) := by decide +kernel
theorem dX11_keep_8 : decode cX11_keep 8 = .ok (.invokevirtual 319, 3) := by decide +kernel
theorem dX11_keep_11 : decode cX11_keep 11 = .ok (.aload_n 0, 1) := by decide +kernel
theorem dX11_keep_12 : decode cX11_keep 12 = .ok (.iconst 1, 1) := by decide +kernel
theorem dX11_keep_13 : decode cX11_keep 13 = .ok (.putfield 108, 3) := by decide +kernel
theorem dX11_keep_16 : decode cX11_keep 16 = .ok (.aload_n 0, 1) := by decide +kernel
theorem dX11_keep_17 : decode cX11_keep 17 = .ok (.getfield 26, 3) := by decide +kernel
theorem dX11_keep_20 : decode cX11_keep 20 = .ok (.getfield 322, 3) := by decide +kernel
theorem dX11_keep_23 : decode cX11_keep 23 = .ok (.ireturn, 1) := by decide +kernel
theorem FG_X11_30 : FG RX11 30 11 16 11 := ⟨RX11, TX11, rfl, wX11, by decide, kAW (v_1_7 (List.mem_of_getElem? (i := 7) rfl)) rfl, rfl⟩
theorem FP_X11_108 : FPX RX11 108 11 16 15 .boolean := ⟨⟨RX11, TX11, tyX11, rfl, wX11, by decide, kAW (v_1_7 (List.mem_of_getElem? (i := 11) rfl)) rfl, rfl, tyX11_ok, nmX11, by decide +kernel, rfl⟩, by decide +kernel⟩
theorem FG_X11_322 : FG RX11 322 7 8 4 := ⟨RX7, TX7, rfl, wX7, by decide, kAW (v_0_5 (List.mem_of_getElem? (i := 10) rfl)) rfl, rfl⟩
set_option maxRecDepth 100000 in
set_option maxHeartbeats 4000000 in
theorem p_X11_keep (l : Launch) (D : va_G) (cA : Nat → ClassId) (ad : Nat → Nat) (g0 : Nat → va_E)  (hSh : Shp ad cA g0) (hF : ∀ j, j < NN → g0 j = gF ad cA j) : CT l NN ad cA D yX11_keep cX11_keep 1 (some FieldType.int) (1, 23) [.ref (ad 0)] g0 (fun v g' => ∃ r : Int32, v = some (.int r) ∧ Shp ad cA g' ∧ FR (fun i _ => i < 129) g0 g' ∧ (r.toInt = 0)) := by
  refine q_enterI (by decide) (Nat.le_of_ble_eq_true rfl) rfl (fun K H locs ls _ _ hM hW0 hR hC hE hl => ?_)
  have hl : lv_has ls 1 [(0, .ref (ad 0))] := hl
  have hW : WS ad cA (fun i k => i = 31 ∨ i = 32 ∨ (34 ≤ i ∧ i < 42) ∨ (i = 30 ∧ (k = 3 ∨ k = 4 ∨ k = 5 ∨ k = 6 ∨ k = 7)) ∨ (i = 0 ∧ (k = 15))) g0 K g0 H locs := ⟨hW0, hSh, FR.rf⟩
  have f308 : fld g0 30 3 = .int (0 : Int32) := (zf hF (by decide) rfl : fld g0 30 3 = .int (0 : Int32))
  have f309 : fld g0 30 4 = .int (0 : Int32) := (zf hF (by decide) rfl : fld g0 30 4 = .int (0 : Int32))
  have f310 : fld g0 30 5 = .int (0 : Int32) := (zf hF (by decide) rfl : fld g0 30 5 = .int (0 : Int32))
  have f311 : fld g0 30 6 = .int (0 : Int32) := (zf hF (by decide) rfl : fld g0 30 6 = .int (0 : Int32))
  have f312 : fld g0 30 7 = .int (1 : Int32) := (zf hF (by decide) rfl : fld g0 30 7 = .int (1 : Int32))
  have f313 : fld g0 0 15 = .int (0 : Int32) := (zf hF (by decide) rfl : fld g0 0 15 = .int (0 : Int32))
  refine q_aload_n hM dX11_keep_0 (lv_at hl 0 rfl) ?_
  refine w_get (v := .ref (ad 30)) hM hW FG_X11_30 lb_0 (rf_0_11 hW.2.1) dX11_keep_1 ?_
  refine q_aload_n hM dX11_keep_4 (lv_at hl 0 rfl) ?_
  refine w_get (v := .ref (ad 18)) hM hW FG_X11_26 lb_0 (rf_0_10 hW.2.1) dX11_keep_5 ?_
  refine q_callV (As := [.ref (ad 18)]) (rest := []) hM hW.1 hR hC myX7_become (kAW (v_3_0 (List.mem_of_getElem? (i := 9) rfl)) rfl) (rfl : vwCl[7]? = some (RX7, TX7, 8)) rfl lb_30.1 (shO hW.2.1 lb_30) (c_X7_become_30 _ _ cA ad g0 (0 : Int32) (0 : Int32) (0 : Int32) (0 : Int32) (1 : Int32) hW.2.1 ((hW.2.2.1 18 3 (by omega)).trans (zf hF (by decide) rfl : fld g0 18 3 = .int (0 : Int32))) ((hW.2.2.1 18 4 (by omega)).trans (zf hF (by decide) rfl : fld g0 18 4 = .int (0 : Int32))) ((hW.2.2.1 18 5 (by omega)).trans (zf hF (by decide) rfl : fld g0 18 5 = .int (0 : Int32))) ((hW.2.2.1 18 6 (by omega)).trans (zf hF (by decide) rfl : fld g0 18 6 = .int (0 : Int32))) ((hW.2.2.1 18 7 (by omega)).trans (zf hF (by decide) rfl : fld g0 18 7 = .int (1 : Int32)))) ⟨by decide, by decide⟩ rfl rfl hl.1 (Nat.le_of_ble_eq_true rfl) dX11_keep_8 (fun v g319 H locs hp hW1 => ?_)
  obtain ⟨rfl, hs1, hf1, q314, q315, q316, q317, q318⟩ := hp
  have f320 : fld g319 0 15 = .int (0 : Int32) := (hf1.1 0 15 (by omega)).trans f313
  have hW : WS ad cA (fun i k => i = 31 ∨ i = 32 ∨ (34 ≤ i ∧ i < 42) ∨ (i = 30 ∧ (k = 3 ∨ k = 4 ∨ k = 5 ∨ k = 6 ∨ k = 7)) ∨ (i = 0 ∧ (k = 15))) g0 K g319 H locs := ⟨hW1, hs1, hW.2.2.tr hf1 (fun i k h => by omega)⟩
  refine q_aload_n hM dX11_keep_11 (lv_at hl 0 rfl) ?_
  refine q_iconst (v := (1 : Int32)) hM dX11_keep_12 (by decide) ?_
  refine w_put hM hW FP_X11_108 lb_0 (by omega) (Or.inl ⟨_, rfl⟩) rfl rfl dX11_keep_13 (fun g321 H locs hW e1 e2 => ?_)
  have f322 : fld g321 30 3 = .int (0 : Int32) := (e2.1 30 3 (by unfold Only; omega)).trans q314
  have f323 : fld g321 30 4 = .int (0 : Int32) := (e2.1 30 4 (by unfold Only; omega)).trans q315
  have f324 : fld g321 30 5 = .int (0 : Int32) := (e2.1 30 5 (by unfold Only; omega)).trans q316
  have f325 : fld g321 30 6 = .int (0 : Int32) := (e2.1 30 6 (by unfold Only; omega)).trans q317
  have f326 : fld g321 30 7 = .int (1 : Int32) := (e2.1 30 7 (by unfold Only; omega)).trans q318
  have f327 : fld g321 0 15 = .int (1 : Int32) := e1
  refine q_aload_n hM dX11_keep_16 (lv_at hl 0 rfl) ?_
  refine w_get (v := .ref (ad 18)) hM hW FG_X11_26 lb_0 (rf_0_10 hW.2.1) dX11_keep_17 ?_
  refine w_get (v := .int (0 : Int32)) hM hW FG_X11_322 lb_18 ((hW.2.2.1 18 4 (by omega)).trans (zf hF (by decide) rfl : fld g0 18 4 = .int (0 : Int32))) dX11_keep_20 ?_
  exact hE _ _ _ _ _ _ hW.1 ⟨_, rfl, hW.2.1, FR.wk hW.2.2 (fun i k h => by omega), (by have := kc_0; omega)⟩ dX11_keep_23

theorem dX11_kin_0 : decode cX11_kin 0 = .ok (.iload_n 1, 1) := by decide +kernel
theorem dX11_kin_1 : decode cX11_kin 1 = .ok (.bipush 100, 2) := by decide +kernel
theorem dX11_kin_3 : decode cX11_kin 3 = .ok (.if_icmp .ne 11, 3) := by decide +kernel
theorem dX11_kin_6 : decode cX11_kin 6 = .ok (.aload_n 0, 1) := by decide +kernel
theorem dX11_kin_7 : decode cX11_kin 7 = .ok (.getfield 19, 3) := by decide +kernel
theorem dX11_kin_10 : decode cX11_kin 10 = .ok (.invokevirtual 247, 3) := by decide +kernel
theorem dX11_kin_13 : decode cX11_kin 13 = .ok (.ireturn, 1) := by decide +kernel
theorem dX11_kin_14 : decode cX11_kin 14 = .ok (.aload_n 0, 1) := by decide +kernel
theorem dX11_kin_15 : decode cX11_kin 15 = .ok (.getfield 19, 3) := by decide +kernel
theorem dX11_kin_18 : decode cX11_kin 18 = .ok (.getfield 116, 3) := by decide +kernel
theorem dX11_kin_21 : decode cX11_kin 21 = .ok (.iload_n 1, 1) := by decide +kernel
theorem dX11_kin_22 : decode cX11_kin 22 = .ok (.invokestatic 123, 3) := by decide +kernel
theorem dX11_kin_25 : decode cX11_kin 25 = .ok (.ifCond .eq 14, 3) := by decide +kernel
theorem dX11_kin_39 : decode cX11_kin 39 = .ok (.iconst (-1), 1) := by decide +kernel
theorem dX11_kin_40 : decode cX11_kin 40 = .ok (.ireturn, 1) := by decide +kernel
theorem myX5_groups : MI yX5_groups cX5_groups 3 (some FieldType.int) 0 := ⟨kAW (v_3_9 (List.mem_of_getElem? (i := 5) rfl)) rfl, kAW (v_0_0 (List.mem_of_getElem? (i := 3) rfl)) rfl, kAW (v_3_9 (List.mem_of_getElem? (i := 3) rfl)) rfl, kAW (v_3_9 (List.mem_of_getElem? (i := 4) rfl)) rfl, by decide, by decide, by decide +kernel⟩
set_option maxRecDepth 100000 in
set_option maxHeartbeats 4000000 in
theorem p_X11_kin (l : Launch) (D : va_G) (cA : Nat → ClassId) (ad : Nat → Nat) (g0 : Nat → va_E) (a : Int32) (hSh : Shp ad cA g0) (hF : ∀ j, j < NN → g0 j = gF ad cA j) : CT l NN ad cA D yX11_kin cX11_kin 2 (some FieldType.int) (2, 43) [.ref (ad 0), .int a] g0 (fun v g' => ∃ r : Int32, v = some (.int r) ∧ Shp ad cA g' ∧ FR (fun i _ => i < 129) g0 g' ∧ (((a.toInt = 100) ∧ r.toInt = 0) ∨ (¬ (a.toInt = 100) ∧ r.toInt = -1))) := by
  refine q_enterI (by decide) (Nat.le_of_ble_eq_true rfl) rfl (fun K H locs ls _ _ hM hW0 hR hC hE hl => ?_)
  have hl : lv_has ls 2 [(0, .ref (ad 0)), (1, .int a)] := hl
  have hW : WS ad cA (fun i k => False) g0 K g0 H locs := ⟨hW0, hSh, FR.rf⟩
  have := kc_0
  have := kc_100
  have := kc_m1
  refine q_iload_n hM dX11_kin_0 (lv_at hl 1 rfl) ?_
  refine q_bipush (v := (100 : Int32)) hM dX11_kin_1 (by decide) ?_
  refine q_icmp_ne (tgt := 14) hM dX11_kin_3 (by decide) (rfl : a.toInt = a.toInt) (kc_100 : (100 : Int32).toInt = 100) (fun h3 => ?_) (fun h3 => ?_)
  · refine q_aload_n hM dX11_kin_14 (lv_at hl 0 rfl) ?_
    refine w_get (v := .ref (ad 3)) hM hW FG_X11_19 lb_0 (rf_0_1 hW.2.1) dX11_kin_15 ?_
    refine w_get (v := .int (0 : Int32)) hM hW FG_X11_116 lb_3 ((hW.2.2.1 3 2 (fun h => h)).trans (zf hF (by decide) rfl : fld g0 3 2 = .int (0 : Int32))) dX11_kin_18 ?_
    refine q_iload_n hM dX11_kin_21 (lv_at hl 1 rfl) ?_
    refine q_callS (As := [.int (0 : Int32), .int a]) (rest := []) hM hW.1 hR hC myX11_has (kAW (v_1_10 (List.mem_of_getElem? (i := 8) rfl)) rfl) (c_X11_has _ _ cA ad g0 (0 : Int32) a hW.2.1) ⟨by decide, by decide⟩ rfl rfl hl.1 (Nat.le_of_ble_eq_true rfl) dX11_kin_22 (fun v g329 H locs hp hW1 => ?_)
    obtain ⟨r328, rfl, hr328, rfl⟩ := hp
    have hW : WS ad cA (fun i k => False) g0 K g0 H locs := ⟨hW1, hW.2.1, hW.2.2⟩
    have kr328 : r328.toInt = 0 := has_r0 hr328
    refine q_if_eq (tgt := 39) hM dX11_kin_25 (by decide) (kr328 : r328.toInt = 0) (fun h25 => ?_) (fun h25 => ?_)
    · refine q_iconst (v := ((-1) : Int32)) hM dX11_kin_39 (by decide) ?_
      exact hE _ _ _ _ _ _ hW.1 ⟨_, rfl, hW.2.1, FR.wk hW.2.2 (fun _ _ h => h.elim), (by have := kc_m1; omega)⟩ dX11_kin_40
    · omega
  · refine q_aload_n hM dX11_kin_6 (lv_at hl 0 rfl) ?_
    refine w_get (v := .ref (ad 3)) hM hW FG_X11_19 lb_0 (rf_0_1 hW.2.1) dX11_kin_7 ?_
    refine q_callV (As := []) (rest := []) hM hW.1 hR hC myX5_groups (kAW (v_3_9 (List.mem_of_getElem? (i := 2) rfl)) rfl) (rfl : vwCl[5]? = some (RX5, TX5, 3)) rfl lb_3.1 (shO hW.2.1 lb_3) (c_X5_groups _ _ cA ad g0  hW.2.1 hF) ⟨by decide, by decide⟩ rfl rfl hl.1 (Nat.le_of_ble_eq_true rfl) dX11_kin_10 (fun v g331 H locs hp hW1 => ?_)
    obtain ⟨r330, rfl, hr330, rfl⟩ := hp
    have hW : WS ad cA (fun i k => False) g0 K g0 H locs := ⟨hW1, hW.2.1, hW.2.2⟩
    exact hE _ _ _ _ _ _ hW.1 ⟨_, rfl, hW.2.1, FR.wk hW.2.2 (fun _ _ h => h.elim), (by omega)⟩ dX11_kin_13

theorem dX11_root_0 : decode cX11_root 0 = .ok (.bipush (-2), 2) := by decide +kernel
theorem dX11_root_2 : decode cX11_root 2 = .ok (.istore_n 1, 1) := by decide +kernel
theorem dX11_root_3 : decode cX11_root 3 = .ok (.iconst (-1), 1) := by decide +kernel
theorem dX11_root_4 : decode cX11_root 4 = .ok (.istore_n 2, 1) := by decide +kernel
theorem dX11_root_5 : decode cX11_root 5 = .ok (.iconst 0, 1) := by decide +kernel
theorem dX11_root_6 : decode cX11_root 6 = .ok (.istore_n 3, 1) := by decide +kernel
theorem dX11_root_7 : decode cX11_root 7 = .ok (.iload_n 3, 1) := by decide +kernel
theorem dX11_root_8 : decode cX11_root 8 = .ok (.bipush 12, 2) := by decide +kernel
theorem dX11_root_10 : decode cX11_root 10 = .ok (.if_icmp .ge 48, 3) := by decide +kernel
theorem dX11_root_13 : decode cX11_root 13 = .ok (.aload_n 0, 1) := by decide +kernel
theorem dX11_root_14 : decode cX11_root 14 = .ok (.getfield 19, 3) := by decide +kernel
theorem dX11_root_17 : decode cX11_root 17 = .ok (.iload_n 3, 1) := by decide +kernel
theorem dX11_root_18 : decode cX11_root 18 = .ok (.iconst 0, 1) := by decide +kernel
theorem dX11_root_19 : decode cX11_root 19 = .ok (.invokevirtual 244, 3) := by decide +kernel
theorem dX11_root_22 : decode cX11_root 22 = .ok (.invokestatic 206, 3) := by decide +kernel
theorem dX11_root_25 : decode cX11_root 25 = .ok (.istore 4, 2) := by decide +kernel
theorem dX11_root_27 : decode cX11_root 27 = .ok (.aload_n 0, 1) := by decide +kernel
theorem dX11_root_28 : decode cX11_root 28 = .ok (.getfield 19, 3) := by decide +kernel
theorem dX11_root_31 : decode cX11_root 31 = .ok (.getfield 116, 3) := by decide +kernel
theorem dX11_root_34 : decode cX11_root 34 = .ok (.iload_n 3, 1) := by decide +kernel
theorem dX11_root_35 : decode cX11_root 35 = .ok (.invokestatic 123, 3) := by decide +kernel
theorem dX11_root_38 : decode cX11_root 38 = .ok (.ifCond .eq 14, 3) := by decide +kernel
theorem dX11_root_52 : decode cX11_root 52 = .ok (.iinc 3 1, 3) := by decide +kernel
theorem dX11_root_55 : decode cX11_root 55 = .ok (.goto (-48), 3) := by decide +kernel
theorem dX11_root_58 : decode cX11_root 58 = .ok (.iload_n 1, 1) := by decide +kernel
theorem dX11_root_59 : decode cX11_root 59 = .ok (.ireturn, 1) := by decide +kernel
theorem myX5_reached : MI yX5_reached cX5_reached 8 (some FieldType.int) 2 := ⟨kAW (v_3_7 (List.mem_of_getElem? (i := 15) rfl)) rfl, kAW (v_0_0 (List.mem_of_getElem? (i := 3) rfl)) rfl, kAW (v_3_7 (List.mem_of_getElem? (i := 13) rfl)) rfl, kAW (v_3_7 (List.mem_of_getElem? (i := 14) rfl)) rfl, by decide, by decide, by decide +kernel⟩
set_option maxRecDepth 100000 in
set_option maxHeartbeats 4000000 in
theorem p_X11_root (l : Launch) (D : va_G) (cA : Nat → ClassId) (ad : Nat → Nat) (g0 : Nat → va_E)  (hSh : Shp ad cA g0) (hF : ∀ j, j < NN → g0 j = gF ad cA j) : CT l NN ad cA D yX11_root cX11_root 5 (some FieldType.int) (2, 50) [.ref (ad 0)] g0 (fun v g' => ∃ r : Int32, v = some (.int r) ∧ Shp ad cA g' ∧ FR (fun i _ => i < 129) g0 g' ∧ (r.toInt = -2)) := by
  refine q_enterI (by decide) (Nat.le_of_ble_eq_true rfl) rfl (fun K H locs ls _ _ hM hW0 hR hC hE hl => ?_)
  have hl : lv_has ls 5 [(0, .ref (ad 0))] := hl
  have hW : WS ad cA (fun i k => False) g0 K g0 H locs := ⟨hW0, hSh, FR.rf⟩
  refine q_bipush (v := ((-2) : Int32)) hM dX11_root_0 (by decide) ?_
  refine q_istore_n (lv9 := [(1, .int ((-2) : Int32)), (0, .ref (ad 0))]) hM dX11_root_2 hl (by decide) rfl (fun ls hl => ?_)
  refine q_iconst (v := ((-1) : Int32)) hM dX11_root_3 (by decide) ?_
  refine q_istore_n (lv9 := [(2, .int ((-1) : Int32)), (1, .int ((-2) : Int32)), (0, .ref (ad 0))]) hM dX11_root_4 hl (by decide) rfl (fun ls hl => ?_)
  refine q_iconst (v := (0 : Int32)) hM dX11_root_5 (by decide) ?_
  refine q_istore_n (lv9 := [(3, .int (0 : Int32)), (2, .int ((-1) : Int32)), (1, .int ((-2) : Int32)), (0, .ref (ad 0))]) hM dX11_root_6 hl (by decide) rfl (fun ls hl => ?_)
  have L7 : ∀ (fu7 : Nat) (i : Int32) (H : Heap) (locs : List Loc) (ls : Array Slot), (12 - i.toInt).toNat < fu7 → (0 ≤ i.toInt) → (i.toInt ≤ 12) → lv_has ls 5 [(0, .ref (ad 0)), (1, .int ((-2) : Int32)), (2, .int ((-1) : Int32)), (3, .int i)] → WS ad cA (fun i k => False) g0 K g0 H locs → XX K 0 0 H locs 7 ls [] := by
    intro fu7
    induction fu7 with
    | zero => intro i H locs ls h0; omega
    | succ fu7 ih7 =>
      intro i H locs ls hm7 i7_0 i7_1 hl hW
      refine q_iload_n hM dX11_root_7 (lv_at hl 3 rfl) ?_
      refine q_bipush (v := (12 : Int32)) hM dX11_root_8 (by decide) ?_
      refine q_icmp_ge (tgt := 58) hM dX11_root_10 (by decide) (rfl : i.toInt = i.toInt) (kc_12 : (12 : Int32).toInt = 12) (fun h10 => ?_) (fun h10 => ?_)
      · refine q_iload_n hM dX11_root_58 (lv_at hl 1 rfl) ?_
        exact hE _ _ _ _ _ _ hW.1 ⟨_, rfl, hW.2.1, FR.wk hW.2.2 (fun _ _ h => h.elim), (by have := kc_m2; omega)⟩ dX11_root_59
      · refine q_aload_n hM dX11_root_13 (lv_at hl 0 rfl) ?_
        refine w_get (v := .ref (ad 3)) hM hW FG_X11_19 lb_0 (rf_0_1 hW.2.1) dX11_root_14 ?_
        refine q_iload_n hM dX11_root_17 (lv_at hl 3 rfl) ?_
        refine q_iconst (v := (0 : Int32)) hM dX11_root_18 (by decide) ?_
        refine q_callV (As := [.int i, .int (0 : Int32)]) (rest := []) hM hW.1 hR hC myX5_reached (kAW (v_3_8 (List.mem_of_getElem? (i := 9) rfl)) rfl) (rfl : vwCl[5]? = some (RX5, TX5, 3)) rfl lb_3.1 (shO hW.2.1 lb_3) (c_X5_reached _ _ cA ad g0 i hW.2.1 hF (by omega) (by omega)) ⟨by decide, by decide⟩ rfl rfl hl.1 (Nat.le_of_ble_eq_true rfl) dX11_root_19 (fun v g333 H locs hp hW1 => ?_)
        obtain ⟨r332, rfl, hr332, rfl⟩ := hp
        have hW : WS ad cA (fun i k => False) g0 K g0 H locs := ⟨hW1, hW.2.1, hW.2.2⟩
        refine q_callS (As := [.int r332]) (rest := []) hM hW.1 hR hC myJ6_bitCount_0f7a4 (kAW (v_3_1 (List.mem_of_getElem? (i := 2) rfl)) rfl) (c_J6_bitCount_0f7a4 _ _ cA ad g0 r332 hW.2.1) ⟨by decide, by decide⟩ rfl rfl hl.1 (Nat.le_of_ble_eq_true rfl) dX11_root_22 (fun v g335 H locs hp hW1 => ?_)
        obtain ⟨r334, rfl, hr334, rfl⟩ := hp
        have hW : WS ad cA (fun i k => False) g0 K g0 H locs := ⟨hW1, hW.2.1, hW.2.2⟩
        refine q_istore (lv9 := [(4, .int r334), (0, .ref (ad 0)), (1, .int ((-2) : Int32)), (2, .int ((-1) : Int32)), (3, .int i)]) hM dX11_root_25 hl (by decide) rfl (fun ls hl => ?_)
        refine q_aload_n hM dX11_root_27 (lv_at hl 1 rfl) ?_
        refine w_get (v := .ref (ad 3)) hM hW FG_X11_19 lb_0 (rf_0_1 hW.2.1) dX11_root_28 ?_
        refine w_get (v := .int (0 : Int32)) hM hW FG_X11_116 lb_3 ((hW.2.2.1 3 2 (fun h => h)).trans (zf hF (by decide) rfl : fld g0 3 2 = .int (0 : Int32))) dX11_root_31 ?_
        refine q_iload_n hM dX11_root_34 (lv_at hl 4 rfl) ?_
        refine q_callS (As := [.int (0 : Int32), .int i]) (rest := []) hM hW.1 hR hC myX11_has (kAW (v_1_10 (List.mem_of_getElem? (i := 8) rfl)) rfl) (c_X11_has _ _ cA ad g0 (0 : Int32) i hW.2.1) ⟨by decide, by decide⟩ rfl rfl hl.1 (Nat.le_of_ble_eq_true rfl) dX11_root_35 (fun v g337 H locs hp hW1 => ?_)
        obtain ⟨r336, rfl, hr336, rfl⟩ := hp
        have hW : WS ad cA (fun i k => False) g0 K g0 H locs := ⟨hW1, hW.2.1, hW.2.2⟩
        have kr336 : r336.toInt = 0 := has_r0 hr336
        refine q_if_eq (tgt := 52) hM dX11_root_38 (by decide) (kr336 : r336.toInt = 0) (fun h38 => ?_) (fun h38 => ?_)
        · refine q_iinc (lv9 := fun z338 => [(3, .int z338), (4, .int r334), (0, .ref (ad 0)), (1, .int ((-2) : Int32)), (2, .int ((-1) : Int32))]) hM dX11_root_52 hl (kq := 4) rfl (by decide) (fun _ => rfl) (fun z338 ls hz338 hl => ?_)
          have tz338 := i_addT hz338 (rfl : i.toInt = i.toInt) (kc_1 : (Int32.ofInt 1).toInt = 1) (by omega) (by omega)
          refine q_goto (tgt := 7) hM dX11_root_55 (by decide) ?_
          exact ih7 z338 _ _ _ (by omega) (by omega) (by omega) (lv_sub hl [2, 3, 4, 0] rfl) hW
        · omega
  have := kc_0
  exact L7 _ (0 : Int32) _ _ _ (Nat.lt_succ_self _) (by omega) (by omega) (lv_sub hl [3, 2, 1, 0] rfl) hW

theorem dX11_skill_0 : decode cX11_skill 0 = .ok (.iload_n 1, 1) := by decide +kernel
theorem dX11_skill_1 : decode cX11_skill 1 = .ok (.iconst 0, 1) := by decide +kernel
theorem dX11_skill_2 : decode cX11_skill 2 = .ok (.iconst 4, 1) := by decide +kernel
theorem dX11_skill_3 : decode cX11_skill 3 = .ok (.invokestatic 112, 3) := by decide +kernel
theorem dX11_skill_6 : decode cX11_skill 6 = .ok (.ifCond .eq 22, 3) := by decide +kernel
theorem dX11_skill_9 : decode cX11_skill 9 = .ok (.iload_n 2, 1) := by decide +kernel
theorem dX11_skill_10 : decode cX11_skill 10 = .ok (.iconst 0, 1) := by decide +kernel
theorem dX11_skill_11 : decode cX11_skill 11 = .ok (.iconst 5, 1) := by decide +kernel
theorem dX11_skill_12 : decode cX11_skill 12 = .ok (.invokestatic 112, 3) := by decide +kernel
theorem dX11_skill_15 : decode cX11_skill 15 = .ok (.ifCond .eq 13, 3) := by decide +kernel
theorem dX11_skill_18 : decode cX11_skill 18 = .ok (.iload_n 3, 1) := by decide +kernel
theorem dX11_skill_19 : decode cX11_skill 19 = .ok (.iconst 0, 1) := by decide +kernel
theorem dX11_skill_20 : decode cX11_skill 20 = .ok (.bipush 99, 2) := by decide +kernel
theorem dX11_skill_22 : decode cX11_skill 22 = .ok (.invokestatic 112, 3) := by decide +kernel
theorem dX11_skill_25 : decode cX11_skill 25 = .ok (.ifCond .ne 5, 3) := by decide +kernel
theorem dX11_skill_28 : decode cX11_skill 28 = .ok (.iconst 0, 1) := by decide +kernel
theorem dX11_skill_29 : decode cX11_skill 29 = .ok (.ireturn, 1) := by decide +kernel
theorem dX11_skill_30 : decode cX11_skill 30 = .ok (.aload_n 0, 1) := by decide +kernel
theorem dX11_skill_31 : decode cX11_skill 31 = .ok (.getfield 90, 3) := by decide +kernel
theorem dX11_skill_34 : decode cX11_skill 34 = .ok (.dup, 1) := by decide +kernel
theorem dX11_skill_35 : decode cX11_skill 35 = .ok (.getfield 273, 3) := by decide +kernel
theorem dX11_skill_38 : decode cX11_skill 38 = .ok (.iconst 1, 1) := by decide +kernel
theorem dX11_skill_39 : decode cX11_skill 39 = .ok (.iload_n 1, 1) := by decide +kernel
theorem dX11_skill_40 : decode cX11_skill 40 = .ok (.ishl, 1) := by decide +kernel
theorem dX11_skill_41 : decode cX11_skill 41 = .ok (.ior, 1) := by decide +kernel
theorem dX11_skill_42 : decode cX11_skill 42 = .ok (.putfield 273, 3) := by decide +kernel
theorem dX11_skill_45 : decode cX11_skill 45 = .ok (.aload_n 0, 1) := by decide +kernel
theorem dX11_skill_46 : decode cX11_skill 46 = .ok (.getfield 90, 3) := by decide +kernel
theorem dX11_skill_49 : decode cX11_skill 49 = .ok (.getfield 276, 3) := by decide +kernel
theorem dX11_skill_52 : decode cX11_skill 52 = .ok (.iload_n 1, 1) := by decide +kernel
theorem dX11_skill_53 : decode cX11_skill 53 = .ok (.aaload, 1) := by decide +kernel
theorem dX11_skill_54 : decode cX11_skill 54 = .ok (.iload_n 2, 1) := by decide +kernel
theorem dX11_skill_55 : decode cX11_skill 55 = .ok (.iload_n 3, 1) := by decide +kernel
theorem dX11_skill_56 : decode cX11_skill 56 = .ok (.iastore, 1) := by decide +kernel
theorem dX11_skill_57 : decode cX11_skill 57 = .ok (.iconst 1, 1) := by decide +kernel
theorem dX11_skill_58 : decode cX11_skill 58 = .ok (.ireturn, 1) := by decide +kernel
theorem FP_X11_273 : FPX RX11 273 9 5 4 .int := ⟨⟨RX9, TX9, tyX9, rfl, wX9, by decide, kAW (v_1_2 (List.mem_of_getElem? (i := 13) rfl)) rfl, rfl, tyX9_ok, nmX9, by decide +kernel, rfl⟩, by decide +kernel⟩
theorem FG_X11_276 : FG RX11 276 9 5 1 := ⟨RX9, TX9, rfl, wX9, by decide, kAW (v_1_2 (List.mem_of_getElem? (i := 8) rfl)) rfl, rfl⟩
set_option maxRecDepth 100000 in
set_option maxHeartbeats 4000000 in
theorem p_X11_skill (l : Launch) (D : va_G) (cA : Nat → ClassId) (ad : Nat → Nat) (g0 : Nat → va_E) (a b c : Int32) (hSh : Shp ad cA g0) (hF : ∀ j, j < NN → g0 j = gF ad cA j) : CT l NN ad cA D yX11_skill cX11_skill 4 (some FieldType.boolean) (1, 22) [.ref (ad 0), .int a, .int b, .int c] g0 (fun v g' => ∃ r : Int32, v = some (.int r) ∧ Shp ad cA g' ∧ FR (fun i _ => i < 129) g0 g' ∧ ((r.toInt = 1 ∧ 0 ≤ a.toInt ∧ a.toInt ≤ 4 ∧ 0 ≤ b.toInt ∧ b.toInt ≤ 5 ∧ 0 ≤ c.toInt ∧ c.toInt ≤ 99) ∨ (r.toInt = 0 ∧ ¬ (0 ≤ a.toInt ∧ a.toInt ≤ 4 ∧ 0 ≤ b.toInt ∧ b.toInt ≤ 5 ∧ 0 ≤ c.toInt ∧ c.toInt ≤ 99)))) := by
  refine q_enterZ (by decide) (Nat.le_of_ble_eq_true rfl) (fun K H locs ls _ _ hM hW0 hR hC hE hl => ?_)
  have hl : lv_has ls 4 [(0, .ref (ad 0)), (1, .int a), (2, .int b), (3, .int c)] := hl
  have hW : WS ad cA (fun i k => (i = 102 ∧ (k = 4)) ∨ (113 ≤ i ∧ i < 118)) g0 K g0 H locs := ⟨hW0, hSh, FR.rf⟩
  have := kc_0
  have := kc_4
  have := kc_5
  have := kc_99
  have f339 : fld g0 102 4 = .int (0 : Int32) := (zf hF (by decide) rfl : fld g0 102 4 = .int (0 : Int32))
  refine q_iload_n hM dX11_skill_0 (lv_at hl 1 rfl) ?_
  refine q_iconst (v := (0 : Int32)) hM dX11_skill_1 (by decide) ?_
  refine q_iconst (v := (4 : Int32)) hM dX11_skill_2 (by decide) ?_
  refine q_callS (As := [.int a, .int (0 : Int32), .int (4 : Int32)]) (rest := []) hM hW.1 hR hC myX11_within (kAW (v_1_10 (List.mem_of_getElem? (i := 1) rfl)) rfl) (c_X11_within _ _ cA ad g0 a (0 : Int32) (4 : Int32) hW.2.1) ⟨by decide, by decide⟩ rfl rfl hl.1 (Nat.le_of_ble_eq_true rfl) dX11_skill_3 (fun v g341 H locs hp hW1 => ?_)
  obtain ⟨r340, rfl, hr340, rfl⟩ := hp
  have hW : WS ad cA (fun i k => (i = 102 ∧ (k = 4)) ∨ (113 ≤ i ∧ i < 118)) g0 K g0 H locs := ⟨hW1, hW.2.1, hW.2.2⟩
  refine q_if_eq (tgt := 28) hM dX11_skill_6 (by decide) (rfl : r340.toInt = r340.toInt) (fun h6 => ?_) (fun h6 => ?_)
  · refine q_iconst (v := (0 : Int32)) hM dX11_skill_28 (by decide) ?_
    exact hE _ _ _ _ _ _ hW.1 nz_0 ⟨_, rfl, hW.2.1, FR.wk hW.2.2 (fun i k h => by omega), (by have := kc_0; omega)⟩ dX11_skill_29
  · refine q_iload_n hM dX11_skill_9 (lv_at hl 2 rfl) ?_
    refine q_iconst (v := (0 : Int32)) hM dX11_skill_10 (by decide) ?_
    refine q_iconst (v := (5 : Int32)) hM dX11_skill_11 (by decide) ?_
    refine q_callS (As := [.int b, .int (0 : Int32), .int (5 : Int32)]) (rest := []) hM hW.1 hR hC myX11_within (kAW (v_1_10 (List.mem_of_getElem? (i := 1) rfl)) rfl) (c_X11_within _ _ cA ad g0 b (0 : Int32) (5 : Int32) hW.2.1) ⟨by decide, by decide⟩ rfl rfl hl.1 (Nat.le_of_ble_eq_true rfl) dX11_skill_12 (fun v g343 H locs hp hW1 => ?_)
    obtain ⟨r342, rfl, hr342, rfl⟩ := hp
    have hW : WS ad cA (fun i k => (i = 102 ∧ (k = 4)) ∨ (113 ≤ i ∧ i < 118)) g0 K g0 H locs := ⟨hW1, hW.2.1, hW.2.2⟩
    refine q_if_eq (tgt := 28) hM dX11_skill_15 (by decide) (rfl : r342.toInt = r342.toInt) (fun h15 => ?_) (fun h15 => ?_)
    · refine q_iconst (v := (0 : Int32)) hM dX11_skill_28 (by decide) ?_
      exact hE _ _ _ _ _ _ hW.1 nz_0 ⟨_, rfl, hW.2.1, FR.wk hW.2.2 (fun i k h => by omega), (by have := kc_0; omega)⟩ dX11_skill_29
    · refine q_iload_n hM dX11_skill_18 (lv_at hl 3 rfl) ?_
      refine q_iconst (v := (0 : Int32)) hM dX11_skill_19 (by decide) ?_
      refine q_bipush (v := (99 : Int32)) hM dX11_skill_20 (by decide) ?_
      refine q_callS (As := [.int c, .int (0 : Int32), .int (99 : Int32)]) (rest := []) hM hW.1 hR hC myX11_within (kAW (v_1_10 (List.mem_of_getElem? (i := 1) rfl)) rfl) (c_X11_within _ _ cA ad g0 c (0 : Int32) (99 : Int32) hW.2.1) ⟨by decide, by decide⟩ rfl rfl hl.1 (Nat.le_of_ble_eq_true rfl) dX11_skill_22 (fun v g345 H locs hp hW1 => ?_)
      obtain ⟨r344, rfl, hr344, rfl⟩ := hp
      have hW : WS ad cA (fun i k => (i = 102 ∧ (k = 4)) ∨ (113 ≤ i ∧ i < 118)) g0 K g0 H locs := ⟨hW1, hW.2.1, hW.2.2⟩
      refine q_if_ne (tgt := 30) hM dX11_skill_25 (by decide) (rfl : r344.toInt = r344.toInt) (fun h25 => ?_) (fun h25 => ?_)
      · refine q_aload_n hM dX11_skill_30 (lv_at hl 0 rfl) ?_
        refine w_get (v := .ref (ad 102)) hM hW FG_X11_90 lb_0 (rf_0_3 hW.2.1) dX11_skill_31 ?_
        refine q_dup hM dX11_skill_34 rfl ?_
        refine w_get (v := .int (0 : Int32)) hM hW FG_X11_273 lb_102 f339 dX11_skill_35 ?_
        refine q_iconst (v := (1 : Int32)) hM dX11_skill_38 (by decide) ?_
        refine q_iload_n hM dX11_skill_39 (lv_at hl 1 rfl) ?_
        refine q_ishl hM dX11_skill_40 (fun z346 hz346 => ?_)
        refine q_ior hM dX11_skill_41 (fun z347 hz347 => ?_)
        refine w_put hM hW FP_X11_273 lb_102 (by omega) (Or.inl ⟨_, rfl⟩) rfl rfl dX11_skill_42 (fun g348 H locs hW e1 e2 => ?_)
        have f349 : fld g348 102 4 = .int z347 := e1
        refine q_aload_n hM dX11_skill_45 (lv_at hl 0 rfl) ?_
        refine w_get (v := .ref (ad 102)) hM hW FG_X11_90 lb_0 (rf_0_3 hW.2.1) dX11_skill_46 ?_
        refine w_get (v := .ref (ad 112)) hM hW FG_X11_276 lb_102 (rf_102_1 hW.2.1) dX11_skill_49 ?_
        refine q_iload_n hM dX11_skill_52 (lv_at hl 1 rfl) ?_
        refine w_aald hM hW lb_112 (Or.inl rfl) (i_in (by omega) (by omega)) (aq (aq_112 hW.2.1) (by omega) (by omega)) dX11_skill_53 ?_
        refine q_iload_n hM dX11_skill_54 (lv_at hl 2 rfl) ?_
        refine q_iload_n hM dX11_skill_55 (lv_at hl 3 rfl) ?_
        refine w_iast hM hW (lr_113 (by omega)) (by omega) (i_in (by omega) (by omega)) dX11_skill_56 (fun g350 H locs hW e1 e2 => ?_)
        have f351 : fld g350 102 4 = .int z347 := (e2.1 102 4 (by unfold Only; omega)).trans f349
        refine q_iconst (v := (1 : Int32)) hM dX11_skill_57 (by decide) ?_
        exact hE _ _ _ _ _ _ hW.1 nz_1 ⟨_, rfl, hW.2.1, FR.wk hW.2.2 (fun i k h => by omega), (by have := kc_1; omega)⟩ dX11_skill_58
      · refine q_iconst (v := (0 : Int32)) hM dX11_skill_28 (by decide) ?_
        exact hE _ _ _ _ _ _ hW.1 nz_0 ⟨_, rfl, hW.2.1, FR.wk hW.2.2 (fun i k h => by omega), (by have := kc_0; omega)⟩ dX11_skill_29

theorem dX11_feed_0 : decode cX11_feed 0 = .ok (.aload_n 0, 1) := by decide +kernel
theorem dX11_feed_1 : decode cX11_feed 1 = .ok (.getfield 10, 3) := by decide +kernel
theorem dX11_feed_4 : decode cX11_feed 4 = .ok (.getfield 139, 3) := by decide +kernel
theorem dX11_feed_7 : decode cX11_feed 7 = .ok (.bipush 20, 2) := by decide +kernel
theorem dX11_feed_9 : decode cX11_feed 9 = .ok (.iadd, 1) := by decide +kernel
theorem dX11_feed_10 : decode cX11_feed 10 = .ok (.sipush 260, 3) := by decide +kernel
theorem dX11_feed_13 : decode cX11_feed 13 = .ok (.if_icmp .le 5, 3) := by decide +kernel
theorem dX11_feed_18 : decode cX11_feed 18 = .ok (.aload_n 0, 1) := by decide +kernel
theorem dX11_feed_19 : decode cX11_feed 19 = .ok (.getfield 10, 3) := by decide +kernel
theorem dX11_feed_22 : decode cX11_feed 22 = .ok (.iload_n 1, 1) := by decide +kernel
theorem dX11_feed_23 : decode cX11_feed 23 = .ok (.invokevirtual 142, 3) := by decide +kernel
theorem dX11_feed_26 : decode cX11_feed 26 = .ok (.aload_n 0, 1) := by decide +kernel
theorem dX11_feed_27 : decode cX11_feed 27 = .ok (.getfield 10, 3) := by decide +kernel
theorem dX11_feed_30 : decode cX11_feed 30 = .ok (.iload_n 2, 1) := by decide +kernel
theorem dX11_feed_31 : decode cX11_feed 31 = .ok (.invokevirtual 142, 3) := by decide +kernel
theorem dX11_feed_34 : decode cX11_feed 34 = .ok (.aload_n 0, 1) := by decide +kernel
theorem dX11_feed_35 : decode cX11_feed 35 = .ok (.getfield 10, 3) := by decide +kernel
theorem dX11_feed_38 : decode cX11_feed 38 = .ok (.iload_n 3, 1) := by decide +kernel
theorem dX11_feed_39 : decode cX11_feed 39 = .ok (.invokevirtual 142, 3) := by decide +kernel
theorem dX11_feed_42 : decode cX11_feed 42 = .ok (.aload_n 0, 1) := by decide +kernel
theorem dX11_feed_43 : decode cX11_feed 43 = .ok (.getfield 10, 3) := by decide +kernel
theorem dX11_feed_46 : decode cX11_feed 46 = .ok (.iload 4, 2) := by decide +kernel
theorem dX11_feed_48 : decode cX11_feed 48 = .ok (.invokevirtual 142, 3) := by decide +kernel
theorem dX11_feed_51 : decode cX11_feed 51 = .ok (.aload_n 0, 1) := by decide +kernel
theorem dX11_feed_52 : decode cX11_feed 52 = .ok (.getfield 10, 3) := by decide +kernel
theorem dX11_feed_55 : decode cX11_feed 55 = .ok (.iload 5, 2) := by decide +kernel
theorem dX11_feed_57 : decode cX11_feed 57 = .ok (.invokevirtual 142, 3) := by decide +kernel
theorem dX11_feed_60 : decode cX11_feed 60 = .ok (.aload_n 0, 1) := by decide +kernel
theorem dX11_feed_61 : decode cX11_feed 61 = .ok (.getfield 10, 3) := by decide +kernel
theorem dX11_feed_64 : decode cX11_feed 64 = .ok (.getfield 139, 3) := by decide +kernel
theorem dX11_feed_67 : decode cX11_feed 67 = .ok (.ireturn, 1) := by decide +kernel
theorem myX10_put : MI yX10_put cX10_put 3 none 1 := ⟨kAW (v_1_11 (List.mem_of_getElem? (i := 14) rfl)) rfl, kAW (v_0_0 (List.mem_of_getElem? (i := 2) rfl)) rfl, kAW (v_1_11 (List.mem_of_getElem? (i := 12) rfl)) rfl, kAW (v_1_11 (List.mem_of_getElem? (i := 13) rfl)) rfl, by decide, by decide, by decide +kernel⟩
set_option maxRecDepth 100000 in
set_option maxHeartbeats 4000000 in
theorem p_X11_feed (l : Launch) (D : va_G) (cA : Nat → ClassId) (ad : Nat → Nat) (g0 : Nat → va_E) (a b c d e : Int32) (hSh : Shp ad cA g0) (hF : ∀ j, j < NN → g0 j = gF ad cA j) : CT l NN ad cA D yX11_feed cX11_feed 6 (some FieldType.int) (1, 22) [.ref (ad 0), .int a, .int b, .int c, .int d, .int e] g0 (fun v g' => ∃ r : Int32, v = some (.int r) ∧ Shp ad cA g' ∧ FR (fun i _ => i < 129) g0 g' ∧ (r.toInt = 20)) := by
  refine q_enterI (by decide) (Nat.le_of_ble_eq_true rfl) rfl (fun K H locs ls _ _ hM hW0 hR hC hE hl => ?_)
  have hl : lv_has ls 6 [(0, .ref (ad 0)), (1, .int a), (2, .int b), (3, .int c), (4, .int d), (5, .int e)] := hl
  have hW : WS ad cA (fun i k => (i = 1 ∧ (k = 1)) ∨ i = 2) g0 K g0 H locs := ⟨hW0, hSh, FR.rf⟩
  have := kc_0
  have := kc_20
  have := kc_260
  have f352 : fld g0 1 1 = .int (0 : Int32) := (zf hF (by decide) rfl : fld g0 1 1 = .int (0 : Int32))
  refine q_aload_n hM dX11_feed_0 (lv_at hl 0 rfl) ?_
  refine w_get (v := .ref (ad 1)) hM hW FG_X11_10 lb_0 (rf_0_0 hW.2.1) dX11_feed_1 ?_
  refine w_get (v := .int (0 : Int32)) hM hW FG_X11_139 lb_1 f352 dX11_feed_4 ?_
  refine q_bipush (v := (20 : Int32)) hM dX11_feed_7 (by decide) ?_
  refine q_iadd hM dX11_feed_9 (fun z353 hz353 => ?_)
  have tz353 := i_addT hz353 (kc_0 : (0 : Int32).toInt = 0) (kc_20 : (20 : Int32).toInt = 20) (by omega) (by omega)
  refine q_sipush (v := (260 : Int32)) hM dX11_feed_10 (by decide) ?_
  refine q_icmp_le (tgt := 18) hM dX11_feed_13 (by decide) (rfl : z353.toInt = z353.toInt) (kc_260 : (260 : Int32).toInt = 260) (fun h13 => ?_) (fun h13 => ?_)
  · refine q_aload_n hM dX11_feed_18 (lv_at hl 0 rfl) ?_
    refine w_get (v := .ref (ad 1)) hM hW FG_X11_10 lb_0 (rf_0_0 hW.2.1) dX11_feed_19 ?_
    refine q_iload_n hM dX11_feed_22 (lv_at hl 1 rfl) ?_
    refine q_callV (As := [.int a]) (rest := []) hM hW.1 hR hC myX10_put (kAW (v_1_11 (List.mem_of_getElem? (i := 11) rfl)) rfl) (rfl : vwCl[10]? = some (RX10, TX10, 2)) rfl lb_1.1 (shO hW.2.1 lb_1) (c_X10_put _ _ cA ad g0 a (0 : Int32) hW.2.1 f352 (by have := kc_0; omega) (by have := kc_0; omega)) ⟨by decide, by decide⟩ rfl rfl hl.1 (Nat.le_of_ble_eq_true rfl) dX11_feed_23 (fun v g357 H locs hp hW1 => ?_)
    obtain ⟨v354, rfl, hs1, hf1, q355, q356⟩ := hp
    have hW : WS ad cA (fun i k => (i = 1 ∧ (k = 1)) ∨ i = 2) g0 K g357 H locs := ⟨hW1, hs1, hW.2.2.tr hf1 (fun i k h => by omega)⟩
    refine q_aload_n hM dX11_feed_26 (lv_at hl 0 rfl) ?_
    refine w_get (v := .ref (ad 1)) hM hW FG_X11_10 lb_0 (rf_0_0 hW.2.1) dX11_feed_27 ?_
    refine q_iload_n hM dX11_feed_30 (lv_at hl 2 rfl) ?_
    refine q_callV (As := [.int b]) (rest := []) hM hW.1 hR hC myX10_put (kAW (v_1_11 (List.mem_of_getElem? (i := 11) rfl)) rfl) (rfl : vwCl[10]? = some (RX10, TX10, 2)) rfl lb_1.1 (shO hW.2.1 lb_1) (c_X10_put _ _ cA ad g357 b v354 hW.2.1 q356 (by have := kc_0; omega) (by have := kc_0; omega)) ⟨by decide, by decide⟩ rfl rfl hl.1 (Nat.le_of_ble_eq_true rfl) dX11_feed_31 (fun v g361 H locs hp hW1 => ?_)
    obtain ⟨v358, rfl, hs1, hf1, q359, q360⟩ := hp
    have hW : WS ad cA (fun i k => (i = 1 ∧ (k = 1)) ∨ i = 2) g0 K g361 H locs := ⟨hW1, hs1, hW.2.2.tr hf1 (fun i k h => by omega)⟩
    refine q_aload_n hM dX11_feed_34 (lv_at hl 0 rfl) ?_
    refine w_get (v := .ref (ad 1)) hM hW FG_X11_10 lb_0 (rf_0_0 hW.2.1) dX11_feed_35 ?_
    refine q_iload_n hM dX11_feed_38 (lv_at hl 3 rfl) ?_
    refine q_callV (As := [.int c]) (rest := []) hM hW.1 hR hC myX10_put (kAW (v_1_11 (List.mem_of_getElem? (i := 11) rfl)) rfl) (rfl : vwCl[10]? = some (RX10, TX10, 2)) rfl lb_1.1 (shO hW.2.1 lb_1) (c_X10_put _ _ cA ad g361 c v358 hW.2.1 q360 (by have := kc_0; omega) (by have := kc_0; omega)) ⟨by decide, by decide⟩ rfl rfl hl.1 (Nat.le_of_ble_eq_true rfl) dX11_feed_39 (fun v g365 H locs hp hW1 => ?_)
    obtain ⟨v362, rfl, hs1, hf1, q363, q364⟩ := hp
    have hW : WS ad cA (fun i k => (i = 1 ∧ (k = 1)) ∨ i = 2) g0 K g365 H locs := ⟨hW1, hs1, hW.2.2.tr hf1 (fun i k h => by omega)⟩
    refine q_aload_n hM dX11_feed_42 (lv_at hl 0 rfl) ?_
    refine w_get (v := .ref (ad 1)) hM hW FG_X11_10 lb_0 (rf_0_0 hW.2.1) dX11_feed_43 ?_
    refine q_iload hM dX11_feed_46 (lv_at hl 4 rfl) ?_
    refine q_callV (As := [.int d]) (rest := []) hM hW.1 hR hC myX10_put (kAW (v_1_11 (List.mem_of_getElem? (i := 11) rfl)) rfl) (rfl : vwCl[10]? = some (RX10, TX10, 2)) rfl lb_1.1 (shO hW.2.1 lb_1) (c_X10_put _ _ cA ad g365 d v362 hW.2.1 q364 (by have := kc_0; omega) (by have := kc_0; omega)) ⟨by decide, by decide⟩ rfl rfl hl.1 (Nat.le_of_ble_eq_true rfl) dX11_feed_48 (fun v g369 H locs hp hW1 => ?_)
    obtain ⟨v366, rfl, hs1, hf1, q367, q368⟩ := hp
    have hW : WS ad cA (fun i k => (i = 1 ∧ (k = 1)) ∨ i = 2) g0 K g369 H locs := ⟨hW1, hs1, hW.2.2.tr hf1 (fun i k h => by omega)⟩
    refine q_aload_n hM dX11_feed_51 (lv_at hl 0 rfl) ?_
    refine w_get (v := .ref (ad 1)) hM hW FG_X11_10 lb_0 (rf_0_0 hW.2.1) dX11_feed_52 ?_
    refine q_iload hM dX11_feed_55 (lv_at hl 5 rfl) ?_
    refine q_callV (As := [.int e]) (rest := []) hM hW.1 hR hC myX10_put (kAW (v_1_11 (List.mem_of_getElem? (i := 11) rfl)) rfl) (rfl : vwCl[10]? = some (RX10, TX10, 2)) rfl lb_1.1 (shO hW.2.1 lb_1) (c_X10_put _ _ cA ad g369 e v366 hW.2.1 q368 (by have := kc_0; omega) (by have := kc_0; omega)) ⟨by decide, by decide⟩ rfl rfl hl.1 (Nat.le_of_ble_eq_true rfl) dX11_feed_57 (fun v g373 H locs hp hW1 => ?_)
    obtain ⟨v370, rfl, hs1, hf1, q371, q372⟩ := hp
    have hW : WS ad cA (fun i k => (i = 1 ∧ (k = 1)) ∨ i = 2) g0 K g373 H locs := ⟨hW1, hs1, hW.2.2.tr hf1 (fun i k h => by omega)⟩
    refine q_aload_n hM dX11_feed_60 (lv_at hl 0 rfl) ?_
    refine w_get (v := .ref (ad 1)) hM hW FG_X11_10 lb_0 (rf_0_0 hW.2.1) dX11_feed_61 ?_
    refine w_get (v := .int v370) hM hW FG_X11_139 lb_1 q372 dX11_feed_64 ?_
    exact hE _ _ _ _ _ _ hW.1 ⟨_, rfl, hW.2.1, FR.wk hW.2.2 (fun i k h => by omega), (by omega)⟩ dX11_feed_67
  · omega

theorem dX11_tried_0 : decode cX11_tried 0 = .ok (.aload_n 0, 1) := by decide +kernel
theorem dX11_tried_1 : decode cX11_tried 1 = .ok (.iload_n 1, 1) := by decide +kernel
theorem dX11_tried_2 : decode cX11_tried 2 = .ok (.iload_n 2, 1) := by decide +kernel
theorem dX11_tried_3 : decode cX11_tried 3 = .ok (.invokevirtual 183, 3) := by decide +kernel
theorem dX11_tried_6 : decode cX11_tried 6 = .ok (.ifCond .ne 5, 3) := by decide +kernel
theorem dX11_tried_9 : decode cX11_tried 9 = .ok (.iconst (-1), 1) := by decide +kernel
theorem dX11_tried_10 : decode cX11_tried 10 = .ok (.ireturn, 1) := by decide +kernel
theorem dX11_tried_11 : decode cX11_tried 11 = .ok (.aload_n 0, 1) := by decide +kernel
theorem dX11_tried_12 : decode cX11_tried 12 = .ok (.aload_n 0, 1) := by decide +kernel
theorem dX11_tried_13 : decode cX11_tried 13 = .ok (.getfield 39, 3) := by decide +kernel
theorem dX11_tried_16 : decode cX11_tried 16 = .ok (.invokevirtual 186, 3) := by decide +kernel
theorem dX11_tried_19 : decode cX11_tried 19 = .ok (.aload_n 0, 1) := by decide +kernel
theorem dX11_tried_20 : decode cX11_tried 20 = .ok (.getfield 83, 3) := by decide +kernel
theorem dX11_tried_23 : decode cX11_tried 23 = .ok (.iload_n 1, 1) := by decide +kernel
theorem dX11_tried_24 : decode cX11_tried 24 = .ok (.invokevirtual 180, 3) := by decide +kernel
theorem dX11_tried_27 : decode cX11_tried 27 = .ok (.aload_n 0, 1) := by decide +kernel
theorem dX11_tried_28 : decode cX11_tried 28 = .ok (.iload_n 2, 1) := by decide +kernel
theorem dX11_tried_29 : decode cX11_tried 29 = .ok (.invokevirtual 190, 3) := by decide +kernel
theorem dX11_tried_32 : decode cX11_tried 32 = .ok (.ireturn, 1) := by decide +kernel
theorem myX11_canBeTried : MI yX11_canBeTried cX11_canBeTried 3 (some FieldType.boolean) 2 := ⟨kAW (v_3_0 (List.mem_of_getElem? (i := 4) rfl)) rfl, kAW (v_0_0 (List.mem_of_getElem? (i := 1) rfl)) rfl, kAW (v_3_0 (List.mem_of_getElem? (i := 3) rfl)) rfl, kAW (tp_t1 (List.mem_of_getElem? (i := 6) rfl)) rfl, by decide, by decide, by decide +kernel⟩
theorem myX11_beginTrial : MI yX11_beginTrial cX11_beginTrial 2 none 1 := ⟨kAW (v_3_0 (List.mem_of_getElem? (i := 8) rfl)) rfl, kAW (v_0_0 (List.mem_of_getElem? (i := 1) rfl)) rfl, kAW (v_3_0 (List.mem_of_getElem? (i := 7) rfl)) rfl, kAW (tp_t1 (List.mem_of_getElem? (i := 7) rfl)) rfl, by decide, by decide, by decide +kernel⟩
theorem myX11_trialTells : MI yX11_trialTells cX11_trialTells 2 (some FieldType.int) 1 := ⟨kAW (v_3_1 (List.mem_of_getElem? (i := 0) rfl)) rfl, kAW (v_0_0 (List.mem_of_getElem? (i := 1) rfl)) rfl, kAW (v_3_0 (List.mem_of_getElem? (i := 15) rfl)) rfl, kAW (tp_t1 (List.mem_of_getElem? (i := 8) rfl)) rfl, by decide, by decide, by decide +kernel⟩
set_option maxRecDepth 100000 in
set_option maxHeartbeats 4000000 in
theorem p_X11_tried (l : Launch) (D : va_G) (cA : Nat → ClassId) (ad : Nat → Nat) (g0 : Nat → va_E) (a b : Int32) (hSh : Shp ad cA g0) (hF : ∀ j, j < NN → g0 j = gF ad cA j) : CT l NN ad cA D yX11_tried cX11_tried 3 (some FieldType.int) (2, 44) [.ref (ad 0), .int a, .int b] g0 (fun v g' => ∃ r : Int32, v = some (.int r) ∧ Shp ad cA g' ∧ FR (fun i _ => i < 129) g0 g' ∧ (((1 ≤ a.toInt ∧ a.toInt ≤ 60 ∧ 0 ≤ b.toInt ∧ b.toInt ≤ 3) ∧ r.toInt = 0) ∨ (¬ (1 ≤ a.toInt ∧ a.toInt ≤ 60 ∧ 0 ≤ b.toInt ∧ b.toInt ≤ 3) ∧ r.toInt = -1))) := by
  refine q_enterI (by decide) (Nat.le_of_ble_eq_true rfl) rfl (fun K H locs ls _ _ hM hW0 hR hC hE hl => ?_)
  have hl : lv_has ls 3 [(0, .ref (ad 0)), (1, .int a), (2, .int b)] := hl
  have hW : WS ad cA (fun i k => i = 43 ∨ i = 44 ∨ (46 ≤ i ∧ i < 54) ∨ (i = 42 ∧ (k = 3 ∨ k = 4 ∨ k = 5 ∨ k = 6 ∨ k = 7)) ∨ (i = 80 ∧ (k = 7 ∨ k = 8 ∨ k = 9 ∨ k = 10))) g0 K g0 H locs := ⟨hW0, hSh, FR.rf⟩
  have := kc_0
  have := kc_1
  have := kc_3
  have := kc_60
  have := kc_m1
  have f374 : fld g0 42 3 = .int (0 : Int32) := (zf hF (by decide) rfl : fld g0 42 3 = .int (0 : Int32))
  have f375 : fld g0 42 4 = .int (0 : Int32) := (zf hF (by decide) rfl : fld g0 42 4 = .int (0 : Int32))
  have f376 : fld g0 42 5 = .int (0 : Int32) := (zf hF (by decide) rfl : fld g0 42 5 = .int (0 : Int32))
  have f377 : fld g0 42 6 = .int (0 : Int32) := (zf hF (by decide) rfl : fld g0 42 6 = .int (0 : Int32))
  have f378 : fld g0 42 7 = .int (1 : Int32) := (zf hF (by decide) rfl : fld g0 42 7 = .int (1 : Int32))
  have f379 : fld g0 80 7 = .int (0 : Int32) := (zf hF (by decide) rfl : fld g0 80 7 = .int (0 : Int32))
  have f380 : fld g0 80 8 = .int (0 : Int32) := (zf hF (by decide) rfl : fld g0 80 8 = .int (0 : Int32))
  have f381 : fld g0 80 9 = .ref (ad 54) := (zf hF (by decide) rfl : fld g0 80 9 = .ref (ad 54))
  have f382 : fld g0 80 10 = .ref (ad 18) := (zf hF (by decide) rfl : fld g0 80 10 = .ref (ad 18))
  refine q_aload_n hM dX11_tried_0 (lv_at hl 0 rfl) ?_
  refine q_iload_n hM dX11_tried_1 (lv_at hl 1 rfl) ?_
  refine q_iload_n hM dX11_tried_2 (lv_at hl 2 rfl) ?_
  refine q_callV (As := [.int a, .int b]) (rest := []) hM hW.1 hR hC myX11_canBeTried (kAW (v_3_0 (List.mem_of_getElem? (i := 1) rfl)) rfl) (rfl : vwCl[11]? = some (RX11, TX11, 16)) rfl lb_0.1 (shO hW.2.1 lb_0) (c_X11_canBeTried _ _ cA ad g0 a b hW.2.1 hF) ⟨by decide, by decide⟩ rfl rfl hl.1 (Nat.le_of_ble_eq_true rfl) dX11_tried_3 (fun v g384 H locs hp hW1 => ?_)
  obtain ⟨r383, rfl, hr383, rfl⟩ := hp
  have hW : WS ad cA (fun i k => i = 43 ∨ i = 44 ∨ (46 ≤ i ∧ i < 54) ∨ (i = 42 ∧ (k = 3 ∨ k = 4 ∨ k = 5 ∨ k = 6 ∨ k = 7)) ∨ (i = 80 ∧ (k = 7 ∨ k = 8 ∨ k = 9 ∨ k = 10))) g0 K g0 H locs := ⟨hW1, hW.2.1, hW.2.2⟩
  refine q_if_ne (tgt := 11) hM dX11_tried_6 (by decide) (rfl : r383.toInt = r383.toInt) (fun h6 => ?_) (fun h6 => ?_)
  · refine q_aload_n hM dX11_tried_11 (lv_at hl 0 rfl) ?_
    refine q_aload_n hM dX11_tried_12 (lv_at hl 0 rfl) ?_
    refine w_get (v := .ref (ad 54)) hM hW FG_X11_39 lb_0 ((hW.2.2.1 0 13 (by omega)).trans (zf hF (by decide) rfl : fld g0 0 13 = .ref (ad 54))) dX11_tried_13 ?_
    refine q_callV (As := [.ref (ad 54)]) (rest := []) hM hW.1 hR hC myX11_beginTrial (kAW (v_3_0 (List.mem_of_getElem? (i := 5) rfl)) rfl) (rfl : vwCl[11]? = some (RX11, TX11, 16)) rfl lb_0.1 (shO hW.2.1 lb_0) (c_X11_beginTrial _ _ cA ad g0 54 (0 : Int32) (0 : Int32) (0 : Int32) (0 : Int32) (1 : Int32) hW.2.1 ((hW.2.2.1 18 3 (by omega)).trans (zf hF (by decide) rfl : fld g0 18 3 = .int (0 : Int32))) ((hW.2.2.1 18 4 (by omega)).trans (zf hF (by decide) rfl : fld g0 18 4 = .int (0 : Int32))) ((hW.2.2.1 18 5 (by omega)).trans (zf hF (by decide) rfl : fld g0 18 5 = .int (0 : Int32))) ((hW.2.2.1 18 6 (by omega)).trans (zf hF (by decide) rfl : fld g0 18 6 = .int (0 : Int32))) ((hW.2.2.1 18 7 (by omega)).trans (zf hF (by decide) rfl : fld g0 18 7 = .int (1 : Int32)))) ⟨by decide, by decide⟩ rfl rfl hl.1 (Nat.le_of_ble_eq_true rfl) dX11_tried_16 (fun v g394 H locs hp hW1 => ?_)
    obtain ⟨rfl, hs1, hf1, q385, q386, q387, q388, q389, q390, q391, q392, q393⟩ := hp
    have hW : WS ad cA (fun i k => i = 43 ∨ i = 44 ∨ (46 ≤ i ∧ i < 54) ∨ (i = 42 ∧ (k = 3 ∨ k = 4 ∨ k = 5 ∨ k = 6 ∨ k = 7)) ∨ (i = 80 ∧ (k = 7 ∨ k = 8 ∨ k = 9 ∨ k = 10))) g0 K g394 H locs := ⟨hW1, hs1, hW.2.2.tr hf1 (fun i k h => by omega)⟩
    refine q_aload_n hM dX11_tried_19 (lv_at hl 0 rfl) ?_
    refine w_get (v := .ref (ad 80)) hM hW FG_X11_83 lb_0 (rf_0_2 hW.2.1) dX11_tried_20 ?_
    refine q_iload_n hM dX11_tried_23 (lv_at hl 1 rfl) ?_
    refine q_callV (As := [.int a]) (rest := []) hM hW.1 hR hC myX2_go (kAW (v_2_9 (List.mem_of_getElem? (i := 15) rfl)) rfl) (rfl : vwCl[2]? = some (RX2, TX2, 11)) rfl lb_80.1 (shO hW.2.1 lb_80) (c_X2_go_42 _ _ cA ad g394 a (0 : Int32) hW.2.1 q393 q385 q386 (by have := kc_0; omega)) ⟨by decide, by decide⟩ rfl rfl hl.1 (Nat.le_of_ble_eq_true rfl) dX11_tried_24 (fun v g397 H locs hp hW1 => ?_)
    obtain ⟨v395, rfl, hs1, hf1, q396⟩ := hp
    have f398 : fld g397 42 3 = .int (0 : Int32) := (hf1.1 42 3 (by omega)).trans q385
    have f399 : fld g397 42 5 = .int (0 : Int32) := (hf1.1 42 5 (by omega)).trans q387
    have f400 : fld g397 42 6 = .int (0 : Int32) := (hf1.1 42 6 (by omega)).trans q388
    have f401 : fld g397 42 7 = .int (1 : Int32) := (hf1.1 42 7 (by omega)).trans q389
    have f402 : fld g397 80 7 = .int (0 : Int32) := (hf1.1 80 7 (by omega)).trans q390
    have f403 : fld g397 80 8 = .int (0 : Int32) := (hf1.1 80 8 (by omega)).trans q391
    have f404 : fld g397 80 9 = .ref (ad 54) := (hf1.1 80 9 (by omega)).trans q392
    have f405 : fld g397 80 10 = .ref (ad 42) := (hf1.1 80 10 (by omega)).trans q393
    have hW : WS ad cA (fun i k => i = 43 ∨ i = 44 ∨ (46 ≤ i ∧ i < 54) ∨ (i = 42 ∧ (k = 3 ∨ k = 4 ∨ k = 5 ∨ k = 6 ∨ k = 7)) ∨ (i = 80 ∧ (k = 7 ∨ k = 8 ∨ k = 9 ∨ k = 10))) g0 K g397 H locs := ⟨hW1, hs1, hW.2.2.tr hf1 (fun i k h => by omega)⟩
    refine q_aload_n hM dX11_tried_27 (lv_at hl 0 rfl) ?_
    refine q_iload_n hM dX11_tried_28 (lv_at hl 2 rfl) ?_
    refine q_callV (As := [.int b]) (rest := []) hM hW.1 hR hC myX11_trialTells (kAW (v_3_0 (List.mem_of_getElem? (i := 13) rfl)) rfl) (rfl : vwCl[11]? = some (RX11, TX11, 16)) rfl lb_0.1 (shO hW.2.1 lb_0) (c_X11_trialTells _ _ cA ad g397 b hW.2.1 f399 ((hW.2.2.1 18 5 (by omega)).trans (zf hF (by decide) rfl : fld g0 18 5 = .int (0 : Int32))) f402 f400 ((hW.2.2.1 18 6 (by omega)).trans (zf hF (by decide) rfl : fld g0 18 6 = .int (0 : Int32))) f403 (by omega) (by omega)) ⟨by decide, by decide⟩ rfl rfl hl.1 (Nat.le_of_ble_eq_true rfl) dX11_tried_29 (fun v g407 H locs hp hW1 => ?_)
    obtain ⟨r406, rfl, hr406, rfl⟩ := hp
    have hW : WS ad cA (fun i k => i = 43 ∨ i = 44 ∨ (46 ≤ i ∧ i < 54) ∨ (i = 42 ∧ (k = 3 ∨ k = 4 ∨ k = 5 ∨ k = 6 ∨ k = 7)) ∨ (i = 80 ∧ (k = 7 ∨ k = 8 ∨ k = 9 ∨ k = 10))) g0 K g397 H locs := ⟨hW1, hW.2.1, hW.2.2⟩
    exact hE _ _ _ _ _ _ hW.1 ⟨_, rfl, hW.2.1, FR.wk hW.2.2 (fun i k h => by omega), (by have := hr406; omega)⟩ dX11_tried_32
  · refine q_iconst (v := ((-1) : Int32)) hM dX11_tried_9 (by decide) ?_
    exact hE _ _ _ _ _ _ hW.1 ⟨_, rfl, hW.2.1, FR.wk hW.2.2 (fun i k h => by omega), (by have := kc_m1; omega)⟩ dX11_tried_10

theorem dX11_other_0 : decode cX11_other 0 = .ok (.aload_n 0, 1) := by decide +kernel
theorem dX11_other_1 : decode cX11_other 1 = .ok (.iload_n 1, 1) := by decide +kernel
theorem dX11_other_2 : decode cX11_other 2 = .ok (.iload_n 2, 1) := by decide +kernel
theorem dX11_other_3 : decode cX11_other 3 = .ok (.invokevirtual 183, 3) := by decide +kernel
theorem dX11_other_6 : decode cX11_other 6 = .ok (.ifCond .ne 5, 3) := by decide +kernel
theorem dX11_other_9 : decode cX11_other 9 = .ok (.iconst (-1), 1) := by decide +kernel
theorem dX11_other_10 : decode cX11_other 10 = .ok (.ireturn, 1) := by decide +kernel
theorem dX11_other_11 : decode cX11_other 11 = .ok (.aload_n 0, 1) := by decide +kernel
theorem dX11_other_12 : decode cX11_other 12 = .ok (.aload_n 0, 1) := by decide +kernel
theorem dX11_other_13 : decode cX11_other 13 = .ok (.getfield 43, 3) := by decide +kernel
theorem dX11_other_16 : decode cX11_other 16 = .ok (.invokevirtual 186, 3) := by decide +kernel
theorem dX11_other_19 : decode cX11_other 19 = .ok (.aload_n 0, 1) := by decide +kernel
theorem dX11_other_20 : decode cX11_other 20 = .ok (.getfield 83, 3) := by decide +kernel
theorem dX11_other_23 : decode cX11_other 23 = .ok (.iload_n 1, 1) := by decide +kernel
theorem dX11_other_24 : decode cX11_other 24 = .ok (.invokevirtual 180, 3) := by decide +kernel
theorem dX11_other_27 : decode cX11_other 27 = .ok (.aload_n 0, 1) := by decide +kernel
theorem dX11_other_28 : decode cX11_other 28 = .ok (.iload_n 2, 1) := by decide +kernel
theorem dX11_other_29 : decode cX11_other 29 = .ok (.invokevirtual 190, 3) := by decide +kernel
theorem dX11_other_32 : decode cX11_other 32 = .ok (.ireturn, 1) := by decide +kernel
set_option maxRecDepth 100000 in
set_option maxHeartbeats 4000000 in
theorem p_X11_other (l : Launch) (D : va_G) (cA : Nat → ClassId) (ad : Nat → Nat) (g0 : Nat → va_E) (a b : Int32) (hSh : Shp ad cA g0) (hF : ∀ j, j < NN → g0 j = gF ad cA j) : CT l NN ad cA D yX11_other cX11_other 3 (some FieldType.int) (2, 44) [.ref (ad 0), .int a, .int b] g0 (fun v g' => ∃ r : Int32, v = some (.int r) ∧ Shp ad cA g' ∧ FR (fun i _ => i < 129) g0 g' ∧ (((1 ≤ a.toInt ∧ a.toInt ≤ 60 ∧ 0 ≤ b.toInt ∧ b.toInt ≤ 3) ∧ r.toInt = 0) ∨ (¬ (1 ≤ a.toInt ∧ a.toInt ≤ 60 ∧ 0 ≤ b.toInt ∧ b.toInt ≤ 3) ∧ r.toInt = -1))) := by
  refine q_enterI (by decide) (Nat.le_of_ble_eq_true rfl) rfl (fun K H locs ls _ _ hM hW0 hR hC hE hl => ?_)
  have hl : lv_has ls 3 [(0, .ref (ad 0)), (1, .int a), (2, .int b)] := hl
  have hW : WS ad cA (fun i k => i = 43 ∨ i = 44 ∨ (46 ≤ i ∧ i < 54) ∨ (i = 42 ∧ (k = 3 ∨ k = 4 ∨ k = 5 ∨ k = 6 ∨ k = 7)) ∨ (i = 80 ∧ (k = 7 ∨ k = 8 ∨ k = 9 ∨ k = 10))) g0 K g0 H locs := ⟨hW0, hSh, FR.rf⟩
  have := kc_0
  have := kc_1
  have := kc_3
  have := kc_60
  have := kc_m1
  have f408 : fld g0 42 3 = .int (0 : Int32) := (zf hF (by decide) rfl : fld g0 42 3 = .int (0 : Int32))
  have f409 : fld g0 42 4 = .int (0 : Int32) := (zf hF (by decide) rfl : fld g0 42 4 = .int (0 : Int32))
  have f410 : fld g0 42 5 = .int (0 : Int32) := (zf hF (by decide) rfl : fld g0 42 5 = .int (0 : Int32))
  have f411 : fld g0 42 6 = .int (0 : Int32) := (zf hF (by decide) rfl : fld g0 42 6 = .int (0 : Int32))
  have f412 : fld g0 42 7 = .int (1 : Int32) := (zf hF (by decide) rfl : fld g0 42 7 = .int (1 : Int32))
  have f413 : fld g0 80 7 = .int (0 : Int32) := (zf hF (by decide) rfl : fld g0 80 7 = .int (0 : Int32))
  have f414 : fld g0 80 8 = .int (0 : Int32) := (zf hF (by decide) rfl : fld g0 80 8 = .int (0 : Int32))
  have f415 : fld g0 80 9 = .ref (ad 54) := (zf hF (by decide) rfl : fld g0 80 9 = .ref (ad 54))
  have f416 : fld g0 80 10 = .ref (ad 18) := (zf hF (by decide) rfl : fld g0 80 10 = .ref (ad 18))
  refine q_aload_n hM dX11_other_0 (lv_at hl 0 rfl) ?_
  refine q_iload_n hM dX11_other_1 (lv_at hl 1 rfl) ?_
  refine q_iload_n hM dX11_other_2 (lv_at hl 2 rfl) ?_
  refine q_callV (As := [.int a, .int b]) (rest := []) hM hW.1 hR hC myX11_canBeTried (kAW (v_3_0 (List.mem_of_getElem? (i := 1) rfl)) rfl) (rfl : vwCl[11]? = some (RX11, TX11, 16)) rfl lb_0.1 (shO hW.2.1 lb_0) (c_X11_canBeTried _ _ cA ad g0 a b hW.2.1 hF) ⟨by decide, by decide⟩ rfl rfl hl.1 (Nat.le_of_ble_eq_true rfl) dX11_other_3 (fun v g418 H locs hp hW1 => ?_)
  obtain ⟨r417, rfl, hr417, rfl⟩ := hp
  have hW : WS ad cA (fun i k => i = 43 ∨ i = 44 ∨ (46 ≤ i ∧ i < 54) ∨ (i = 42 ∧ (k = 3 ∨ k = 4 ∨ k = 5 ∨ k = 6 ∨ k = 7)) ∨ (i = 80 ∧ (k = 7 ∨ k = 8 ∨ k = 9 ∨ k = 10))) g0 K g0 H locs := ⟨hW1, hW.2.1, hW.2.2⟩
  refine q_if_ne (tgt := 11) hM dX11_other_6 (by decide) (rfl : r417.toInt = r417.toInt) (fun h6 => ?_) (fun h6 => ?_)
  · refine q_aload_n hM dX11_other_11 (lv_at hl 0 rfl) ?_
    refine q_aload_n hM dX11_other_12 (lv_at hl 0 rfl) ?_
    refine w_get (v := .ref (ad 61)) hM hW FG_X11_43 lb_0 (rf_0_9 hW.2.1) dX11_other_13 ?_
    refine q_callV (As := [.ref (ad 61)]) (rest := []) hM hW.1 hR hC myX11_beginTrial (kAW (v_3_0 (List.mem_of_getElem? (i := 5) rfl)) rfl) (rfl : vwCl[11]? = some (RX11, TX11, 16)) rfl lb_0.1 (shO hW.2.1 lb_0) (c_X11_beginTrial _ _ cA ad g0 61 (0 : Int32) (0 : Int32) (0 : Int32) (0 : Int32) (1 : Int32) hW.2.1 ((hW.2.2.1 18 3 (by omega)).trans (zf hF (by decide) rfl : fld g0 18 3 = .int (0 : Int32))) ((hW.2.2.1 18 4 (by omega)).trans (zf hF (by decide) rfl : fld g0 18 4 = .int (0 : Int32))) ((hW.2.2.1 18 5 (by omega)).trans (zf hF (by decide) rfl : fld g0 18 5 = .int (0 : Int32))) ((hW.2.2.1 18 6 (by omega)).trans (zf hF (by decide) rfl : fld g0 18 6 = .int (0 : Int32))) ((hW.2.2.1 18 7 (by omega)).trans (zf hF (by decide) rfl : fld g0 18 7 = .int (1 : Int32)))) ⟨by decide, by decide⟩ rfl rfl hl.1 (Nat.le_of_ble_eq_true rfl) dX11_other_16 (fun v g428 H locs hp hW1 => ?_)
    obtain ⟨rfl, hs1, hf1, q419, q420, q421, q422, q423, q424, q425, q426, q427⟩ := hp
    have hW : WS ad cA (fun i k => i = 43 ∨ i = 44 ∨ (46 ≤ i ∧ i < 54) ∨ (i = 42 ∧ (k = 3 ∨ k = 4 ∨ k = 5 ∨ k = 6 ∨ k = 7)) ∨ (i = 80 ∧ (k = 7 ∨ k = 8 ∨ k = 9 ∨ k = 10))) g0 K g428 H locs := ⟨hW1, hs1, hW.2.2.tr hf1 (fun i k h => by omega)⟩
    refine q_aload_n hM dX11_other_19 (lv_at hl 0 rfl) ?_
    refine w_get (v := .ref (ad 80)) hM hW FG_X11_83 lb_0 (rf_0_2 hW.2.1) dX11_other_20 ?_
    refine q_iload_n hM dX11_other_23 (lv_at hl 1 rfl) ?_
    refine q_callV (As := [.int a]) (rest := []) hM hW.1 hR hC myX2_go (kAW (v_2_9 (List.mem_of_getElem? (i := 15) rfl)) rfl) (rfl : vwCl[2]? = some (RX2, TX2, 11)) rfl lb_80.1 (shO hW.2.1 lb_80) (c_X2_go_42 _ _ cA ad g428 a (0 : Int32) hW.2.1 q427 q419 q420 (by have := kc_0; omega)) ⟨by decide, by decide⟩ rfl rfl hl.1 (Nat.le_of_ble_eq_true rfl) dX11_other_24 (fun v g431 H locs hp hW1 => ?_)
    obtain ⟨v429, rfl, hs1, hf1, q430⟩ := hp
    have f432 : fld g431 42 3 = .int (0 : Int32) := (hf1.1 42 3 (by omega)).trans q419
    have f433 : fld g431 42 5 = .int (0 : Int32) := (hf1.1 42 5 (by omega)).trans q421
    have f434 : fld g431 42 6 = .int (0 : Int32) := (hf1.1 42 6 (by omega)).trans q422
    have f435 : fld g431 42 7 = .int (1 : Int32) := (hf1.1 42 7 (by omega)).trans q423
    have f436 : fld g431 80 7 = .int (0 : Int32) := (hf1.1 80 7 (by omega)).trans q424
    have f437 : fld g431 80 8 = .int (0 : Int32) := (hf1.1 80 8 (by omega)).trans q425
    have f438 : fld g431 80 9 = .ref (ad 61) := (hf1.1 80 9 (by omega)).trans q426
    have f439 : fld g431 80 10 = .ref (ad 42) := (hf1.1 80 10 (by omega)).trans q427
    have hW : WS ad cA (fun i k => i = 43 ∨ i = 44 ∨ (46 ≤ i ∧ i < 54) ∨ (i = 42 ∧ (k = 3 ∨ k = 4 ∨ k = 5 ∨ k = 6 ∨ k = 7)) ∨ (i = 80 ∧ (k = 7 ∨ k = 8 ∨ k = 9 ∨ k = 10))) g0 K g431 H locs := ⟨hW1, hs1, hW.2.2.tr hf1 (fun i k h => by omega)⟩
    refine q_aload_n hM dX11_other_27 (lv_at hl 0 rfl) ?_
    refine q_iload_n hM dX11_other_28 (lv_at hl 2 rfl) ?_
    refine q_callV (As := [.int b]) (rest := []) hM hW.1 hR hC myX11_trialTells (kAW (v_3_0 (List.mem_of_getElem? (i := 13) rfl)) rfl) (rfl : vwCl[11]? = some (RX11, TX11, 16)) rfl lb_0.1 (shO hW.2.1 lb_0) (c_X11_trialTells _ _ cA ad g431 b hW.2.1 f433 ((hW.2.2.1 18 5 (by omega)).trans (zf hF (by decide) rfl : fld g0 18 5 = .int (0 : Int32))) f436 f434 ((hW.2.2.1 18 6 (by omega)).trans (zf hF (by decide) rfl : fld g0 18 6 = .int (0 : Int32))) f437 (by omega) (by omega)) ⟨by decide, by decide⟩ rfl rfl hl.1 (Nat.le_of_ble_eq_true rfl) dX11_other_29 (fun v g441 H locs hp hW1 => ?_)
    obtain ⟨r440, rfl, hr440, rfl⟩ := hp
    have hW : WS ad cA (fun i k => i = 43 ∨ i = 44 ∨ (46 ≤ i ∧ i < 54) ∨ (i = 42 ∧ (k = 3 ∨ k = 4 ∨ k = 5 ∨ k = 6 ∨ k = 7)) ∨ (i = 80 ∧ (k = 7 ∨ k = 8 ∨ k = 9 ∨ k = 10))) g0 K g431 H locs := ⟨hW1, hW.2.1, hW.2.2⟩
    exact hE _ _ _ _ _ _ hW.1 ⟨_, rfl, hW.2.1, FR.wk hW.2.2 (fun i k h => by omega), (by have := hr440; omega)⟩ dX11_other_32
  · refine q_iconst (v := ((-1) : Int32)) hM dX11_other_9 (by decide) ?_
    exact hE _ _ _ _ _ _ hW.1 ⟨_, rfl, hW.2.1, FR.wk hW.2.2 (fun i k h => by omega), (by have := kc_m1; omega)⟩ dX11_other_10

theorem dX11_count_0 : decode cX11_count 0 = .ok (.aload_n 0, 1) := by decide +kernel
theorem dX11_count_1 : decode cX11_count 1 = .ok (.getfield 83, 3) := by decide +kernel
theorem dX11_count_4 : decode cX11_count 4 = .ok (.getfield 158, 3) := by decide +kernel
theorem dX11_count_7 : decode cX11_count 7 = .ok (.iload_n 1, 1) := by decide +kernel
theorem dX11_count_8 : decode cX11_count 8 = .ok (.bipush 20, 2) := by decide +kernel
theorem dX11_count_10 : decode cX11_count 10 = .ok (.isub, 1) := by decide +kernel
theorem dX11_count_11 : decode cX11_count 11 = .ok (.invokestatic 123, 3) := by decide +kernel
theorem dX11_count_14 : decode cX11_count 14 = .ok (.ifCond .eq 19, 3) := by decide +kernel
theorem dX11_count_33 : decode cX11_count 33 = .ok (.iload_n 1, 1) := by decide +kernel
theorem dX11_count_34 : decode cX11_count 34 = .ok (.bipush 31, 2) := by decide +kernel
theorem dX11_count_36 : decode cX11_count 36 = .ok (.bipush 39, 2) := by decide +kernel
theorem dX11_count_38 : decode cX11_count 38 = .ok (.invokestatic 112, 3) := by decide +kernel
theorem dX11_count_41 : decode cX11_count 41 = .ok (.ifCond .eq 28, 3) := by decide +kernel
theorem dX11_count_44 : decode cX11_count 44 = .ok (.aload_n 0, 1) := by decide +kernel
theorem dX11_count_45 : decode cX11_count 45 = .ok (.getfield 83, 3) := by decide +kernel
theorem dX11_count_48 : decode cX11_count 48 = .ok (.getfield 164, 3) := by decide +kernel
theorem dX11_count_51 : decode cX11_count 51 = .ok (.iload_n 1, 1) := by decide +kernel
theorem dX11_count_52 : decode cX11_count 52 = .ok (.bipush 30, 2) := by decide +kernel
theorem dX11_count_54 : decode cX11_count 54 = .ok (.isub, 1) := by decide +kernel
theorem dX11_count_55 : decode cX11_count 55 = .ok (.iaload, 1) := by decide +kernel
theorem dX11_count_56 : decode cX11_count 56 = .ok (.istore_n 2, 1) := by decide +kernel
theorem dX11_count_57 : decode cX11_count 57 = .ok (.iload_n 2, 1) := by decide +kernel
theorem dX11_count_58 : decode cX11_count 58 = .ok (.iconst (-1), 1) := by decide +kernel
theorem dX11_count_59 : decode cX11_count 59 = .ok (.if_icmp .ne 8, 3) := by decide +kernel
theorem dX11_count_62 : decode cX11_count 62 = .ok (.bipush (-2), 2) := by decide +kernel
theorem dX11_count_64 : decode cX11_count 64 = .ok (.goto 4, 3) := by decide +kernel
theorem dX11_count_68 : decode cX11_count 68 = .ok (.ireturn, 1) := by decide +kernel
theorem dX11_count_69 : decode cX11_count 69 = .ok (.aload_n 0, 1) := by decide +kernel
theorem dX11_count_70 : decode cX11_count 70 = .ok (.getfield 19, 3) := by decide +kernel
theorem dX11_count_73 : decode cX11_count 73 = .ok (.getfield 116, 3) := by decide +kernel
theorem dX11_count_76 : decode cX11_count 76 = .ok (.iload_n 1, 1) := by decide +kernel
theorem dX11_count_77 : decode cX11_count 77 = .ok (.bipush 40, 2) := by decide +kernel
theorem dX11_count_79 : decode cX11_count 79 = .ok (.isub, 1) := by decide +kernel
theorem dX11_count_80 : decode cX11_count 80 = .ok (.invokestatic 123, 3) := by decide +kernel
theorem dX11_count_83 : decode cX11_count 83 = .ok (.ifCond .eq 16, 3) := by decide +kernel
theorem dX11_count_99 : decode cX11_count 99 = .ok (.iload_n 1, 1) := by decide +kernel
theorem dX11_count_100 : decode cX11_count 100 = .ok (.tableswitch 160 0 11 #[64, 72, 80, 88, 96, 104, 112, 120, 128, 136, 144, 152], 64) := by decide +kernel
theorem dX11_count_164 : decode cX11_count 164 = .ok (.aload_n 0, 1) := by decide +kernel
theorem dX11_count_165 : decode cX11_count 165 = .ok (.getfield 26, 3) := by decide +kernel
theorem dX11_count_168 : decode cX11_count 168 = .ok (.getfield 322, 3) := by decide +kernel
theorem dX11_count_171 : decode cX11_count 171 = .ok (.ireturn, 1) := by decide +kernel
theorem dX11_count_172 : decode cX11_count 172 = .ok (.aload_n 0, 1) := by decide +kernel
theorem dX11_count_173 : decode cX11_count 173 = .ok (.getfield 26, 3) := by decide +kernel
theorem dX11_count_176 : decode cX11_count 176 = .ok (.getfield 173, 3) := by decide +kernel
theorem dX11_count_179 : decode cX11_count 179 = .ok (.ireturn, 1) := by decide +kernel
theorem dX11_count_180 : decode cX11_count 180 = .ok (.aload_n 0, 1) := by decide +kernel
theorem dX11_count_181 : decode cX11_count 181 = .ok (.getfield 26, 3) := by decide +kernel
theorem dX11_count_184 : decode cX11_count 184 = .ok (.getfield 328, 3) := by decide +kernel
theorem dX11_count_187 : decode cX11_count 187 = .ok (.ireturn, 1) := by decide +kernel
theorem dX11_count_188 : decode cX11_count 188 = .ok (.aload_n 0, 1) := by decide +kernel
theorem dX11_count_189 : decode cX11_count 189 = .ok (.getfield 19, 3) := by decide +kernel
theorem dX11_count_192 : decode cX11_count 192 = .ok (.getfield 116, 3) := by decide +kernel
theorem dX11_count_195 : decode cX11_count 195 = .ok (.ireturn, 1) := by decide +kernel
theorem dX11_count_196 : decode cX11_count 196 = .ok (.aload_n 0, 1) := by decide +kernel
theorem dX11_count_197 : decode cX11_count 197 = .ok (.getfield 26, 3) := by decide +kernel
theorem dX11_count_200 : decode cX11_count 200 = .ok (.getfield 135, 3) := by decide +kernel
theorem dX11_count_203 : decode cX11_count 203 = .ok (.ireturn, 1) := by decide +kernel
theorem dX11_count_204 : decode cX11_count 204 = .ok (.aload_n 0, 1) := by decide +kernel
theorem dX11_count_205 : decode cX11_count 205 = .ok (.getfield 83, 3) := by decide +kernel
theorem dX11_count_208 : decode cX11_count 208 = .ok (.getfield 158, 3) := by decide +kernel
theorem dX11_count_211 : decode cX11_count 211 = .ok (.ireturn, 1) := by decide +kernel
theorem dX11_count_212 : decode cX11_count 212 = .ok (.aload_n 0, 1) := by decide +kernel
theorem dX11_count_213 : decode cX11_count 213 = .ok (.getfield 90, 3) := by decide +kernel
theorem dX11_count_216 : decode cX11_count 216 = .ok (.getfield 273, 3) := by decide +kernel
theorem dX11_count_219 : decode cX11_count 219 = .ok (.ireturn, 1) := by decide +kernel
theorem dX11_count_220 : decode cX11_count 220 = .ok (.aload_n 0, 1) := by decide +kernel
theorem dX11_count_221 : decode cX11_count 221 = .ok (.getfield 39, 3) := by decide +kernel
theorem dX11_count_224 : decode cX11_count 224 = .ok (.getfield 196, 3) := by decide +kernel
theorem dX11_count_227 : decode cX11_count 227 = .ok (.ireturn, 1) := by decide +kernel
theorem dX11_count_228 : decode cX11_count 228 = .ok (.aload_n 0, 1) := by decide +kernel
theorem dX11_count_229 : decode cX11_count 229 = .ok (.getfield 10, 3) := by decide +kernel
theorem dX11_count_232 : decode cX11_count 232 = .ok (.getfield 139, 3) := by decide +kernel
theorem dX11_count_235 : decode cX11_count 235 = .ok (.ireturn, 1) := by decide +kernel
theorem dX11_count_236 : decode cX11_count 236 = .ok (.aload_n 0, 1) := by decide +kernel
theorem dX11_count_237 : decode cX11_count 237 = .ok (.getfield 26, 3) := by decide +kernel
theorem dX11_count_240 : decode cX11_count 240 = .ok (.getfield 316, 3) := by decide +kernel
theorem dX11_count_243 : decode cX11_count 243 = .ok (.ireturn, 1) := by decide +kernel
theorem dX11_count_244 : decode cX11_count 244 = .ok (.aload_n 0, 1) := by decide +kernel
theorem dX11_count_245 : decode cX11_count 245 = .ok (.getfield 83, 3) := by decide +kernel
theorem dX11_count_248 : decode cX11_count 248 = .ok (.getfield 167, 3) := by decide +kernel
theorem dX11_count_251 : decode cX11_count 251 = .ok (.ireturn, 1) := by decide +kernel
theorem dX11_count_252 : decode cX11_count 252 = .ok (.aload_n 0, 1) := by decide +kernel
theorem dX11_count_253 : decode cX11_count 253 = .ok (.getfield 83, 3) := by decide +kernel
theorem dX11_count_256 : decode cX11_count 256 = .ok (.getfield 170, 3) := by decide +kernel
theorem dX11_count_259 : decode cX11_count 259 = .ok (.ireturn, 1) := by decide +kernel
theorem dX11_count_260 : decode cX11_count 260 = .ok (.iconst (-1), 1) := by decide +kernel
theorem dX11_count_261 : decode cX11_count 261 = .ok (.ireturn, 1) := by decide +kernel
theorem FG_X11_158 : FG RX11 158 2 11 4 := ⟨RX2, TX2, rfl, wX2, by decide, kAW (v_0_14 (List.mem_of_getElem? (i := 11) rfl)) rfl, rfl⟩
theorem FG_X11_316 : FG RX11 316 7 8 7 := ⟨RX7, TX7, rfl, wX7, by decide, kAW (v_0_6 (List.mem_of_getElem? (i := 2) rfl)) rfl, rfl⟩
theorem FG_X11_167 : FG RX11 167 2 11 5 := ⟨RX2, TX2, rfl, wX2, by decide, kAW (v_0_14 (List.mem_of_getElem? (i := 13) rfl)) rfl, rfl⟩
theorem FG_X11_170 : FG RX11 170 2 11 6 := ⟨RX2, TX2, rfl, wX2, by decide, kAW (v_0_14 (List.mem_of_getElem? (i := 15) rfl)) rfl, rfl⟩
set_option maxRecDepth 100000 in
set_option maxHeartbeats 4000000 in
theorem p_X11_count (l : Launch) (D : va_G) (cA : Nat → ClassId) (ad : Nat → Nat) (g0 : Nat → va_E) (a : Int32) (hSh : Shp ad cA g0) (hF : ∀ j, j < NN → g0 j = gF ad cA j) : CT l NN ad cA D yX11_count cX11_count 3 (some FieldType.int) (1, 22) [.ref (ad 0), .int a] g0 (fun v g' => ∃ r : Int32, v = some (.int r) ∧ Shp ad cA g' ∧ FR (fun i _ => i < 129) g0 g' ∧ ((a.toInt = 9 ∧ r.toInt = 1) ∨ (0 ≤ a.toInt ∧ a.toInt ≤ 11 ∧ a.toInt ≠ 9 ∧ r.toInt = 0) ∨ (31 ≤ a.toInt ∧ a.toInt ≤ 39 ∧ r.toInt = -2) ∨ ((a.toInt < 0 ∨ (11 < a.toInt ∧ a.toInt < 31) ∨ 39 < a.toInt) ∧ r.toInt = -1))) := by
  refine q_enterI (by decide) (Nat.le_of_ble_eq_true rfl) rfl (fun K H locs ls _ _ hM hW0 hR hC hE hl => ?_)
  have hl : lv_has ls 3 [(0, .ref (ad 0)), (1, .int a)] := hl
  have hW : WS ad cA (fun i k => False) g0 K g0 H locs := ⟨hW0, hSh, FR.rf⟩
  have := kc_0
  have := kc_m1
  have := kc_m2
  have := kc_31
  have := kc_39
  refine q_aload_n hM dX11_count_0 (lv_at hl 0 rfl) ?_
  refine w_get (v := .ref (ad 80)) hM hW FG_X11_83 lb_0 (rf_0_2 hW.2.1) dX11_count_1 ?_
  refine w_get (v := .int (0 : Int32)) hM hW FG_X11_158 lb_80 ((hW.2.2.1 80 4 (fun h => h)).trans (zf hF (by decide) rfl : fld g0 80 4 = .int (0 : Int32))) dX11_count_4 ?_
  refine q_iload_n hM dX11_count_7 (lv_at hl 1 rfl) ?_
  refine q_bipush (v := (20 : Int32)) hM dX11_count_8 (by decide) ?_
  refine q_isub hM dX11_count_10 (fun z442 hz442 => ?_)
  refine q_callS (As := [.int (0 : Int32), .int z442]) (rest := []) hM hW.1 hR hC myX11_has (kAW (v_1_10 (List.mem_of_getElem? (i := 8) rfl)) rfl) (c_X11_has _ _ cA ad g0 (0 : Int32) z442 hW.2.1) ⟨by decide, by decide⟩ rfl rfl hl.1 (Nat.le_of_ble_eq_true rfl) dX11_count_11 (fun v g444 H locs hp hW1 => ?_)
  obtain ⟨r443, rfl, hr443, rfl⟩ := hp
  have hW : WS ad cA (fun i k => False) g0 K g0 H locs := ⟨hW1, hW.2.1, hW.2.2⟩
  have kr443 : r443.toInt = 0 := has_r0 hr443
  refine q_if_eq (tgt := 33) hM dX11_count_14 (by decide) (kr443 : r443.toInt = 0) (fun h14 => ?_) (fun h14 => ?_)
  · refine q_iload_n hM dX11_count_33 (lv_at hl 1 rfl) ?_
    refine q_bipush (v := (31 : Int32)) hM dX11_count_34 (by decide) ?_
    refine q_bipush (v := (39 : Int32)) hM dX11_count_36 (by decide) ?_
    refine q_callS (As := [.int a, .int (31 : Int32), .int (39 : Int32)]) (rest := []) hM hW.1 hR hC myX11_within (kAW (v_1_10 (List.mem_of_getElem? (i := 1) rfl)) rfl) (c_X11_within _ _ cA ad g0 a (31 : Int32) (39 : Int32) hW.2.1) ⟨by decide, by decide⟩ rfl rfl hl.1 (Nat.le_of_ble_eq_true rfl) dX11_count_38 (fun v g446 H locs hp hW1 => ?_)
    obtain ⟨r445, rfl, hr445, rfl⟩ := hp
    have hW : WS ad cA (fun i k => False) g0 K g0 H locs := ⟨hW1, hW.2.1, hW.2.2⟩
    refine q_if_eq (tgt := 69) hM dX11_count_41 (by decide) (rfl : r445.toInt = r445.toInt) (fun h41 => ?_) (fun h41 => ?_)
    · refine q_aload_n hM dX11_count_69 (lv_at hl 0 rfl) ?_
      refine w_get (v := .ref (ad 3)) hM hW FG_X11_19 lb_0 (rf_0_1 hW.2.1) dX11_count_70 ?_
      refine w_get (v := .int (0 : Int32)) hM hW FG_X11_116 lb_3 ((hW.2.2.1 3 2 (fun h => h)).trans (zf hF (by decide) rfl : fld g0 3 2 = .int (0 : Int32))) dX11_count_73 ?_
      refine q_iload_n hM dX11_count_76 (lv_at hl 1 rfl) ?_
      refine q_bipush (v := (40 : Int32)) hM dX11_count_77 (by decide) ?_
      refine q_isub hM dX11_count_79 (fun z447 hz447 => ?_)
      refine q_callS (As := [.int (0 : Int32), .int z447]) (rest := []) hM hW.1 hR hC myX11_has (kAW (v_1_10 (List.mem_of_getElem? (i := 8) rfl)) rfl) (c_X11_has _ _ cA ad g0 (0 : Int32) z447 hW.2.1) ⟨by decide, by decide⟩ rfl rfl hl.1 (Nat.le_of_ble_eq_true rfl) dX11_count_80 (fun v g449 H locs hp hW1 => ?_)
      obtain ⟨r448, rfl, hr448, rfl⟩ := hp
      have hW : WS ad cA (fun i k => False) g0 K g0 H locs := ⟨hW1, hW.2.1, hW.2.2⟩
      have kr448 : r448.toInt = 0 := has_r0 hr448
      refine q_if_eq (tgt := 99) hM dX11_count_83 (by decide) (kr448 : r448.toInt = 0) (fun h83 => ?_) (fun h83 => ?_)
      · refine q_iload_n hM dX11_count_99 (lv_at hl 1 rfl) ?_
        rcases (show a.toInt < 0 ∨ 11 < a.toInt ∨ a.toInt = 0 ∨ a.toInt = 1 ∨ a.toInt = 2 ∨ a.toInt = 3 ∨ a.toInt = 4 ∨ a.toInt = 5 ∨ a.toInt = 6 ∨ a.toInt = 7 ∨ a.toInt = 8 ∨ a.toInt = 9 ∨ a.toInt = 10 ∨ a.toInt = 11 from by omega) with h100 | h100 | h100 | h100 | h100 | h100 | h100 | h100 | h100 | h100 | h100 | h100 | h100 | h100
        · refine q_tableOut (tgt := 260) hM dX11_count_100 rfl (by omega) (by decide) ?_
          refine q_iconst (v := ((-1) : Int32)) hM dX11_count_260 (by decide) ?_
          exact hE _ _ _ _ _ _ hW.1 ⟨_, rfl, hW.2.1, FR.wk hW.2.2 (fun _ _ h => h.elim), (by have := kc_m1; omega)⟩ dX11_count_261
        · refine q_tableOut (tgt := 260) hM dX11_count_100 rfl (by omega) (by decide) ?_
          refine q_iconst (v := ((-1) : Int32)) hM dX11_count_260 (by decide) ?_
          exact hE _ _ _ _ _ _ hW.1 ⟨_, rfl, hW.2.1, FR.wk hW.2.2 (fun _ _ h => h.elim), (by have := kc_m1; omega)⟩ dX11_count_261
        · refine q_tableIn (tgt := 164) hM dX11_count_100 ((rfl : a.toInt = _).trans h100) (by decide) (by decide) rfl (by decide) ?_
          refine q_aload_n hM dX11_count_164 (lv_at hl 0 rfl) ?_
          refine w_get (v := .ref (ad 18)) hM hW FG_X11_26 lb_0 (rf_0_10 hW.2.1) dX11_count_165 ?_
          refine w_get (v := .int (0 : Int32)) hM hW FG_X11_322 lb_18 ((hW.2.2.1 18 4 (fun h => h)).trans (zf hF (by decide) rfl : fld g0 18 4 = .int (0 : Int32))) dX11_count_168 ?_
          exact hE _ _ _ _ _ _ hW.1 ⟨_, rfl, hW.2.1, FR.wk hW.2.2 (fun _ _ h => h.elim), (by have := kc_0; omega)⟩ dX11_count_171
        · refine q_tableIn (tgt := 172) hM dX11_count_100 ((rfl : a.toInt = _).trans h100) (by decide) (by decide) rfl (by decide) ?_
          refine q_aload_n hM dX11_count_172 (lv_at hl 0 rfl) ?_
          refine w_get (v := .ref (ad 18)) hM hW FG_X11_26 lb_0 (rf_0_10 hW.2.1) dX11_count_173 ?_
          refine w_get (v := .int (0 : Int32)) hM hW FG_X11_173 lb_18 ((hW.2.2.1 18 5 (fun h => h)).trans (zf hF (by decide) rfl : fld g0 18 5 = .int (0 : Int32))) dX11_count_176 ?_
          exact hE _ _ _ _ _ _ hW.1 ⟨_, rfl, hW.2.1, FR.wk hW.2.2 (fun _ _ h => h.elim), (by have := kc_0; omega)⟩ dX11_count_179
        · refine q_tableIn (tgt := 180) hM dX11_count_100 ((rfl : a.toInt = _).trans h100) (by decide) (by decide) rfl (by decide) ?_
          refine q_aload_n hM dX11_count_180 (lv_at hl 0 rfl) ?_
          refine w_get (v := .ref (ad 18)) hM hW FG_X11_26 lb_0 (rf_0_10 hW.2.1) dX11_count_181 ?_
          refine w_get (v := .int (0 : Int32)) hM hW FG_X11_328 lb_18 ((hW.2.2.1 18 6 (fun h => h)).trans (zf hF (by decide) rfl : fld g0 18 6 = .int (0 : Int32))) dX11_count_184 ?_
          exact hE _ _ _ _ _ _ hW.1 ⟨_, rfl, hW.2.1, FR.wk hW.2.2 (fun _ _ h => h.elim), (by have := kc_0; omega)⟩ dX11_count_187
        · refine q_tableIn (tgt := 188) hM dX11_count_100 ((rfl : a.toInt = _).trans h100) (by decide) (by decide) rfl (by decide) ?_
          refine q_aload_n hM dX11_count_188 (lv_at hl 0 rfl) ?_
          refine w_get (v := .ref (ad 3)) hM hW FG_X11_19 lb_0 (rf_0_1 hW.2.1) dX11_count_189 ?_
          refine w_get (v := .int (0 : Int32)) hM hW FG_X11_116 lb_3 ((hW.2.2.1 3 2 (fun h => h)).trans (zf hF (by decide) rfl : fld g0 3 2 = .int (0 : Int32))) dX11_count_192 ?_
          exact hE _ _ _ _ _ _ hW.1 ⟨_, rfl, hW.2.1, FR.wk hW.2.2 (fun _ _ h => h.elim), (by have := kc_0; omega)⟩ dX11_count_195
        · refine q_tableIn (tgt := 196) hM dX11_count_100 ((rfl : a.toInt = _).trans h100) (by decide) (by decide) rfl (by decide) ?_
          refine q_aload_n hM dX11_count_196 (lv_at hl 0 rfl) ?_
          refine w_get (v := .ref (ad 18)) hM hW FG_X11_26 lb_0 (rf_0_10 hW.2.1) dX11_count_197 ?_
          refine w_get (v := .int (0 : Int32)) hM hW FG_X11_135 lb_18 ((hW.2.2.1 18 3 (fun h => h)).trans (zf hF (by decide) rfl : fld g0 18 3 = .int (0 : Int32))) dX11_count_200 ?_
          exact hE _ _ _ _ _ _ hW.1 ⟨_, rfl, hW.2.1, FR.wk hW.2.2 (fun _ _ h => h.elim), (by have := kc_0; omega)⟩ dX11_count_203
        · refine q_tableIn (tgt := 204) hM dX11_count_100 ((rfl : a.toInt = _).trans h100) (by decide) (by decide) rfl (by decide) ?_
          refine q_aload_n hM dX11_count_204 (lv_at hl 0 rfl) ?_
          refine w_get (v := .ref (ad 80)) hM hW FG_X11_83 lb_0 (rf_0_2 hW.2.1) dX11_count_205 ?_
          refine w_get (v := .int (0 : Int32)) hM hW FG_X11_158 lb_80 ((hW.2.2.1 80 4 (fun h => h)).trans (zf hF (by decide) rfl : fld g0 80 4 = .int (0 : Int32))) dX11_count_208 ?_
          exact hE _ _ _ _ _ _ hW.1 ⟨_, rfl, hW.2.1, FR.wk hW.2.2 (fun _ _ h => h.elim), (by have := kc_0; omega)⟩ dX11_count_211
        · refine q_tableIn (tgt := 212) hM dX11_count_100 ((rfl : a.toInt = _).trans h100) (by decide) (by decide) rfl (by decide) ?_
          refine q_aload_n hM dX11_count_212 (lv_at hl 0 rfl) ?_
          refine w_get (v := .ref (ad 102)) hM hW FG_X11_90 lb_0 (rf_0_3 hW.2.1) dX11_count_213 ?_
          refine w_get (v := .int (0 : Int32)) hM hW FG_X11_273 lb_102 ((hW.2.2.1 102 4 (fun h => h)).trans (zf hF (by decide) rfl : fld g0 102 4 = .int (0 : Int32))) dX11_count_216 ?_
          exact hE _ _ _ _ _ _ hW.1 ⟨_, rfl, hW.2.1, FR.wk hW.2.2 (fun _ _ h => h.elim), (by have := kc_0; omega)⟩ dX11_count_219
        · refine q_tableIn (tgt := 220) hM dX11_count_100 ((rfl : a.toInt = _).trans h100) (by decide) (by decide) rfl (by decide) ?_
          refine q_aload_n hM dX11_count_220 (lv_at hl 0 rfl) ?_
          refine w_get (v := .ref (ad 54)) hM hW FG_X11_39 lb_0 ((hW.2.2.1 0 13 (fun h => h)).trans (zf hF (by decide) rfl : fld g0 0 13 = .ref (ad 54))) dX11_count_221 ?_
          refine w_get (v := .int (0 : Int32)) hM hW FG_X11_196 lb_54 ((hW.2.2.1 54 6 (fun h => h)).trans (zf hF (by decide) rfl : fld g0 54 6 = .int (0 : Int32))) dX11_count_224 ?_
          exact hE _ _ _ _ _ _ hW.1 ⟨_, rfl, hW.2.1, FR.wk hW.2.2 (fun _ _ h => h.elim), (by have := kc_0; omega)⟩ dX11_count_227
        · refine q_tableIn (tgt := 228) hM dX11_count_100 ((rfl : a.toInt = _).trans h100) (by decide) (by decide) rfl (by decide) ?_
          refine q_aload_n hM dX11_count_228 (lv_at hl 0 rfl) ?_
          refine w_get (v := .ref (ad 1)) hM hW FG_X11_10 lb_0 (rf_0_0 hW.2.1) dX11_count_229 ?_
          refine w_get (v := .int (0 : Int32)) hM hW FG_X11_139 lb_1 ((hW.2.2.1 1 1 (fun h => h)).trans (zf hF (by decide) rfl : fld g0 1 1 = .int (0 : Int32))) dX11_count_232 ?_
          exact hE _ _ _ _ _ _ hW.1 ⟨_, rfl, hW.2.1, FR.wk hW.2.2 (fun _ _ h => h.elim), (by have := kc_0; omega)⟩ dX11_count_235
        · refine q_tableIn (tgt := 236) hM dX11_count_100 ((rfl : a.toInt = _).trans h100) (by decide) (by decide) rfl (by decide) ?_
          refine q_aload_n hM dX11_count_236 (lv_at hl 0 rfl) ?_
          refine w_get (v := .ref (ad 18)) hM hW FG_X11_26 lb_0 (rf_0_10 hW.2.1) dX11_count_237 ?_
          refine w_get (v := .int (1 : Int32)) hM hW FG_X11_316 lb_18 ((hW.2.2.1 18 7 (fun h => h)).trans (zf hF (by decide) rfl : fld g0 18 7 = .int (1 : Int32))) dX11_count_240 ?_
          exact hE _ _ _ _ _ _ hW.1 ⟨_, rfl, hW.2.1, FR.wk hW.2.2 (fun _ _ h => h.elim), (by have := kc_1; omega)⟩ dX11_count_243
        · refine q_tableIn (tgt := 244) hM dX11_count_100 ((rfl : a.toInt = _).trans h100) (by decide) (by decide) rfl (by decide) ?_
          refine q_aload_n hM dX11_count_244 (lv_at hl 0 rfl) ?_
          refine w_get (v := .ref (ad 80)) hM hW FG_X11_83 lb_0 (rf_0_2 hW.2.1) dX11_count_245 ?_
          refine w_get (v := .int (0 : Int32)) hM hW FG_X11_167 lb_80 ((hW.2.2.1 80 5 (fun h => h)).trans (zf hF (by decide) rfl : fld g0 80 5 = .int (0 : Int32))) dX11_count_248 ?_
          exact hE _ _ _ _ _ _ hW.1 ⟨_, rfl, hW.2.1, FR.wk hW.2.2 (fun _ _ h => h.elim), (by have := kc_0; omega)⟩ dX11_count_251
        · refine q_tableIn (tgt := 252) hM dX11_count_100 ((rfl : a.toInt = _).trans h100) (by decide) (by decide) rfl (by decide) ?_
          refine q_aload_n hM dX11_count_252 (lv_at hl 0 rfl) ?_
          refine w_get (v := .ref (ad 80)) hM hW FG_X11_83 lb_0 (rf_0_2 hW.2.1) dX11_count_253 ?_
          refine w_get (v := .int (0 : Int32)) hM hW FG_X11_170 lb_80 ((hW.2.2.1 80 6 (fun h => h)).trans (zf hF (by decide) rfl : fld g0 80 6 = .int (0 : Int32))) dX11_count_256 ?_
          exact hE _ _ _ _ _ _ hW.1 ⟨_, rfl, hW.2.1, FR.wk hW.2.2 (fun _ _ h => h.elim), (by have := kc_0; omega)⟩ dX11_count_259
      · omega
    · refine q_aload_n hM dX11_count_44 (lv_at hl 0 rfl) ?_
      refine w_get (v := .ref (ad 80)) hM hW FG_X11_83 lb_0 (rf_0_2 hW.2.1) dX11_count_45 ?_
      refine w_get (v := .ref (ad 82)) hM hW FG_X11_164 lb_80 (rf_80_2 hW.2.1) dX11_count_48 ?_
      refine q_iload_n hM dX11_count_51 (lv_at hl 1 rfl) ?_
      refine q_bipush (v := (30 : Int32)) hM dX11_count_52 (by decide) ?_
      refine q_isub hM dX11_count_54 (fun z450 hz450 => ?_)
      have tz450 := i_subT hz450 (rfl : a.toInt = a.toInt) (kc_30 : (30 : Int32).toInt = 30) (by omega) (by omega)
      refine w_iald hM hW lb_82 (i_in (by omega) (by omega)) dX11_count_55 ?_
      refine q_top (fun y451 hy451 => ?_)
      have ky451 : y451.toInt = (-1) := by rw [hy451, ((hW.2.2.2.1 82 (fun h => h)).trans (za hF (by decide) rfl : arI g0 82 = fun _ => (-1)))]; rfl
      refine q_istore_n (lv9 := [(2, .int y451), (0, .ref (ad 0)), (1, .int a)]) hM dX11_count_56 hl (by decide) rfl (fun ls hl => ?_)
      refine q_iload_n hM dX11_count_57 (lv_at hl 0 rfl) ?_
      refine q_iconst (v := ((-1) : Int32)) hM dX11_count_58 (by decide) ?_
      refine q_icmp_ne (tgt := 67) hM dX11_count_59 (by decide) (ky451 : y451.toInt = (-1)) (kc_m1 : ((-1) : Int32).toInt = (-1)) (fun h59 => ?_) (fun h59 => ?_)
      · omega
      · refine q_bipush (v := ((-2) : Int32)) hM dX11_count_62 (by decide) ?_
        refine q_goto (tgt := 68) hM dX11_count_64 (by decide) ?_
        exact hE _ _ _ _ _ _ hW.1 ⟨_, rfl, hW.2.1, FR.wk hW.2.2 (fun _ _ h => h.elim), (by have := kc_m2; omega)⟩ dX11_count_68
  · omega

theorem dX7_tell_0 : decode cX7_tell 0 = .ok (.aload_n 0, 1) := by decide +kernel
theorem dX7_tell_1 : decode cX7_tell 1 = .ok (.dup, 1) := by decide +kernel
theorem dX7_tell_2 : decode cX7_tell 2 = .ok (.getfield 23, 3) := by decide +kernel
theorem dX7_tell_5 : decode cX7_tell 5 = .ok (.iconst 1, 1) := by decide +kernel
theorem dX7_tell_6 : decode cX7_tell 6 = .ok (.iload_n 1, 1) := by decide +kernel
theorem dX7_tell_7 : decode cX7_tell 7 = .ok (.ishl, 1) := by decide +kernel
theorem dX7_tell_8 : decode cX7_tell 8 = .ok (.ior, 1) := by decide +kernel
theorem dX7_tell_9 : decode cX7_tell 9 = .ok (.putfield 23, 3) := by decide +kernel
theorem dX7_tell_12 : decode cX7_tell 12 = .ok (.aload_n 0, 1) := by decide +kernel
theorem dX7_tell_13 : decode cX7_tell 13 = .ok (.getfield 9, 3) := by decide +kernel
theorem dX7_tell_16 : decode cX7_tell 16 = .ok (.iload_n 1, 1) := by decide +kernel
theorem dX7_tell_17 : decode cX7_tell 17 = .ok (.iload_n 2, 1) := by decide +kernel
theorem dX7_tell_18 : decode cX7_tell 18 = .ok (.iastore, 1) := by decide +kernel
theorem dX7_tell_19 : decode cX7_tell 19 = .ok (.aload_n 0, 1) := by decide +kernel
theorem dX7_tell_20 : decode cX7_tell 20 = .ok (.getfield 15, 3) := by decide +kernel
theorem dX7_tell_23 : decode cX7_tell 23 = .ok (.iload_n 1, 1) := by decide +kernel
theorem dX7_tell_24 : decode cX7_tell 24 = .ok (.iload_n 3, 1) := by decide +kernel
theorem dX7_tell_25 : decode cX7_tell 25 = .ok (.iastore, 1) := by decide +kernel
theorem dX7_tell_26 : decode cX7_tell 26 = .ok (.iconst 0, 1) := by decide +kernel
theorem dX7_tell_27 : decode cX7_tell 27 = .ok (.istore 4, 2) := by decide +kernel
theorem dX7_tell_29 : decode cX7_tell 29 = .ok (.iload 4, 2) := by decide +kernel
theorem dX7_tell_31 : decode cX7_tell 31 = .ok (.bipush 12, 2) := by decide +kernel
theorem dX7_tell_33 : decode cX7_tell 33 = .ok (.if_icmp .ge 19, 3) := by decide +kernel
theorem dX7_tell_36 : decode cX7_tell 36 = .ok (.aload_n 0, 1) := by decide +kernel
theorem dX7_tell_37 : decode cX7_tell 37 = .ok (.getfield 20, 3) := by decide +kernel
theorem dX7_tell_40 : decode cX7_tell 40 = .ok (.iload_n 1, 1) := by decide +kernel
theorem dX7_tell_41 : decode cX7_tell 41 = .ok (.aaload, 1) := by decide +kernel
theorem dX7_tell_42 : decode cX7_tell 42 = .ok (.iload 4, 2) := by decide +kernel
theorem dX7_tell_44 : decode cX7_tell 44 = .ok (.iconst 0, 1) := by decide +kernel
theorem dX7_tell_45 : decode cX7_tell 45 = .ok (.iastore, 1) := by decide +kernel
theorem dX7_tell_46 : decode cX7_tell 46 = .ok (.iinc 4 1, 3) := by decide +kernel
theorem dX7_tell_49 : decode cX7_tell 49 = .ok (.goto (-20), 3) := by decide +kernel
theorem dX7_tell_52 : decode cX7_tell 52 = .ok (.return_, 1) := by decide +kernel
set_option maxRecDepth 100000 in
set_option maxHeartbeats 4000000 in
theorem c_X7_tell (l : Launch) (D : va_G) (cA : Nat → ClassId) (ad : Nat → Nat) (g0 : Nat → va_E) (p gr ag : Int32) (hSh : Shp ad cA g0) (p0 : 0 ≤ p.toInt) (p7 : p.toInt ≤ 7) : CT l NN ad cA D yX7_tell cX7_tell 5 none (0, 0) [.ref (ad 18), .int p, .int gr, .int ag] g0 (fun v g' => v = none ∧ Shp ad cA g' ∧ FR (fun i k => (i = 18 ∧ (k = 3)) ∨ i = 19 ∨ i = 20 ∨ (22 ≤ i ∧ i < 30)) g0 g') := by
  refine q_enterV (by decide) (Nat.le_of_ble_eq_true rfl) (fun K H locs ls _ _ hM hW0 hR hC hE hl => ?_)
  have hl : lv_has ls 5 [(0, .ref (ad 18)), (1, .int p), (2, .int gr), (3, .int ag)] := hl
  have hW : WS ad cA (fun i k => (i = 18 ∧ (k = 3)) ∨ i = 19 ∨ i = 20 ∨ (22 ≤ i ∧ i < 30)) g0 K g0 H locs := ⟨hW0, hSh, FR.rf⟩
  refine q_aload_n hM dX7_tell_0 (lv_at hl 0 rfl) ?_
  refine q_dup hM dX7_tell_1 rfl ?_
  refine w_getI hM hW FG_X7_23 lb_18 (by decide) (by decide) dX7_tell_2 (fun x452 fx452 => ?_)
  refine q_iconst (v := (1 : Int32)) hM dX7_tell_5 (by decide) ?_
  refine q_iload_n hM dX7_tell_6 (lv_at hl 1 rfl) ?_
  refine q_ishl hM dX7_tell_7 (fun z453 hz453 => ?_)
  refine q_ior hM dX7_tell_8 (fun z454 hz454 => ?_)
  refine w_put hM hW FP_X7_23 lb_18 (by omega) (Or.inl ⟨_, rfl⟩) rfl rfl dX7_tell_9 (fun g455 H locs hW e1 e2 => ?_)
  have f456 : fld g455 18 3 = .int z454 := e1
  refine q_aload_n hM dX7_tell_12 (lv_at hl 0 rfl) ?_
  refine w_get (v := .ref (ad 19)) hM hW FG_X7_9 lb_18 (rf_18_0 hW.2.1) dX7_tell_13 ?_
  refine q_iload_n hM dX7_tell_16 (lv_at hl 1 rfl) ?_
  refine q_iload_n hM dX7_tell_17 (lv_at hl 2 rfl) ?_
  refine w_iast hM hW lb_19 (by omega) (i_in (by omega) (by omega)) dX7_tell_18 (fun g457 H locs hW e1 e2 => ?_)
  have f458 : fld g457 18 3 = .int z454 := (e2.1 18 3 (by unfold Only; omega)).trans f456
  refine q_aload_n hM dX7_tell_19 (lv_at hl 0 rfl) ?_
  refine w_get (v := .ref (ad 20)) hM hW FG_X7_15 lb_18 (rf_18_1 hW.2.1) dX7_tell_20 ?_
  refine q_iload_n hM dX7_tell_23 (lv_at hl 1 rfl) ?_
  refine q_iload_n hM dX7_tell_24 (lv_at hl 3 rfl) ?_
  refine w_iast hM hW lb_20 (by omega) (i_in (by omega) (by omega)) dX7_tell_25 (fun g459 H locs hW e1 e2 => ?_)
  have f460 : fld g459 18 3 = .int z454 := (e2.1 18 3 (by unfold Only; omega)).trans f458
  refine q_iconst (v := (0 : Int32)) hM dX7_tell_26 (by decide) ?_
  refine q_istore (lv9 := [(4, .int (0 : Int32)), (0, .ref (ad 18)), (1, .int p), (2, .int gr), (3, .int ag)]) hM dX7_tell_27 hl (by decide) rfl (fun ls hl => ?_)
  have L29 : ∀ (fu29 : Nat) (i : Int32) (g9 : Nat → va_E) (H : Heap) (locs : List Loc) (ls : Array Slot), (12 - i.toInt).toNat < fu29 → (0 ≤ i.toInt) → (i.toInt ≤ 12) → lv_has ls 5 [(0, .ref (ad 18)), (1, .int p), (2, .int gr), (3, .int ag), (4, .int i)] → WS ad cA (fun i k => (i = 18 ∧ (k = 3)) ∨ i = 19 ∨ i = 20 ∨ (22 ≤ i ∧ i < 30)) g0 K g9 H locs → XX K 0 0 H locs 29 ls [] := by
    intro fu29
    induction fu29 with
    | zero => intro i g9 H locs ls h0; omega
    | succ fu29 ih29 =>
      intro i g9 H locs ls hm29 i29_0 i29_1 hl hW
      refine q_iload hM dX7_tell_29 (lv_at hl 4 rfl) ?_
      refine q_bipush (v := (12 : Int32)) hM dX7_tell_31 (by decide) ?_
      refine q_icmp_ge (tgt := 52) hM dX7_tell_33 (by decide) (rfl : i.toInt = i.toInt) (kc_12 : (12 : Int32).toInt = 12) (fun h33 => ?_) (fun h33 => ?_)
      · exact hE _ _ _ _ _ hW.1 ⟨rfl, hW.2.1, hW.2.2⟩ dX7_tell_52
      · refine q_aload_n hM dX7_tell_36 (lv_at hl 0 rfl) ?_
        refine w_get (v := .ref (ad 21)) hM hW FG_X7_20 lb_18 (rf_18_2 hW.2.1) dX7_tell_37 ?_
        refine q_iload_n hM dX7_tell_40 (lv_at hl 1 rfl) ?_
        refine w_aald hM hW lb_21 (Or.inl rfl) (i_in (by omega) (by omega)) (aq (aq_21 hW.2.1) (by omega) (by omega)) dX7_tell_41 ?_
        refine q_iload hM dX7_tell_42 (lv_at hl 4 rfl) ?_
        refine q_iconst (v := (0 : Int32)) hM dX7_tell_44 (by decide) ?_
        refine w_iast hM hW (lr_22 (by omega)) (by omega) (i_in (by omega) (by omega)) dX7_tell_45 (fun g461 H locs hW e1 e2 => ?_)
        refine q_iinc (lv9 := fun z462 => [(4, .int z462), (0, .ref (ad 18)), (1, .int p), (2, .int gr), (3, .int ag)]) hM dX7_tell_46 hl (kq := 4) rfl (by decide) (fun _ => rfl) (fun z462 ls hz462 hl => ?_)
        have tz462 := i_addT hz462 (rfl : i.toInt = i.toInt) (kc_1 : (Int32.ofInt 1).toInt = 1) (by omega) (by omega)
        refine q_goto (tgt := 29) hM dX7_tell_49 (by decide) ?_
        exact ih29 z462 _ _ _ _ (by omega) (by omega) (by omega) (lv_sub hl [1, 2, 3, 4, 0] rfl) hW
  have := kc_0
  exact L29 _ (0 : Int32) _ _ _ _ (Nat.lt_succ_self _) (by omega) (by omega) (lv_sub hl [1, 2, 3, 4, 0] rfl) hW

theorem dX11_pupil_0 : decode cX11_pupil 0 = .ok (.iload_n 1, 1) := by decide +kernel
theorem dX11_pupil_1 : decode cX11_pupil 1 = .ok (.iconst 0, 1) := by decide +kernel
theorem dX11_pupil_2 : decode cX11_pupil 2 = .ok (.bipush 7, 2) := by decide +kernel
theorem dX11_pupil_4 : decode cX11_pupil 4 = .ok (.invokestatic 112, 3) := by decide +kernel
theorem dX11_pupil_7 : decode cX11_pupil 7 = .ok (.ifCond .eq 23, 3) := by decide +kernel
theorem dX11_pupil_10 : decode cX11_pupil 10 = .ok (.iload_n 2, 1) := by decide +kernel
theorem dX11_pupil_11 : decode cX11_pupil 11 = .ok (.iconst 1, 1) := by decide +kernel
theorem dX11_pupil_12 : decode cX11_pupil 12 = .ok (.bipush 9, 2) := by decide +kernel
theorem dX11_pupil_14 : decode cX11_pupil 14 = .ok (.invokestatic 112, 3) := by decide +kernel
theorem dX11_pupil_17 : decode cX11_pupil 17 = .ok (.ifCond .eq 13, 3) := by decide +kernel
theorem dX11_pupil_20 : decode cX11_pupil 20 = .ok (.iload_n 3, 1) := by decide +kernel
theorem dX11_pupil_21 : decode cX11_pupil 21 = .ok (.iconst 0, 1) := by decide +kernel
theorem dX11_pupil_22 : decode cX11_pupil 22 = .ok (.bipush 99, 2) := by decide +kernel
theorem dX11_pupil_24 : decode cX11_pupil 24 = .ok (.invokestatic 112, 3) := by decide +kernel
theorem dX11_pupil_27 : decode cX11_pupil 27 = .ok (.ifCond .ne 5, 3) := by decide +kernel
theorem dX11_pupil_30 : decode cX11_pupil 30 = .ok (.iconst 0, 1) := by decide +kernel
theorem dX11_pupil_31 : decode cX11_pupil 31 = .ok (.ireturn, 1) := by decide +kernel
theorem dX11_pupil_32 : decode cX11_pupil 32 = .ok (.aload_n 0, 1) := by decide +kernel
theorem dX11_pupil_33 : decode cX11_pupil 33 = .ok (.getfield 26, 3) := by decide +kernel
theorem dX11_pupil_36 : decode cX11_pupil 36 = .ok (.iload_n 1, 1) := by decide +kernel
theorem dX11_pupil_37 : decode cX11_pupil 37 = .ok (.iload_n 2, 1) := by decide +kernel
theorem dX11_pupil_38 : decode cX11_pupil 38 = .ok (.iload_n 3, 1) := by decide +kernel
theorem dX11_pupil_39 : decode cX11_pupil 39 = .ok (.invokevirtual 131, 3) := by decide +kernel
theorem dX11_pupil_42 : decode cX11_pupil 42 = .ok (.iconst 1, 1) := by decide +kernel
theorem dX11_pupil_43 : decode cX11_pupil 43 = .ok (.ireturn, 1) := by decide +kernel
theorem myX7_tell : MI yX7_tell cX7_tell 5 none 3 := ⟨kAW (v_1_11 (List.mem_of_getElem? (i := 2) rfl)) rfl, kAW (v_0_0 (List.mem_of_getElem? (i := 4) rfl)) rfl, kAW (v_1_11 (List.mem_of_getElem? (i := 0) rfl)) rfl, kAW (v_1_11 (List.mem_of_getElem? (i := 1) rfl)) rfl, by decide, by decide, by decide +kernel⟩
set_option maxRecDepth 100000 in
set_option maxHeartbeats 4000000 in
theorem p_X11_pupil (l : Launch) (D : va_G) (cA : Nat → ClassId) (ad : Nat → Nat) (g0 : Nat → va_E) (a b c : Int32) (hSh : Shp ad cA g0) (hF : ∀ j, j < NN → g0 j = gF ad cA j) : CT l NN ad cA D yX11_pupil cX11_pupil 4 (some FieldType.boolean) (1, 24) [.ref (ad 0), .int a, .int b, .int c] g0 (fun v g' => ∃ r : Int32, v = some (.int r) ∧ Shp ad cA g' ∧ FR (fun i _ => i < 129) g0 g' ∧ ((r.toInt = 1 ∧ 0 ≤ a.toInt ∧ a.toInt ≤ 7 ∧ 1 ≤ b.toInt ∧ b.toInt ≤ 9 ∧ 0 ≤ c.toInt ∧ c.toInt ≤ 99) ∨ (r.toInt = 0 ∧ ¬ (0 ≤ a.toInt ∧ a.toInt ≤ 7 ∧ 1 ≤ b.toInt ∧ b.toInt ≤ 9 ∧ 0 ≤ c.toInt ∧ c.toInt ≤ 99)))) := by
  refine q_enterZ (by decide) (Nat.le_of_ble_eq_true rfl) (fun K H locs ls _ _ hM hW0 hR hC hE hl => ?_)
  have hl : lv_has ls 4 [(0, .ref (ad 0)), (1, .int a), (2, .int b), (3, .int c)] := hl
  have hW : WS ad cA (fun i k => (i = 18 ∧ (k = 3)) ∨ i = 19 ∨ i = 20 ∨ (22 ≤ i ∧ i < 30)) g0 K g0 H locs := ⟨hW0, hSh, FR.rf⟩
  have := kc_0
  have := kc_7
  have := kc_1
  have := kc_9
  have := kc_99
  have f463 : fld g0 18 3 = .int (0 : Int32) := (zf hF (by decide) rfl : fld g0 18 3 = .int (0 : Int32))
  refine q_iload_n hM dX11_pupil_0 (lv_at hl 1 rfl) ?_
  refine q_iconst (v := (0 : Int32)) hM dX11_pupil_1 (by decide) ?_
  refine q_bipush (v := (7 : Int32)) hM dX11_pupil_2 (by decide) ?_
  refine q_callS (As := [.int a, .int (0 : Int32), .int (7 : Int32)]) (rest := []) hM hW.1 hR hC myX11_within (kAW (v_1_10 (List.mem_of_getElem? (i := 1) rfl)) rfl) (c_X11_within _ _ cA ad g0 a (0 : Int32) (7 : Int32) hW.2.1) ⟨by decide, by decide⟩ rfl rfl hl.1 (Nat.le_of_ble_eq_true rfl) dX11_pupil_4 (fun v g465 H locs hp hW1 => ?_)
  obtain ⟨r464, rfl, hr464, rfl⟩ := hp
  have hW : WS ad cA (fun i k => (i = 18 ∧ (k = 3)) ∨ i = 19 ∨ i = 20 ∨ (22 ≤ i ∧ i < 30)) g0 K g0 H locs := ⟨hW1, hW.2.1, hW.2.2⟩
  refine q_if_eq (tgt := 30) hM dX11_pupil_7 (by decide) (rfl : r464.toInt = r464.toInt) (fun h7 => ?_) (fun h7 => ?_)
  · refine q_iconst (v := (0 : Int32)) hM dX11_pupil_30 (by decide) ?_
    exact hE _ _ _ _ _ _ hW.1 nz_0 ⟨_, rfl, hW.2.1, FR.wk hW.2.2 (fun i k h => by omega), (by have := kc_0; omega)⟩ dX11_pupil_31
  · refine q_iload_n hM dX11_pupil_10 (lv_at hl 2 rfl) ?_
    refine q_iconst (v := (1 : Int32)) hM dX11_pupil_11 (by decide) ?_
    refine q_bipush (v := (9 : Int32)) hM dX11_pupil_12 (by decide) ?_
    refine q_callS (As := [.int b, .int (1 : Int32), .int (9 : Int32)]) (rest := []) hM hW.1 hR hC myX11_within (kAW (v_1_10 (List.mem_of_getElem? (i := 1) rfl)) rfl) (c_X11_within _ _ cA ad g0 b (1 : Int32) (9 : Int32) hW.2.1) ⟨by decide, by decide⟩ rfl rfl hl.1 (Nat.le_of_ble_eq_true rfl) dX11_pupil_14 (fun v g467 H locs hp hW1 => ?_)
    obtain ⟨r466, rfl, hr466, rfl⟩ := hp
    have hW : WS ad cA (fun i k => (i = 18 ∧ (k = 3)) ∨ i = 19 ∨ i = 20 ∨ (22 ≤ i ∧ i < 30)) g0 K g0 H locs := ⟨hW1, hW.2.1, hW.2.2⟩
    refine q_if_eq (tgt := 30) hM dX11_pupil_17 (by decide) (rfl : r466.toInt = r466.toInt) (fun h17 => ?_) (fun h17 => ?_)
    · refine q_iconst (v := (0 : Int32)) hM dX11_pupil_30 (by decide) ?_
      exact hE _ _ _ _ _ _ hW.1 nz_0 ⟨_, rfl, hW.2.1, FR.wk hW.2.2 (fun i k h => by omega), (by have := kc_0; omega)⟩ dX11_pupil_31
    · refine q_iload_n hM dX11_pupil_20 (lv_at hl 3 rfl) ?_
      refine q_iconst (v := (0 : Int32)) hM dX11_pupil_21 (by decide) ?_
      refine q_bipush (v := (99 : Int32)) hM dX11_pupil_22 (by decide) ?_
      refine q_callS (As := [.int c, .int (0 : Int32), .int (99 : Int32)]) (rest := []) hM hW.1 hR hC myX11_within (kAW (v_1_10 (List.mem_of_getElem? (i := 1) rfl)) rfl) (c_X11_within _ _ cA ad g0 c (0 : Int32) (99 : Int32) hW.2.1) ⟨by decide, by decide⟩ rfl rfl hl.1 (Nat.le_of_ble_eq_true rfl) dX11_pupil_24 (fun v g469 H locs hp hW1 => ?_)
      obtain ⟨r468, rfl, hr468, rfl⟩ := hp
      have hW : WS ad cA (fun i k => (i = 18 ∧ (k = 3)) ∨ i = 19 ∨ i = 20 ∨ (22 ≤ i ∧ i < 30)) g0 K g0 H locs := ⟨hW1, hW.2.1, hW.2.2⟩
      refine q_if_ne (tgt := 32) hM dX11_pupil_27 (by decide) (rfl : r468.toInt = r468.toInt) (fun h27 => ?_) (fun h27 => ?_)
      · refine q_aload_n hM dX11_pupil_32 (lv_at hl 0 rfl) ?_
        refine w_get (v := .ref (ad 18)) hM hW FG_X11_26 lb_0 (rf_0_10 hW.2.1) dX11_pupil_33 ?_
        refine q_iload_n hM dX11_pupil_36 (lv_at hl 1 rfl) ?_
        refine q_iload_n hM dX11_pupil_37 (lv_at hl 2 rfl) ?_
        refine q_iload_n hM dX11_pupil_38 (lv_at hl 3 rfl) ?_
        refine q_callV (As := [.int a, .int b, .int c]) (rest := []) hM hW.1 hR hC myX7_tell (kAW (v_1_10 (List.mem_of_getElem? (i := 15) rfl)) rfl) (rfl : vwCl[7]? = some (RX7, TX7, 8)) rfl lb_18.1 (shO hW.2.1 lb_18) (c_X7_tell _ _ cA ad g0 a b c hW.2.1 (by omega) (by omega)) ⟨by decide, by decide⟩ rfl rfl hl.1 (Nat.le_of_ble_eq_true rfl) dX11_pupil_39 (fun v g470 H locs hp hW1 => ?_)
        obtain ⟨rfl, hs1, hf1⟩ := hp
        have hW : WS ad cA (fun i k => (i = 18 ∧ (k = 3)) ∨ i = 19 ∨ i = 20 ∨ (22 ≤ i ∧ i < 30)) g0 K g470 H locs := ⟨hW1, hs1, hW.2.2.tr hf1 (fun i k h => by omega)⟩
        refine q_iconst (v := (1 : Int32)) hM dX11_pupil_42 (by decide) ?_
        exact hE _ _ _ _ _ _ hW.1 nz_1 ⟨_, rfl, hW.2.1, FR.wk hW.2.2 (fun i k h => by omega), (by have := kc_1; omega)⟩ dX11_pupil_43
      · refine q_iconst (v := (0 : Int32)) hM dX11_pupil_30 (by decide) ?_
        exact hE _ _ _ _ _ _ hW.1 nz_0 ⟨_, rfl, hW.2.1, FR.wk hW.2.2 (fun i k h => by omega), (by have := kc_0; omega)⟩ dX11_pupil_31
