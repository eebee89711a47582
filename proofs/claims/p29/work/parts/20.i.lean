theorem dX4_sign_0 : decode cX4_sign 0 = .ok (.aload_n 0, 1) := by decide +kernel
theorem dX4_sign_1 : decode cX4_sign 1 = .ok (.getfield 23, 3) := by decide +kernel
theorem dX4_sign_4 : decode cX4_sign 4 = .ok (.aload_n 0, 1) := by decide +kernel
theorem dX4_sign_5 : decode cX4_sign 5 = .ok (.getfield 19, 3) := by decide +kernel
theorem dX4_sign_8 : decode cX4_sign 8 = .ok (.if_icmp .ge 15, 3) := by decide +kernel
theorem dX4_sign_11 : decode cX4_sign 11 = .ok (.aload_n 0, 1) := by decide +kernel
theorem dX4_sign_12 : decode cX4_sign 12 = .ok (.getfield 9, 3) := by decide +kernel
theorem dX4_sign_15 : decode cX4_sign 15 = .ok (.aload_n 0, 1) := by decide +kernel
theorem dX4_sign_16 : decode cX4_sign 16 = .ok (.getfield 23, 3) := by decide +kernel
theorem dX4_sign_19 : decode cX4_sign 19 = .ok (.iaload, 1) := by decide +kernel
theorem dX4_sign_20 : decode cX4_sign 20 = .ok (.goto 4, 3) := by decide +kernel
theorem dX4_sign_23 : decode cX4_sign 23 = .ok (.iconst (-1), 1) := by decide +kernel
theorem dX4_sign_24 : decode cX4_sign 24 = .ok (.ireturn, 1) := by decide +kernel
theorem FG_X4_23 : FG RX4 23 4 5 2 := ⟨RX4, TX4, rfl, wX4, by decide, kAW (v_0_12 (List.mem_of_getElem? (i := 12) rfl)) rfl, rfl⟩
theorem FG_X4_19 : FG RX4 19 4 5 1 := ⟨RX4, TX4, rfl, wX4, by decide, kAW (v_0_12 (List.mem_of_getElem? (i := 11) rfl)) rfl, rfl⟩
theorem FG_X4_9 : FG RX4 9 4 5 0 := ⟨RX4, TX4, rfl, wX4, by decide, kAW (v_0_12 (List.mem_of_getElem? (i := 10) rfl)) rfl, rfl⟩
set_option maxRecDepth 100000 in
set_option maxHeartbeats 4000000 in
theorem a_X4_sign (l : Launch) (D : va_G) (cA : Nat → ClassId) (ad : Nat → Nat) (g0 : Nat → va_E)  (en : Int32) (a0 : Int32) (hSh : Shp ad cA g0) (hG : Rng g0) (h_en : fld g0 79 1 = .int en) (h_a0 : fld g0 79 2 = .int a0) (ah0 : 0 ≤ a0.toInt) (ah1 : a0.toInt ≤ en.toInt) (ah2 : en.toInt ≤ 240) : CT l NN ad cA D yX4_sign cX4_sign 1 (some FieldType.int) (0, 0) [.ref (ad 79)] g0 (PU g0 (fun r => (r.toInt = -1 ∧ en.toInt ≤ a0.toInt) ∨ (a0.toInt < en.toInt ∧ 0 ≤ r.toInt ∧ r.toInt ≤ 255))) := by
  refine q_enterI (by decide) (Nat.le_of_ble_eq_true rfl) rfl (fun K H locs ls _ _ hM hW0 hR hC hE hl => ?_)
  have hl : lv_has ls 1 [(0, .ref (ad 79))] := hl
  have hW : WS ad cA (fun i k => False) g0 K g0 H locs := ⟨hW0, hSh, FR.rf⟩
  refine q_aload_n hM dX4_sign_0 (lv_at hl 0 rfl) ?_
  refine w_get (v := .int a0) hM hW FG_X4_23 lb_79 ((hW.2.2.1 79 2 (fun h => h)).trans h_a0) dX4_sign_1 ?_
  refine q_aload_n hM dX4_sign_4 (lv_at hl 0 rfl) ?_
  refine w_get (v := .int en) hM hW FG_X4_19 lb_79 ((hW.2.2.1 79 1 (fun h => h)).trans h_en) dX4_sign_5 ?_
  refine q_icmp_ge (tgt := 23) hM dX4_sign_8 (by decide) (rfl : a0.toInt = a0.toInt) (rfl : en.toInt = en.toInt) (fun h8 => ?_) (fun h8 => ?_)
  · refine q_iconst (v := ((-1) : Int32)) hM dX4_sign_23 (by decide) ?_
    exact hE _ _ _ _ _ _ hW.1 ⟨_, rfl, (by have := kc_m1; omega), rfl⟩ dX4_sign_24
  · refine q_aload_n hM dX4_sign_11 (lv_at hl 0 rfl) ?_
    refine w_get (v := .ref (ad 2)) hM hW FG_X4_9 lb_79 (rf_79_0 hW.2.1) dX4_sign_12 ?_
    refine q_aload_n hM dX4_sign_15 (lv_at hl 0 rfl) ?_
    refine w_get (v := .int a0) hM hW FG_X4_23 lb_79 ((hW.2.2.1 79 2 (fun h => h)).trans h_a0) dX4_sign_16 ?_
    refine w_iald hM hW lb_2 (i_in (by omega) (by omega)) dX4_sign_19 ?_
    refine q_top (fun y2790 hy2790 => ?_)
    have by2790 := hG.a hy2790 rA_2
    have cy2790 := congrArg Int32.toInt hy2790
    refine q_goto (tgt := 24) hM dX4_sign_20 (by decide) ?_
    exact hE _ _ _ _ _ _ hW.1 ⟨_, rfl, (by omega), rfl⟩ dX4_sign_24

theorem dX4_wrong_0 : decode cX4_wrong 0 = .ok (.aload_n 0, 1) := by decide +kernel
theorem dX4_wrong_1 : decode cX4_wrong 1 = .ok (.sipush (-1000), 3) := by decide +kernel
theorem dX4_wrong_4 : decode cX4_wrong 4 = .ok (.iload_n 1, 1) := by decide +kernel
theorem dX4_wrong_5 : decode cX4_wrong 5 = .ok (.imul, 1) := by decide +kernel
theorem dX4_wrong_6 : decode cX4_wrong 6 = .ok (.aload_n 0, 1) := by decide +kernel
theorem dX4_wrong_7 : decode cX4_wrong 7 = .ok (.getfield 23, 3) := by decide +kernel
theorem dX4_wrong_10 : decode cX4_wrong 10 = .ok (.isub, 1) := by decide +kernel
theorem dX4_wrong_11 : decode cX4_wrong 11 = .ok (.putfield 26, 3) := by decide +kernel
theorem dX4_wrong_14 : decode cX4_wrong 14 = .ok (.iconst 0, 1) := by decide +kernel
theorem dX4_wrong_15 : decode cX4_wrong 15 = .ok (.ireturn, 1) := by decide +kernel
theorem FP_X4_26 : FPX RX4 26 4 5 3 .int := ⟨⟨RX4, TX4, tyX4, rfl, wX4, by decide, kAW (v_0_12 (List.mem_of_getElem? (i := 13) rfl)) rfl, rfl, tyX4_ok, nmX4, by decide +kernel, rfl⟩, by decide +kernel⟩
set_option maxRecDepth 100000 in
set_option maxHeartbeats 4000000 in
theorem a_X4_wrong (l : Launch) (D : va_G) (cA : Nat → ClassId) (ad : Nat → Nat) (g0 : Nat → va_E) (nu : Int32)   (hSh : Shp ad cA g0) (hG : Rng g0) : CT l NN ad cA D yX4_wrong cX4_wrong 2 (some FieldType.boolean) (0, 0) [.ref (ad 79), .int nu] g0 (fun v g' => ∃ (r : Int32), v = some (.int r) ∧ Shp ad cA g' ∧ Rng g' ∧ FR (fun i k => (i = 79 ∧ (k = 3))) g0 g' ∧ (r.toInt = 0)) := by
  refine q_enterZ (by decide) (Nat.le_of_ble_eq_true rfl) (fun K H locs ls _ _ hM hW0 hR hC hE hl => ?_)
  have hl : lv_has ls 2 [(0, .ref (ad 79)), (1, .int nu)] := hl
  have hW : WS ad cA (fun i k => (i = 79 ∧ (k = 3))) g0 K g0 H locs := ⟨hW0, hSh, FR.rf⟩
  refine q_aload_n hM dX4_wrong_0 (lv_at hl 0 rfl) ?_
  refine q_sipush (v := ((-1000) : Int32)) hM dX4_wrong_1 (by decide) ?_
  refine q_iload_n hM dX4_wrong_4 (lv_at hl 1 rfl) ?_
  refine q_imul hM dX4_wrong_5 (fun z2791 hz2791 => ?_)
  first | have tz2791 := i_mulT hz2791 (kc_m1000 : ((-1000) : Int32).toInt = (-1000)) (rfl : nu.toInt = nu.toInt) (by omega) (by omega) | skip
  refine q_aload_n hM dX4_wrong_6 (lv_at hl 0 rfl) ?_
  refine w_getI hM hW FG_X4_23 lb_79 (by decide) (by decide) dX4_wrong_7 (fun x2792 fx2792 => ?_)
  have bx2792 := hG.f fx2792 rF_79_2 (by decide)
  refine q_isub hM dX4_wrong_10 (fun z2793 hz2793 => ?_)
  first | have tz2793 := i_subT hz2793 (rfl : z2791.toInt = z2791.toInt) (rfl : x2792.toInt = x2792.toInt) (by omega) (by omega) | skip
  refine w_put hM hW FP_X4_26 lb_79 (by omega) (Or.inl ⟨_, rfl⟩) rfl rfl dX4_wrong_11 (fun g2794 H locs hW e1 e2 => ?_)
  have f2795 : fld g2794 79 2 = .int x2792 := (e2.1 79 2 (by unfold Only; omega)).trans fx2792
  have f2796 : fld g2794 79 3 = .int z2793 := e1
  have hG := hG.put e1 e2 (rfl : rF 79 3 = (-2147483648, 2147483647)) (by decide) (by have := i_rng z2793; omega) (by have := i_rng z2793; omega)
  refine q_iconst (v := (0 : Int32)) hM dX4_wrong_14 (by decide) ?_
  exact hE _ _ _ _ _ _ hW.1 nz_0 ⟨_, rfl, hW.2.1, hG, hW.2.2, (by have := kc_0; omega)⟩ dX4_wrong_15

theorem dX4_passes_0 : decode cX4_passes 0 = .ok (.aload_n 0, 1) := by decide +kernel
theorem dX4_passes_1 : decode cX4_passes 1 = .ok (.getfield 23, 3) := by decide +kernel
theorem dX4_passes_4 : decode cX4_passes 4 = .ok (.aload_n 0, 1) := by decide +kernel
theorem dX4_passes_5 : decode cX4_passes 5 = .ok (.getfield 19, 3) := by decide +kernel
theorem dX4_passes_8 : decode cX4_passes 8 = .ok (.if_icmp .ge 28, 3) := by decide +kernel
theorem dX4_passes_11 : decode cX4_passes 11 = .ok (.aload_n 0, 1) := by decide +kernel
theorem dX4_passes_12 : decode cX4_passes 12 = .ok (.getfield 9, 3) := by decide +kernel
theorem dX4_passes_15 : decode cX4_passes 15 = .ok (.aload_n 0, 1) := by decide +kernel
theorem dX4_passes_16 : decode cX4_passes 16 = .ok (.getfield 23, 3) := by decide +kernel
theorem dX4_passes_19 : decode cX4_passes 19 = .ok (.iaload, 1) := by decide +kernel
theorem dX4_passes_20 : decode cX4_passes 20 = .ok (.iload_n 1, 1) := by decide +kernel
theorem dX4_passes_21 : decode cX4_passes 21 = .ok (.if_icmp .ne 15, 3) := by decide +kernel
theorem dX4_passes_24 : decode cX4_passes 24 = .ok (.aload_n 0, 1) := by decide +kernel
theorem dX4_passes_25 : decode cX4_passes 25 = .ok (.dup, 1) := by decide +kernel
theorem dX4_passes_26 : decode cX4_passes 26 = .ok (.getfield 23, 3) := by decide +kernel
theorem dX4_passes_29 : decode cX4_passes 29 = .ok (.iconst 1, 1) := by decide +kernel
theorem dX4_passes_30 : decode cX4_passes 30 = .ok (.iadd, 1) := by decide +kernel
theorem dX4_passes_31 : decode cX4_passes 31 = .ok (.putfield 23, 3) := by decide +kernel
theorem dX4_passes_34 : decode cX4_passes 34 = .ok (.iconst 1, 1) := by decide +kernel
theorem dX4_passes_35 : decode cX4_passes 35 = .ok (.ireturn, 1) := by decide +kernel
theorem dX4_passes_36 : decode cX4_passes 36 = .ok (.aload_n 0, 1) := by decide +kernel
theorem dX4_passes_37 : decode cX4_passes 37 = .ok (.sipush (-1000), 3) := by decide +kernel
theorem dX4_passes_40 : decode cX4_passes 40 = .ok (.aload_n 0, 1) := by decide +kernel
theorem dX4_passes_41 : decode cX4_passes 41 = .ok (.getfield 23, 3) := by decide +kernel
theorem dX4_passes_44 : decode cX4_passes 44 = .ok (.isub, 1) := by decide +kernel
theorem dX4_passes_45 : decode cX4_passes 45 = .ok (.putfield 26, 3) := by decide +kernel
theorem dX4_passes_48 : decode cX4_passes 48 = .ok (.iconst 0, 1) := by decide +kernel
theorem dX4_passes_49 : decode cX4_passes 49 = .ok (.ireturn, 1) := by decide +kernel
theorem FP_X4_23 : FPX RX4 23 4 5 2 .int := ⟨⟨RX4, TX4, tyX4, rfl, wX4, by decide, kAW (v_0_12 (List.mem_of_getElem? (i := 12) rfl)) rfl, rfl, tyX4_ok, nmX4, by decide +kernel, rfl⟩, by decide +kernel⟩
set_option maxRecDepth 100000 in
set_option maxHeartbeats 4000000 in
theorem a_X4_passes (l : Launch) (D : va_G) (cA : Nat → ClassId) (ad : Nat → Nat) (g0 : Nat → va_E) (si : Int32) (en : Int32) (a0 : Int32)  (hSh : Shp ad cA g0) (hG : Rng g0) (h_en : fld g0 79 1 = .int en) (h_a0 : fld g0 79 2 = .int a0) (ah0 : 0 ≤ a0.toInt) (ah1 : a0.toInt ≤ en.toInt) (ah2 : en.toInt ≤ 240) : CT l NN ad cA D yX4_passes cX4_passes 2 (some FieldType.boolean) (0, 0) [.ref (ad 79), .int si] g0 (fun v g' => ∃ (a9 : Int32) (r : Int32), v = some (.int r) ∧ Shp ad cA g' ∧ Rng g' ∧ FR (fun i k => (i = 79 ∧ (k = 2 ∨ k = 3))) g0 g' ∧ fld g' 79 2 = .int a9 ∧ (a0.toInt ≤ a9.toInt) ∧ (a9.toInt ≤ en.toInt) ∧ (r.toInt = 0 ∨ r.toInt = 1)) := by
  refine q_enterZ (by decide) (Nat.le_of_ble_eq_true rfl) (fun K H locs ls _ _ hM hW0 hR hC hE hl => ?_)
  have hl : lv_has ls 2 [(0, .ref (ad 79)), (1, .int si)] := hl
  have hW : WS ad cA (fun i k => (i = 79 ∧ (k = 2 ∨ k = 3))) g0 K g0 H locs := ⟨hW0, hSh, FR.rf⟩
  have b_en := hG.f h_en rF_79_1 (by decide)
  have b_a0 := hG.f h_a0 rF_79_2 (by decide)
  have f2797 : fld g0 79 2 = .int a0 := h_a0
  refine q_aload_n hM dX4_passes_0 (lv_at hl 0 rfl) ?_
  refine w_get (v := .int a0) hM hW FG_X4_23 lb_79 f2797 dX4_passes_1 ?_
  have ba0 := hG.f f2797 rF_79_2 (by decide)
  refine q_aload_n hM dX4_passes_4 (lv_at hl 0 rfl) ?_
  refine w_get (v := .int en) hM hW FG_X4_19 lb_79 ((hW.2.2.1 79 1 (by omega)).trans h_en) dX4_passes_5 ?_
  refine q_icmp_ge (tgt := 36) hM dX4_passes_8 (by decide) (rfl : a0.toInt = a0.toInt) (rfl : en.toInt = en.toInt) (fun h8 => ?_) (fun h8 => ?_)
  · refine q_aload_n hM dX4_passes_36 (lv_at hl 0 rfl) ?_
    refine q_sipush (v := ((-1000) : Int32)) hM dX4_passes_37 (by decide) ?_
    refine q_aload_n hM dX4_passes_40 (lv_at hl 0 rfl) ?_
    refine w_get (v := .int a0) hM hW FG_X4_23 lb_79 f2797 dX4_passes_41 ?_
    have ba0 := hG.f f2797 rF_79_2 (by decide)
    refine q_isub hM dX4_passes_44 (fun z2799 hz2799 => ?_)
    first | have tz2799 := i_subT hz2799 (kc_m1000 : ((-1000) : Int32).toInt = (-1000)) (rfl : a0.toInt = a0.toInt) (by omega) (by omega) | skip
    refine w_put hM hW FP_X4_26 lb_79 (by omega) (Or.inl ⟨_, rfl⟩) rfl rfl dX4_passes_45 (fun g2800 H locs hW e1 e2 => ?_)
    have f2801 : fld g2800 79 2 = .int a0 := (e2.1 79 2 (by unfold Only; omega)).trans f2797
    have f2802 : fld g2800 79 3 = .int z2799 := e1
    have hG := hG.put e1 e2 (rfl : rF 79 3 = (-2147483648, 2147483647)) (by decide) (by have := i_rng z2799; omega) (by have := i_rng z2799; omega)
    refine q_iconst (v := (0 : Int32)) hM dX4_passes_48 (by decide) ?_
    exact hE _ _ _ _ _ _ hW.1 nz_0 ⟨a0, _, rfl, hW.2.1, hG, hW.2.2, f2801, (by have := kc_0; omega), (by have := kc_0; omega), (by have := kc_0; omega)⟩ dX4_passes_49
  · refine q_aload_n hM dX4_passes_11 (lv_at hl 0 rfl) ?_
    refine w_get (v := .ref (ad 2)) hM hW FG_X4_9 lb_79 (rf_79_0 hW.2.1) dX4_passes_12 ?_
    refine q_aload_n hM dX4_passes_15 (lv_at hl 0 rfl) ?_
    refine w_get (v := .int a0) hM hW FG_X4_23 lb_79 f2797 dX4_passes_16 ?_
    have ba0 := hG.f f2797 rF_79_2 (by decide)
    refine w_iald hM hW lb_2 (i_in (by omega) (by omega)) dX4_passes_19 ?_
    refine q_top (fun y2804 hy2804 => ?_)
    have by2804 := hG.a hy2804 rA_2
    have cy2804 := congrArg Int32.toInt hy2804
    refine q_iload_n hM dX4_passes_20 (lv_at hl 1 rfl) ?_
    refine q_icmp_ne (tgt := 36) hM dX4_passes_21 (by decide) (rfl : y2804.toInt = y2804.toInt) (rfl : si.toInt = si.toInt) (fun h21 => ?_) (fun h21 => ?_)
    · refine q_aload_n hM dX4_passes_36 (lv_at hl 0 rfl) ?_
      refine q_sipush (v := ((-1000) : Int32)) hM dX4_passes_37 (by decide) ?_
      refine q_aload_n hM dX4_passes_40 (lv_at hl 0 rfl) ?_
      refine w_get (v := .int a0) hM hW FG_X4_23 lb_79 f2797 dX4_passes_41 ?_
      have ba0 := hG.f f2797 rF_79_2 (by decide)
      refine q_isub hM dX4_passes_44 (fun z2806 hz2806 => ?_)
      first | have tz2806 := i_subT hz2806 (kc_m1000 : ((-1000) : Int32).toInt = (-1000)) (rfl : a0.toInt = a0.toInt) (by omega) (by omega) | skip
      refine w_put hM hW FP_X4_26 lb_79 (by omega) (Or.inl ⟨_, rfl⟩) rfl rfl dX4_passes_45 (fun g2807 H locs hW e1 e2 => ?_)
      have f2808 : fld g2807 79 2 = .int a0 := (e2.1 79 2 (by unfold Only; omega)).trans f2797
      have f2809 : fld g2807 79 3 = .int z2806 := e1
      have hG := hG.put e1 e2 (rfl : rF 79 3 = (-2147483648, 2147483647)) (by decide) (by have := i_rng z2806; omega) (by have := i_rng z2806; omega)
      refine q_iconst (v := (0 : Int32)) hM dX4_passes_48 (by decide) ?_
      exact hE _ _ _ _ _ _ hW.1 nz_0 ⟨a0, _, rfl, hW.2.1, hG, hW.2.2, f2808, (by have := kc_0; omega), (by have := kc_0; omega), (by have := kc_0; omega)⟩ dX4_passes_49
    · refine q_aload_n hM dX4_passes_24 (lv_at hl 0 rfl) ?_
      refine q_dup hM dX4_passes_25 rfl ?_
      refine w_get (v := .int a0) hM hW FG_X4_23 lb_79 f2797 dX4_passes_26 ?_
      have ba0 := hG.f f2797 rF_79_2 (by decide)
      refine q_iconst (v := (1 : Int32)) hM dX4_passes_29 (by decide) ?_
      refine q_iadd hM dX4_passes_30 (fun z2811 hz2811 => ?_)
      first | have tz2811 := i_addT hz2811 (rfl : a0.toInt = a0.toInt) (kc_1 : (1 : Int32).toInt = 1) (by omega) (by omega) | skip
      refine w_put hM hW FP_X4_23 lb_79 (by omega) (Or.inl ⟨_, rfl⟩) rfl rfl dX4_passes_31 (fun g2812 H locs hW e1 e2 => ?_)
      have f2813 : fld g2812 79 2 = .int z2811 := e1
      have hG := hG.put e1 e2 rF_79_2 (by decide) (by have := i_rng z2811; omega) (by have := i_rng z2811; omega)
      refine q_iconst (v := (1 : Int32)) hM dX4_passes_34 (by decide) ?_
      exact hE _ _ _ _ _ _ hW.1 nz_1 ⟨z2811, _, rfl, hW.2.1, hG, hW.2.2, f2813, (by have := kc_1; omega), (by have := kc_1; omega), (by have := kc_1; omega)⟩ dX4_passes_35

theorem dX4_number_0 : decode cX4_number 0 = .ok (.iconst 0, 1) := by decide +kernel
theorem dX4_number_1 : decode cX4_number 1 = .ok (.istore_n 1, 1) := by decide +kernel
theorem dX4_number_2 : decode cX4_number 2 = .ok (.aload_n 0, 1) := by decide +kernel
theorem dX4_number_3 : decode cX4_number 3 = .ok (.getfield 23, 3) := by decide +kernel
theorem dX4_number_6 : decode cX4_number 6 = .ok (.istore_n 2, 1) := by decide +kernel
theorem dX4_number_7 : decode cX4_number 7 = .ok (.aload_n 0, 1) := by decide +kernel
theorem dX4_number_8 : decode cX4_number 8 = .ok (.getfield 23, 3) := by decide +kernel
theorem dX4_number_11 : decode cX4_number 11 = .ok (.aload_n 0, 1) := by decide +kernel
theorem dX4_number_12 : decode cX4_number 12 = .ok (.getfield 19, 3) := by decide +kernel
theorem dX4_number_15 : decode cX4_number 15 = .ok (.if_icmp .ge 74, 3) := by decide +kernel
theorem dX4_number_18 : decode cX4_number 18 = .ok (.aload_n 0, 1) := by decide +kernel
theorem dX4_number_19 : decode cX4_number 19 = .ok (.getfield 9, 3) := by decide +kernel
theorem dX4_number_22 : decode cX4_number 22 = .ok (.aload_n 0, 1) := by decide +kernel
theorem dX4_number_23 : decode cX4_number 23 = .ok (.getfield 23, 3) := by decide +kernel
theorem dX4_number_26 : decode cX4_number 26 = .ok (.iaload, 1) := by decide +kernel
theorem dX4_number_27 : decode cX4_number 27 = .ok (.bipush 48, 2) := by decide +kernel
theorem dX4_number_29 : decode cX4_number 29 = .ok (.if_icmp .lt 60, 3) := by decide +kernel
theorem dX4_number_32 : decode cX4_number 32 = .ok (.aload_n 0, 1) := by decide +kernel
theorem dX4_number_33 : decode cX4_number 33 = .ok (.getfield 9, 3) := by decide +kernel
theorem dX4_number_36 : decode cX4_number 36 = .ok (.aload_n 0, 1) := by decide +kernel
theorem dX4_number_37 : decode cX4_number 37 = .ok (.getfield 23, 3) := by decide +kernel
theorem dX4_number_40 : decode cX4_number 40 = .ok (.iaload, 1) := by decide +kernel
theorem dX4_number_41 : decode cX4_number 41 = .ok (.bipush 57, 2) := by decide +kernel
theorem dX4_number_43 : decode cX4_number 43 = .ok (.if_icmp .gt 46, 3) := by decide +kernel
theorem dX4_number_46 : decode cX4_number 46 = .ok (.aload_n 0, 1) := by decide +kernel
theorem dX4_number_47 : decode cX4_number 47 = .ok (.getfield 23, 3) := by decide +kernel
theorem dX4_number_50 : decode cX4_number 50 = .ok (.iload_n 2, 1) := by decide +kernel
theorem dX4_number_51 : decode cX4_number 51 = .ok (.isub, 1) := by decide +kernel
theorem dX4_number_52 : decode cX4_number 52 = .ok (.iconst 5, 1) := by decide +kernel
theorem dX4_number_53 : decode cX4_number 53 = .ok (.if_icmp .lt 5, 3) := by decide +kernel
theorem dX4_number_56 : decode cX4_number 56 = .ok (.iconst (-1), 1) := by decide +kernel
theorem dX4_number_57 : decode cX4_number 57 = .ok (.ireturn, 1) := by decide +kernel
theorem dX4_number_58 : decode cX4_number 58 = .ok (.iload_n 1, 1) := by decide +kernel
theorem dX4_number_59 : decode cX4_number 59 = .ok (.bipush 10, 2) := by decide +kernel
theorem dX4_number_61 : decode cX4_number 61 = .ok (.imul, 1) := by decide +kernel
theorem dX4_number_62 : decode cX4_number 62 = .ok (.aload_n 0, 1) := by decide +kernel
theorem dX4_number_63 : decode cX4_number 63 = .ok (.getfield 9, 3) := by decide +kernel
theorem dX4_number_66 : decode cX4_number 66 = .ok (.aload_n 0, 1) := by decide +kernel
theorem dX4_number_67 : decode cX4_number 67 = .ok (.getfield 23, 3) := by decide +kernel
theorem dX4_number_70 : decode cX4_number 70 = .ok (.iaload, 1) := by decide +kernel
theorem dX4_number_71 : decode cX4_number 71 = .ok (.iadd, 1) := by decide +kernel
theorem dX4_number_72 : decode cX4_number 72 = .ok (.bipush 48, 2) := by decide +kernel
theorem dX4_number_74 : decode cX4_number 74 = .ok (.isub, 1) := by decide +kernel
theorem dX4_number_75 : decode cX4_number 75 = .ok (.istore_n 1, 1) := by decide +kernel
theorem dX4_number_76 : decode cX4_number 76 = .ok (.aload_n 0, 1) := by decide +kernel
theorem dX4_number_77 : decode cX4_number 77 = .ok (.dup, 1) := by decide +kernel
theorem dX4_number_78 : decode cX4_number 78 = .ok (.getfield 23, 3) := by decide +kernel
theorem dX4_number_81 : decode cX4_number 81 = .ok (.iconst 1, 1) := by decide +kernel
theorem dX4_number_82 : decode cX4_number 82 = .ok (.iadd, 1) := by decide +kernel
theorem dX4_number_83 : decode cX4_number 83 = .ok (.putfield 23, 3) := by decide +kernel
theorem dX4_number_86 : decode cX4_number 86 = .ok (.goto (-79), 3) := by decide +kernel
theorem dX4_number_89 : decode cX4_number 89 = .ok (.iload_n 1, 1) := by decide +kernel
theorem dX4_number_90 : decode cX4_number 90 = .ok (.ireturn, 1) := by decide +kernel
set_option maxRecDepth 100000 in
set_option maxHeartbeats 4000000 in
theorem a_X4_number (l : Launch) (D : va_G) (cA : Nat → ClassId) (ad : Nat → Nat) (g0 : Nat → va_E)  (en : Int32) (a0 : Int32)  (hSh : Shp ad cA g0) (hG : Rng g0) (h_en : fld g0 79 1 = .int en) (h_a0 : fld g0 79 2 = .int a0) (ah0 : 0 ≤ a0.toInt) (ah1 : a0.toInt ≤ en.toInt) (ah2 : en.toInt ≤ 240) : CT l NN ad cA D yX4_number cX4_number 3 (some FieldType.int) (0, 0) [.ref (ad 79)] g0 (fun v g' => ∃ (a9 : Int32) (r : Int32), v = some (.int r) ∧ Shp ad cA g' ∧ Rng g' ∧ FR (fun i k => (i = 79 ∧ (k = 2))) g0 g' ∧ fld g' 79 2 = .int a9 ∧ (a0.toInt ≤ a9.toInt) ∧ (a9.toInt ≤ en.toInt) ∧ (-1 ≤ r.toInt ∧ r.toInt ≤ 99999)) := by
  refine q_enterI (by decide) (Nat.le_of_ble_eq_true rfl) rfl (fun K H locs ls _ _ hM hW0 hR hC hE hl => ?_)
  have hl : lv_has ls 3 [(0, .ref (ad 79))] := hl
  have hW : WS ad cA (fun i k => (i = 79 ∧ (k = 2))) g0 K g0 H locs := ⟨hW0, hSh, FR.rf⟩
  have b_en := hG.f h_en rF_79_1 (by decide)
  have b_a0 := hG.f h_a0 rF_79_2 (by decide)
  have f2814 : fld g0 79 2 = .int a0 := h_a0
  refine q_iconst (v := (0 : Int32)) hM dX4_number_0 (by decide) ?_
  refine q_istore_n (lv9 := [(1, .int (0 : Int32)), (0, .ref (ad 79))]) hM dX4_number_1 hl (by decide) rfl (fun ls hl => ?_)
  refine q_aload_n hM dX4_number_2 (lv_at hl 1 rfl) ?_
  refine w_get (v := .int a0) hM hW FG_X4_23 lb_79 f2814 dX4_number_3 ?_
  have ba0 := hG.f f2814 rF_79_2 (by decide)
  refine q_istore_n (lv9 := [(2, .int a0), (1, .int (0 : Int32)), (0, .ref (ad 79))]) hM dX4_number_6 hl (by decide) rfl (fun ls hl => ?_)
  have L7 : ∀ (fu7 : Nat) (w7_1 : Int32) (aa : Int32) (g9 : Nat → va_E) (H : Heap) (locs : List Loc) (ls : Array Slot), (en.toInt - aa.toInt).toNat < fu7 → (Rng g9) → (a0.toInt ≤ aa.toInt) → (aa.toInt ≤ en.toInt) → ((aa.toInt = a0.toInt + 0 ∧ 0 ≤ w7_1.toInt ∧ w7_1.toInt ≤ 0) ∨ (aa.toInt = a0.toInt + 1 ∧ 0 ≤ w7_1.toInt ∧ w7_1.toInt ≤ 9) ∨ (aa.toInt = a0.toInt + 2 ∧ 0 ≤ w7_1.toInt ∧ w7_1.toInt ≤ 99) ∨ (aa.toInt = a0.toInt + 3 ∧ 0 ≤ w7_1.toInt ∧ w7_1.toInt ≤ 999) ∨ (aa.toInt = a0.toInt + 4 ∧ 0 ≤ w7_1.toInt ∧ w7_1.toInt ≤ 9999) ∨ (aa.toInt = a0.toInt + 5 ∧ 0 ≤ w7_1.toInt ∧ w7_1.toInt ≤ 99999)) → (fld g9 79 2 = .int aa) → lv_has ls 3 [(0, .ref (ad 79)), (1, .int w7_1), (2, .int a0)] → WS ad cA (fun i k => (i = 79 ∧ (k = 2))) g0 K g9 H locs → XX K 0 0 H locs 7 ls [] := by
    intro fu7
    induction fu7 with
    | zero => intro w7_1 aa g9 H locs ls h0; omega
    | succ fu7 ih7 =>
      intro w7_1 aa g9 H locs ls hm7 i7_0 i7_1 i7_2 i7_3 c7_79_2 hl hW
      have hG := i7_0
      refine q_aload_n hM dX4_number_7 (lv_at hl 0 rfl) ?_
      refine w_get (v := .int aa) hM hW FG_X4_23 lb_79 c7_79_2 dX4_number_8 ?_
      have baa := hG.f c7_79_2 rF_79_2 (by decide)
      refine q_aload_n hM dX4_number_11 (lv_at hl 0 rfl) ?_
      refine w_get (v := .int en) hM hW FG_X4_19 lb_79 ((hW.2.2.1 79 1 (by omega)).trans h_en) dX4_number_12 ?_
      refine q_icmp_ge (tgt := 89) hM dX4_number_15 (by decide) (rfl : aa.toInt = aa.toInt) (rfl : en.toInt = en.toInt) (fun h15 => ?_) (fun h15 => ?_)
      · refine q_iload_n hM dX4_number_89 (lv_at hl 1 rfl) ?_
        exact hE _ _ _ _ _ _ hW.1 ⟨aa, _, rfl, hW.2.1, hG, hW.2.2, c7_79_2, (by omega), (by omega), (by omega)⟩ dX4_number_90
      · refine q_aload_n hM dX4_number_18 (lv_at hl 0 rfl) ?_
        refine w_get (v := .ref (ad 2)) hM hW FG_X4_9 lb_79 (rf_79_0 hW.2.1) dX4_number_19 ?_
        refine q_aload_n hM dX4_number_22 (lv_at hl 0 rfl) ?_
        refine w_get (v := .int aa) hM hW FG_X4_23 lb_79 c7_79_2 dX4_number_23 ?_
        have baa := hG.f c7_79_2 rF_79_2 (by decide)
        refine w_iald hM hW lb_2 (i_in (by omega) (by omega)) dX4_number_26 ?_
        refine q_top (fun y2818 hy2818 => ?_)
        have by2818 := hG.a hy2818 rA_2
        have cy2818 := congrArg Int32.toInt hy2818
        refine q_bipush (v := (48 : Int32)) hM dX4_number_27 (by decide) ?_
        refine q_icmp_lt (tgt := 89) hM dX4_number_29 (by decide) (rfl : y2818.toInt = y2818.toInt) (kc_48 : (48 : Int32).toInt = 48) (fun h29 => ?_) (fun h29 => ?_)
        · refine q_iload_n hM dX4_number_89 (lv_at hl 1 rfl) ?_
          exact hE _ _ _ _ _ _ hW.1 ⟨aa, _, rfl, hW.2.1, hG, hW.2.2, c7_79_2, (by omega), (by omega), (by omega)⟩ dX4_number_90
        · refine q_aload_n hM dX4_number_32 (lv_at hl 0 rfl) ?_
          refine w_get (v := .ref (ad 2)) hM hW FG_X4_9 lb_79 (rf_79_0 hW.2.1) dX4_number_33 ?_
          refine q_aload_n hM dX4_number_36 (lv_at hl 0 rfl) ?_
          refine w_get (v := .int aa) hM hW FG_X4_23 lb_79 c7_79_2 dX4_number_37 ?_
          have baa := hG.f c7_79_2 rF_79_2 (by decide)
          refine w_iald hM hW lb_2 (i_in (by omega) (by omega)) dX4_number_40 ?_
          refine q_top (fun y2821 hy2821 => ?_)
          have by2821 := hG.a hy2821 rA_2
          have cy2821 := congrArg Int32.toInt hy2821
          refine q_bipush (v := (57 : Int32)) hM dX4_number_41 (by decide) ?_
          refine q_icmp_gt (tgt := 89) hM dX4_number_43 (by decide) (rfl : y2821.toInt = y2821.toInt) (kc_57 : (57 : Int32).toInt = 57) (fun h43 => ?_) (fun h43 => ?_)
          · refine q_iload_n hM dX4_number_89 (lv_at hl 1 rfl) ?_
            exact hE _ _ _ _ _ _ hW.1 ⟨aa, _, rfl, hW.2.1, hG, hW.2.2, c7_79_2, (by omega), (by omega), (by omega)⟩ dX4_number_90
          · refine q_aload_n hM dX4_number_46 (lv_at hl 0 rfl) ?_
            refine w_get (v := .int aa) hM hW FG_X4_23 lb_79 c7_79_2 dX4_number_47 ?_
            have baa := hG.f c7_79_2 rF_79_2 (by decide)
            refine q_iload_n hM dX4_number_50 (lv_at hl 2 rfl) ?_
            refine q_isub hM dX4_number_51 (fun z2824 hz2824 => ?_)
            first | have tz2824 := i_subT hz2824 (rfl : aa.toInt = aa.toInt) (rfl : a0.toInt = a0.toInt) (by omega) (by omega) | skip
            refine q_iconst (v := (5 : Int32)) hM dX4_number_52 (by decide) ?_
            refine q_icmp_lt (tgt := 58) hM dX4_number_53 (by decide) (rfl : z2824.toInt = z2824.toInt) (kc_5 : (5 : Int32).toInt = 5) (fun h53 => ?_) (fun h53 => ?_)
            · refine q_iload_n hM dX4_number_58 (lv_at hl 1 rfl) ?_
              refine q_bipush (v := (10 : Int32)) hM dX4_number_59 (by decide) ?_
              refine q_imul hM dX4_number_61 (fun z2826 hz2826 => ?_)
              first | have tz2826 := i_mulT hz2826 (rfl : w7_1.toInt = w7_1.toInt) (kc_10 : (10 : Int32).toInt = 10) (by omega) (by omega) | skip
              refine q_aload_n hM dX4_number_62 (lv_at hl 0 rfl) ?_
              refine w_get (v := .ref (ad 2)) hM hW FG_X4_9 lb_79 (rf_79_0 hW.2.1) dX4_number_63 ?_
              refine q_aload_n hM dX4_number_66 (lv_at hl 0 rfl) ?_
              refine w_get (v := .int aa) hM hW FG_X4_23 lb_79 c7_79_2 dX4_number_67 ?_
              have baa := hG.f c7_79_2 rF_79_2 (by decide)
              refine w_iald hM hW lb_2 (i_in (by omega) (by omega)) dX4_number_70 ?_
              refine q_top (fun y2827 hy2827 => ?_)
              have by2827 := hG.a hy2827 rA_2
              have cy2827 := congrArg Int32.toInt hy2827
              refine q_iadd hM dX4_number_71 (fun z2828 hz2828 => ?_)
              first | have tz2828 := i_addT hz2828 (rfl : z2826.toInt = z2826.toInt) (rfl : y2827.toInt = y2827.toInt) (by omega) (by omega) | skip
              refine q_bipush (v := (48 : Int32)) hM dX4_number_72 (by decide) ?_
              refine q_isub hM dX4_number_74 (fun z2829 hz2829 => ?_)
              first | have tz2829 := i_subT hz2829 (rfl : z2828.toInt = z2828.toInt) (kc_48 : (48 : Int32).toInt = 48) (by omega) (by omega) | skip
              refine q_istore_n (lv9 := [(1, .int z2829), (0, .ref (ad 79)), (2, .int a0)]) hM dX4_number_75 hl (by decide) rfl (fun ls hl => ?_)
              refine q_aload_n hM dX4_number_76 (lv_at hl 1 rfl) ?_
              refine q_dup hM dX4_number_77 rfl ?_
              refine w_get (v := .int aa) hM hW FG_X4_23 lb_79 c7_79_2 dX4_number_78 ?_
              have baa := hG.f c7_79_2 rF_79_2 (by decide)
              refine q_iconst (v := (1 : Int32)) hM dX4_number_81 (by decide) ?_
              refine q_iadd hM dX4_number_82 (fun z2830 hz2830 => ?_)
              first | have tz2830 := i_addT hz2830 (rfl : aa.toInt = aa.toInt) (kc_1 : (1 : Int32).toInt = 1) (by omega) (by omega) | skip
              refine w_put hM hW FP_X4_23 lb_79 (by omega) (Or.inl ⟨_, rfl⟩) rfl rfl dX4_number_83 (fun g2831 H locs hW e1 e2 => ?_)
              have f2832 : fld g2831 79 2 = .int z2830 := e1
              have hG := hG.put e1 e2 rF_79_2 (by decide) (by have := i_rng z2830; omega) (by have := i_rng z2830; omega)
              refine q_goto (tgt := 7) hM dX4_number_86 (by decide) ?_
              exact ih7 z2829 z2830 _ _ _ _ (by omega) hG (by omega) (by omega) (by omega) f2832 (lv_sub hl [1, 0, 2] rfl) hW
            · refine q_iconst (v := ((-1) : Int32)) hM dX4_number_56 (by decide) ?_
              exact hE _ _ _ _ _ _ hW.1 ⟨aa, _, rfl, hW.2.1, hG, hW.2.2, c7_79_2, (by have := kc_m1; omega), (by have := kc_m1; omega), (by have := kc_m1; omega)⟩ dX4_number_57
  have := kc_0
  exact L7 _ (0 : Int32) a0 _ _ _ _ (Nat.lt_succ_self _) hG (by omega) (by omega) (by omega) f2814 (lv_sub hl [2, 1, 0] rfl) hW

theorem dX4_factor_0 : decode cX4_factor 0 = .ok (.aload_n 0, 1) := by decide +kernel
theorem dX4_factor_1 : decode cX4_factor 1 = .ok (.invokevirtual 56, 3) := by decide +kernel
theorem dX4_factor_4 : decode cX4_factor 4 = .ok (.istore_n 2, 1) := by decide +kernel
theorem dX4_factor_5 : decode cX4_factor 5 = .ok (.iload_n 2, 1) := by decide +kernel
theorem dX4_factor_6 : decode cX4_factor 6 = .ok (.bipush 91, 2) := by decide +kernel
theorem dX4_factor_8 : decode cX4_factor 8 = .ok (.if_icmp .ne 50, 3) := by decide +kernel
theorem dX4_factor_11 : decode cX4_factor 11 = .ok (.iload_n 1, 1) := by decide +kernel
theorem dX4_factor_12 : decode cX4_factor 12 = .ok (.bipush 6, 2) := by decide +kernel
theorem dX4_factor_14 : decode cX4_factor 14 = .ok (.if_icmp .lt 9, 3) := by decide +kernel
theorem dX4_factor_17 : decode cX4_factor 17 = .ok (.aload_n 0, 1) := by decide +kernel
theorem dX4_factor_18 : decode cX4_factor 18 = .ok (.iconst 5, 1) := by decide +kernel
theorem dX4_factor_19 : decode cX4_factor 19 = .ok (.invokevirtual 47, 3) := by decide +kernel
theorem dX4_factor_22 : decode cX4_factor 22 = .ok (.ireturn, 1) := by decide +kernel
theorem dX4_factor_58 : decode cX4_factor 58 = .ok (.iload_n 2, 1) := by decide +kernel
theorem dX4_factor_59 : decode cX4_factor 59 = .ok (.bipush 48, 2) := by decide +kernel
theorem dX4_factor_61 : decode cX4_factor 61 = .ok (.bipush 57, 2) := by decide +kernel
theorem dX4_factor_63 : decode cX4_factor 63 = .ok (.invokestatic 98, 3) := by decide +kernel
theorem dX4_factor_66 : decode cX4_factor 66 = .ok (.ifCond .eq 36, 3) := by decide +kernel
theorem dX4_factor_69 : decode cX4_factor 69 = .ok (.aload_n 0, 1) := by decide +kernel
theorem dX4_factor_70 : decode cX4_factor 70 = .ok (.invokevirtual 102, 3) := by decide +kernel
theorem dX4_factor_73 : decode cX4_factor 73 = .ok (.istore_n 3, 1) := by decide +kernel
theorem dX4_factor_74 : decode cX4_factor 74 = .ok (.aload_n 0, 1) := by decide +kernel
theorem dX4_factor_75 : decode cX4_factor 75 = .ok (.getfield 15, 3) := by decide +kernel
theorem dX4_factor_78 : decode cX4_factor 78 = .ok (.iconst 1, 1) := by decide +kernel
theorem dX4_factor_79 : decode cX4_factor 79 = .ok (.iload_n 3, 1) := by decide +kernel
theorem dX4_factor_80 : decode cX4_factor 80 = .ok (.invokevirtual 75, 3) := by decide +kernel
theorem dX4_factor_83 : decode cX4_factor 83 = .ok (.iload_n 3, 1) := by decide +kernel
theorem dX4_factor_84 : decode cX4_factor 84 = .ok (.iconst (-1), 1) := by decide +kernel
theorem dX4_factor_85 : decode cX4_factor 85 = .ok (.if_icmp .ne 11, 3) := by decide +kernel
theorem dX4_factor_88 : decode cX4_factor 88 = .ok (.aload_n 0, 1) := by decide +kernel
theorem dX4_factor_89 : decode cX4_factor 89 = .ok (.iconst 2, 1) := by decide +kernel
theorem dX4_factor_90 : decode cX4_factor 90 = .ok (.invokevirtual 47, 3) := by decide +kernel
theorem dX4_factor_93 : decode cX4_factor 93 = .ok (.ifCond .eq 7, 3) := by decide +kernel
theorem dX4_factor_96 : decode cX4_factor 96 = .ok (.iconst 1, 1) := by decide +kernel
theorem dX4_factor_97 : decode cX4_factor 97 = .ok (.goto 4, 3) := by decide +kernel
theorem dX4_factor_100 : decode cX4_factor 100 = .ok (.iconst 0, 1) := by decide +kernel
theorem dX4_factor_101 : decode cX4_factor 101 = .ok (.ireturn, 1) := by decide +kernel
theorem dX4_factor_102 : decode cX4_factor 102 = .ok (.ldc 105, 2) := by decide +kernel
theorem dX4_factor_104 : decode cX4_factor 104 = .ok (.iload_n 2, 1) := by decide +kernel
theorem dX4_factor_105 : decode cX4_factor 105 = .ok (.invokestatic 62, 3) := by decide +kernel
theorem dX4_factor_108 : decode cX4_factor 108 = .ok (.istore_n 3, 1) := by decide +kernel
theorem dX4_factor_109 : decode cX4_factor 109 = .ok (.iload_n 3, 1) := by decide +kernel
theorem dX4_factor_110 : decode cX4_factor 110 = .ok (.ifCond .ge 9, 3) := by decide +kernel
theorem dX4_factor_113 : decode cX4_factor 113 = .ok (.aload_n 0, 1) := by decide +kernel
theorem dX4_factor_114 : decode cX4_factor 114 = .ok (.iconst 1, 1) := by decide +kernel
theorem dX4_factor_115 : decode cX4_factor 115 = .ok (.invokevirtual 47, 3) := by decide +kernel
theorem dX4_factor_118 : decode cX4_factor 118 = .ok (.ireturn, 1) := by decide +kernel
theorem dX4_factor_119 : decode cX4_factor 119 = .ok (.aload_n 0, 1) := by decide +kernel
theorem dX4_factor_120 : decode cX4_factor 120 = .ok (.getfield 15, 3) := by decide +kernel
theorem dX4_factor_123 : decode cX4_factor 123 = .ok (.iconst 2, 1) := by decide +kernel
theorem dX4_factor_124 : decode cX4_factor 124 = .ok (.iload_n 3, 1) := by decide +kernel
theorem dX4_factor_125 : decode cX4_factor 125 = .ok (.invokevirtual 75, 3) := by decide +kernel
theorem dX4_factor_128 : decode cX4_factor 128 = .ok (.aload_n 0, 1) := by decide +kernel
theorem dX4_factor_129 : decode cX4_factor 129 = .ok (.dup, 1) := by decide +kernel
theorem dX4_factor_130 : decode cX4_factor 130 = .ok (.getfield 23, 3) := by decide +kernel
theorem dX4_factor_133 : decode cX4_factor 133 = .ok (.iconst 1, 1) := by decide +kernel
theorem dX4_factor_134 : decode cX4_factor 134 = .ok (.iadd, 1) := by decide +kernel
theorem dX4_factor_135 : decode cX4_factor 135 = .ok (.putfield 23, 3) := by decide +kernel
theorem dX4_factor_138 : decode cX4_factor 138 = .ok (.iconst 1, 1) := by decide +kernel
theorem dX4_factor_139 : decode cX4_factor 139 = .ok (.ireturn, 1) := by decide +kernel
theorem myX4_sign : MI yX4_sign cX4_sign 1 (some FieldType.int) 0 := ⟨kAW (v_2_0 (List.mem_of_getElem? (i := 15) rfl)) rfl, kAW (v_0_0 (List.mem_of_getElem? (i := 8) rfl)) rfl, kAW (v_2_0 (List.mem_of_getElem? (i := 14) rfl)) rfl, kAW (tp_t0 (List.mem_of_getElem? (i := 7) rfl)) rfl, by decide, by decide, by decide +kernel⟩
theorem myX4_placeOf : MS yX4_placeOf cX4_placeOf 2 (some FieldType.int) 2 := ⟨kAW (v_2_1 (List.mem_of_getElem? (i := 3) rfl)) rfl, kAW (v_0_0 (List.mem_of_getElem? (i := 8) rfl)) rfl, kAW (v_2_1 (List.mem_of_getElem? (i := 2) rfl)) rfl, by decide, by decide, by decide +kernel⟩
theorem FG_X4_15 : FG RX4 15 4 5 4 := ⟨RX4, TX4, rfl, wX4, by decide, kAW (v_0_12 (List.mem_of_getElem? (i := 14) rfl)) rfl, rfl⟩
theorem myX3_add : MI yX3_add cX3_add 3 none 2 := ⟨kAW (v_2_8 (List.mem_of_getElem? (i := 0) rfl)) rfl, kAW (v_0_0 (List.mem_of_getElem? (i := 5) rfl)) rfl, kAW (v_2_7 (List.mem_of_getElem? (i := 14) rfl)) rfl, kAW (v_2_7 (List.mem_of_getElem? (i := 15) rfl)) rfl, by decide, by decide, by decide +kernel⟩
theorem myX4_wrong : MI yX4_wrong cX4_wrong 2 (some FieldType.boolean) 1 := ⟨kAW (v_2_6 (List.mem_of_getElem? (i := 11) rfl)) rfl, kAW (v_0_0 (List.mem_of_getElem? (i := 8) rfl)) rfl, kAW (v_2_6 (List.mem_of_getElem? (i := 10) rfl)) rfl, kAW (tp_t0 (List.mem_of_getElem? (i := 8) rfl)) rfl, by decide, by decide, by decide +kernel⟩
theorem myX4_number : MI yX4_number cX4_number 3 (some FieldType.int) 0 := ⟨kAW (v_2_7 (List.mem_of_getElem? (i := 12) rfl)) rfl, kAW (v_0_0 (List.mem_of_getElem? (i := 8) rfl)) rfl, kAW (v_2_7 (List.mem_of_getElem? (i := 11) rfl)) rfl, kAW (tp_t0 (List.mem_of_getElem? (i := 12) rfl)) rfl, by decide, by decide, by decide +kernel⟩
set_option maxRecDepth 100000 in
set_option maxHeartbeats 4000000 in
theorem a_X4_factor_6 (l : Launch) (D : va_G) (cA : Nat → ClassId) (ad : Nat → Nat) (g0 : Nat → va_E) (op : Int32) (en : Int32) (a0 : Int32) (lw : Nat) (hSh : Shp ad cA g0) (hG : Rng g0) (hlw : isLw lw) (h_en : fld g0 79 1 = .int en) (h_a0 : fld g0 79 2 = .int a0) (h_r4 : fld g0 79 4 = .ref (ad lw)) (ah0 : 0 ≤ a0.toInt) (ah1 : a0.toInt ≤ en.toInt) (ah2 : en.toInt ≤ 240) (ok : op.toInt = 6) : CT l NN ad cA D yX4_factor cX4_factor 4 (some FieldType.boolean) (5, 112) [.ref (ad 79), .int op] g0 (fun v g' => ∃ (a9 : Int32) (r : Int32), v = some (.int r) ∧ Shp ad cA g' ∧ Rng g' ∧ FR (fun i k => (i = 79 ∧ (k = 2 ∨ k = 3)) ∨ (i = lw ∧ (k = 7)) ∨ i = (lw + 4) ∨ i = (lw + 5)) g0 g' ∧ fld g' 79 2 = .int a9 ∧ (a0.toInt ≤ a9.toInt) ∧ (a9.toInt ≤ en.toInt) ∧ (r.toInt = 0 ∨ r.toInt = 1)) := by
  refine q_enterZ (by decide) (Nat.le_of_ble_eq_true rfl) (fun K H locs ls _ _ hM hW0 hR hC hE hl => ?_)
  have hl : lv_has ls 4 [(0, .ref (ad 79)), (1, .int op)] := hl
  have hW : WS ad cA (fun i k => (i = 79 ∧ (k = 2 ∨ k = 3)) ∨ (i = lw ∧ (k = 7)) ∨ i = (lw + 4) ∨ i = (lw + 5)) g0 K g0 H locs := ⟨hW0, hSh, FR.rf⟩
  have ulw := hlw
  unfold isLw at ulw
  have b_en := hG.f h_en rF_79_1 (by decide)
  have b_a0 := hG.f h_a0 rF_79_2 (by decide)
  have f2834 : fld g0 79 2 = .int a0 := h_a0
  refine q_aload_n hM dX4_factor_0 (lv_at hl 0 rfl) ?_
  refine q_callV (As := []) (rest := []) hM hW.1 hR hC myX4_sign (kAW (v_2_0 (List.mem_of_getElem? (i := 12) rfl)) rfl) (rfl : vwCl[4]? = some (RX4, TX4, 5)) rfl lb_79.1 (shO hW.2.1 lb_79) (a_X4_sign _ _ cA ad g0 en a0 hW.2.1 hG ((hW.2.2.1 79 1 (by omega)).trans h_en) f2834 (by  omega) (by  omega) (by  omega)) ⟨by decide, by decide⟩ rfl rfl hl.1 (Nat.le_of_ble_eq_true rfl) dX4_factor_1 (fun v g2836 H locs hp hW1 => ?_)
  obtain ⟨r2835, rfl, hr2835, rfl⟩ := hp
  have hW : WS ad cA (fun i k => (i = 79 ∧ (k = 2 ∨ k = 3)) ∨ (i = lw ∧ (k = 7)) ∨ i = (lw + 4) ∨ i = (lw + 5)) g0 K g0 H locs := ⟨hW1, hW.2.1, hW.2.2⟩
  refine q_istore_n (lv9 := [(2, .int r2835), (0, .ref (ad 79)), (1, .int op)]) hM dX4_factor_4 hl (by decide) rfl (fun ls hl => ?_)
  refine q_iload_n hM dX4_factor_5 (lv_at hl 0 rfl) ?_
  refine q_bipush (v := (91 : Int32)) hM dX4_factor_6 (by decide) ?_
  refine q_icmp_ne (tgt := 58) hM dX4_factor_8 (by decide) (rfl : r2835.toInt = r2835.toInt) (kc_91 : (91 : Int32).toInt = 91) (fun h8 => ?_) (fun h8 => ?_)
  · refine q_iload_n hM dX4_factor_58 (lv_at hl 0 rfl) ?_
    refine q_bipush (v := (48 : Int32)) hM dX4_factor_59 (by decide) ?_
    refine q_bipush (v := (57 : Int32)) hM dX4_factor_61 (by decide) ?_
    refine q_callN (host := "ForgetSchool") (As := [.int r2835, .int (48 : Int32), .int (57 : Int32)]) (rest := []) hM hW.1 hR hC myX11_within (List.mem_of_getElem? (i := 2) rfl) (c_X11_within _ _ cA ad g0 r2835 (48 : Int32) (57 : Int32) hW.2.1) ⟨by decide, by decide⟩ rfl rfl hl.1 (Nat.le_of_ble_eq_true rfl) dX4_factor_63 (fun v g2839 H locs hp hW1 => ?_)
    obtain ⟨r2838, rfl, hr2838, rfl⟩ := hp
    have hW : WS ad cA (fun i k => (i = 79 ∧ (k = 2 ∨ k = 3)) ∨ (i = lw ∧ (k = 7)) ∨ i = (lw + 4) ∨ i = (lw + 5)) g0 K g0 H locs := ⟨hW1, hW.2.1, hW.2.2⟩
    have := kc_48
    have := kc_57
    refine q_if_eq (tgt := 102) hM dX4_factor_66 (by decide) (rfl : r2838.toInt = r2838.toInt) (fun h66 => ?_) (fun h66 => ?_)
    · refine q_ldcS1 hM hW.1 rfl dX4_factor_102 ?_
      refine q_iload_n hM dX4_factor_104 (lv_at hl 0 rfl) ?_
      refine q_callS (As := [.ref (ad 401), .int r2835]) (rest := []) hM hW.1 hR hC myX4_placeOf (kAW (v_2_1 (List.mem_of_getElem? (i := 1) rfl)) rfl) (a_X4_placeOf_1 _ _ cA ad g0 r2835 hW.2.1 hG) ⟨by decide, by decide⟩ rfl rfl hl.1 (Nat.le_of_ble_eq_true rfl) dX4_factor_105 (fun v g2842 H locs hp hW1 => ?_)
      obtain ⟨r2841, rfl, hr2841, rfl⟩ := hp
      have hW : WS ad cA (fun i k => (i = 79 ∧ (k = 2 ∨ k = 3)) ∨ (i = lw ∧ (k = 7)) ∨ i = (lw + 4) ∨ i = (lw + 5)) g0 K g0 H locs := ⟨hW1, hW.2.1, hW.2.2⟩
      refine q_istore_n (lv9 := [(3, .int r2841), (2, .int r2835), (0, .ref (ad 79)), (1, .int op)]) hM dX4_factor_108 hl (by decide) rfl (fun ls hl => ?_)
      refine q_iload_n hM dX4_factor_109 (lv_at hl 0 rfl) ?_
      refine q_if_ge (tgt := 119) hM dX4_factor_110 (by decide) (rfl : r2841.toInt = r2841.toInt) (fun h110 => ?_) (fun h110 => ?_)
      · refine q_aload_n hM dX4_factor_119 (lv_at hl 2 rfl) ?_
        refine w_get (v := .ref (ad lw)) hM hW FG_X4_15 lb_79 ((hW.2.2.1 79 4 (by omega)).trans h_r4) dX4_factor_120 ?_
        refine q_iconst (v := (2 : Int32)) hM dX4_factor_123 (by decide) ?_
        refine q_iload_n hM dX4_factor_124 (lv_at hl 0 rfl) ?_
        refine q_callV (As := [.int (2 : Int32), .int r2841]) (rest := []) hM hW.1 hR hC myX3_add (kAW (v_2_7 (List.mem_of_getElem? (i := 13) rfl)) rfl) (rfl : vwCl[3]? = some (RX3, TX3, 8)) rfl (lo_Lw hlw).1 (shO hW.2.1 (lo_Lw hlw)) (a_X3_add _ _ cA ad g0 lw (2 : Int32) r2841 hW.2.1 hG hlw (by have := kc_2; omega) (by have := kc_2; omega)) ⟨by decide, by decide⟩ rfl rfl hl.1 (Nat.le_of_ble_eq_true rfl) dX4_factor_125 (fun v g2844 H locs hp hW1 => ?_)
        obtain ⟨rfl, hs1, hG, hf1⟩ := hp
        have f2845 : fld g2844 79 2 = .int a0 := (hf1.1 79 2 (by omega)).trans f2834
        have hW : WS ad cA (fun i k => (i = 79 ∧ (k = 2 ∨ k = 3)) ∨ (i = lw ∧ (k = 7)) ∨ i = (lw + 4) ∨ i = (lw + 5)) g0 K g2844 H locs := ⟨hW1, hs1, hW.2.2.tr hf1 (fun i k h => h.elim (fun h => (Or.inr (Or.inl h))) (fun h => h.elim (fun h => (Or.inr (Or.inr (Or.inl h)))) (fun h => (Or.inr (Or.inr (Or.inr h))))))⟩
        refine q_aload_n hM dX4_factor_128 (lv_at hl 2 rfl) ?_
        refine q_dup hM dX4_factor_129 rfl ?_
        refine w_get (v := .int a0) hM hW FG_X4_23 lb_79 f2845 dX4_factor_130 ?_
        have ba0 := hG.f f2845 rF_79_2 (by decide)
        refine q_iconst (v := (1 : Int32)) hM dX4_factor_133 (by decide) ?_
        refine q_iadd hM dX4_factor_134 (fun z2846 hz2846 => ?_)
        first | have tz2846 := i_addT hz2846 (rfl : a0.toInt = a0.toInt) (kc_1 : (1 : Int32).toInt = 1) (by omega) (by omega) | skip
        refine w_put hM hW FP_X4_23 lb_79 (by omega) (Or.inl ⟨_, rfl⟩) rfl rfl dX4_factor_135 (fun g2847 H locs hW e1 e2 => ?_)
        have f2848 : fld g2847 79 2 = .int z2846 := e1
        have hG := hG.put e1 e2 rF_79_2 (by decide) (by have := i_rng z2846; omega) (by have := i_rng z2846; omega)
        refine q_iconst (v := (1 : Int32)) hM dX4_factor_138 (by decide) ?_
        exact hE _ _ _ _ _ _ hW.1 nz_1 ⟨z2846, _, rfl, hW.2.1, hG, hW.2.2, f2848, (by have := kc_1; omega), (by have := kc_1; omega), (by have := kc_1; omega)⟩ dX4_factor_139
      · refine q_aload_n hM dX4_factor_113 (lv_at hl 2 rfl) ?_
        refine q_iconst (v := (1 : Int32)) hM dX4_factor_114 (by decide) ?_
        refine q_callV (As := [.int (1 : Int32)]) (rest := []) hM hW.1 hR hC myX4_wrong (kAW (v_2_6 (List.mem_of_getElem? (i := 8) rfl)) rfl) (rfl : vwCl[4]? = some (RX4, TX4, 5)) rfl lb_79.1 (shO hW.2.1 lb_79) (a_X4_wrong _ _ cA ad g0 (1 : Int32) hW.2.1 hG) ⟨by decide, by decide⟩ rfl rfl hl.1 (Nat.le_of_ble_eq_true rfl) dX4_factor_115 (fun v g2851 H locs hp hW1 => ?_)
        obtain ⟨r2850, rfl, hs1, hG, hf1, hr2850⟩ := hp
        have f2852 : fld g2851 79 2 = .int a0 := (hf1.1 79 2 (by omega)).trans f2834
        have hW : WS ad cA (fun i k => (i = 79 ∧ (k = 2 ∨ k = 3)) ∨ (i = lw ∧ (k = 7)) ∨ i = (lw + 4) ∨ i = (lw + 5)) g0 K g2851 H locs := ⟨hW1, hs1, hW.2.2.tr hf1 (fun i k h => (Or.inl (by omega)))⟩
        exact hE _ _ _ _ _ _ hW.1 (nz_or (by omega)) ⟨a0, _, rfl, hW.2.1, hG, hW.2.2, f2852, (by omega), (by omega), (by omega)⟩ dX4_factor_118
    · refine q_aload_n hM dX4_factor_69 (lv_at hl 1 rfl) ?_
      refine q_callV (As := []) (rest := []) hM hW.1 hR hC myX4_number (kAW (v_2_7 (List.mem_of_getElem? (i := 9) rfl)) rfl) (rfl : vwCl[4]? = some (RX4, TX4, 5)) rfl lb_79.1 (shO hW.2.1 lb_79) (a_X4_number _ _ cA ad g0 en a0 hW.2.1 hG ((hW.2.2.1 79 1 (by omega)).trans h_en) f2834 (by  omega) (by  omega) (by  omega)) ⟨by decide, by decide⟩ rfl rfl hl.1 (Nat.le_of_ble_eq_true rfl) dX4_factor_70 (fun v g2859 H locs hp hW1 => ?_)
      obtain ⟨v2854, r2855, rfl, hs1, hG, hf1, q2856, e2857, e2858, hr2855⟩ := hp
      have hW : WS ad cA (fun i k => (i = 79 ∧ (k = 2 ∨ k = 3)) ∨ (i = lw ∧ (k = 7)) ∨ i = (lw + 4) ∨ i = (lw + 5)) g0 K g2859 H locs := ⟨hW1, hs1, hW.2.2.tr hf1 (fun i k h => (Or.inl (by omega)))⟩
      refine q_istore_n (lv9 := [(3, .int r2855), (2, .int r2835), (0, .ref (ad 79)), (1, .int op)]) hM dX4_factor_73 hl (by decide) rfl (fun ls hl => ?_)
      refine q_aload_n hM dX4_factor_74 (lv_at hl 2 rfl) ?_
      refine w_get (v := .ref (ad lw)) hM hW FG_X4_15 lb_79 ((hW.2.2.1 79 4 (by omega)).trans h_r4) dX4_factor_75 ?_
      refine q_iconst (v := (1 : Int32)) hM dX4_factor_78 (by decide) ?_
      refine q_iload_n hM dX4_factor_79 (lv_at hl 0 rfl) ?_
      refine q_callV (As := [.int (1 : Int32), .int r2855]) (rest := []) hM hW.1 hR hC myX3_add (kAW (v_2_7 (List.mem_of_getElem? (i := 13) rfl)) rfl) (rfl : vwCl[3]? = some (RX3, TX3, 8)) rfl (lo_Lw hlw).1 (shO hW.2.1 (lo_Lw hlw)) (a_X3_add _ _ cA ad g2859 lw (1 : Int32) r2855 hW.2.1 hG hlw (by have := kc_1; omega) (by have := kc_1; omega)) ⟨by decide, by decide⟩ rfl rfl hl.1 (Nat.le_of_ble_eq_true rfl) dX4_factor_80 (fun v g2860 H locs hp hW1 => ?_)
      obtain ⟨rfl, hs1, hG, hf1⟩ := hp
      have f2861 : fld g2860 79 2 = .int v2854 := (hf1.1 79 2 (by omega)).trans q2856
      have hW : WS ad cA (fun i k => (i = 79 ∧ (k = 2 ∨ k = 3)) ∨ (i = lw ∧ (k = 7)) ∨ i = (lw + 4) ∨ i = (lw + 5)) g0 K g2860 H locs := ⟨hW1, hs1, hW.2.2.tr hf1 (fun i k h => h.elim (fun h => (Or.inr (Or.inl h))) (fun h => h.elim (fun h => (Or.inr (Or.inr (Or.inl h)))) (fun h => (Or.inr (Or.inr (Or.inr h))))))⟩
      refine q_iload_n hM dX4_factor_83 (lv_at hl 0 rfl) ?_
      refine q_iconst (v := ((-1) : Int32)) hM dX4_factor_84 (by decide) ?_
      refine q_icmp_ne (tgt := 96) hM dX4_factor_85 (by decide) (rfl : r2855.toInt = r2855.toInt) (kc_m1 : ((-1) : Int32).toInt = (-1)) (fun h85 => ?_) (fun h85 => ?_)
      · refine q_iconst (v := (1 : Int32)) hM dX4_factor_96 (by decide) ?_
        refine q_goto (tgt := 101) hM dX4_factor_97 (by decide) ?_
        exact hE _ _ _ _ _ _ hW.1 nz_1 ⟨v2854, _, rfl, hW.2.1, hG, hW.2.2, f2861, (by have := kc_1; omega), (by have := kc_1; omega), (by have := kc_1; omega)⟩ dX4_factor_101
      · refine q_aload_n hM dX4_factor_88 (lv_at hl 2 rfl) ?_
        refine q_iconst (v := (2 : Int32)) hM dX4_factor_89 (by decide) ?_
        refine q_callV (As := [.int (2 : Int32)]) (rest := []) hM hW.1 hR hC myX4_wrong (kAW (v_2_6 (List.mem_of_getElem? (i := 8) rfl)) rfl) (rfl : vwCl[4]? = some (RX4, TX4, 5)) rfl lb_79.1 (shO hW.2.1 lb_79) (a_X4_wrong _ _ cA ad g2860 (2 : Int32) hW.2.1 hG) ⟨by decide, by decide⟩ rfl rfl hl.1 (Nat.le_of_ble_eq_true rfl) dX4_factor_90 (fun v g2865 H locs hp hW1 => ?_)
        obtain ⟨r2864, rfl, hs1, hG, hf1, hr2864⟩ := hp
        have f2866 : fld g2865 79 2 = .int v2854 := (hf1.1 79 2 (by omega)).trans f2861
        have hW : WS ad cA (fun i k => (i = 79 ∧ (k = 2 ∨ k = 3)) ∨ (i = lw ∧ (k = 7)) ∨ i = (lw + 4) ∨ i = (lw + 5)) g0 K g2865 H locs := ⟨hW1, hs1, hW.2.2.tr hf1 (fun i k h => (Or.inl (by omega)))⟩
        refine q_if_eq (tgt := 100) hM dX4_factor_93 (by decide) (rfl : r2864.toInt = r2864.toInt) (fun h93 => ?_) (fun h93 => ?_)
        · refine q_iconst (v := (0 : Int32)) hM dX4_factor_100 (by decide) ?_
          exact hE _ _ _ _ _ _ hW.1 nz_0 ⟨v2854, _, rfl, hW.2.1, hG, hW.2.2, f2866, (by have := kc_0; omega), (by have := kc_0; omega), (by have := kc_0; omega)⟩ dX4_factor_101
        · refine q_iconst (v := (1 : Int32)) hM dX4_factor_96 (by decide) ?_
          refine q_goto (tgt := 101) hM dX4_factor_97 (by decide) ?_
          exact hE _ _ _ _ _ _ hW.1 nz_1 ⟨v2854, _, rfl, hW.2.1, hG, hW.2.2, f2866, (by have := kc_1; omega), (by have := kc_1; omega), (by have := kc_1; omega)⟩ dX4_factor_101
  · refine q_iload_n hM dX4_factor_11 (lv_at hl 2 rfl) ?_
    refine q_bipush (v := (6 : Int32)) hM dX4_factor_12 (by decide) ?_
    refine q_icmp_lt (tgt := 23) hM dX4_factor_14 (by decide) (rfl : op.toInt = op.toInt) (kc_6 : (6 : Int32).toInt = 6) (fun h14 => ?_) (fun h14 => ?_)
    · omega
    · refine q_aload_n hM dX4_factor_17 (lv_at hl 1 rfl) ?_
      refine q_iconst (v := (5 : Int32)) hM dX4_factor_18 (by decide) ?_
      refine q_callV (As := [.int (5 : Int32)]) (rest := []) hM hW.1 hR hC myX4_wrong (kAW (v_2_6 (List.mem_of_getElem? (i := 8) rfl)) rfl) (rfl : vwCl[4]? = some (RX4, TX4, 5)) rfl lb_79.1 (shO hW.2.1 lb_79) (a_X4_wrong _ _ cA ad g0 (5 : Int32) hW.2.1 hG) ⟨by decide, by decide⟩ rfl rfl hl.1 (Nat.le_of_ble_eq_true rfl) dX4_factor_19 (fun v g2873 H locs hp hW1 => ?_)
      obtain ⟨r2872, rfl, hs1, hG, hf1, hr2872⟩ := hp
      have f2874 : fld g2873 79 2 = .int a0 := (hf1.1 79 2 (by omega)).trans f2834
      have hW : WS ad cA (fun i k => (i = 79 ∧ (k = 2 ∨ k = 3)) ∨ (i = lw ∧ (k = 7)) ∨ i = (lw + 4) ∨ i = (lw + 5)) g0 K g2873 H locs := ⟨hW1, hs1, hW.2.2.tr hf1 (fun i k h => (Or.inl (by omega)))⟩
      exact hE _ _ _ _ _ _ hW.1 (nz_or (by omega)) ⟨a0, _, rfl, hW.2.1, hG, hW.2.2, f2874, (by omega), (by omega), (by omega)⟩ dX4_factor_22

theorem dX4_expression_0 : decode cX4_expression 0 = .ok (.iconst (-1), 1) := by decide +kernel
theorem dX4_expression_1 : decode cX4_expression 1 = .ok (.istore_n 2, 1) := by decide +kernel
theorem dX4_expression_2 : decode cX4_expression 2 = .ok (.iconst (-1), 1) := by decide +kernel
theorem dX4_expression_3 : decode cX4_expression 3 = .ok (.istore_n 3, 1) := by decide +kernel
theorem dX4_expression_4 : decode cX4_expression 4 = .ok (.aload_n 0, 1) := by decide +kernel
theorem dX4_expression_5 : decode cX4_expression 5 = .ok (.getfield 23, 3) := by decide +kernel
theorem dX4_expression_8 : decode cX4_expression 8 = .ok (.aload_n 0, 1) := by decide +kernel
theorem dX4_expression_9 : decode cX4_expression 9 = .ok (.getfield 19, 3) := by decide +kernel
theorem dX4_expression_12 : decode cX4_expression 12 = .ok (.if_icmp .gt 121, 3) := by decide +kernel
theorem dX4_expression_15 : decode cX4_expression 15 = .ok (.aload_n 0, 1) := by decide +kernel
theorem dX4_expression_16 : decode cX4_expression 16 = .ok (.iload_n 1, 1) := by decide +kernel
theorem dX4_expression_17 : decode cX4_expression 17 = .ok (.invokevirtual 95, 3) := by decide +kernel
theorem dX4_expression_20 : decode cX4_expression 20 = .ok (.ifCond .ne 5, 3) := by decide +kernel
theorem dX4_expression_23 : decode cX4_expression 23 = .ok (.iconst 0, 1) := by decide +kernel
theorem dX4_expression_24 : decode cX4_expression 24 = .ok (.ireturn, 1) := by decide +kernel
theorem dX4_expression_25 : decode cX4_expression 25 = .ok (.iload_n 3, 1) := by decide +kernel
theorem dX4_expression_26 : decode cX4_expression 26 = .ok (.iconst (-1), 1) := by decide +kernel
theorem dX4_expression_27 : decode cX4_expression 27 = .ok (.if_icmp .eq 12, 3) := by decide +kernel
theorem dX4_expression_30 : decode cX4_expression 30 = .ok (.aload_n 0, 1) := by decide +kernel
theorem dX4_expression_31 : decode cX4_expression 31 = .ok (.getfield 15, 3) := by decide +kernel
theorem dX4_expression_34 : decode cX4_expression 34 = .ok (.iload_n 3, 1) := by decide +kernel
theorem dX4_expression_35 : decode cX4_expression 35 = .ok (.iconst 0, 1) := by decide +kernel
theorem dX4_expression_36 : decode cX4_expression 36 = .ok (.invokevirtual 75, 3) := by decide +kernel
theorem dX4_expression_39 : decode cX4_expression 39 = .ok (.aload_n 0, 1) := by decide +kernel
theorem dX4_expression_40 : decode cX4_expression 40 = .ok (.invokevirtual 56, 3) := by decide +kernel
theorem dX4_expression_43 : decode cX4_expression 43 = .ok (.istore 4, 2) := by decide +kernel
theorem dX4_expression_45 : decode cX4_expression 45 = .ok (.iload 4, 2) := by decide +kernel
theorem dX4_expression_47 : decode cX4_expression 47 = .ok (.bipush 42, 2) := by decide +kernel
theorem dX4_expression_49 : decode cX4_expression 49 = .ok (.if_icmp .eq 17, 3) := by decide +kernel
theorem dX4_expression_52 : decode cX4_expression 52 = .ok (.iload 4, 2) := by decide +kernel
theorem dX4_expression_54 : decode cX4_expression 54 = .ok (.bipush 47, 2) := by decide +kernel
theorem dX4_expression_56 : decode cX4_expression 56 = .ok (.if_icmp .eq 10, 3) := by decide +kernel
theorem dX4_expression_59 : decode cX4_expression 59 = .ok (.iload 4, 2) := by decide +kernel
theorem dX4_expression_61 : decode cX4_expression 61 = .ok (.bipush 37, 2) := by decide +kernel
theorem dX4_expression_63 : decode cX4_expression 63 = .ok (.if_icmp .ne 8, 3) := by decide +kernel
theorem dX4_expression_66 : decode cX4_expression 66 = .ok (.iload 4, 2) := by decide +kernel
theorem dX4_expression_68 : decode cX4_expression 68 = .ok (.goto 4, 3) := by decide +kernel
theorem dX4_expression_71 : decode cX4_expression 71 = .ok (.iconst (-1), 1) := by decide +kernel
theorem dX4_expression_72 : decode cX4_expression 72 = .ok (.istore_n 3, 1) := by decide +kernel
theorem dX4_expression_73 : decode cX4_expression 73 = .ok (.iload_n 3, 1) := by decide +kernel
theorem dX4_expression_74 : decode cX4_expression 74 = .ok (.iconst (-1), 1) := by decide +kernel
theorem dX4_expression_75 : decode cX4_expression 75 = .ok (.if_icmp .ne 45, 3) := by decide +kernel
theorem dX4_expression_78 : decode cX4_expression 78 = .ok (.iload_n 2, 1) := by decide +kernel
theorem dX4_expression_79 : decode cX4_expression 79 = .ok (.iconst (-1), 1) := by decide +kernel
theorem dX4_expression_80 : decode cX4_expression 80 = .ok (.if_icmp .eq 12, 3) := by decide +kernel
theorem dX4_expression_83 : decode cX4_expression 83 = .ok (.aload_n 0, 1) := by decide +kernel
theorem dX4_expression_84 : decode cX4_expression 84 = .ok (.getfield 15, 3) := by decide +kernel
theorem dX4_expression_87 : decode cX4_expression 87 = .ok (.iload_n 2, 1) := by decide +kernel
theorem dX4_expression_88 : decode cX4_expression 88 = .ok (.iconst 0, 1) := by decide +kernel
theorem dX4_expression_89 : decode cX4_expression 89 = .ok (.invokevirtual 75, 3) := by decide +kernel
theorem dX4_expression_92 : decode cX4_expression 92 = .ok (.iload 4, 2) := by decide +kernel
theorem dX4_expression_94 : decode cX4_expression 94 = .ok (.bipush 43, 2) := by decide +kernel
theorem dX4_expression_96 : decode cX4_expression 96 = .ok (.if_icmp .eq 10, 3) := by decide +kernel
theorem dX4_expression_99 : decode cX4_expression 99 = .ok (.iload 4, 2) := by decide +kernel
theorem dX4_expression_101 : decode cX4_expression 101 = .ok (.bipush 45, 2) := by decide +kernel
theorem dX4_expression_103 : decode cX4_expression 103 = .ok (.if_icmp .ne 8, 3) := by decide +kernel
theorem dX4_expression_106 : decode cX4_expression 106 = .ok (.iload 4, 2) := by decide +kernel
theorem dX4_expression_108 : decode cX4_expression 108 = .ok (.goto 4, 3) := by decide +kernel
theorem dX4_expression_111 : decode cX4_expression 111 = .ok (.iconst (-1), 1) := by decide +kernel
theorem dX4_expression_112 : decode cX4_expression 112 = .ok (.istore_n 2, 1) := by decide +kernel
theorem dX4_expression_113 : decode cX4_expression 113 = .ok (.iload_n 2, 1) := by decide +kernel
theorem dX4_expression_114 : decode cX4_expression 114 = .ok (.iconst (-1), 1) := by decide +kernel
theorem dX4_expression_115 : decode cX4_expression 115 = .ok (.if_icmp .ne 5, 3) := by decide +kernel
theorem dX4_expression_118 : decode cX4_expression 118 = .ok (.iconst 1, 1) := by decide +kernel
theorem dX4_expression_119 : decode cX4_expression 119 = .ok (.ireturn, 1) := by decide +kernel
theorem dX4_expression_120 : decode cX4_expression 120 = .ok (.aload_n 0, 1) := by decide +kernel
theorem dX4_expression_121 : decode cX4_expression 121 = .ok (.dup, 1) := by decide +kernel
theorem dX4_expression_122 : decode cX4_expression 122 = .ok (.getfield 23, 3) := by decide +kernel
theorem dX4_expression_125 : decode cX4_expression 125 = .ok (.iconst 1, 1) := by decide +kernel
theorem dX4_expression_126 : decode cX4_expression 126 = .ok (.iadd, 1) := by decide +kernel
theorem dX4_expression_127 : decode cX4_expression 127 = .ok (.putfield 23, 3) := by decide +kernel
theorem dX4_expression_130 : decode cX4_expression 130 = .ok (.goto (-126), 3) := by decide +kernel
theorem dX4_expression_133 : decode cX4_expression 133 = .ok (.aload_n 0, 1) := by decide +kernel
theorem dX4_expression_134 : decode cX4_expression 134 = .ok (.iconst 1, 1) := by decide +kernel
theorem dX4_expression_135 : decode cX4_expression 135 = .ok (.invokevirtual 47, 3) := by decide +kernel
theorem dX4_expression_138 : decode cX4_expression 138 = .ok (.ireturn, 1) := by decide +kernel
theorem myX4_factor : MI yX4_factor cX4_factor 4 (some FieldType.boolean) 1 := ⟨kAW (v_2_7 (List.mem_of_getElem? (i := 3) rfl)) rfl, kAW (v_0_0 (List.mem_of_getElem? (i := 8) rfl)) rfl, kAW (v_2_7 (List.mem_of_getElem? (i := 2) rfl)) rfl, kAW (tp_t0 (List.mem_of_getElem? (i := 10) rfl)) rfl, by decide, by decide, by decide +kernel⟩
set_option maxRecDepth 100000 in
set_option maxHeartbeats 4000000 in
theorem a_X4_expression_6 (l : Launch) (D : va_G) (cA : Nat → ClassId) (ad : Nat → Nat) (g0 : Nat → va_E) (op : Int32) (en : Int32) (a0 : Int32) (lw : Nat) (hSh : Shp ad cA g0) (hG : Rng g0) (hlw : isLw lw) (h_en : fld g0 79 1 = .int en) (h_a0 : fld g0 79 2 = .int a0) (h_r4 : fld g0 79 4 = .ref (ad lw)) (ah0 : 0 ≤ a0.toInt) (ah1 : a0.toInt ≤ en.toInt) (ah2 : en.toInt ≤ 240) (ok : op.toInt = 6) : CT l NN ad cA D yX4_expression cX4_expression 5 (some FieldType.boolean) (6, 135) [.ref (ad 79), .int op] g0 (fun v g' => ∃ (a9 : Int32) (r : Int32), v = some (.int r) ∧ Shp ad cA g' ∧ Rng g' ∧ FR (fun i k => (i = 79 ∧ (k = 2 ∨ k = 3)) ∨ (i = lw ∧ (k = 7)) ∨ i = (lw + 4) ∨ i = (lw + 5)) g0 g' ∧ fld g' 79 2 = .int a9 ∧ (a0.toInt ≤ a9.toInt) ∧ (a9.toInt ≤ en.toInt) ∧ (r.toInt = 0 ∨ r.toInt = 1)) := by
  refine q_enterZ (by decide) (Nat.le_of_ble_eq_true rfl) (fun K H locs ls _ _ hM hW0 hR hC hE hl => ?_)
  have hl : lv_has ls 5 [(0, .ref (ad 79)), (1, .int op)] := hl
  have hW : WS ad cA (fun i k => (i = 79 ∧ (k = 2 ∨ k = 3)) ∨ (i = lw ∧ (k = 7)) ∨ i = (lw + 4) ∨ i = (lw + 5)) g0 K g0 H locs := ⟨hW0, hSh, FR.rf⟩
  have ulw := hlw
  unfold isLw at ulw
  have b_en := hG.f h_en rF_79_1 (by decide)
  have b_a0 := hG.f h_a0 rF_79_2 (by decide)
  have f2875 : fld g0 79 2 = .int a0 := h_a0
  refine q_iconst (v := ((-1) : Int32)) hM dX4_expression_0 (by decide) ?_
  refine q_istore_n (lv9 := [(2, .int ((-1) : Int32)), (0, .ref (ad 79)), (1, .int op)]) hM dX4_expression_1 hl (by decide) rfl (fun ls hl => ?_)
  refine q_iconst (v := ((-1) : Int32)) hM dX4_expression_2 (by decide) ?_
  refine q_istore_n (lv9 := [(3, .int ((-1) : Int32)), (2, .int ((-1) : Int32)), (0, .ref (ad 79)), (1, .int op)]) hM dX4_expression_3 hl (by decide) rfl (fun ls hl => ?_)
  have L4 : ∀ (fu4 : Nat) (w4_3 : Int32) (w4_2 : Int32) (aa : Int32) (g9 : Nat → va_E) (H : Heap) (locs : List Loc) (ls : Array Slot), (en.toInt - aa.toInt + 1).toNat < fu4 → (Rng g9) → (a0.toInt ≤ aa.toInt) → (aa.toInt ≤ en.toInt) → (fld g9 79 2 = .int aa) → lv_has ls 5 [(0, .ref (ad 79)), (1, .int op), (2, .int w4_2), (3, .int w4_3)] → WS ad cA (fun i k => (i = 79 ∧ (k = 2 ∨ k = 3)) ∨ (i = lw ∧ (k = 7)) ∨ i = (lw + 4) ∨ i = (lw + 5)) g0 K g9 H locs → XX K 0 0 H locs 4 ls [] := by
    intro fu4
    induction fu4 with
    | zero => intro w4_3 w4_2 aa g9 H locs ls h0; omega
    | succ fu4 ih4 =>
      intro w4_3 w4_2 aa g9 H locs ls hm4 i4_0 i4_1 i4_2 c4_79_2 hl hW
      have hG := i4_0
      refine q_aload_n hM dX4_expression_4 (lv_at hl 0 rfl) ?_
      refine w_get (v := .int aa) hM hW FG_X4_23 lb_79 c4_79_2 dX4_expression_5 ?_
      have baa := hG.f c4_79_2 rF_79_2 (by decide)
      refine q_aload_n hM dX4_expression_8 (lv_at hl 0 rfl) ?_
      refine w_get (v := .int en) hM hW FG_X4_19 lb_79 ((hW.2.2.1 79 1 (by omega)).trans h_en) dX4_expression_9 ?_
      refine q_icmp_gt (tgt := 133) hM dX4_expression_12 (by decide) (rfl : aa.toInt = aa.toInt) (rfl : en.toInt = en.toInt) (fun h12 => ?_) (fun h12 => ?_)
      · refine q_aload_n hM dX4_expression_133 (lv_at hl 0 rfl) ?_
        refine q_iconst (v := (1 : Int32)) hM dX4_expression_134 (by decide) ?_
        refine q_callV (As := [.int (1 : Int32)]) (rest := []) hM hW.1 hR hC myX4_wrong (kAW (v_2_6 (List.mem_of_getElem? (i := 8) rfl)) rfl) (rfl : vwCl[4]? = some (RX4, TX4, 5)) rfl lb_79.1 (shO hW.2.1 lb_79) (a_X4_wrong _ _ cA ad g9 (1 : Int32) hW.2.1 hG) ⟨by decide, by decide⟩ rfl rfl hl.1 (Nat.le_of_ble_eq_true rfl) dX4_expression_135 (fun v g2879 H locs hp hW1 => ?_)
        obtain ⟨r2878, rfl, hs1, hG, hf1, hr2878⟩ := hp
        have f2880 : fld g2879 79 2 = .int aa := (hf1.1 79 2 (by omega)).trans c4_79_2
        have hW : WS ad cA (fun i k => (i = 79 ∧ (k = 2 ∨ k = 3)) ∨ (i = lw ∧ (k = 7)) ∨ i = (lw + 4) ∨ i = (lw + 5)) g0 K g2879 H locs := ⟨hW1, hs1, hW.2.2.tr hf1 (fun i k h => (Or.inl (by omega)))⟩
        exact hE _ _ _ _ _ _ hW.1 (nz_or (by omega)) ⟨aa, _, rfl, hW.2.1, hG, hW.2.2, f2880, (by omega), (by omega), (by omega)⟩ dX4_expression_138
      · refine q_aload_n hM dX4_expression_15 (lv_at hl 0 rfl) ?_
        refine q_iload_n hM dX4_expression_16 (lv_at hl 1 rfl) ?_
        refine q_callV (As := [.int op]) (rest := []) hM hW.1 hR hC myX4_factor (kAW (v_2_7 (List.mem_of_getElem? (i := 0) rfl)) rfl) (rfl : vwCl[4]? = some (RX4, TX4, 5)) rfl lb_79.1 (shO hW.2.1 lb_79) (a_X4_factor_6 _ _ cA ad g9 op en aa lw hW.2.1 hG hlw ((hW.2.2.1 79 1 (by omega)).trans h_en) c4_79_2 ((hW.2.2.1 79 4 (by omega)).trans h_r4) (by  omega) (by  omega) (by  omega) (by  omega)) ⟨by decide, by decide⟩ rfl rfl hl.1 (Nat.le_of_ble_eq_true rfl) dX4_expression_17 (fun v g2887 H locs hp hW1 => ?_)
        obtain ⟨v2882, r2883, rfl, hs1, hG, hf1, q2884, e2885, e2886, hr2883⟩ := hp
        have hW : WS ad cA (fun i k => (i = 79 ∧ (k = 2 ∨ k = 3)) ∨ (i = lw ∧ (k = 7)) ∨ i = (lw + 4) ∨ i = (lw + 5)) g0 K g2887 H locs := ⟨hW1, hs1, hW.2.2.tr hf1 (fun i k h => h.elim (fun h => (Or.inl h)) (fun h => h.elim (fun h => (Or.inr (Or.inl h))) (fun h => h.elim (fun h => (Or.inr (Or.inr (Or.inl h)))) (fun h => (Or.inr (Or.inr (Or.inr h)))))))⟩
        refine q_if_ne (tgt := 25) hM dX4_expression_20 (by decide) (rfl : r2883.toInt = r2883.toInt) (fun h20 => ?_) (fun h20 => ?_)
        · have L39 : ∀ (g9 : Nat → va_E) (H : Heap) (locs : List Loc) (ls : Array Slot), (Rng g9) → (fld g9 79 2 = .int v2882) → lv_has ls 5 [(0, .ref (ad 79)), (1, .int op), (2, .int w4_2), (3, .int w4_3)] → WS ad cA (fun i k => (i = 79 ∧ (k = 2 ∨ k = 3)) ∨ (i = lw ∧ (k = 7)) ∨ i = (lw + 4) ∨ i = (lw + 5)) g0 K g9 H locs → XX K 0 0 H locs 39 ls [] := by
            intro g9 H locs ls i39_0 c39_79_2 hl hW
            have hG := i39_0
            refine q_aload_n hM dX4_expression_39 (lv_at hl 0 rfl) ?_
            refine q_callV (As := []) (rest := []) hM hW.1 hR hC myX4_sign (kAW (v_2_0 (List.mem_of_getElem? (i := 12) rfl)) rfl) (rfl : vwCl[4]? = some (RX4, TX4, 5)) rfl lb_79.1 (shO hW.2.1 lb_79) (a_X4_sign _ _ cA ad g9 en v2882 hW.2.1 hG ((hW.2.2.1 79 1 (by omega)).trans h_en) c39_79_2 (by  omega) (by  omega) (by  omega)) ⟨by decide, by decide⟩ rfl rfl hl.1 (Nat.le_of_ble_eq_true rfl) dX4_expression_40 (fun v g2891 H locs hp hW1 => ?_)
            obtain ⟨r2890, rfl, hr2890, rfl⟩ := hp
            have hW : WS ad cA (fun i k => (i = 79 ∧ (k = 2 ∨ k = 3)) ∨ (i = lw ∧ (k = 7)) ∨ i = (lw + 4) ∨ i = (lw + 5)) g0 K g9 H locs := ⟨hW1, hW.2.1, hW.2.2⟩
            refine q_istore (lv9 := [(4, .int r2890), (0, .ref (ad 79)), (1, .int op), (2, .int w4_2), (3, .int w4_3)]) hM dX4_expression_43 hl (by decide) rfl (fun ls hl => ?_)
            have L73 : ∀ (p73 : Int32) (g9 : Nat → va_E) (H : Heap) (locs : List Loc) (ls : Array Slot), (Rng g9) → (p73.toInt = -1 ∨ 0 ≤ r2890.toInt) → (fld g9 79 2 = .int v2882) → lv_has ls 5 [(0, .ref (ad 79)), (1, .int op), (2, .int w4_2), (3, .int p73), (4, .int r2890)] → WS ad cA (fun i k => (i = 79 ∧ (k = 2 ∨ k = 3)) ∨ (i = lw ∧ (k = 7)) ∨ i = (lw + 4) ∨ i = (lw + 5)) g0 K g9 H locs → XX K 0 0 H locs 73 ls [] := by
              intro p73 g9 H locs ls i73_0 i73_1 c73_79_2 hl hW
              have hG := i73_0
              refine q_iload_n hM dX4_expression_73 (lv_at hl 3 rfl) ?_
              refine q_iconst (v := ((-1) : Int32)) hM dX4_expression_74 (by decide) ?_
              refine q_icmp_ne (tgt := 120) hM dX4_expression_75 (by decide) (rfl : p73.toInt = p73.toInt) (kc_m1 : ((-1) : Int32).toInt = (-1)) (fun h75 => ?_) (fun h75 => ?_)
              · refine q_aload_n hM dX4_expression_120 (lv_at hl 0 rfl) ?_
                refine q_dup hM dX4_expression_121 rfl ?_
                refine w_get (v := .int v2882) hM hW FG_X4_23 lb_79 c73_79_2 dX4_expression_122 ?_
                have bv2882 := hG.f c73_79_2 rF_79_2 (by decide)
                refine q_iconst (v := (1 : Int32)) hM dX4_expression_125 (by decide) ?_
                refine q_iadd hM dX4_expression_126 (fun z2894 hz2894 => ?_)
                first | have tz2894 := i_addT hz2894 (rfl : v2882.toInt = v2882.toInt) (kc_1 : (1 : Int32).toInt = 1) (by omega) (by omega) | skip
                refine w_put hM hW FP_X4_23 lb_79 (by omega) (Or.inl ⟨_, rfl⟩) rfl rfl dX4_expression_127 (fun g2895 H locs hW e1 e2 => ?_)
                have f2896 : fld g2895 79 2 = .int z2894 := e1
                have hG := hG.put e1 e2 rF_79_2 (by decide) (by have := i_rng z2894; omega) (by have := i_rng z2894; omega)
                refine q_goto (tgt := 4) hM dX4_expression_130 (by decide) ?_
                exact ih4 p73 w4_2 z2894 _ _ _ _ (by omega) hG (by omega) (by omega) f2896 (lv_sub hl [0, 1, 2, 3] rfl) hW
              · have L92 : ∀ (g9 : Nat → va_E) (H : Heap) (locs : List Loc) (ls : Array Slot), (Rng g9) → (fld g9 79 2 = .int v2882) → lv_has ls 5 [(0, .ref (ad 79)), (1, .int op), (2, .int w4_2), (3, .int p73), (4, .int r2890)] → WS ad cA (fun i k => (i = 79 ∧ (k = 2 ∨ k = 3)) ∨ (i = lw ∧ (k = 7)) ∨ i = (lw + 4) ∨ i = (lw + 5)) g0 K g9 H locs → XX K 0 0 H locs 92 ls [] := by
                  intro g9 H locs ls i92_0 c92_79_2 hl hW
                  have hG := i92_0
                  refine q_iload hM dX4_expression_92 (lv_at hl 4 rfl) ?_
                  refine q_bipush (v := (43 : Int32)) hM dX4_expression_94 (by decide) ?_
                  refine q_icmp_eq (tgt := 106) hM dX4_expression_96 (by decide) (rfl : r2890.toInt = r2890.toInt) (kc_43 : (43 : Int32).toInt = 43) (fun h96 => ?_) (fun h96 => ?_)
                  · refine q_iload hM dX4_expression_106 (lv_at hl 4 rfl) ?_
                    refine q_goto (tgt := 112) hM dX4_expression_108 (by decide) ?_
                    refine q_istore_n (lv9 := [(2, .int r2890), (0, .ref (ad 79)), (1, .int op), (3, .int p73), (4, .int r2890)]) hM dX4_expression_112 hl (by decide) rfl (fun ls hl => ?_)
                    refine q_iload_n hM dX4_expression_113 (lv_at hl 0 rfl) ?_
                    refine q_iconst (v := ((-1) : Int32)) hM dX4_expression_114 (by decide) ?_
                    refine q_icmp_ne (tgt := 120) hM dX4_expression_115 (by decide) (rfl : r2890.toInt = r2890.toInt) (kc_m1 : ((-1) : Int32).toInt = (-1)) (fun h115 => ?_) (fun h115 => ?_)
                    · refine q_aload_n hM dX4_expression_120 (lv_at hl 1 rfl) ?_
                      refine q_dup hM dX4_expression_121 rfl ?_
                      refine w_get (v := .int v2882) hM hW FG_X4_23 lb_79 c92_79_2 dX4_expression_122 ?_
                      have bv2882 := hG.f c92_79_2 rF_79_2 (by decide)
                      refine q_iconst (v := (1 : Int32)) hM dX4_expression_125 (by decide) ?_
                      refine q_iadd hM dX4_expression_126 (fun z2901 hz2901 => ?_)
                      first | have tz2901 := i_addT hz2901 (rfl : v2882.toInt = v2882.toInt) (kc_1 : (1 : Int32).toInt = 1) (by omega) (by omega) | skip
                      refine w_put hM hW FP_X4_23 lb_79 (by omega) (Or.inl ⟨_, rfl⟩) rfl rfl dX4_expression_127 (fun g2902 H locs hW e1 e2 => ?_)
                      have f2903 : fld g2902 79 2 = .int z2901 := e1
                      have hG := hG.put e1 e2 rF_79_2 (by decide) (by have := i_rng z2901; omega) (by have := i_rng z2901; omega)
                      refine q_goto (tgt := 4) hM dX4_expression_130 (by decide) ?_
                      exact ih4 p73 r2890 z2901 _ _ _ _ (by omega) hG (by omega) (by omega) f2903 (lv_sub hl [1, 2, 0, 3] rfl) hW
                    · refine q_iconst (v := (1 : Int32)) hM dX4_expression_118 (by decide) ?_
                      exact hE _ _ _ _ _ _ hW.1 nz_1 ⟨v2882, _, rfl, hW.2.1, hG, hW.2.2, c92_79_2, (by have := kc_1; omega), (by have := kc_1; omega), (by have := kc_1; omega)⟩ dX4_expression_119
                  · refine q_iload hM dX4_expression_99 (lv_at hl 4 rfl) ?_
                    refine q_bipush (v := (45 : Int32)) hM dX4_expression_101 (by decide) ?_
                    refine q_icmp_ne (tgt := 111) hM dX4_expression_103 (by decide) (rfl : r2890.toInt = r2890.toInt) (kc_45 : (45 : Int32).toInt = 45) (fun h103 => ?_) (fun h103 => ?_)
                    · refine q_iconst (v := ((-1) : Int32)) hM dX4_expression_111 (by decide) ?_
                      refine q_istore_n (lv9 := [(2, .int ((-1) : Int32)), (0, .ref (ad 79)), (1, .int op), (3, .int p73), (4, .int r2890)]) hM dX4_expression_112 hl (by decide) rfl (fun ls hl => ?_)
                      refine q_iload_n hM dX4_expression_113 (lv_at hl 0 rfl) ?_
                      refine q_iconst (v := ((-1) : Int32)) hM dX4_expression_114 (by decide) ?_
                      refine q_icmp_ne (tgt := 120) hM dX4_expression_115 (by decide) (kc_m1 : ((-1) : Int32).toInt = (-1)) (kc_m1 : ((-1) : Int32).toInt = (-1)) (fun h115 => ?_) (fun h115 => ?_)
                      · omega
                      · refine q_iconst (v := (1 : Int32)) hM dX4_expression_118 (by decide) ?_
                        exact hE _ _ _ _ _ _ hW.1 nz_1 ⟨v2882, _, rfl, hW.2.1, hG, hW.2.2, c92_79_2, (by have := kc_1; omega), (by have := kc_1; omega), (by have := kc_1; omega)⟩ dX4_expression_119
                    · refine q_iload hM dX4_expression_106 (lv_at hl 4 rfl) ?_
                      refine q_goto (tgt := 112) hM dX4_expression_108 (by decide) ?_
                      refine q_istore_n (lv9 := [(2, .int r2890), (0, .ref (ad 79)), (1, .int op), (3, .int p73), (4, .int r2890)]) hM dX4_expression_112 hl (by decide) rfl (fun ls hl => ?_)
                      refine q_iload_n hM dX4_expression_113 (lv_at hl 0 rfl) ?_
                      refine q_iconst (v := ((-1) : Int32)) hM dX4_expression_114 (by decide) ?_
                      refine q_icmp_ne (tgt := 120) hM dX4_expression_115 (by decide) (rfl : r2890.toInt = r2890.toInt) (kc_m1 : ((-1) : Int32).toInt = (-1)) (fun h115 => ?_) (fun h115 => ?_)
                      · refine q_aload_n hM dX4_expression_120 (lv_at hl 1 rfl) ?_
                        refine q_dup hM dX4_expression_121 rfl ?_
                        refine w_get (v := .int v2882) hM hW FG_X4_23 lb_79 c92_79_2 dX4_expression_122 ?_
                        have bv2882 := hG.f c92_79_2 rF_79_2 (by decide)
                        refine q_iconst (v := (1 : Int32)) hM dX4_expression_125 (by decide) ?_
                        refine q_iadd hM dX4_expression_126 (fun z2911 hz2911 => ?_)
                        first | have tz2911 := i_addT hz2911 (rfl : v2882.toInt = v2882.toInt) (kc_1 : (1 : Int32).toInt = 1) (by omega) (by omega) | skip
                        refine w_put hM hW FP_X4_23 lb_79 (by omega) (Or.inl ⟨_, rfl⟩) rfl rfl dX4_expression_127 (fun g2912 H locs hW e1 e2 => ?_)
                        have f2913 : fld g2912 79 2 = .int z2911 := e1
                        have hG := hG.put e1 e2 rF_79_2 (by decide) (by have := i_rng z2911; omega) (by have := i_rng z2911; omega)
                        refine q_goto (tgt := 4) hM dX4_expression_130 (by decide) ?_
                        exact ih4 p73 r2890 z2911 _ _ _ _ (by omega) hG (by omega) (by omega) f2913 (lv_sub hl [1, 2, 0, 3] rfl) hW
                      · refine q_iconst (v := (1 : Int32)) hM dX4_expression_118 (by decide) ?_
                        exact hE _ _ _ _ _ _ hW.1 nz_1 ⟨v2882, _, rfl, hW.2.1, hG, hW.2.2, c92_79_2, (by have := kc_1; omega), (by have := kc_1; omega), (by have := kc_1; omega)⟩ dX4_expression_119
                refine q_iload_n hM dX4_expression_78 (lv_at hl 2 rfl) ?_
                refine q_iconst (v := ((-1) : Int32)) hM dX4_expression_79 (by decide) ?_
                refine q_icmp_eq (tgt := 92) hM dX4_expression_80 (by decide) (rfl : w4_2.toInt = w4_2.toInt) (kc_m1 : ((-1) : Int32).toInt = (-1)) (fun h80 => ?_) (fun h80 => ?_)
                · exact L92  _ _ _ _ hG c73_79_2 (lv_sub hl [0, 1, 2, 3, 4] rfl) hW
                · refine q_aload_n hM dX4_expression_83 (lv_at hl 0 rfl) ?_
                  refine w_get (v := .ref (ad lw)) hM hW FG_X4_15 lb_79 ((hW.2.2.1 79 4 (by omega)).trans h_r4) dX4_expression_84 ?_
                  refine q_iload_n hM dX4_expression_87 (lv_at hl 2 rfl) ?_
                  refine q_iconst (v := (0 : Int32)) hM dX4_expression_88 (by decide) ?_
                  refine q_callV (As := [.int w4_2, .int (0 : Int32)]) (rest := []) hM hW.1 hR hC myX3_add (kAW (v_2_7 (List.mem_of_getElem? (i := 13) rfl)) rfl) (rfl : vwCl[3]? = some (RX3, TX3, 8)) rfl (lo_Lw hlw).1 (shO hW.2.1 (lo_Lw hlw)) (a_X3_add _ _ cA ad g9 lw w4_2 (0 : Int32) hW.2.1 hG hlw (by have := kc_0; omega) (by have := kc_0; omega)) ⟨by decide, by decide⟩ rfl rfl hl.1 (Nat.le_of_ble_eq_true rfl) dX4_expression_89 (fun v g2917 H locs hp hW1 => ?_)
                  obtain ⟨rfl, hs1, hG, hf1⟩ := hp
                  have f2918 : fld g2917 79 2 = .int v2882 := (hf1.1 79 2 (by omega)).trans c73_79_2
                  have hW : WS ad cA (fun i k => (i = 79 ∧ (k = 2 ∨ k = 3)) ∨ (i = lw ∧ (k = 7)) ∨ i = (lw + 4) ∨ i = (lw + 5)) g0 K g2917 H locs := ⟨hW1, hs1, hW.2.2.tr hf1 (fun i k h => h.elim (fun h => (Or.inr (Or.inl h))) (fun h => h.elim (fun h => (Or.inr (Or.inr (Or.inl h)))) (fun h => (Or.inr (Or.inr (Or.inr h))))))⟩
                  exact L92  _ _ _ _ hG f2918 (lv_sub hl [0, 1, 2, 3, 4] rfl) hW
            refine q_iload hM dX4_expression_45 (lv_at hl 0 rfl) ?_
            refine q_bipush (v := (42 : Int32)) hM dX4_expression_47 (by decide) ?_
            refine q_icmp_eq (tgt := 66) hM dX4_expression_49 (by decide) (rfl : r2890.toInt = r2890.toInt) (kc_42 : (42 : Int32).toInt = 42) (fun h49 => ?_) (fun h49 => ?_)
            · refine q_iload hM dX4_expression_66 (lv_at hl 0 rfl) ?_
              refine q_goto (tgt := 72) hM dX4_expression_68 (by decide) ?_
              refine q_istore_n (lv9 := [(3, .int r2890), (4, .int r2890), (0, .ref (ad 79)), (1, .int op), (2, .int w4_2)]) hM dX4_expression_72 hl (by decide) rfl (fun ls hl => ?_)
              exact L73 r2890 _ _ _ _ hG (by omega) c39_79_2 (lv_sub hl [2, 3, 4, 0, 1] rfl) hW
            · refine q_iload hM dX4_expression_52 (lv_at hl 0 rfl) ?_
              refine q_bipush (v := (47 : Int32)) hM dX4_expression_54 (by decide) ?_
              refine q_icmp_eq (tgt := 66) hM dX4_expression_56 (by decide) (rfl : r2890.toInt = r2890.toInt) (kc_47 : (47 : Int32).toInt = 47) (fun h56 => ?_) (fun h56 => ?_)
              · refine q_iload hM dX4_expression_66 (lv_at hl 0 rfl) ?_
                refine q_goto (tgt := 72) hM dX4_expression_68 (by decide) ?_
                refine q_istore_n (lv9 := [(3, .int r2890), (4, .int r2890), (0, .ref (ad 79)), (1, .int op), (2, .int w4_2)]) hM dX4_expression_72 hl (by decide) rfl (fun ls hl => ?_)
                exact L73 r2890 _ _ _ _ hG (by omega) c39_79_2 (lv_sub hl [2, 3, 4, 0, 1] rfl) hW
              · refine q_iload hM dX4_expression_59 (lv_at hl 0 rfl) ?_
                refine q_bipush (v := (37 : Int32)) hM dX4_expression_61 (by decide) ?_
                refine q_icmp_ne (tgt := 71) hM dX4_expression_63 (by decide) (rfl : r2890.toInt = r2890.toInt) (kc_37 : (37 : Int32).toInt = 37) (fun h63 => ?_) (fun h63 => ?_)
                · refine q_iconst (v := ((-1) : Int32)) hM dX4_expression_71 (by decide) ?_
                  refine q_istore_n (lv9 := [(3, .int ((-1) : Int32)), (4, .int r2890), (0, .ref (ad 79)), (1, .int op), (2, .int w4_2)]) hM dX4_expression_72 hl (by decide) rfl (fun ls hl => ?_)
                  have := kc_m1
                  exact L73 ((-1) : Int32) _ _ _ _ hG (by omega) c39_79_2 (lv_sub hl [2, 3, 4, 0, 1] rfl) hW
                · refine q_iload hM dX4_expression_66 (lv_at hl 0 rfl) ?_
                  refine q_goto (tgt := 72) hM dX4_expression_68 (by decide) ?_
                  refine q_istore_n (lv9 := [(3, .int r2890), (4, .int r2890), (0, .ref (ad 79)), (1, .int op), (2, .int w4_2)]) hM dX4_expression_72 hl (by decide) rfl (fun ls hl => ?_)
                  exact L73 r2890 _ _ _ _ hG (by omega) c39_79_2 (lv_sub hl [2, 3, 4, 0, 1] rfl) hW
          refine q_iload_n hM dX4_expression_25 (lv_at hl 3 rfl) ?_
          refine q_iconst (v := ((-1) : Int32)) hM dX4_expression_26 (by decide) ?_
          refine q_icmp_eq (tgt := 39) hM dX4_expression_27 (by decide) (rfl : w4_3.toInt = w4_3.toInt) (kc_m1 : ((-1) : Int32).toInt = (-1)) (fun h27 => ?_) (fun h27 => ?_)
          · exact L39  _ _ _ _ hG q2884 (lv_sub hl [0, 1, 2, 3] rfl) hW
          · refine q_aload_n hM dX4_expression_30 (lv_at hl 0 rfl) ?_
            refine w_get (v := .ref (ad lw)) hM hW FG_X4_15 lb_79 ((hW.2.2.1 79 4 (by omega)).trans h_r4) dX4_expression_31 ?_
            refine q_iload_n hM dX4_expression_34 (lv_at hl 3 rfl) ?_
            refine q_iconst (v := (0 : Int32)) hM dX4_expression_35 (by decide) ?_
            refine q_callV (As := [.int w4_3, .int (0 : Int32)]) (rest := []) hM hW.1 hR hC myX3_add (kAW (v_2_7 (List.mem_of_getElem? (i := 13) rfl)) rfl) (rfl : vwCl[3]? = some (RX3, TX3, 8)) rfl (lo_Lw hlw).1 (shO hW.2.1 (lo_Lw hlw)) (a_X3_add _ _ cA ad g2887 lw w4_3 (0 : Int32) hW.2.1 hG hlw (by have := kc_0; omega) (by have := kc_0; omega)) ⟨by decide, by decide⟩ rfl rfl hl.1 (Nat.le_of_ble_eq_true rfl) dX4_expression_36 (fun v g2927 H locs hp hW1 => ?_)
            obtain ⟨rfl, hs1, hG, hf1⟩ := hp
            have f2928 : fld g2927 79 2 = .int v2882 := (hf1.1 79 2 (by omega)).trans q2884
            have hW : WS ad cA (fun i k => (i = 79 ∧ (k = 2 ∨ k = 3)) ∨ (i = lw ∧ (k = 7)) ∨ i = (lw + 4) ∨ i = (lw + 5)) g0 K g2927 H locs := ⟨hW1, hs1, hW.2.2.tr hf1 (fun i k h => h.elim (fun h => (Or.inr (Or.inl h))) (fun h => h.elim (fun h => (Or.inr (Or.inr (Or.inl h)))) (fun h => (Or.inr (Or.inr (Or.inr h))))))⟩
            exact L39  _ _ _ _ hG f2928 (lv_sub hl [0, 1, 2, 3] rfl) hW
        · refine q_iconst (v := (0 : Int32)) hM dX4_expression_23 (by decide) ?_
          exact hE _ _ _ _ _ _ hW.1 nz_0 ⟨v2882, _, rfl, hW.2.1, hG, hW.2.2, q2884, (by have := kc_0; omega), (by have := kc_0; omega), (by have := kc_0; omega)⟩ dX4_expression_24
  have := kc_m1
  have := kc_m1
  exact L4 _ ((-1) : Int32) ((-1) : Int32) a0 _ _ _ _ (Nat.lt_succ_self _) hG (by omega) (by omega) f2875 (lv_sub hl [2, 3, 1, 0] rfl) hW

theorem dX4_test_0 : decode cX4_test 0 = .ok (.aload_n 0, 1) := by decide +kernel
theorem dX4_test_1 : decode cX4_test 1 = .ok (.invokevirtual 56, 3) := by decide +kernel
theorem dX4_test_4 : decode cX4_test 4 = .ok (.istore_n 2, 1) := by decide +kernel
theorem dX4_test_5 : decode cX4_test 5 = .ok (.iload_n 2, 1) := by decide +kernel
theorem dX4_test_6 : decode cX4_test 6 = .ok (.bipush 33, 2) := by decide +kernel
theorem dX4_test_8 : decode cX4_test 8 = .ok (.if_icmp .eq 9, 3) := by decide +kernel
theorem dX4_test_11 : decode cX4_test 11 = .ok (.iload_n 2, 1) := by decide +kernel
theorem dX4_test_12 : decode cX4_test 12 = .ok (.bipush 40, 2) := by decide +kernel
theorem dX4_test_14 : decode cX4_test 14 = .ok (.if_icmp .ne 79, 3) := by decide +kernel
theorem dX4_test_17 : decode cX4_test 17 = .ok (.iload_n 1, 1) := by decide +kernel
theorem dX4_test_18 : decode cX4_test 18 = .ok (.bipush 6, 2) := by decide +kernel
theorem dX4_test_20 : decode cX4_test 20 = .ok (.if_icmp .lt 9, 3) := by decide +kernel
theorem dX4_test_23 : decode cX4_test 23 = .ok (.aload_n 0, 1) := by decide +kernel
theorem dX4_test_24 : decode cX4_test 24 = .ok (.iconst 5, 1) := by decide +kernel
theorem dX4_test_25 : decode cX4_test 25 = .ok (.invokevirtual 47, 3) := by decide +kernel
theorem dX4_test_28 : decode cX4_test 28 = .ok (.ireturn, 1) := by decide +kernel
theorem dX4_test_93 : decode cX4_test 93 = .ok (.aload_n 0, 1) := by decide +kernel
theorem dX4_test_94 : decode cX4_test 94 = .ok (.iload_n 1, 1) := by decide +kernel
theorem dX4_test_95 : decode cX4_test 95 = .ok (.invokevirtual 72, 3) := by decide +kernel
theorem dX4_test_98 : decode cX4_test 98 = .ok (.ifCond .ne 5, 3) := by decide +kernel
theorem dX4_test_101 : decode cX4_test 101 = .ok (.iconst 0, 1) := by decide +kernel
theorem dX4_test_102 : decode cX4_test 102 = .ok (.ireturn, 1) := by decide +kernel
theorem dX4_test_103 : decode cX4_test 103 = .ok (.aload_n 0, 1) := by decide +kernel
theorem dX4_test_104 : decode cX4_test 104 = .ok (.invokevirtual 56, 3) := by decide +kernel
theorem dX4_test_107 : decode cX4_test 107 = .ok (.istore_n 2, 1) := by decide +kernel
theorem dX4_test_108 : decode cX4_test 108 = .ok (.iload_n 2, 1) := by decide +kernel
theorem dX4_test_109 : decode cX4_test 109 = .ok (.bipush 60, 2) := by decide +kernel
theorem dX4_test_111 : decode cX4_test 111 = .ok (.if_icmp .eq 21, 3) := by decide +kernel
theorem dX4_test_114 : decode cX4_test 114 = .ok (.iload_n 2, 1) := by decide +kernel
theorem dX4_test_115 : decode cX4_test 115 = .ok (.bipush 62, 2) := by decide +kernel
theorem dX4_test_117 : decode cX4_test 117 = .ok (.if_icmp .eq 15, 3) := by decide +kernel
theorem dX4_test_120 : decode cX4_test 120 = .ok (.iload_n 2, 1) := by decide +kernel
theorem dX4_test_121 : decode cX4_test 121 = .ok (.bipush 61, 2) := by decide +kernel
theorem dX4_test_123 : decode cX4_test 123 = .ok (.if_icmp .eq 9, 3) := by decide +kernel
theorem dX4_test_126 : decode cX4_test 126 = .ok (.aload_n 0, 1) := by decide +kernel
theorem dX4_test_127 : decode cX4_test 127 = .ok (.iconst 1, 1) := by decide +kernel
theorem dX4_test_128 : decode cX4_test 128 = .ok (.invokevirtual 47, 3) := by decide +kernel
theorem dX4_test_131 : decode cX4_test 131 = .ok (.ireturn, 1) := by decide +kernel
theorem dX4_test_132 : decode cX4_test 132 = .ok (.aload_n 0, 1) := by decide +kernel
theorem dX4_test_133 : decode cX4_test 133 = .ok (.dup, 1) := by decide +kernel
theorem dX4_test_134 : decode cX4_test 134 = .ok (.getfield 23, 3) := by decide +kernel
theorem dX4_test_137 : decode cX4_test 137 = .ok (.iconst 1, 1) := by decide +kernel
theorem dX4_test_138 : decode cX4_test 138 = .ok (.iadd, 1) := by decide +kernel
theorem dX4_test_139 : decode cX4_test 139 = .ok (.putfield 23, 3) := by decide +kernel
theorem dX4_test_142 : decode cX4_test 142 = .ok (.aload_n 0, 1) := by decide +kernel
theorem dX4_test_143 : decode cX4_test 143 = .ok (.iload_n 1, 1) := by decide +kernel
theorem dX4_test_144 : decode cX4_test 144 = .ok (.invokevirtual 72, 3) := by decide +kernel
theorem dX4_test_147 : decode cX4_test 147 = .ok (.ifCond .ne 5, 3) := by decide +kernel
theorem dX4_test_150 : decode cX4_test 150 = .ok (.iconst 0, 1) := by decide +kernel
theorem dX4_test_151 : decode cX4_test 151 = .ok (.ireturn, 1) := by decide +kernel
theorem dX4_test_152 : decode cX4_test 152 = .ok (.aload_n 0, 1) := by decide +kernel
theorem dX4_test_153 : decode cX4_test 153 = .ok (.getfield 15, 3) := by decide +kernel
theorem dX4_test_156 : decode cX4_test 156 = .ok (.iload_n 2, 1) := by decide +kernel
theorem dX4_test_157 : decode cX4_test 157 = .ok (.iconst 0, 1) := by decide +kernel
theorem dX4_test_158 : decode cX4_test 158 = .ok (.invokevirtual 75, 3) := by decide +kernel
theorem dX4_test_161 : decode cX4_test 161 = .ok (.iconst 1, 1) := by decide +kernel
theorem dX4_test_162 : decode cX4_test 162 = .ok (.ireturn, 1) := by decide +kernel
theorem myX4_expression : MI yX4_expression cX4_expression 5 (some FieldType.boolean) 1 := ⟨kAW (v_2_6 (List.mem_of_getElem? (i := 15) rfl)) rfl, kAW (v_0_0 (List.mem_of_getElem? (i := 8) rfl)) rfl, kAW (v_2_6 (List.mem_of_getElem? (i := 14) rfl)) rfl, kAW (tp_t0 (List.mem_of_getElem? (i := 9) rfl)) rfl, by decide, by decide, by decide +kernel⟩
set_option maxRecDepth 100000 in
set_option maxHeartbeats 4000000 in
theorem a_X4_test_6 (l : Launch) (D : va_G) (cA : Nat → ClassId) (ad : Nat → Nat) (g0 : Nat → va_E) (op : Int32) (en : Int32) (a0 : Int32) (lw : Nat) (hSh : Shp ad cA g0) (hG : Rng g0) (hlw : isLw lw) (h_en : fld g0 79 1 = .int en) (h_a0 : fld g0 79 2 = .int a0) (h_r4 : fld g0 79 4 = .ref (ad lw)) (ah0 : 0 ≤ a0.toInt) (ah1 : a0.toInt ≤ en.toInt) (ah2 : en.toInt ≤ 240) (ok : op.toInt = 6) : CT l NN ad cA D yX4_test cX4_test 3 (some FieldType.boolean) (7, 159) [.ref (ad 79), .int op] g0 (fun v g' => ∃ (a9 : Int32) (r : Int32), v = some (.int r) ∧ Shp ad cA g' ∧ Rng g' ∧ FR (fun i k => (i = 79 ∧ (k = 2 ∨ k = 3)) ∨ (i = lw ∧ (k = 7)) ∨ i = (lw + 4) ∨ i = (lw + 5)) g0 g' ∧ fld g' 79 2 = .int a9 ∧ (a0.toInt ≤ a9.toInt) ∧ (a9.toInt ≤ en.toInt) ∧ (r.toInt = 0 ∨ r.toInt = 1)) := by
  refine q_enterZ (by decide) (Nat.le_of_ble_eq_true rfl) (fun K H locs ls _ _ hM hW0 hR hC hE hl => ?_)
  have hl : lv_has ls 3 [(0, .ref (ad 79)), (1, .int op)] := hl
  have hW : WS ad cA (fun i k => (i = 79 ∧ (k = 2 ∨ k = 3)) ∨ (i = lw ∧ (k = 7)) ∨ i = (lw + 4) ∨ i = (lw + 5)) g0 K g0 H locs := ⟨hW0, hSh, FR.rf⟩
  have ulw := hlw
  unfold isLw at ulw
  have b_en := hG.f h_en rF_79_1 (by decide)
  have b_a0 := hG.f h_a0 rF_79_2 (by decide)
  have f2930 : fld g0 79 2 = .int a0 := h_a0
  refine q_aload_n hM dX4_test_0 (lv_at hl 0 rfl) ?_
  refine q_callV (As := []) (rest := []) hM hW.1 hR hC myX4_sign (kAW (v_2_0 (List.mem_of_getElem? (i := 12) rfl)) rfl) (rfl : vwCl[4]? = some (RX4, TX4, 5)) rfl lb_79.1 (shO hW.2.1 lb_79) (a_X4_sign _ _ cA ad g0 en a0 hW.2.1 hG ((hW.2.2.1 79 1 (by omega)).trans h_en) f2930 (by  omega) (by  omega) (by  omega)) ⟨by decide, by decide⟩ rfl rfl hl.1 (Nat.le_of_ble_eq_true rfl) dX4_test_1 (fun v g2932 H locs hp hW1 => ?_)
  obtain ⟨r2931, rfl, hr2931, rfl⟩ := hp
  have hW : WS ad cA (fun i k => (i = 79 ∧ (k = 2 ∨ k = 3)) ∨ (i = lw ∧ (k = 7)) ∨ i = (lw + 4) ∨ i = (lw + 5)) g0 K g0 H locs := ⟨hW1, hW.2.1, hW.2.2⟩
  refine q_istore_n (lv9 := [(2, .int r2931), (0, .ref (ad 79)), (1, .int op)]) hM dX4_test_4 hl (by decide) rfl (fun ls hl => ?_)
  have L17 : ∀ (g9 : Nat → va_E) (H : Heap) (locs : List Loc) (ls : Array Slot), (Rng g9) → (r2931.toInt = 33 ∨ r2931.toInt = 40) → (fld g9 79 2 = .int a0) → lv_has ls 3 [(0, .ref (ad 79)), (1, .int op), (2, .int r2931)] → WS ad cA (fun i k => (i = 79 ∧ (k = 2 ∨ k = 3)) ∨ (i = lw ∧ (k = 7)) ∨ i = (lw + 4) ∨ i = (lw + 5)) g0 K g9 H locs → XX K 0 0 H locs 17 ls [] := by
    intro g9 H locs ls i17_0 i17_1 c17_79_2 hl hW
    have hG := i17_0
    refine q_iload_n hM dX4_test_17 (lv_at hl 1 rfl) ?_
    refine q_bipush (v := (6 : Int32)) hM dX4_test_18 (by decide) ?_
    refine q_icmp_lt (tgt := 29) hM dX4_test_20 (by decide) (rfl : op.toInt = op.toInt) (kc_6 : (6 : Int32).toInt = 6) (fun h20 => ?_) (fun h20 => ?_)
    · omega
    · refine q_aload_n hM dX4_test_23 (lv_at hl 0 rfl) ?_
      refine q_iconst (v := (5 : Int32)) hM dX4_test_24 (by decide) ?_
      refine q_callV (As := [.int (5 : Int32)]) (rest := []) hM hW.1 hR hC myX4_wrong (kAW (v_2_6 (List.mem_of_getElem? (i := 8) rfl)) rfl) (rfl : vwCl[4]? = some (RX4, TX4, 5)) rfl lb_79.1 (shO hW.2.1 lb_79) (a_X4_wrong _ _ cA ad g9 (5 : Int32) hW.2.1 hG) ⟨by decide, by decide⟩ rfl rfl hl.1 (Nat.le_of_ble_eq_true rfl) dX4_test_25 (fun v g2937 H locs hp hW1 => ?_)
      obtain ⟨r2936, rfl, hs1, hG, hf1, hr2936⟩ := hp
      have f2938 : fld g2937 79 2 = .int a0 := (hf1.1 79 2 (by omega)).trans c17_79_2
      have hW : WS ad cA (fun i k => (i = 79 ∧ (k = 2 ∨ k = 3)) ∨ (i = lw ∧ (k = 7)) ∨ i = (lw + 4) ∨ i = (lw + 5)) g0 K g2937 H locs := ⟨hW1, hs1, hW.2.2.tr hf1 (fun i k h => (Or.inl (by omega)))⟩
      exact hE _ _ _ _ _ _ hW.1 (nz_or (by omega)) ⟨a0, _, rfl, hW.2.1, hG, hW.2.2, f2938, (by omega), (by omega), (by omega)⟩ dX4_test_28
  refine q_iload_n hM dX4_test_5 (lv_at hl 0 rfl) ?_
  refine q_bipush (v := (33 : Int32)) hM dX4_test_6 (by decide) ?_
  refine q_icmp_eq (tgt := 17) hM dX4_test_8 (by decide) (rfl : r2931.toInt = r2931.toInt) (kc_33 : (33 : Int32).toInt = 33) (fun h8 => ?_) (fun h8 => ?_)
  · exact L17  _ _ _ _ hG (by omega) f2930 (lv_sub hl [1, 2, 0] rfl) hW
  · refine q_iload_n hM dX4_test_11 (lv_at hl 0 rfl) ?_
    refine q_bipush (v := (40 : Int32)) hM dX4_test_12 (by decide) ?_
    refine q_icmp_ne (tgt := 93) hM dX4_test_14 (by decide) (rfl : r2931.toInt = r2931.toInt) (kc_40 : (40 : Int32).toInt = 40) (fun h14 => ?_) (fun h14 => ?_)
    · refine q_aload_n hM dX4_test_93 (lv_at hl 1 rfl) ?_
      refine q_iload_n hM dX4_test_94 (lv_at hl 2 rfl) ?_
      refine q_callV (As := [.int op]) (rest := []) hM hW.1 hR hC myX4_expression (kAW (v_2_6 (List.mem_of_getElem? (i := 12) rfl)) rfl) (rfl : vwCl[4]? = some (RX4, TX4, 5)) rfl lb_79.1 (shO hW.2.1 lb_79) (a_X4_expression_6 _ _ cA ad g0 op en a0 lw hW.2.1 hG hlw ((hW.2.2.1 79 1 (by omega)).trans h_en) f2930 ((hW.2.2.1 79 4 (by omega)).trans h_r4) (by  omega) (by  omega) (by  omega) (by  omega)) ⟨by decide, by decide⟩ rfl rfl hl.1 (Nat.le_of_ble_eq_true rfl) dX4_test_95 (fun v g2947 H locs hp hW1 => ?_)
      obtain ⟨v2942, r2943, rfl, hs1, hG, hf1, q2944, e2945, e2946, hr2943⟩ := hp
      have hW : WS ad cA (fun i k => (i = 79 ∧ (k = 2 ∨ k = 3)) ∨ (i = lw ∧ (k = 7)) ∨ i = (lw + 4) ∨ i = (lw + 5)) g0 K g2947 H locs := ⟨hW1, hs1, hW.2.2.tr hf1 (fun i k h => h.elim (fun h => (Or.inl h)) (fun h => h.elim (fun h => (Or.inr (Or.inl h))) (fun h => h.elim (fun h => (Or.inr (Or.inr (Or.inl h)))) (fun h => (Or.inr (Or.inr (Or.inr h)))))))⟩
      refine q_if_ne (tgt := 103) hM dX4_test_98 (by decide) (rfl : r2943.toInt = r2943.toInt) (fun h98 => ?_) (fun h98 => ?_)
      · refine q_aload_n hM dX4_test_103 (lv_at hl 1 rfl) ?_
        refine q_callV (As := []) (rest := []) hM hW.1 hR hC myX4_sign (kAW (v_2_0 (List.mem_of_getElem? (i := 12) rfl)) rfl) (rfl : vwCl[4]? = some (RX4, TX4, 5)) rfl lb_79.1 (shO hW.2.1 lb_79) (a_X4_sign _ _ cA ad g2947 en v2942 hW.2.1 hG ((hW.2.2.1 79 1 (by omega)).trans h_en) q2944 (by  omega) (by  omega) (by  omega)) ⟨by decide, by decide⟩ rfl rfl hl.1 (Nat.le_of_ble_eq_true rfl) dX4_test_104 (fun v g2950 H locs hp hW1 => ?_)
        obtain ⟨r2949, rfl, hr2949, rfl⟩ := hp
        have hW : WS ad cA (fun i k => (i = 79 ∧ (k = 2 ∨ k = 3)) ∨ (i = lw ∧ (k = 7)) ∨ i = (lw + 4) ∨ i = (lw + 5)) g0 K g2947 H locs := ⟨hW1, hW.2.1, hW.2.2⟩
        refine q_istore_n (lv9 := [(2, .int r2949), (0, .ref (ad 79)), (1, .int op)]) hM dX4_test_107 hl (by decide) rfl (fun ls hl => ?_)
        have L132 : ∀ (g9 : Nat → va_E) (H : Heap) (locs : List Loc) (ls : Array Slot), (Rng g9) → (0 ≤ r2949.toInt) → (fld g9 79 2 = .int v2942) → lv_has ls 3 [(0, .ref (ad 79)), (1, .int op), (2, .int r2949)] → WS ad cA (fun i k => (i = 79 ∧ (k = 2 ∨ k = 3)) ∨ (i = lw ∧ (k = 7)) ∨ i = (lw + 4) ∨ i = (lw + 5)) g0 K g9 H locs → XX K 0 0 H locs 132 ls [] := by
          intro g9 H locs ls i132_0 i132_1 c132_79_2 hl hW
          have hG := i132_0
          refine q_aload_n hM dX4_test_132 (lv_at hl 0 rfl) ?_
          refine q_dup hM dX4_test_133 rfl ?_
          refine w_get (v := .int v2942) hM hW FG_X4_23 lb_79 c132_79_2 dX4_test_134 ?_
          have bv2942 := hG.f c132_79_2 rF_79_2 (by decide)
          refine q_iconst (v := (1 : Int32)) hM dX4_test_137 (by decide) ?_
          refine q_iadd hM dX4_test_138 (fun z2952 hz2952 => ?_)
          first | have tz2952 := i_addT hz2952 (rfl : v2942.toInt = v2942.toInt) (kc_1 : (1 : Int32).toInt = 1) (by omega) (by omega) | skip
          refine w_put hM hW FP_X4_23 lb_79 (by omega) (Or.inl ⟨_, rfl⟩) rfl rfl dX4_test_139 (fun g2953 H locs hW e1 e2 => ?_)
          have f2954 : fld g2953 79 2 = .int z2952 := e1
          have hG := hG.put e1 e2 rF_79_2 (by decide) (by have := i_rng z2952; omega) (by have := i_rng z2952; omega)
          refine q_aload_n hM dX4_test_142 (lv_at hl 0 rfl) ?_
          refine q_iload_n hM dX4_test_143 (lv_at hl 1 rfl) ?_
          refine q_callV (As := [.int op]) (rest := []) hM hW.1 hR hC myX4_expression (kAW (v_2_6 (List.mem_of_getElem? (i := 12) rfl)) rfl) (rfl : vwCl[4]? = some (RX4, TX4, 5)) rfl lb_79.1 (shO hW.2.1 lb_79) (a_X4_expression_6 _ _ cA ad g2953 op en z2952 lw hW.2.1 hG hlw ((hW.2.2.1 79 1 (by omega)).trans h_en) f2954 ((hW.2.2.1 79 4 (by omega)).trans h_r4) (by  omega) (by  omega) (by  omega) (by  omega)) ⟨by decide, by decide⟩ rfl rfl hl.1 (Nat.le_of_ble_eq_true rfl) dX4_test_144 (fun v g2960 H locs hp hW1 => ?_)
          obtain ⟨v2955, r2956, rfl, hs1, hG, hf1, q2957, e2958, e2959, hr2956⟩ := hp
          have hW : WS ad cA (fun i k => (i = 79 ∧ (k = 2 ∨ k = 3)) ∨ (i = lw ∧ (k = 7)) ∨ i = (lw + 4) ∨ i = (lw + 5)) g0 K g2960 H locs := ⟨hW1, hs1, hW.2.2.tr hf1 (fun i k h => h.elim (fun h => (Or.inl h)) (fun h => h.elim (fun h => (Or.inr (Or.inl h))) (fun h => h.elim (fun h => (Or.inr (Or.inr (Or.inl h)))) (fun h => (Or.inr (Or.inr (Or.inr h)))))))⟩
          refine q_if_ne (tgt := 152) hM dX4_test_147 (by decide) (rfl : r2956.toInt = r2956.toInt) (fun h147 => ?_) (fun h147 => ?_)
          · refine q_aload_n hM dX4_test_152 (lv_at hl 0 rfl) ?_
            refine w_get (v := .ref (ad lw)) hM hW FG_X4_15 lb_79 ((hW.2.2.1 79 4 (by omega)).trans h_r4) dX4_test_153 ?_
            refine q_iload_n hM dX4_test_156 (lv_at hl 2 rfl) ?_
            refine q_iconst (v := (0 : Int32)) hM dX4_test_157 (by decide) ?_
            refine q_callV (As := [.int r2949, .int (0 : Int32)]) (rest := []) hM hW.1 hR hC myX3_add (kAW (v_2_7 (List.mem_of_getElem? (i := 13) rfl)) rfl) (rfl : vwCl[3]? = some (RX3, TX3, 8)) rfl (lo_Lw hlw).1 (shO hW.2.1 (lo_Lw hlw)) (a_X3_add _ _ cA ad g2960 lw r2949 (0 : Int32) hW.2.1 hG hlw (by have := kc_0; omega) (by have := kc_0; omega)) ⟨by decide, by decide⟩ rfl rfl hl.1 (Nat.le_of_ble_eq_true rfl) dX4_test_158 (fun v g2962 H locs hp hW1 => ?_)
            obtain ⟨rfl, hs1, hG, hf1⟩ := hp
            have f2963 : fld g2962 79 2 = .int v2955 := (hf1.1 79 2 (by omega)).trans q2957
            have hW : WS ad cA (fun i k => (i = 79 ∧ (k = 2 ∨ k = 3)) ∨ (i = lw ∧ (k = 7)) ∨ i = (lw + 4) ∨ i = (lw + 5)) g0 K g2962 H locs := ⟨hW1, hs1, hW.2.2.tr hf1 (fun i k h => h.elim (fun h => (Or.inr (Or.inl h))) (fun h => h.elim (fun h => (Or.inr (Or.inr (Or.inl h)))) (fun h => (Or.inr (Or.inr (Or.inr h))))))⟩
            refine q_iconst (v := (1 : Int32)) hM dX4_test_161 (by decide) ?_
            exact hE _ _ _ _ _ _ hW.1 nz_1 ⟨v2955, _, rfl, hW.2.1, hG, hW.2.2, f2963, (by have := kc_1; omega), (by have := kc_1; omega), (by have := kc_1; omega)⟩ dX4_test_162
          · refine q_iconst (v := (0 : Int32)) hM dX4_test_150 (by decide) ?_
            exact hE _ _ _ _ _ _ hW.1 nz_0 ⟨v2955, _, rfl, hW.2.1, hG, hW.2.2, q2957, (by have := kc_0; omega), (by have := kc_0; omega), (by have := kc_0; omega)⟩ dX4_test_151
        refine q_iload_n hM dX4_test_108 (lv_at hl 0 rfl) ?_
        refine q_bipush (v := (60 : Int32)) hM dX4_test_109 (by decide) ?_
        refine q_icmp_eq (tgt := 132) hM dX4_test_111 (by decide) (rfl : r2949.toInt = r2949.toInt) (kc_60 : (60 : Int32).toInt = 60) (fun h111 => ?_) (fun h111 => ?_)
        · exact L132  _ _ _ _ hG (by omega) q2944 (lv_sub hl [1, 2, 0] rfl) hW
        · refine q_iload_n hM dX4_test_114 (lv_at hl 0 rfl) ?_
          refine q_bipush (v := (62 : Int32)) hM dX4_test_115 (by decide) ?_
          refine q_icmp_eq (tgt := 132) hM dX4_test_117 (by decide) (rfl : r2949.toInt = r2949.toInt) (kc_62 : (62 : Int32).toInt = 62) (fun h117 => ?_) (fun h117 => ?_)
          · exact L132  _ _ _ _ hG (by omega) q2944 (lv_sub hl [1, 2, 0] rfl) hW
          · refine q_iload_n hM dX4_test_120 (lv_at hl 0 rfl) ?_
            refine q_bipush (v := (61 : Int32)) hM dX4_test_121 (by decide) ?_
            refine q_icmp_eq (tgt := 132) hM dX4_test_123 (by decide) (rfl : r2949.toInt = r2949.toInt) (kc_61 : (61 : Int32).toInt = 61) (fun h123 => ?_) (fun h123 => ?_)
            · exact L132  _ _ _ _ hG (by omega) q2944 (lv_sub hl [1, 2, 0] rfl) hW
            · refine q_aload_n hM dX4_test_126 (lv_at hl 1 rfl) ?_
              refine q_iconst (v := (1 : Int32)) hM dX4_test_127 (by decide) ?_
              refine q_callV (As := [.int (1 : Int32)]) (rest := []) hM hW.1 hR hC myX4_wrong (kAW (v_2_6 (List.mem_of_getElem? (i := 8) rfl)) rfl) (rfl : vwCl[4]? = some (RX4, TX4, 5)) rfl lb_79.1 (shO hW.2.1 lb_79) (a_X4_wrong _ _ cA ad g2947 (1 : Int32) hW.2.1 hG) ⟨by decide, by decide⟩ rfl rfl hl.1 (Nat.le_of_ble_eq_true rfl) dX4_test_128 (fun v g2972 H locs hp hW1 => ?_)
              obtain ⟨r2971, rfl, hs1, hG, hf1, hr2971⟩ := hp
              have f2973 : fld g2972 79 2 = .int v2942 := (hf1.1 79 2 (by omega)).trans q2944
              have hW : WS ad cA (fun i k => (i = 79 ∧ (k = 2 ∨ k = 3)) ∨ (i = lw ∧ (k = 7)) ∨ i = (lw + 4) ∨ i = (lw + 5)) g0 K g2972 H locs := ⟨hW1, hs1, hW.2.2.tr hf1 (fun i k h => (Or.inl (by omega)))⟩
              exact hE _ _ _ _ _ _ hW.1 (nz_or (by omega)) ⟨v2942, _, rfl, hW.2.1, hG, hW.2.2, f2973, (by omega), (by omega), (by omega)⟩ dX4_test_131
      · refine q_iconst (v := (0 : Int32)) hM dX4_test_101 (by decide) ?_
        exact hE _ _ _ _ _ _ hW.1 nz_0 ⟨v2942, _, rfl, hW.2.1, hG, hW.2.2, q2944, (by have := kc_0; omega), (by have := kc_0; omega), (by have := kc_0; omega)⟩ dX4_test_102
    · exact L17  _ _ _ _ hG (by omega) f2930 (lv_sub hl [1, 2, 0] rfl) hW

theorem dX4_condition_0 : decode cX4_condition 0 = .ok (.iconst (-1), 1) := by decide +kernel
theorem dX4_condition_1 : decode cX4_condition 1 = .ok (.istore_n 2, 1) := by decide +kernel
theorem dX4_condition_2 : decode cX4_condition 2 = .ok (.iconst (-1), 1) := by decide +kernel
theorem dX4_condition_3 : decode cX4_condition 3 = .ok (.istore_n 3, 1) := by decide +kernel
theorem dX4_condition_4 : decode cX4_condition 4 = .ok (.aload_n 0, 1) := by decide +kernel
theorem dX4_condition_5 : decode cX4_condition 5 = .ok (.getfield 23, 3) := by decide +kernel
theorem dX4_condition_8 : decode cX4_condition 8 = .ok (.aload_n 0, 1) := by decide +kernel
theorem dX4_condition_9 : decode cX4_condition 9 = .ok (.getfield 19, 3) := by decide +kernel
theorem dX4_condition_12 : decode cX4_condition 12 = .ok (.if_icmp .gt 102, 3) := by decide +kernel
theorem dX4_condition_15 : decode cX4_condition 15 = .ok (.aload_n 0, 1) := by decide +kernel
theorem dX4_condition_16 : decode cX4_condition 16 = .ok (.iload_n 1, 1) := by decide +kernel
theorem dX4_condition_17 : decode cX4_condition 17 = .ok (.invokevirtual 88, 3) := by decide +kernel
theorem dX4_condition_20 : decode cX4_condition 20 = .ok (.ifCond .ne 5, 3) := by decide +kernel
theorem dX4_condition_23 : decode cX4_condition 23 = .ok (.iconst 0, 1) := by decide +kernel
theorem dX4_condition_24 : decode cX4_condition 24 = .ok (.ireturn, 1) := by decide +kernel
theorem dX4_condition_25 : decode cX4_condition 25 = .ok (.aload_n 0, 1) := by decide +kernel
theorem dX4_condition_26 : decode cX4_condition 26 = .ok (.invokevirtual 56, 3) := by decide +kernel
theorem dX4_condition_29 : decode cX4_condition 29 = .ok (.istore 4, 2) := by decide +kernel
theorem dX4_condition_31 : decode cX4_condition 31 = .ok (.aload_n 0, 1) := by decide +kernel
theorem dX4_condition_32 : decode cX4_condition 32 = .ok (.getfield 15, 3) := by decide +kernel
theorem dX4_condition_35 : decode cX4_condition 35 = .ok (.getfield 35, 3) := by decide +kernel
theorem dX4_condition_38 : decode cX4_condition 38 = .ok (.istore 5, 2) := by decide +kernel
theorem dX4_condition_40 : decode cX4_condition 40 = .ok (.iload 4, 2) := by decide +kernel
theorem dX4_condition_42 : decode cX4_condition 42 = .ok (.bipush 38, 2) := by decide +kernel
theorem dX4_condition_44 : decode cX4_condition 44 = .ok (.if_icmp .ne 18, 3) := by decide +kernel
theorem dX4_condition_47 : decode cX4_condition 47 = .ok (.aload_n 0, 1) := by decide +kernel
theorem dX4_condition_48 : decode cX4_condition 48 = .ok (.getfield 15, 3) := by decide +kernel
theorem dX4_condition_51 : decode cX4_condition 51 = .ok (.iconst 4, 1) := by decide +kernel
theorem dX4_condition_52 : decode cX4_condition 52 = .ok (.iload_n 2, 1) := by decide +kernel
theorem dX4_condition_53 : decode cX4_condition 53 = .ok (.invokevirtual 75, 3) := by decide +kernel
theorem dX4_condition_56 : decode cX4_condition 56 = .ok (.iload 5, 2) := by decide +kernel
theorem dX4_condition_58 : decode cX4_condition 58 = .ok (.istore_n 2, 1) := by decide +kernel
theorem dX4_condition_59 : decode cX4_condition 59 = .ok (.goto 42, 3) := by decide +kernel
theorem dX4_condition_62 : decode cX4_condition 62 = .ok (.aload_n 0, 1) := by decide +kernel
theorem dX4_condition_63 : decode cX4_condition 63 = .ok (.getfield 15, 3) := by decide +kernel
theorem dX4_condition_66 : decode cX4_condition 66 = .ok (.iload_n 2, 1) := by decide +kernel
theorem dX4_condition_67 : decode cX4_condition 67 = .ok (.invokevirtual 91, 3) := by decide +kernel
theorem dX4_condition_70 : decode cX4_condition 70 = .ok (.iconst (-1), 1) := by decide +kernel
theorem dX4_condition_71 : decode cX4_condition 71 = .ok (.istore_n 2, 1) := by decide +kernel
theorem dX4_condition_72 : decode cX4_condition 72 = .ok (.iload 4, 2) := by decide +kernel
theorem dX4_condition_74 : decode cX4_condition 74 = .ok (.bipush 124, 2) := by decide +kernel
theorem dX4_condition_76 : decode cX4_condition 76 = .ok (.if_icmp .eq 13, 3) := by decide +kernel
theorem dX4_condition_79 : decode cX4_condition 79 = .ok (.aload_n 0, 1) := by decide +kernel
theorem dX4_condition_80 : decode cX4_condition 80 = .ok (.getfield 15, 3) := by decide +kernel
theorem dX4_condition_83 : decode cX4_condition 83 = .ok (.iload_n 3, 1) := by decide +kernel
theorem dX4_condition_84 : decode cX4_condition 84 = .ok (.invokevirtual 91, 3) := by decide +kernel
theorem dX4_condition_87 : decode cX4_condition 87 = .ok (.iconst 1, 1) := by decide +kernel
theorem dX4_condition_88 : decode cX4_condition 88 = .ok (.ireturn, 1) := by decide +kernel
theorem dX4_condition_89 : decode cX4_condition 89 = .ok (.aload_n 0, 1) := by decide +kernel
theorem dX4_condition_90 : decode cX4_condition 90 = .ok (.getfield 15, 3) := by decide +kernel
theorem dX4_condition_93 : decode cX4_condition 93 = .ok (.iconst 5, 1) := by decide +kernel
theorem dX4_condition_94 : decode cX4_condition 94 = .ok (.iload_n 3, 1) := by decide +kernel
theorem dX4_condition_95 : decode cX4_condition 95 = .ok (.invokevirtual 75, 3) := by decide +kernel
theorem dX4_condition_98 : decode cX4_condition 98 = .ok (.iload 5, 2) := by decide +kernel
theorem dX4_condition_100 : decode cX4_condition 100 = .ok (.istore_n 3, 1) := by decide +kernel
theorem dX4_condition_101 : decode cX4_condition 101 = .ok (.aload_n 0, 1) := by decide +kernel
theorem dX4_condition_102 : decode cX4_condition 102 = .ok (.dup, 1) := by decide +kernel
theorem dX4_condition_103 : decode cX4_condition 103 = .ok (.getfield 23, 3) := by decide +kernel
theorem dX4_condition_106 : decode cX4_condition 106 = .ok (.iconst 1, 1) := by decide +kernel
theorem dX4_condition_107 : decode cX4_condition 107 = .ok (.iadd, 1) := by decide +kernel
theorem dX4_condition_108 : decode cX4_condition 108 = .ok (.putfield 23, 3) := by decide +kernel
theorem dX4_condition_111 : decode cX4_condition 111 = .ok (.goto (-107), 3) := by decide +kernel
theorem dX4_condition_114 : decode cX4_condition 114 = .ok (.aload_n 0, 1) := by decide +kernel
theorem dX4_condition_115 : decode cX4_condition 115 = .ok (.iconst 1, 1) := by decide +kernel
theorem dX4_condition_116 : decode cX4_condition 116 = .ok (.invokevirtual 47, 3) := by decide +kernel
theorem dX4_condition_119 : decode cX4_condition 119 = .ok (.ireturn, 1) := by decide +kernel
theorem myX4_test : MI yX4_test cX4_test 3 (some FieldType.boolean) 1 := ⟨kAW (v_2_8 (List.mem_of_getElem? (i := 9) rfl)) rfl, kAW (v_0_0 (List.mem_of_getElem? (i := 8) rfl)) rfl, kAW (v_2_8 (List.mem_of_getElem? (i := 8) rfl)) rfl, kAW (tp_t0 (List.mem_of_getElem? (i := 14) rfl)) rfl, by decide, by decide, by decide +kernel⟩
theorem FG_X4_35 : FG RX4 35 3 8 7 := ⟨RX3, TX3, rfl, wX3, by decide, kAW (v_0_8 (List.mem_of_getElem? (i := 7) rfl)) rfl, rfl⟩
theorem myX3_land : MI yX3_land cX3_land 5 none 1 := ⟨kAW (v_2_8 (List.mem_of_getElem? (i := 13) rfl)) rfl, kAW (v_0_0 (List.mem_of_getElem? (i := 5) rfl)) rfl, kAW (v_2_8 (List.mem_of_getElem? (i := 11) rfl)) rfl, kAW (v_2_8 (List.mem_of_getElem? (i := 12) rfl)) rfl, by decide, by decide, by decide +kernel⟩
set_option maxRecDepth 100000 in
set_option maxHeartbeats 4000000 in
theorem a_X4_condition_6 (l : Launch) (D : va_G) (cA : Nat → ClassId) (ad : Nat → Nat) (g0 : Nat → va_E) (op : Int32) (en : Int32) (a0 : Int32) (lw : Nat) (hSh : Shp ad cA g0) (hG : Rng g0) (hlw : isLw lw) (h_en : fld g0 79 1 = .int en) (h_a0 : fld g0 79 2 = .int a0) (h_r4 : fld g0 79 4 = .ref (ad lw)) (ah0 : 0 ≤ a0.toInt) (ah1 : a0.toInt ≤ en.toInt) (ah2 : en.toInt ≤ 240) (ok : op.toInt = 6) : CT l NN ad cA D yX4_condition cX4_condition 6 (some FieldType.boolean) (8, 181) [.ref (ad 79), .int op] g0 (fun v g' => ∃ (a9 : Int32) (r : Int32), v = some (.int r) ∧ Shp ad cA g' ∧ Rng g' ∧ FR (fun i k => (i = 79 ∧ (k = 2 ∨ k = 3)) ∨ (i = lw ∧ (k = 7)) ∨ i = (lw + 4) ∨ i = (lw + 5)) g0 g' ∧ fld g' 79 2 = .int a9 ∧ (a0.toInt ≤ a9.toInt) ∧ (a9.toInt ≤ en.toInt) ∧ (r.toInt = 0 ∨ r.toInt = 1)) := by
  refine q_enterZ (by decide) (Nat.le_of_ble_eq_true rfl) (fun K H locs ls _ _ hM hW0 hR hC hE hl => ?_)
  have hl : lv_has ls 6 [(0, .ref (ad 79)), (1, .int op)] := hl
  have hW : WS ad cA (fun i k => (i = 79 ∧ (k = 2 ∨ k = 3)) ∨ (i = lw ∧ (k = 7)) ∨ i = (lw + 4) ∨ i = (lw + 5)) g0 K g0 H locs := ⟨hW0, hSh, FR.rf⟩
  have ulw := hlw
  unfold isLw at ulw
  have b_en := hG.f h_en rF_79_1 (by decide)
  have b_a0 := hG.f h_a0 rF_79_2 (by decide)
  have f2976 : fld g0 79 2 = .int a0 := h_a0
  refine q_iconst (v := ((-1) : Int32)) hM dX4_condition_0 (by decide) ?_
  refine q_istore_n (lv9 := [(2, .int ((-1) : Int32)), (0, .ref (ad 79)), (1, .int op)]) hM dX4_condition_1 hl (by decide) rfl (fun ls hl => ?_)
  refine q_iconst (v := ((-1) : Int32)) hM dX4_condition_2 (by decide) ?_
  refine q_istore_n (lv9 := [(3, .int ((-1) : Int32)), (2, .int ((-1) : Int32)), (0, .ref (ad 79)), (1, .int op)]) hM dX4_condition_3 hl (by decide) rfl (fun ls hl => ?_)
  have L4 : ∀ (fu4 : Nat) (w4_2 : Int32) (w4_3 : Int32) (aa : Int32) (g9 : Nat → va_E) (H : Heap) (locs : List Loc) (ls : Array Slot), (en.toInt - aa.toInt + 1).toNat < fu4 → (Rng g9) → (a0.toInt ≤ aa.toInt) → (aa.toInt ≤ en.toInt) → (-1 ≤ w4_2.toInt) → (w4_2.toInt ≤ 256) → (-1 ≤ w4_3.toInt) → (w4_3.toInt ≤ 256) → (fld g9 79 2 = .int aa) → lv_has ls 6 [(0, .ref (ad 79)), (1, .int op), (2, .int w4_2), (3, .int w4_3)] → WS ad cA (fun i k => (i = 79 ∧ (k = 2 ∨ k = 3)) ∨ (i = lw ∧ (k = 7)) ∨ i = (lw + 4) ∨ i = (lw + 5)) g0 K g9 H locs → XX K 0 0 H locs 4 ls [] := by
    intro fu4
    induction fu4 with
    | zero => intro w4_2 w4_3 aa g9 H locs ls h0; omega
    | succ fu4 ih4 =>
      intro w4_2 w4_3 aa g9 H locs ls hm4 i4_0 i4_1 i4_2 i4_3 i4_4 i4_5 i4_6 c4_79_2 hl hW
      have hG := i4_0
      refine q_aload_n hM dX4_condition_4 (lv_at hl 0 rfl) ?_
      refine w_get (v := .int aa) hM hW FG_X4_23 lb_79 c4_79_2 dX4_condition_5 ?_
      have baa := hG.f c4_79_2 rF_79_2 (by decide)
      refine q_aload_n hM dX4_condition_8 (lv_at hl 0 rfl) ?_
      refine w_get (v := .int en) hM hW FG_X4_19 lb_79 ((hW.2.2.1 79 1 (by omega)).trans h_en) dX4_condition_9 ?_
      refine q_icmp_gt (tgt := 114) hM dX4_condition_12 (by decide) (rfl : aa.toInt = aa.toInt) (rfl : en.toInt = en.toInt) (fun h12 => ?_) (fun h12 => ?_)
      · refine q_aload_n hM dX4_condition_114 (lv_at hl 0 rfl) ?_
        refine q_iconst (v := (1 : Int32)) hM dX4_condition_115 (by decide) ?_
        refine q_callV (As := [.int (1 : Int32)]) (rest := []) hM hW.1 hR hC myX4_wrong (kAW (v_2_6 (List.mem_of_getElem? (i := 8) rfl)) rfl) (rfl : vwCl[4]? = some (RX4, TX4, 5)) rfl lb_79.1 (shO hW.2.1 lb_79) (a_X4_wrong _ _ cA ad g9 (1 : Int32) hW.2.1 hG) ⟨by decide, by decide⟩ rfl rfl hl.1 (Nat.le_of_ble_eq_true rfl) dX4_condition_116 (fun v g2980 H locs hp hW1 => ?_)
        obtain ⟨r2979, rfl, hs1, hG, hf1, hr2979⟩ := hp
        have f2981 : fld g2980 79 2 = .int aa := (hf1.1 79 2 (by omega)).trans c4_79_2
        have hW : WS ad cA (fun i k => (i = 79 ∧ (k = 2 ∨ k = 3)) ∨ (i = lw ∧ (k = 7)) ∨ i = (lw + 4) ∨ i = (lw + 5)) g0 K g2980 H locs := ⟨hW1, hs1, hW.2.2.tr hf1 (fun i k h => (Or.inl (by omega)))⟩
        exact hE _ _ _ _ _ _ hW.1 (nz_or (by omega)) ⟨aa, _, rfl, hW.2.1, hG, hW.2.2, f2981, (by omega), (by omega), (by omega)⟩ dX4_condition_119
      · refine q_aload_n hM dX4_condition_15 (lv_at hl 0 rfl) ?_
        refine q_iload_n hM dX4_condition_16 (lv_at hl 1 rfl) ?_
        refine q_callV (As := [.int op]) (rest := []) hM hW.1 hR hC myX4_test (kAW (v_2_8 (List.mem_of_getElem? (i := 6) rfl)) rfl) (rfl : vwCl[4]? = some (RX4, TX4, 5)) rfl lb_79.1 (shO hW.2.1 lb_79) (a_X4_test_6 _ _ cA ad g9 op en aa lw hW.2.1 hG hlw ((hW.2.2.1 79 1 (by omega)).trans h_en) c4_79_2 ((hW.2.2.1 79 4 (by omega)).trans h_r4) (by  omega) (by  omega) (by  omega) (by  omega)) ⟨by decide, by decide⟩ rfl rfl hl.1 (Nat.le_of_ble_eq_true rfl) dX4_condition_17 (fun v g2988 H locs hp hW1 => ?_)
        obtain ⟨v2983, r2984, rfl, hs1, hG, hf1, q2985, e2986, e2987, hr2984⟩ := hp
        have hW : WS ad cA (fun i k => (i = 79 ∧ (k = 2 ∨ k = 3)) ∨ (i = lw ∧ (k = 7)) ∨ i = (lw + 4) ∨ i = (lw + 5)) g0 K g2988 H locs := ⟨hW1, hs1, hW.2.2.tr hf1 (fun i k h => h.elim (fun h => (Or.inl h)) (fun h => h.elim (fun h => (Or.inr (Or.inl h))) (fun h => h.elim (fun h => (Or.inr (Or.inr (Or.inl h)))) (fun h => (Or.inr (Or.inr (Or.inr h)))))))⟩
        refine q_if_ne (tgt := 25) hM dX4_condition_20 (by decide) (rfl : r2984.toInt = r2984.toInt) (fun h20 => ?_) (fun h20 => ?_)
        · refine q_aload_n hM dX4_condition_25 (lv_at hl 0 rfl) ?_
          refine q_callV (As := []) (rest := []) hM hW.1 hR hC myX4_sign (kAW (v_2_0 (List.mem_of_getElem? (i := 12) rfl)) rfl) (rfl : vwCl[4]? = some (RX4, TX4, 5)) rfl lb_79.1 (shO hW.2.1 lb_79) (a_X4_sign _ _ cA ad g2988 en v2983 hW.2.1 hG ((hW.2.2.1 79 1 (by omega)).trans h_en) q2985 (by  omega) (by  omega) (by  omega)) ⟨by decide, by decide⟩ rfl rfl hl.1 (Nat.le_of_ble_eq_true rfl) dX4_condition_26 (fun v g2991 H locs hp hW1 => ?_)
          obtain ⟨r2990, rfl, hr2990, rfl⟩ := hp
          have hW : WS ad cA (fun i k => (i = 79 ∧ (k = 2 ∨ k = 3)) ∨ (i = lw ∧ (k = 7)) ∨ i = (lw + 4) ∨ i = (lw + 5)) g0 K g2988 H locs := ⟨hW1, hW.2.1, hW.2.2⟩
          refine q_istore (lv9 := [(4, .int r2990), (0, .ref (ad 79)), (1, .int op), (2, .int w4_2), (3, .int w4_3)]) hM dX4_condition_29 hl (by decide) rfl (fun ls hl => ?_)
          refine q_aload_n hM dX4_condition_31 (lv_at hl 1 rfl) ?_
          refine w_get (v := .ref (ad lw)) hM hW FG_X4_15 lb_79 ((hW.2.2.1 79 4 (by omega)).trans h_r4) dX4_condition_32 ?_
          refine w_getI hM hW FG_X4_35 (lo_Lw hlw) (by decide) (by decide) dX4_condition_35 (fun x2992 fx2992 => ?_)
          have bx2992 := hG.f fx2992 (rF_Lw_7 hlw) (by decide)
          refine q_istore (lv9 := [(5, .int x2992), (4, .int r2990), (0, .ref (ad 79)), (1, .int op), (2, .int w4_2), (3, .int w4_3)]) hM dX4_condition_38 hl (by decide) rfl (fun ls hl => ?_)
          have L101 : ∀ (n101 : Int32) (o101 : Int32) (g9 : Nat → va_E) (H : Heap) (locs : List Loc) (ls : Array Slot), (Rng g9) → (-1 ≤ n101.toInt) → (n101.toInt ≤ 256) → (-1 ≤ o101.toInt) → (o101.toInt ≤ 256) → (0 ≤ r2990.toInt) → (fld g9 79 2 = .int v2983) → lv_has ls 6 [(0, .ref (ad 79)), (1, .int op), (2, .int n101), (3, .int o101), (4, .int r2990), (5, .int x2992)] → WS ad cA (fun i k => (i = 79 ∧ (k = 2 ∨ k = 3)) ∨ (i = lw ∧ (k = 7)) ∨ i = (lw + 4) ∨ i = (lw + 5)) g0 K g9 H locs → XX K 0 0 H locs 101 ls [] := by
            intro n101 o101 g9 H locs ls i101_0 i101_1 i101_2 i101_3 i101_4 i101_5 c101_79_2 hl hW
            have hG := i101_0
            refine q_aload_n hM dX4_condition_101 (lv_at hl 0 rfl) ?_
            refine q_dup hM dX4_condition_102 rfl ?_
            refine w_get (v := .int v2983) hM hW FG_X4_23 lb_79 c101_79_2 dX4_condition_103 ?_
            have bv2983 := hG.f c101_79_2 rF_79_2 (by decide)
            refine q_iconst (v := (1 : Int32)) hM dX4_condition_106 (by decide) ?_
            refine q_iadd hM dX4_condition_107 (fun z2994 hz2994 => ?_)
            first | have tz2994 := i_addT hz2994 (rfl : v2983.toInt = v2983.toInt) (kc_1 : (1 : Int32).toInt = 1) (by omega) (by omega) | skip
            refine w_put hM hW FP_X4_23 lb_79 (by omega) (Or.inl ⟨_, rfl⟩) rfl rfl dX4_condition_108 (fun g2995 H locs hW e1 e2 => ?_)
            have f2996 : fld g2995 79 2 = .int z2994 := e1
            have hG := hG.put e1 e2 rF_79_2 (by decide) (by have := i_rng z2994; omega) (by have := i_rng z2994; omega)
            refine q_goto (tgt := 4) hM dX4_condition_111 (by decide) ?_
            exact ih4 n101 o101 z2994 _ _ _ _ (by omega) hG (by omega) (by omega) (by omega) (by omega) (by omega) (by omega) f2996 (lv_sub hl [0, 1, 2, 3] rfl) hW
          refine q_iload hM dX4_condition_40 (lv_at hl 1 rfl) ?_
          refine q_bipush (v := (38 : Int32)) hM dX4_condition_42 (by decide) ?_
          refine q_icmp_ne (tgt := 62) hM dX4_condition_44 (by decide) (rfl : r2990.toInt = r2990.toInt) (kc_38 : (38 : Int32).toInt = 38) (fun h44 => ?_) (fun h44 => ?_)
          · refine q_aload_n hM dX4_condition_62 (lv_at hl 2 rfl) ?_
            refine w_get (v := .ref (ad lw)) hM hW FG_X4_15 lb_79 ((hW.2.2.1 79 4 (by omega)).trans h_r4) dX4_condition_63 ?_
            refine q_iload_n hM dX4_condition_66 (lv_at hl 4 rfl) ?_
            refine q_callV (As := [.int w4_2]) (rest := []) hM hW.1 hR hC myX3_land (kAW (v_2_8 (List.mem_of_getElem? (i := 10) rfl)) rfl) (rfl : vwCl[3]? = some (RX3, TX3, 8)) rfl (lo_Lw hlw).1 (shO hW.2.1 (lo_Lw hlw)) (a_X3_land _ _ cA ad g2988 lw w4_2 hW.2.1 hG hlw) ⟨by decide, by decide⟩ rfl rfl hl.1 (Nat.le_of_ble_eq_true rfl) dX4_condition_67 (fun v g2998 H locs hp hW1 => ?_)
            obtain ⟨rfl, hs1, hG, hf1⟩ := hp
            have f2999 : fld g2998 79 2 = .int v2983 := (hf1.1 79 2 (by omega)).trans q2985
            have f3000 : fld g2998 lw 7 = .int x2992 := (hf1.1 lw 7 (by omega)).trans fx2992
            have hW : WS ad cA (fun i k => (i = 79 ∧ (k = 2 ∨ k = 3)) ∨ (i = lw ∧ (k = 7)) ∨ i = (lw + 4) ∨ i = (lw + 5)) g0 K g2998 H locs := ⟨hW1, hs1, hW.2.2.tr hf1 (fun i k h => (Or.inr (Or.inr (Or.inr h))))⟩
            refine q_iconst (v := ((-1) : Int32)) hM dX4_condition_70 (by decide) ?_
            refine q_istore_n (lv9 := [(2, .int ((-1) : Int32)), (5, .int x2992), (4, .int r2990), (0, .ref (ad 79)), (1, .int op), (3, .int w4_3)]) hM dX4_condition_71 hl (by decide) rfl (fun ls hl => ?_)
            refine q_iload hM dX4_condition_72 (lv_at hl 2 rfl) ?_
            refine q_bipush (v := (124 : Int32)) hM dX4_condition_74 (by decide) ?_
            refine q_icmp_eq (tgt := 89) hM dX4_condition_76 (by decide) (rfl : r2990.toInt = r2990.toInt) (kc_124 : (124 : Int32).toInt = 124) (fun h76 => ?_) (fun h76 => ?_)
            · refine q_aload_n hM dX4_condition_89 (lv_at hl 3 rfl) ?_
              refine w_get (v := .ref (ad lw)) hM hW FG_X4_15 lb_79 ((hW.2.2.1 79 4 (by omega)).trans h_r4) dX4_condition_90 ?_
              refine q_iconst (v := (5 : Int32)) hM dX4_condition_93 (by decide) ?_
              refine q_iload_n hM dX4_condition_94 (lv_at hl 5 rfl) ?_
              refine q_callV (As := [.int (5 : Int32), .int w4_3]) (rest := []) hM hW.1 hR hC myX3_add (kAW (v_2_7 (List.mem_of_getElem? (i := 13) rfl)) rfl) (rfl : vwCl[3]? = some (RX3, TX3, 8)) rfl (lo_Lw hlw).1 (shO hW.2.1 (lo_Lw hlw)) (a_X3_add _ _ cA ad g2998 lw (5 : Int32) w4_3 hW.2.1 hG hlw (by have := kc_5; omega) (by have := kc_5; omega)) ⟨by decide, by decide⟩ rfl rfl hl.1 (Nat.le_of_ble_eq_true rfl) dX4_condition_95 (fun v g3002 H locs hp hW1 => ?_)
              obtain ⟨rfl, hs1, hG, hf1⟩ := hp
              have f3003 : fld g3002 79 2 = .int v2983 := (hf1.1 79 2 (by omega)).trans f2999
              have hW : WS ad cA (fun i k => (i = 79 ∧ (k = 2 ∨ k = 3)) ∨ (i = lw ∧ (k = 7)) ∨ i = (lw + 4) ∨ i = (lw + 5)) g0 K g3002 H locs := ⟨hW1, hs1, hW.2.2.tr hf1 (fun i k h => h.elim (fun h => (Or.inr (Or.inl h))) (fun h => h.elim (fun h => (Or.inr (Or.inr (Or.inl h)))) (fun h => (Or.inr (Or.inr (Or.inr h))))))⟩
              refine q_iload hM dX4_condition_98 (lv_at hl 1 rfl) ?_
              refine q_istore_n (lv9 := [(3, .int x2992), (2, .int ((-1) : Int32)), (5, .int x2992), (4, .int r2990), (0, .ref (ad 79)), (1, .int op)]) hM dX4_condition_100 hl (by decide) rfl (fun ls hl => ?_)
              have := kc_m1
              exact L101 ((-1) : Int32) x2992 _ _ _ _ hG (by omega) (by omega) (by omega) (by omega) (by omega) f3003 (lv_sub hl [4, 5, 1, 0, 3, 2] rfl) hW
            · refine q_aload_n hM dX4_condition_79 (lv_at hl 3 rfl) ?_
              refine w_get (v := .ref (ad lw)) hM hW FG_X4_15 lb_79 ((hW.2.2.1 79 4 (by omega)).trans h_r4) dX4_condition_80 ?_
              refine q_iload_n hM dX4_condition_83 (lv_at hl 5 rfl) ?_
              refine q_callV (As := [.int w4_3]) (rest := []) hM hW.1 hR hC myX3_land (kAW (v_2_8 (List.mem_of_getElem? (i := 10) rfl)) rfl) (rfl : vwCl[3]? = some (RX3, TX3, 8)) rfl (lo_Lw hlw).1 (shO hW.2.1 (lo_Lw hlw)) (a_X3_land _ _ cA ad g2998 lw w4_3 hW.2.1 hG hlw) ⟨by decide, by decide⟩ rfl rfl hl.1 (Nat.le_of_ble_eq_true rfl) dX4_condition_84 (fun v g3005 H locs hp hW1 => ?_)
              obtain ⟨rfl, hs1, hG, hf1⟩ := hp
              have f3006 : fld g3005 79 2 = .int v2983 := (hf1.1 79 2 (by omega)).trans f2999
              have f3007 : fld g3005 lw 7 = .int x2992 := (hf1.1 lw 7 (by omega)).trans f3000
              have hW : WS ad cA (fun i k => (i = 79 ∧ (k = 2 ∨ k = 3)) ∨ (i = lw ∧ (k = 7)) ∨ i = (lw + 4) ∨ i = (lw + 5)) g0 K g3005 H locs := ⟨hW1, hs1, hW.2.2.tr hf1 (fun i k h => (Or.inr (Or.inr (Or.inr h))))⟩
              refine q_iconst (v := (1 : Int32)) hM dX4_condition_87 (by decide) ?_
              exact hE _ _ _ _ _ _ hW.1 nz_1 ⟨v2983, _, rfl, hW.2.1, hG, hW.2.2, f3006, (by have := kc_1; omega), (by have := kc_1; omega), (by have := kc_1; omega)⟩ dX4_condition_88
          · refine q_aload_n hM dX4_condition_47 (lv_at hl 2 rfl) ?_
            refine w_get (v := .ref (ad lw)) hM hW FG_X4_15 lb_79 ((hW.2.2.1 79 4 (by omega)).trans h_r4) dX4_condition_48 ?_
            refine q_iconst (v := (4 : Int32)) hM dX4_condition_51 (by decide) ?_
            refine q_iload_n hM dX4_condition_52 (lv_at hl 4 rfl) ?_
            refine q_callV (As := [.int (4 : Int32), .int w4_2]) (rest := []) hM hW.1 hR hC myX3_add (kAW (v_2_7 (List.mem_of_getElem? (i := 13) rfl)) rfl) (rfl : vwCl[3]? = some (RX3, TX3, 8)) rfl (lo_Lw hlw).1 (shO hW.2.1 (lo_Lw hlw)) (a_X3_add _ _ cA ad g2988 lw (4 : Int32) w4_2 hW.2.1 hG hlw (by have := kc_4; omega) (by have := kc_4; omega)) ⟨by decide, by decide⟩ rfl rfl hl.1 (Nat.le_of_ble_eq_true rfl) dX4_condition_53 (fun v g3009 H locs hp hW1 => ?_)
            obtain ⟨rfl, hs1, hG, hf1⟩ := hp
            have f3010 : fld g3009 79 2 = .int v2983 := (hf1.1 79 2 (by omega)).trans q2985
            have hW : WS ad cA (fun i k => (i = 79 ∧ (k = 2 ∨ k = 3)) ∨ (i = lw ∧ (k = 7)) ∨ i = (lw + 4) ∨ i = (lw + 5)) g0 K g3009 H locs := ⟨hW1, hs1, hW.2.2.tr hf1 (fun i k h => h.elim (fun h => (Or.inr (Or.inl h))) (fun h => h.elim (fun h => (Or.inr (Or.inr (Or.inl h)))) (fun h => (Or.inr (Or.inr (Or.inr h))))))⟩
            refine q_iload hM dX4_condition_56 (lv_at hl 0 rfl) ?_
            refine q_istore_n (lv9 := [(2, .int x2992), (5, .int x2992), (4, .int r2990), (0, .ref (ad 79)), (1, .int op), (3, .int w4_3)]) hM dX4_condition_58 hl (by decide) rfl (fun ls hl => ?_)
            refine q_goto (tgt := 101) hM dX4_condition_59 (by decide) ?_
            exact L101 x2992 w4_3 _ _ _ _ hG (by omega) (by omega) (by omega) (by omega) (by omega) f3010 (lv_sub hl [3, 4, 0, 5, 2, 1] rfl) hW
        · refine q_iconst (v := (0 : Int32)) hM dX4_condition_23 (by decide) ?_
          exact hE _ _ _ _ _ _ hW.1 nz_0 ⟨v2983, _, rfl, hW.2.1, hG, hW.2.2, q2985, (by have := kc_0; omega), (by have := kc_0; omega), (by have := kc_0; omega)⟩ dX4_condition_24
  have := kc_m1
  have := kc_m1
  exact L4 _ ((-1) : Int32) ((-1) : Int32) a0 _ _ _ _ (Nat.lt_succ_self _) hG (by omega) (by omega) (by omega) (by omega) (by omega) (by omega) f2976 (lv_sub hl [2, 3, 1, 0] rfl) hW

theorem dX4_factor_23 : decode cX4_factor 23 = .ok (.aload_n 0, 1) := by decide +kernel
theorem dX4_factor_24 : decode cX4_factor 24 = .ok (.dup, 1) := by decide +kernel
theorem dX4_factor_25 : decode cX4_factor 25 = .ok (.getfield 23, 3) := by decide +kernel
theorem dX4_factor_28 : decode cX4_factor 28 = .ok (.iconst 1, 1) := by decide +kernel
theorem dX4_factor_29 : decode cX4_factor 29 = .ok (.iadd, 1) := by decide +kernel
theorem dX4_factor_30 : decode cX4_factor 30 = .ok (.putfield 23, 3) := by decide +kernel
theorem dX4_factor_33 : decode cX4_factor 33 = .ok (.aload_n 0, 1) := by decide +kernel
theorem dX4_factor_34 : decode cX4_factor 34 = .ok (.iload_n 1, 1) := by decide +kernel
theorem dX4_factor_35 : decode cX4_factor 35 = .ok (.iconst 1, 1) := by decide +kernel
theorem dX4_factor_36 : decode cX4_factor 36 = .ok (.iadd, 1) := by decide +kernel
theorem dX4_factor_37 : decode cX4_factor 37 = .ok (.invokevirtual 72, 3) := by decide +kernel
theorem dX4_factor_40 : decode cX4_factor 40 = .ok (.ifCond .eq 16, 3) := by decide +kernel
theorem dX4_factor_43 : decode cX4_factor 43 = .ok (.aload_n 0, 1) := by decide +kernel
theorem dX4_factor_44 : decode cX4_factor 44 = .ok (.bipush 93, 2) := by decide +kernel
theorem dX4_factor_46 : decode cX4_factor 46 = .ok (.invokevirtual 85, 3) := by decide +kernel
theorem dX4_factor_49 : decode cX4_factor 49 = .ok (.ifCond .eq 7, 3) := by decide +kernel
theorem dX4_factor_52 : decode cX4_factor 52 = .ok (.iconst 1, 1) := by decide +kernel
theorem dX4_factor_53 : decode cX4_factor 53 = .ok (.goto 4, 3) := by decide +kernel
theorem dX4_factor_56 : decode cX4_factor 56 = .ok (.iconst 0, 1) := by decide +kernel
theorem dX4_factor_57 : decode cX4_factor 57 = .ok (.ireturn, 1) := by decide +kernel
theorem myX4_passes : MI yX4_passes cX4_passes 2 (some FieldType.boolean) 1 := ⟨kAW (v_2_7 (List.mem_of_getElem? (i := 7) rfl)) rfl, kAW (v_0_0 (List.mem_of_getElem? (i := 8) rfl)) rfl, kAW (v_2_7 (List.mem_of_getElem? (i := 6) rfl)) rfl, kAW (tp_t0 (List.mem_of_getElem? (i := 11) rfl)) rfl, by decide, by decide, by decide +kernel⟩
set_option maxRecDepth 100000 in
set_option maxHeartbeats 4000000 in
theorem a_X4_factor_5 (l : Launch) (D : va_G) (cA : Nat → ClassId) (ad : Nat → Nat) (g0 : Nat → va_E) (op : Int32) (en : Int32) (a0 : Int32) (lw : Nat) (hSh : Shp ad cA g0) (hG : Rng g0) (hlw : isLw lw) (h_en : fld g0 79 1 = .int en) (h_a0 : fld g0 79 2 = .int a0) (h_r4 : fld g0 79 4 = .ref (ad lw)) (ah0 : 0 ≤ a0.toInt) (ah1 : a0.toInt ≤ en.toInt) (ah2 : en.toInt ≤ 240) (ok : op.toInt = 5) : CT l NN ad cA D yX4_factor cX4_factor 4 (some FieldType.boolean) (7, 159) [.ref (ad 79), .int op] g0 (fun v g' => ∃ (a9 : Int32) (r : Int32), v = some (.int r) ∧ Shp ad cA g' ∧ Rng g' ∧ FR (fun i k => (i = 79 ∧ (k = 2 ∨ k = 3)) ∨ (i = lw ∧ (k = 7)) ∨ i = (lw + 4) ∨ i = (lw + 5)) g0 g' ∧ fld g' 79 2 = .int a9 ∧ (a0.toInt ≤ a9.toInt) ∧ (a9.toInt ≤ en.toInt) ∧ (r.toInt = 0 ∨ r.toInt = 1)) := by
  refine q_enterZ (by decide) (Nat.le_of_ble_eq_true rfl) (fun K H locs ls _ _ hM hW0 hR hC hE hl => ?_)
  have hl : lv_has ls 4 [(0, .ref (ad 79)), (1, .int op)] := hl
  have hW : WS ad cA (fun i k => (i = 79 ∧ (k = 2 ∨ k = 3)) ∨ (i = lw ∧ (k = 7)) ∨ i = (lw + 4) ∨ i = (lw + 5)) g0 K g0 H locs := ⟨hW0, hSh, FR.rf⟩
  have ulw := hlw
  unfold isLw at ulw
  have b_en := hG.f h_en rF_79_1 (by decide)
  have b_a0 := hG.f h_a0 rF_79_2 (by decide)
  have f3012 : fld g0 79 2 = .int a0 := h_a0
  refine q_aload_n hM dX4_factor_0 (lv_at hl 0 rfl) ?_
  refine q_callV (As := []) (rest := []) hM hW.1 hR hC myX4_sign (kAW (v_2_0 (List.mem_of_getElem? (i := 12) rfl)) rfl) (rfl : vwCl[4]? = some (RX4, TX4, 5)) rfl lb_79.1 (shO hW.2.1 lb_79) (a_X4_sign _ _ cA ad g0 en a0 hW.2.1 hG ((hW.2.2.1 79 1 (by omega)).trans h_en) f3012 (by  omega) (by  omega) (by  omega)) ⟨by decide, by decide⟩ rfl rfl hl.1 (Nat.le_of_ble_eq_true rfl) dX4_factor_1 (fun v g3014 H locs hp hW1 => ?_)
  obtain ⟨r3013, rfl, hr3013, rfl⟩ := hp
  have hW : WS ad cA (fun i k => (i = 79 ∧ (k = 2 ∨ k = 3)) ∨ (i = lw ∧ (k = 7)) ∨ i = (lw + 4) ∨ i = (lw + 5)) g0 K g0 H locs := ⟨hW1, hW.2.1, hW.2.2⟩
  refine q_istore_n (lv9 := [(2, .int r3013), (0, .ref (ad 79)), (1, .int op)]) hM dX4_factor_4 hl (by decide) rfl (fun ls hl => ?_)
  refine q_iload_n hM dX4_factor_5 (lv_at hl 0 rfl) ?_
  refine q_bipush (v := (91 : Int32)) hM dX4_factor_6 (by decide) ?_
  refine q_icmp_ne (tgt := 58) hM dX4_factor_8 (by decide) (rfl : r3013.toInt = r3013.toInt) (kc_91 : (91 : Int32).toInt = 91) (fun h8 => ?_) (fun h8 => ?_)
  · refine q_iload_n hM dX4_factor_58 (lv_at hl 0 rfl) ?_
    refine q_bipush (v := (48 : Int32)) hM dX4_factor_59 (by decide) ?_
    refine q_bipush (v := (57 : Int32)) hM dX4_factor_61 (by decide) ?_
    refine q_callN (host := "ForgetSchool") (As := [.int r3013, .int (48 : Int32), .int (57 : Int32)]) (rest := []) hM hW.1 hR hC myX11_within (List.mem_of_getElem? (i := 2) rfl) (c_X11_within _ _ cA ad g0 r3013 (48 : Int32) (57 : Int32) hW.2.1) ⟨by decide, by decide⟩ rfl rfl hl.1 (Nat.le_of_ble_eq_true rfl) dX4_factor_63 (fun v g3017 H locs hp hW1 => ?_)
    obtain ⟨r3016, rfl, hr3016, rfl⟩ := hp
    have hW : WS ad cA (fun i k => (i = 79 ∧ (k = 2 ∨ k = 3)) ∨ (i = lw ∧ (k = 7)) ∨ i = (lw + 4) ∨ i = (lw + 5)) g0 K g0 H locs := ⟨hW1, hW.2.1, hW.2.2⟩
    have := kc_48
    have := kc_57
    refine q_if_eq (tgt := 102) hM dX4_factor_66 (by decide) (rfl : r3016.toInt = r3016.toInt) (fun h66 => ?_) (fun h66 => ?_)
    · refine q_ldcS1 hM hW.1 rfl dX4_factor_102 ?_
      refine q_iload_n hM dX4_factor_104 (lv_at hl 0 rfl) ?_
      refine q_callS (As := [.ref (ad 401), .int r3013]) (rest := []) hM hW.1 hR hC myX4_placeOf (kAW (v_2_1 (List.mem_of_getElem? (i := 1) rfl)) rfl) (a_X4_placeOf_1 _ _ cA ad g0 r3013 hW.2.1 hG) ⟨by decide, by decide⟩ rfl rfl hl.1 (Nat.le_of_ble_eq_true rfl) dX4_factor_105 (fun v g3020 H locs hp hW1 => ?_)
      obtain ⟨r3019, rfl, hr3019, rfl⟩ := hp
      have hW : WS ad cA (fun i k => (i = 79 ∧ (k = 2 ∨ k = 3)) ∨ (i = lw ∧ (k = 7)) ∨ i = (lw + 4) ∨ i = (lw + 5)) g0 K g0 H locs := ⟨hW1, hW.2.1, hW.2.2⟩
      refine q_istore_n (lv9 := [(3, .int r3019), (2, .int r3013), (0, .ref (ad 79)), (1, .int op)]) hM dX4_factor_108 hl (by decide) rfl (fun ls hl => ?_)
      refine q_iload_n hM dX4_factor_109 (lv_at hl 0 rfl) ?_
      refine q_if_ge (tgt := 119) hM dX4_factor_110 (by decide) (rfl : r3019.toInt = r3019.toInt) (fun h110 => ?_) (fun h110 => ?_)
      · refine q_aload_n hM dX4_factor_119 (lv_at hl 2 rfl) ?_
        refine w_get (v := .ref (ad lw)) hM hW FG_X4_15 lb_79 ((hW.2.2.1 79 4 (by omega)).trans h_r4) dX4_factor_120 ?_
        refine q_iconst (v := (2 : Int32)) hM dX4_factor_123 (by decide) ?_
        refine q_iload_n hM dX4_factor_124 (lv_at hl 0 rfl) ?_
        refine q_callV (As := [.int (2 : Int32), .int r3019]) (rest := []) hM hW.1 hR hC myX3_add (kAW (v_2_7 (List.mem_of_getElem? (i := 13) rfl)) rfl) (rfl : vwCl[3]? = some (RX3, TX3, 8)) rfl (lo_Lw hlw).1 (shO hW.2.1 (lo_Lw hlw)) (a_X3_add _ _ cA ad g0 lw (2 : Int32) r3019 hW.2.1 hG hlw (by have := kc_2; omega) (by have := kc_2; omega)) ⟨by decide, by decide⟩ rfl rfl hl.1 (Nat.le_of_ble_eq_true rfl) dX4_factor_125 (fun v g3022 H locs hp hW1 => ?_)
        obtain ⟨rfl, hs1, hG, hf1⟩ := hp
        have f3023 : fld g3022 79 2 = .int a0 := (hf1.1 79 2 (by omega)).trans f3012
        have hW : WS ad cA (fun i k => (i = 79 ∧ (k = 2 ∨ k = 3)) ∨ (i = lw ∧ (k = 7)) ∨ i = (lw + 4) ∨ i = (lw + 5)) g0 K g3022 H locs := ⟨hW1, hs1, hW.2.2.tr hf1 (fun i k h => h.elim (fun h => (Or.inr (Or.inl h))) (fun h => h.elim (fun h => (Or.inr (Or.inr (Or.inl h)))) (fun h => (Or.inr (Or.inr (Or.inr h))))))⟩
        refine q_aload_n hM dX4_factor_128 (lv_at hl 2 rfl) ?_
        refine q_dup hM dX4_factor_129 rfl ?_
        refine w_get (v := .int a0) hM hW FG_X4_23 lb_79 f3023 dX4_factor_130 ?_
        have ba0 := hG.f f3023 rF_79_2 (by decide)
        refine q_iconst (v := (1 : Int32)) hM dX4_factor_133 (by decide) ?_
        refine q_iadd hM dX4_factor_134 (fun z3024 hz3024 => ?_)
        first | have tz3024 := i_addT hz3024 (rfl : a0.toInt = a0.toInt) (kc_1 : (1 : Int32).toInt = 1) (by omega) (by omega) | skip
        refine w_put hM hW FP_X4_23 lb_79 (by omega) (Or.inl ⟨_, rfl⟩) rfl rfl dX4_factor_135 (fun g3025 H locs hW e1 e2 => ?_)
        have f3026 : fld g3025 79 2 = .int z3024 := e1
        have hG := hG.put e1 e2 rF_79_2 (by decide) (by have := i_rng z3024; omega) (by have := i_rng z3024; omega)
        refine q_iconst (v := (1 : Int32)) hM dX4_factor_138 (by decide) ?_
        exact hE _ _ _ _ _ _ hW.1 nz_1 ⟨z3024, _, rfl, hW.2.1, hG, hW.2.2, f3026, (by have := kc_1; omega), (by have := kc_1; omega), (by have := kc_1; omega)⟩ dX4_factor_139
      · refine q_aload_n hM dX4_factor_113 (lv_at hl 2 rfl) ?_
        refine q_iconst (v := (1 : Int32)) hM dX4_factor_114 (by decide) ?_
        refine q_callV (As := [.int (1 : Int32)]) (rest := []) hM hW.1 hR hC myX4_wrong (kAW (v_2_6 (List.mem_of_getElem? (i := 8) rfl)) rfl) (rfl : vwCl[4]? = some (RX4, TX4, 5)) rfl lb_79.1 (shO hW.2.1 lb_79) (a_X4_wrong _ _ cA ad g0 (1 : Int32) hW.2.1 hG) ⟨by decide, by decide⟩ rfl rfl hl.1 (Nat.le_of_ble_eq_true rfl) dX4_factor_115 (fun v g3029 H locs hp hW1 => ?_)
        obtain ⟨r3028, rfl, hs1, hG, hf1, hr3028⟩ := hp
        have f3030 : fld g3029 79 2 = .int a0 := (hf1.1 79 2 (by omega)).trans f3012
        have hW : WS ad cA (fun i k => (i = 79 ∧ (k = 2 ∨ k = 3)) ∨ (i = lw ∧ (k = 7)) ∨ i = (lw + 4) ∨ i = (lw + 5)) g0 K g3029 H locs := ⟨hW1, hs1, hW.2.2.tr hf1 (fun i k h => (Or.inl (by omega)))⟩
        exact hE _ _ _ _ _ _ hW.1 (nz_or (by omega)) ⟨a0, _, rfl, hW.2.1, hG, hW.2.2, f3030, (by omega), (by omega), (by omega)⟩ dX4_factor_118
    · refine q_aload_n hM dX4_factor_69 (lv_at hl 1 rfl) ?_
      refine q_callV (As := []) (rest := []) hM hW.1 hR hC myX4_number (kAW (v_2_7 (List.mem_of_getElem? (i := 9) rfl)) rfl) (rfl : vwCl[4]? = some (RX4, TX4, 5)) rfl lb_79.1 (shO hW.2.1 lb_79) (a_X4_number _ _ cA ad g0 en a0 hW.2.1 hG ((hW.2.2.1 79 1 (by omega)).trans h_en) f3012 (by  omega) (by  omega) (by  omega)) ⟨by decide, by decide⟩ rfl rfl hl.1 (Nat.le_of_ble_eq_true rfl) dX4_factor_70 (fun v g3037 H locs hp hW1 => ?_)
      obtain ⟨v3032, r3033, rfl, hs1, hG, hf1, q3034, e3035, e3036, hr3033⟩ := hp
      have hW : WS ad cA (fun i k => (i = 79 ∧ (k = 2 ∨ k = 3)) ∨ (i = lw ∧ (k = 7)) ∨ i = (lw + 4) ∨ i = (lw + 5)) g0 K g3037 H locs := ⟨hW1, hs1, hW.2.2.tr hf1 (fun i k h => (Or.inl (by omega)))⟩
      refine q_istore_n (lv9 := [(3, .int r3033), (2, .int r3013), (0, .ref (ad 79)), (1, .int op)]) hM dX4_factor_73 hl (by decide) rfl (fun ls hl => ?_)
      refine q_aload_n hM dX4_factor_74 (lv_at hl 2 rfl) ?_
      refine w_get (v := .ref (ad lw)) hM hW FG_X4_15 lb_79 ((hW.2.2.1 79 4 (by omega)).trans h_r4) dX4_factor_75 ?_
      refine q_iconst (v := (1 : Int32)) hM dX4_factor_78 (by decide) ?_
      refine q_iload_n hM dX4_factor_79 (lv_at hl 0 rfl) ?_
      refine q_callV (As := [.int (1 : Int32), .int r3033]) (rest := []) hM hW.1 hR hC myX3_add (kAW (v_2_7 (List.mem_of_getElem? (i := 13) rfl)) rfl) (rfl : vwCl[3]? = some (RX3, TX3, 8)) rfl (lo_Lw hlw).1 (shO hW.2.1 (lo_Lw hlw)) (a_X3_add _ _ cA ad g3037 lw (1 : Int32) r3033 hW.2.1 hG hlw (by have := kc_1; omega) (by have := kc_1; omega)) ⟨by decide, by decide⟩ rfl rfl hl.1 (Nat.le_of_ble_eq_true rfl) dX4_factor_80 (fun v g3038 H locs hp hW1 => ?_)
      obtain ⟨rfl, hs1, hG, hf1⟩ := hp
      have f3039 : fld g3038 79 2 = .int v3032 := (hf1.1 79 2 (by omega)).trans q3034
      have hW : WS ad cA (fun i k => (i = 79 ∧ (k = 2 ∨ k = 3)) ∨ (i = lw ∧ (k = 7)) ∨ i = (lw + 4) ∨ i = (lw + 5)) g0 K g3038 H locs := ⟨hW1, hs1, hW.2.2.tr hf1 (fun i k h => h.elim (fun h => (Or.inr (Or.inl h))) (fun h => h.elim (fun h => (Or.inr (Or.inr (Or.inl h)))) (fun h => (Or.inr (Or.inr (Or.inr h))))))⟩
      refine q_iload_n hM dX4_factor_83 (lv_at hl 0 rfl) ?_
      refine q_iconst (v := ((-1) : Int32)) hM dX4_factor_84 (by decide) ?_
      refine q_icmp_ne (tgt := 96) hM dX4_factor_85 (by decide) (rfl : r3033.toInt = r3033.toInt) (kc_m1 : ((-1) : Int32).toInt = (-1)) (fun h85 => ?_) (fun h85 => ?_)
      · refine q_iconst (v := (1 : Int32)) hM dX4_factor_96 (by decide) ?_
        refine q_goto (tgt := 101) hM dX4_factor_97 (by decide) ?_
        exact hE _ _ _ _ _ _ hW.1 nz_1 ⟨v3032, _, rfl, hW.2.1, hG, hW.2.2, f3039, (by have := kc_1; omega), (by have := kc_1; omega), (by have := kc_1; omega)⟩ dX4_factor_101
      · refine q_aload_n hM dX4_factor_88 (lv_at hl 2 rfl) ?_
        refine q_iconst (v := (2 : Int32)) hM dX4_factor_89 (by decide) ?_
        refine q_callV (As := [.int (2 : Int32)]) (rest := []) hM hW.1 hR hC myX4_wrong (kAW (v_2_6 (List.mem_of_getElem? (i := 8) rfl)) rfl) (rfl : vwCl[4]? = some (RX4, TX4, 5)) rfl lb_79.1 (shO hW.2.1 lb_79) (a_X4_wrong _ _ cA ad g3038 (2 : Int32) hW.2.1 hG) ⟨by decide, by decide⟩ rfl rfl hl.1 (Nat.le_of_ble_eq_true rfl) dX4_factor_90 (fun v g3043 H locs hp hW1 => ?_)
        obtain ⟨r3042, rfl, hs1, hG, hf1, hr3042⟩ := hp
        have f3044 : fld g3043 79 2 = .int v3032 := (hf1.1 79 2 (by omega)).trans f3039
        have hW : WS ad cA (fun i k => (i = 79 ∧ (k = 2 ∨ k = 3)) ∨ (i = lw ∧ (k = 7)) ∨ i = (lw + 4) ∨ i = (lw + 5)) g0 K g3043 H locs := ⟨hW1, hs1, hW.2.2.tr hf1 (fun i k h => (Or.inl (by omega)))⟩
        refine q_if_eq (tgt := 100) hM dX4_factor_93 (by decide) (rfl : r3042.toInt = r3042.toInt) (fun h93 => ?_) (fun h93 => ?_)
        · refine q_iconst (v := (0 : Int32)) hM dX4_factor_100 (by decide) ?_
          exact hE _ _ _ _ _ _ hW.1 nz_0 ⟨v3032, _, rfl, hW.2.1, hG, hW.2.2, f3044, (by have := kc_0; omega), (by have := kc_0; omega), (by have := kc_0; omega)⟩ dX4_factor_101
        · refine q_iconst (v := (1 : Int32)) hM dX4_factor_96 (by decide) ?_
          refine q_goto (tgt := 101) hM dX4_factor_97 (by decide) ?_
          exact hE _ _ _ _ _ _ hW.1 nz_1 ⟨v3032, _, rfl, hW.2.1, hG, hW.2.2, f3044, (by have := kc_1; omega), (by have := kc_1; omega), (by have := kc_1; omega)⟩ dX4_factor_101
  · refine q_iload_n hM dX4_factor_11 (lv_at hl 2 rfl) ?_
    refine q_bipush (v := (6 : Int32)) hM dX4_factor_12 (by decide) ?_
    refine q_icmp_lt (tgt := 23) hM dX4_factor_14 (by decide) (rfl : op.toInt = op.toInt) (kc_6 : (6 : Int32).toInt = 6) (fun h14 => ?_) (fun h14 => ?_)
    · refine q_aload_n hM dX4_factor_23 (lv_at hl 1 rfl) ?_
      refine q_dup hM dX4_factor_24 rfl ?_
      refine w_get (v := .int a0) hM hW FG_X4_23 lb_79 f3012 dX4_factor_25 ?_
      have ba0 := hG.f f3012 rF_79_2 (by decide)
      refine q_iconst (v := (1 : Int32)) hM dX4_factor_28 (by decide) ?_
      refine q_iadd hM dX4_factor_29 (fun z3049 hz3049 => ?_)
      first | have tz3049 := i_addT hz3049 (rfl : a0.toInt = a0.toInt) (kc_1 : (1 : Int32).toInt = 1) (by omega) (by omega) | skip
      refine w_put hM hW FP_X4_23 lb_79 (by omega) (Or.inl ⟨_, rfl⟩) rfl rfl dX4_factor_30 (fun g3050 H locs hW e1 e2 => ?_)
      have f3051 : fld g3050 79 2 = .int z3049 := e1
      have hG := hG.put e1 e2 rF_79_2 (by decide) (by have := i_rng z3049; omega) (by have := i_rng z3049; omega)
      refine q_aload_n hM dX4_factor_33 (lv_at hl 1 rfl) ?_
      refine q_iload_n hM dX4_factor_34 (lv_at hl 2 rfl) ?_
      refine q_iconst (v := (1 : Int32)) hM dX4_factor_35 (by decide) ?_
      refine q_iadd hM dX4_factor_36 (fun z3052 hz3052 => ?_)
      first | have tz3052 := i_addT hz3052 (rfl : op.toInt = op.toInt) (kc_1 : (1 : Int32).toInt = 1) (by omega) (by omega) | skip
      refine q_callV (As := [.int z3052]) (rest := []) hM hW.1 hR hC myX4_expression (kAW (v_2_6 (List.mem_of_getElem? (i := 12) rfl)) rfl) (rfl : vwCl[4]? = some (RX4, TX4, 5)) rfl lb_79.1 (shO hW.2.1 lb_79) (a_X4_expression_6 _ _ cA ad g3050 z3052 en z3049 lw hW.2.1 hG hlw ((hW.2.2.1 79 1 (by omega)).trans h_en) f3051 ((hW.2.2.1 79 4 (by omega)).trans h_r4) (by  omega) (by  omega) (by  omega) (by  omega)) ⟨by decide, by decide⟩ rfl rfl hl.1 (Nat.le_of_ble_eq_true rfl) dX4_factor_37 (fun v g3058 H locs hp hW1 => ?_)
      obtain ⟨v3053, r3054, rfl, hs1, hG, hf1, q3055, e3056, e3057, hr3054⟩ := hp
      have hW : WS ad cA (fun i k => (i = 79 ∧ (k = 2 ∨ k = 3)) ∨ (i = lw ∧ (k = 7)) ∨ i = (lw + 4) ∨ i = (lw + 5)) g0 K g3058 H locs := ⟨hW1, hs1, hW.2.2.tr hf1 (fun i k h => h.elim (fun h => (Or.inl h)) (fun h => h.elim (fun h => (Or.inr (Or.inl h))) (fun h => h.elim (fun h => (Or.inr (Or.inr (Or.inl h)))) (fun h => (Or.inr (Or.inr (Or.inr h)))))))⟩
      refine q_if_eq (tgt := 56) hM dX4_factor_40 (by decide) (rfl : r3054.toInt = r3054.toInt) (fun h40 => ?_) (fun h40 => ?_)
      · refine q_iconst (v := (0 : Int32)) hM dX4_factor_56 (by decide) ?_
        exact hE _ _ _ _ _ _ hW.1 nz_0 ⟨v3053, _, rfl, hW.2.1, hG, hW.2.2, q3055, (by have := kc_0; omega), (by have := kc_0; omega), (by have := kc_0; omega)⟩ dX4_factor_57
      · refine q_aload_n hM dX4_factor_43 (lv_at hl 1 rfl) ?_
        refine q_bipush (v := (93 : Int32)) hM dX4_factor_44 (by decide) ?_
        refine q_callV (As := [.int (93 : Int32)]) (rest := []) hM hW.1 hR hC myX4_passes (kAW (v_2_7 (List.mem_of_getElem? (i := 4) rfl)) rfl) (rfl : vwCl[4]? = some (RX4, TX4, 5)) rfl lb_79.1 (shO hW.2.1 lb_79) (a_X4_passes _ _ cA ad g3058 (93 : Int32) en v3053 hW.2.1 hG ((hW.2.2.1 79 1 (by omega)).trans h_en) q3055 (by have := kc_93; omega) (by have := kc_93; omega) (by have := kc_93; omega)) ⟨by decide, by decide⟩ rfl rfl hl.1 (Nat.le_of_ble_eq_true rfl) dX4_factor_46 (fun v g3066 H locs hp hW1 => ?_)
        obtain ⟨v3061, r3062, rfl, hs1, hG, hf1, q3063, e3064, e3065, hr3062⟩ := hp
        have hW : WS ad cA (fun i k => (i = 79 ∧ (k = 2 ∨ k = 3)) ∨ (i = lw ∧ (k = 7)) ∨ i = (lw + 4) ∨ i = (lw + 5)) g0 K g3066 H locs := ⟨hW1, hs1, hW.2.2.tr hf1 (fun i k h => (Or.inl h))⟩
        refine q_if_eq (tgt := 56) hM dX4_factor_49 (by decide) (rfl : r3062.toInt = r3062.toInt) (fun h49 => ?_) (fun h49 => ?_)
        · refine q_iconst (v := (0 : Int32)) hM dX4_factor_56 (by decide) ?_
          exact hE _ _ _ _ _ _ hW.1 nz_0 ⟨v3061, _, rfl, hW.2.1, hG, hW.2.2, q3063, (by have := kc_0; omega), (by have := kc_0; omega), (by have := kc_0; omega)⟩ dX4_factor_57
        · refine q_iconst (v := (1 : Int32)) hM dX4_factor_52 (by decide) ?_
          refine q_goto (tgt := 57) hM dX4_factor_53 (by decide) ?_
          exact hE _ _ _ _ _ _ hW.1 nz_1 ⟨v3061, _, rfl, hW.2.1, hG, hW.2.2, q3063, (by have := kc_1; omega), (by have := kc_1; omega), (by have := kc_1; omega)⟩ dX4_factor_57
    · omega


set_option maxRecDepth 100000 in
set_option maxHeartbeats 4000000 in
theorem a_X4_expression_5 (l : Launch) (D : va_G) (cA : Nat → ClassId) (ad : Nat → Nat) (g0 : Nat → va_E) (op : Int32) (en : Int32) (a0 : Int32) (lw : Nat) (hSh : Shp ad cA g0) (hG : Rng g0) (hlw : isLw lw) (h_en : fld g0 79 1 = .int en) (h_a0 : fld g0 79 2 = .int a0) (h_r4 : fld g0 79 4 = .ref (ad lw)) (ah0 : 0 ≤ a0.toInt) (ah1 : a0.toInt ≤ en.toInt) (ah2 : en.toInt ≤ 240) (ok : op.toInt = 5) : CT l NN ad cA D yX4_expression cX4_expression 5 (some FieldType.boolean) (8, 182) [.ref (ad 79), .int op] g0 (fun v g' => ∃ (a9 : Int32) (r : Int32), v = some (.int r) ∧ Shp ad cA g' ∧ Rng g' ∧ FR (fun i k => (i = 79 ∧ (k = 2 ∨ k = 3)) ∨ (i = lw ∧ (k = 7)) ∨ i = (lw + 4) ∨ i = (lw + 5)) g0 g' ∧ fld g' 79 2 = .int a9 ∧ (a0.toInt ≤ a9.toInt) ∧ (a9.toInt ≤ en.toInt) ∧ (r.toInt = 0 ∨ r.toInt = 1)) := by
  refine q_enterZ (by decide) (Nat.le_of_ble_eq_true rfl) (fun K H locs ls _ _ hM hW0 hR hC hE hl => ?_)
  have hl : lv_has ls 5 [(0, .ref (ad 79)), (1, .int op)] := hl
  have hW : WS ad cA (fun i k => (i = 79 ∧ (k = 2 ∨ k = 3)) ∨ (i = lw ∧ (k = 7)) ∨ i = (lw + 4) ∨ i = (lw + 5)) g0 K g0 H locs := ⟨hW0, hSh, FR.rf⟩
  have ulw := hlw
  unfold isLw at ulw
  have b_en := hG.f h_en rF_79_1 (by decide)
  have b_a0 := hG.f h_a0 rF_79_2 (by decide)
  have f3070 : fld g0 79 2 = .int a0 := h_a0
  refine q_iconst (v := ((-1) : Int32)) hM dX4_expression_0 (by decide) ?_
  refine q_istore_n (lv9 := [(2, .int ((-1) : Int32)), (0, .ref (ad 79)), (1, .int op)]) hM dX4_expression_1 hl (by decide) rfl (fun ls hl => ?_)
  refine q_iconst (v := ((-1) : Int32)) hM dX4_expression_2 (by decide) ?_
  refine q_istore_n (lv9 := [(3, .int ((-1) : Int32)), (2, .int ((-1) : Int32)), (0, .ref (ad 79)), (1, .int op)]) hM dX4_expression_3 hl (by decide) rfl (fun ls hl => ?_)
  have L4 : ∀ (fu4 : Nat) (w4_3 : Int32) (w4_2 : Int32) (aa : Int32) (g9 : Nat → va_E) (H : Heap) (locs : List Loc) (ls : Array Slot), (en.toInt - aa.toInt + 1).toNat < fu4 → (Rng g9) → (a0.toInt ≤ aa.toInt) → (aa.toInt ≤ en.toInt) → (fld g9 79 2 = .int aa) → lv_has ls 5 [(0, .ref (ad 79)), (1, .int op), (2, .int w4_2), (3, .int w4_3)] → WS ad cA (fun i k => (i = 79 ∧ (k = 2 ∨ k = 3)) ∨ (i = lw ∧ (k = 7)) ∨ i = (lw + 4) ∨ i = (lw + 5)) g0 K g9 H locs → XX K 0 0 H locs 4 ls [] := by
    intro fu4
    induction fu4 with
    | zero => intro w4_3 w4_2 aa g9 H locs ls h0; omega
    | succ fu4 ih4 =>
      intro w4_3 w4_2 aa g9 H locs ls hm4 i4_0 i4_1 i4_2 c4_79_2 hl hW
      have hG := i4_0
      refine q_aload_n hM dX4_expression_4 (lv_at hl 0 rfl) ?_
      refine w_get (v := .int aa) hM hW FG_X4_23 lb_79 c4_79_2 dX4_expression_5 ?_
      have baa := hG.f c4_79_2 rF_79_2 (by decide)
      refine q_aload_n hM dX4_expression_8 (lv_at hl 0 rfl) ?_
      refine w_get (v := .int en) hM hW FG_X4_19 lb_79 ((hW.2.2.1 79 1 (by omega)).trans h_en) dX4_expression_9 ?_
      refine q_icmp_gt (tgt := 133) hM dX4_expression_12 (by decide) (rfl : aa.toInt = aa.toInt) (rfl : en.toInt = en.toInt) (fun h12 => ?_) (fun h12 => ?_)
      · refine q_aload_n hM dX4_expression_133 (lv_at hl 0 rfl) ?_
        refine q_iconst (v := (1 : Int32)) hM dX4_expression_134 (by decide) ?_
        refine q_callV (As := [.int (1 : Int32)]) (rest := []) hM hW.1 hR hC myX4_wrong (kAW (v_2_6 (List.mem_of_getElem? (i := 8) rfl)) rfl) (rfl : vwCl[4]? = some (RX4, TX4, 5)) rfl lb_79.1 (shO hW.2.1 lb_79) (a_X4_wrong _ _ cA ad g9 (1 : Int32) hW.2.1 hG) ⟨by decide, by decide⟩ rfl rfl hl.1 (Nat.le_of_ble_eq_true rfl) dX4_expression_135 (fun v g3074 H locs hp hW1 => ?_)
        obtain ⟨r3073, rfl, hs1, hG, hf1, hr3073⟩ := hp
        have f3075 : fld g3074 79 2 = .int aa := (hf1.1 79 2 (by omega)).trans c4_79_2
        have hW : WS ad cA (fun i k => (i = 79 ∧ (k = 2 ∨ k = 3)) ∨ (i = lw ∧ (k = 7)) ∨ i = (lw + 4) ∨ i = (lw + 5)) g0 K g3074 H locs := ⟨hW1, hs1, hW.2.2.tr hf1 (fun i k h => (Or.inl (by omega)))⟩
        exact hE _ _ _ _ _ _ hW.1 (nz_or (by omega)) ⟨aa, _, rfl, hW.2.1, hG, hW.2.2, f3075, (by omega), (by omega), (by omega)⟩ dX4_expression_138
      · refine q_aload_n hM dX4_expression_15 (lv_at hl 0 rfl) ?_
        refine q_iload_n hM dX4_expression_16 (lv_at hl 1 rfl) ?_
        refine q_callV (As := [.int op]) (rest := []) hM hW.1 hR hC myX4_factor (kAW (v_2_7 (List.mem_of_getElem? (i := 0) rfl)) rfl) (rfl : vwCl[4]? = some (RX4, TX4, 5)) rfl lb_79.1 (shO hW.2.1 lb_79) (a_X4_factor_5 _ _ cA ad g9 op en aa lw hW.2.1 hG hlw ((hW.2.2.1 79 1 (by omega)).trans h_en) c4_79_2 ((hW.2.2.1 79 4 (by omega)).trans h_r4) (by  omega) (by  omega) (by  omega) (by  omega)) ⟨by decide, by decide⟩ rfl rfl hl.1 (Nat.le_of_ble_eq_true rfl) dX4_expression_17 (fun v g3082 H locs hp hW1 => ?_)
        obtain ⟨v3077, r3078, rfl, hs1, hG, hf1, q3079, e3080, e3081, hr3078⟩ := hp
        have hW : WS ad cA (fun i k => (i = 79 ∧ (k = 2 ∨ k = 3)) ∨ (i = lw ∧ (k = 7)) ∨ i = (lw + 4) ∨ i = (lw + 5)) g0 K g3082 H locs := ⟨hW1, hs1, hW.2.2.tr hf1 (fun i k h => h.elim (fun h => (Or.inl h)) (fun h => h.elim (fun h => (Or.inr (Or.inl h))) (fun h => h.elim (fun h => (Or.inr (Or.inr (Or.inl h)))) (fun h => (Or.inr (Or.inr (Or.inr h)))))))⟩
        refine q_if_ne (tgt := 25) hM dX4_expression_20 (by decide) (rfl : r3078.toInt = r3078.toInt) (fun h20 => ?_) (fun h20 => ?_)
        · have L39 : ∀ (g9 : Nat → va_E) (H : Heap) (locs : List Loc) (ls : Array Slot), (Rng g9) → (fld g9 79 2 = .int v3077) → lv_has ls 5 [(0, .ref (ad 79)), (1, .int op), (2, .int w4_2), (3, .int w4_3)] → WS ad cA (fun i k => (i = 79 ∧ (k = 2 ∨ k = 3)) ∨ (i = lw ∧ (k = 7)) ∨ i = (lw + 4) ∨ i = (lw + 5)) g0 K g9 H locs → XX K 0 0 H locs 39 ls [] := by
            intro g9 H locs ls i39_0 c39_79_2 hl hW
            have hG := i39_0
            refine q_aload_n hM dX4_expression_39 (lv_at hl 0 rfl) ?_
            refine q_callV (As := []) (rest := []) hM hW.1 hR hC myX4_sign (kAW (v_2_0 (List.mem_of_getElem? (i := 12) rfl)) rfl) (rfl : vwCl[4]? = some (RX4, TX4, 5)) rfl lb_79.1 (shO hW.2.1 lb_79) (a_X4_sign _ _ cA ad g9 en v3077 hW.2.1 hG ((hW.2.2.1 79 1 (by omega)).trans h_en) c39_79_2 (by  omega) (by  omega) (by  omega)) ⟨by decide, by decide⟩ rfl rfl hl.1 (Nat.le_of_ble_eq_true rfl) dX4_expression_40 (fun v g3086 H locs hp hW1 => ?_)
            obtain ⟨r3085, rfl, hr3085, rfl⟩ := hp
            have hW : WS ad cA (fun i k => (i = 79 ∧ (k = 2 ∨ k = 3)) ∨ (i = lw ∧ (k = 7)) ∨ i = (lw + 4) ∨ i = (lw + 5)) g0 K g9 H locs := ⟨hW1, hW.2.1, hW.2.2⟩
            refine q_istore (lv9 := [(4, .int r3085), (0, .ref (ad 79)), (1, .int op), (2, .int w4_2), (3, .int w4_3)]) hM dX4_expression_43 hl (by decide) rfl (fun ls hl => ?_)
            have L73 : ∀ (p73 : Int32) (g9 : Nat → va_E) (H : Heap) (locs : List Loc) (ls : Array Slot), (Rng g9) → (p73.toInt = -1 ∨ 0 ≤ r3085.toInt) → (fld g9 79 2 = .int v3077) → lv_has ls 5 [(0, .ref (ad 79)), (1, .int op), (2, .int w4_2), (3, .int p73), (4, .int r3085)] → WS ad cA (fun i k => (i = 79 ∧ (k = 2 ∨ k = 3)) ∨ (i = lw ∧ (k = 7)) ∨ i = (lw + 4) ∨ i = (lw + 5)) g0 K g9 H locs → XX K 0 0 H locs 73 ls [] := by
              intro p73 g9 H locs ls i73_0 i73_1 c73_79_2 hl hW
              have hG := i73_0
              refine q_iload_n hM dX4_expression_73 (lv_at hl 3 rfl) ?_
              refine q_iconst (v := ((-1) : Int32)) hM dX4_expression_74 (by decide) ?_
              refine q_icmp_ne (tgt := 120) hM dX4_expression_75 (by decide) (rfl : p73.toInt = p73.toInt) (kc_m1 : ((-1) : Int32).toInt = (-1)) (fun h75 => ?_) (fun h75 => ?_)
              · refine q_aload_n hM dX4_expression_120 (lv_at hl 0 rfl) ?_
                refine q_dup hM dX4_expression_121 rfl ?_
                refine w_get (v := .int v3077) hM hW FG_X4_23 lb_79 c73_79_2 dX4_expression_122 ?_
                have bv3077 := hG.f c73_79_2 rF_79_2 (by decide)
                refine q_iconst (v := (1 : Int32)) hM dX4_expression_125 (by decide) ?_
                refine q_iadd hM dX4_expression_126 (fun z3089 hz3089 => ?_)
                first | have tz3089 := i_addT hz3089 (rfl : v3077.toInt = v3077.toInt) (kc_1 : (1 : Int32).toInt = 1) (by omega) (by omega) | skip
                refine w_put hM hW FP_X4_23 lb_79 (by omega) (Or.inl ⟨_, rfl⟩) rfl rfl dX4_expression_127 (fun g3090 H locs hW e1 e2 => ?_)
                have f3091 : fld g3090 79 2 = .int z3089 := e1
                have hG := hG.put e1 e2 rF_79_2 (by decide) (by have := i_rng z3089; omega) (by have := i_rng z3089; omega)
                refine q_goto (tgt := 4) hM dX4_expression_130 (by decide) ?_
                exact ih4 p73 w4_2 z3089 _ _ _ _ (by omega) hG (by omega) (by omega) f3091 (lv_sub hl [0, 1, 2, 3] rfl) hW
              · have L92 : ∀ (g9 : Nat → va_E) (H : Heap) (locs : List Loc) (ls : Array Slot), (Rng g9) → (fld g9 79 2 = .int v3077) → lv_has ls 5 [(0, .ref (ad 79)), (1, .int op), (2, .int w4_2), (3, .int p73), (4, .int r3085)] → WS ad cA (fun i k => (i = 79 ∧ (k = 2 ∨ k = 3)) ∨ (i = lw ∧ (k = 7)) ∨ i = (lw + 4) ∨ i = (lw + 5)) g0 K g9 H locs → XX K 0 0 H locs 92 ls [] := by
                  intro g9 H locs ls i92_0 c92_79_2 hl hW
                  have hG := i92_0
                  refine q_iload hM dX4_expression_92 (lv_at hl 4 rfl) ?_
                  refine q_bipush (v := (43 : Int32)) hM dX4_expression_94 (by decide) ?_
                  refine q_icmp_eq (tgt := 106) hM dX4_expression_96 (by decide) (rfl : r3085.toInt = r3085.toInt) (kc_43 : (43 : Int32).toInt = 43) (fun h96 => ?_) (fun h96 => ?_)
                  · refine q_iload hM dX4_expression_106 (lv_at hl 4 rfl) ?_
                    refine q_goto (tgt := 112) hM dX4_expression_108 (by decide) ?_
                    refine q_istore_n (lv9 := [(2, .int r3085), (0, .ref (ad 79)), (1, .int op), (3, .int p73), (4, .int r3085)]) hM dX4_expression_112 hl (by decide) rfl (fun ls hl => ?_)
                    refine q_iload_n hM dX4_expression_113 (lv_at hl 0 rfl) ?_
                    refine q_iconst (v := ((-1) : Int32)) hM dX4_expression_114 (by decide) ?_
                    refine q_icmp_ne (tgt := 120) hM dX4_expression_115 (by decide) (rfl : r3085.toInt = r3085.toInt) (kc_m1 : ((-1) : Int32).toInt = (-1)) (fun h115 => ?_) (fun h115 => ?_)
                    · refine q_aload_n hM dX4_expression_120 (lv_at hl 1 rfl) ?_
                      refine q_dup hM dX4_expression_121 rfl ?_
                      refine w_get (v := .int v3077) hM hW FG_X4_23 lb_79 c92_79_2 dX4_expression_122 ?_
                      have bv3077 := hG.f c92_79_2 rF_79_2 (by decide)
                      refine q_iconst (v := (1 : Int32)) hM dX4_expression_125 (by decide) ?_
                      refine q_iadd hM dX4_expression_126 (fun z3096 hz3096 => ?_)
                      first | have tz3096 := i_addT hz3096 (rfl : v3077.toInt = v3077.toInt) (kc_1 : (1 : Int32).toInt = 1) (by omega) (by omega) | skip
                      refine w_put hM hW FP_X4_23 lb_79 (by omega) (Or.inl ⟨_, rfl⟩) rfl rfl dX4_expression_127 (fun g3097 H locs hW e1 e2 => ?_)
                      have f3098 : fld g3097 79 2 = .int z3096 := e1
                      have hG := hG.put e1 e2 rF_79_2 (by decide) (by have := i_rng z3096; omega) (by have := i_rng z3096; omega)
                      refine q_goto (tgt := 4) hM dX4_expression_130 (by decide) ?_
                      exact ih4 p73 r3085 z3096 _ _ _ _ (by omega) hG (by omega) (by omega) f3098 (lv_sub hl [1, 2, 0, 3] rfl) hW
                    · refine q_iconst (v := (1 : Int32)) hM dX4_expression_118 (by decide) ?_
                      exact hE _ _ _ _ _ _ hW.1 nz_1 ⟨v3077, _, rfl, hW.2.1, hG, hW.2.2, c92_79_2, (by have := kc_1; omega), (by have := kc_1; omega), (by have := kc_1; omega)⟩ dX4_expression_119
                  · refine q_iload hM dX4_expression_99 (lv_at hl 4 rfl) ?_
                    refine q_bipush (v := (45 : Int32)) hM dX4_expression_101 (by decide) ?_
                    refine q_icmp_ne (tgt := 111) hM dX4_expression_103 (by decide) (rfl : r3085.toInt = r3085.toInt) (kc_45 : (45 : Int32).toInt = 45) (fun h103 => ?_) (fun h103 => ?_)
                    · refine q_iconst (v := ((-1) : Int32)) hM dX4_expression_111 (by decide) ?_
                      refine q_istore_n (lv9 := [(2, .int ((-1) : Int32)), (0, .ref (ad 79)), (1, .int op), (3, .int p73), (4, .int r3085)]) hM dX4_expression_112 hl (by decide) rfl (fun ls hl => ?_)
                      refine q_iload_n hM dX4_expression_113 (lv_at hl 0 rfl) ?_
                      refine q_iconst (v := ((-1) : Int32)) hM dX4_expression_114 (by decide) ?_
                      refine q_icmp_ne (tgt := 120) hM dX4_expression_115 (by decide) (kc_m1 : ((-1) : Int32).toInt = (-1)) (kc_m1 : ((-1) : Int32).toInt = (-1)) (fun h115 => ?_) (fun h115 => ?_)
                      · omega
                      · refine q_iconst (v := (1 : Int32)) hM dX4_expression_118 (by decide) ?_
                        exact hE _ _ _ _ _ _ hW.1 nz_1 ⟨v3077, _, rfl, hW.2.1, hG, hW.2.2, c92_79_2, (by have := kc_1; omega), (by have := kc_1; omega), (by have := kc_1; omega)⟩ dX4_expression_119
                    · refine q_iload hM dX4_expression_106 (lv_at hl 4 rfl) ?_
                      refine q_goto (tgt := 112) hM dX4_expression_108 (by decide) ?_
                      refine q_istore_n (lv9 := [(2, .int r3085), (0, .ref (ad 79)), (1, .int op), (3, .int p73), (4, .int r3085)]) hM dX4_expression_112 hl (by decide) rfl (fun ls hl => ?_)
                      refine q_iload_n hM dX4_expression_113 (lv_at hl 0 rfl) ?_
                      refine q_iconst (v := ((-1) : Int32)) hM dX4_expression_114 (by decide) ?_
                      refine q_icmp_ne (tgt := 120) hM dX4_expression_115 (by decide) (rfl : r3085.toInt = r3085.toInt) (kc_m1 : ((-1) : Int32).toInt = (-1)) (fun h115 => ?_) (fun h115 => ?_)
                      · refine q_aload_n hM dX4_expression_120 (lv_at hl 1 rfl) ?_
                        refine q_dup hM dX4_expression_121 rfl ?_
                        refine w_get (v := .int v3077) hM hW FG_X4_23 lb_79 c92_79_2 dX4_expression_122 ?_
                        have bv3077 := hG.f c92_79_2 rF_79_2 (by decide)
                        refine q_iconst (v := (1 : Int32)) hM dX4_expression_125 (by decide) ?_
                        refine q_iadd hM dX4_expression_126 (fun z3106 hz3106 => ?_)
                        first | have tz3106 := i_addT hz3106 (rfl : v3077.toInt = v3077.toInt) (kc_1 : (1 : Int32).toInt = 1) (by omega) (by omega) | skip
                        refine w_put hM hW FP_X4_23 lb_79 (by omega) (Or.inl ⟨_, rfl⟩) rfl rfl dX4_expression_127 (fun g3107 H locs hW e1 e2 => ?_)
                        have f3108 : fld g3107 79 2 = .int z3106 := e1
                        have hG := hG.put e1 e2 rF_79_2 (by decide) (by have := i_rng z3106; omega) (by have := i_rng z3106; omega)
                        refine q_goto (tgt := 4) hM dX4_expression_130 (by decide) ?_
                        exact ih4 p73 r3085 z3106 _ _ _ _ (by omega) hG (by omega) (by omega) f3108 (lv_sub hl [1, 2, 0, 3] rfl) hW
                      · refine q_iconst (v := (1 : Int32)) hM dX4_expression_118 (by decide) ?_
                        exact hE _ _ _ _ _ _ hW.1 nz_1 ⟨v3077, _, rfl, hW.2.1, hG, hW.2.2, c92_79_2, (by have := kc_1; omega), (by have := kc_1; omega), (by have := kc_1; omega)⟩ dX4_expression_119
                refine q_iload_n hM dX4_expression_78 (lv_at hl 2 rfl) ?_
                refine q_iconst (v := ((-1) : Int32)) hM dX4_expression_79 (by decide) ?_
                refine q_icmp_eq (tgt := 92) hM dX4_expression_80 (by decide) (rfl : w4_2.toInt = w4_2.toInt) (kc_m1 : ((-1) : Int32).toInt = (-1)) (fun h80 => ?_) (fun h80 => ?_)
                · exact L92  _ _ _ _ hG c73_79_2 (lv_sub hl [0, 1, 2, 3, 4] rfl) hW
                · refine q_aload_n hM dX4_expression_83 (lv_at hl 0 rfl) ?_
                  refine w_get (v := .ref (ad lw)) hM hW FG_X4_15 lb_79 ((hW.2.2.1 79 4 (by omega)).trans h_r4) dX4_expression_84 ?_
                  refine q_iload_n hM dX4_expression_87 (lv_at hl 2 rfl) ?_
                  refine q_iconst (v := (0 : Int32)) hM dX4_expression_88 (by decide) ?_
                  refine q_callV (As := [.int w4_2, .int (0 : Int32)]) (rest := []) hM hW.1 hR hC myX3_add (kAW (v_2_7 (List.mem_of_getElem? (i := 13) rfl)) rfl) (rfl : vwCl[3]? = some (RX3, TX3, 8)) rfl (lo_Lw hlw).1 (shO hW.2.1 (lo_Lw hlw)) (a_X3_add _ _ cA ad g9 lw w4_2 (0 : Int32) hW.2.1 hG hlw (by have := kc_0; omega) (by have := kc_0; omega)) ⟨by decide, by decide⟩ rfl rfl hl.1 (Nat.le_of_ble_eq_true rfl) dX4_expression_89 (fun v g3112 H locs hp hW1 => ?_)
                  obtain ⟨rfl, hs1, hG, hf1⟩ := hp
                  have f3113 : fld g3112 79 2 = .int v3077 := (hf1.1 79 2 (by omega)).trans c73_79_2
                  have hW : WS ad cA (fun i k => (i = 79 ∧ (k = 2 ∨ k = 3)) ∨ (i = lw ∧ (k = 7)) ∨ i = (lw + 4) ∨ i = (lw + 5)) g0 K g3112 H locs := ⟨hW1, hs1, hW.2.2.tr hf1 (fun i k h => h.elim (fun h => (Or.inr (Or.inl h))) (fun h => h.elim (fun h => (Or.inr (Or.inr (Or.inl h)))) (fun h => (Or.inr (Or.inr (Or.inr h))))))⟩
                  exact L92  _ _ _ _ hG f3113 (lv_sub hl [0, 1, 2, 3, 4] rfl) hW
            refine q_iload hM dX4_expression_45 (lv_at hl 0 rfl) ?_
            refine q_bipush (v := (42 : Int32)) hM dX4_expression_47 (by decide) ?_
            refine q_icmp_eq (tgt := 66) hM dX4_expression_49 (by decide) (rfl : r3085.toInt = r3085.toInt) (kc_42 : (42 : Int32).toInt = 42) (fun h49 => ?_) (fun h49 => ?_)
            · refine q_iload hM dX4_expression_66 (lv_at hl 0 rfl) ?_
              refine q_goto (tgt := 72) hM dX4_expression_68 (by decide) ?_
              refine q_istore_n (lv9 := [(3, .int r3085), (4, .int r3085), (0, .ref (ad 79)), (1, .int op), (2, .int w4_2)]) hM dX4_expression_72 hl (by decide) rfl (fun ls hl => ?_)
              exact L73 r3085 _ _ _ _ hG (by omega) c39_79_2 (lv_sub hl [2, 3, 4, 0, 1] rfl) hW
            · refine q_iload hM dX4_expression_52 (lv_at hl 0 rfl) ?_
              refine q_bipush (v := (47 : Int32)) hM dX4_expression_54 (by decide) ?_
              refine q_icmp_eq (tgt := 66) hM dX4_expression_56 (by decide) (rfl : r3085.toInt = r3085.toInt) (kc_47 : (47 : Int32).toInt = 47) (fun h56 => ?_) (fun h56 => ?_)
              · refine q_iload hM dX4_expression_66 (lv_at hl 0 rfl) ?_
                refine q_goto (tgt := 72) hM dX4_expression_68 (by decide) ?_
                refine q_istore_n (lv9 := [(3, .int r3085), (4, .int r3085), (0, .ref (ad 79)), (1, .int op), (2, .int w4_2)]) hM dX4_expression_72 hl (by decide) rfl (fun ls hl => ?_)
                exact L73 r3085 _ _ _ _ hG (by omega) c39_79_2 (lv_sub hl [2, 3, 4, 0, 1] rfl) hW
              · refine q_iload hM dX4_expression_59 (lv_at hl 0 rfl) ?_
                refine q_bipush (v := (37 : Int32)) hM dX4_expression_61 (by decide) ?_
                refine q_icmp_ne (tgt := 71) hM dX4_expression_63 (by decide) (rfl : r3085.toInt = r3085.toInt) (kc_37 : (37 : Int32).toInt = 37) (fun h63 => ?_) (fun h63 => ?_)
                · refine q_iconst (v := ((-1) : Int32)) hM dX4_expression_71 (by decide) ?_
                  refine q_istore_n (lv9 := [(3, .int ((-1) : Int32)), (4, .int r3085), (0, .ref (ad 79)), (1, .int op), (2, .int w4_2)]) hM dX4_expression_72 hl (by decide) rfl (fun ls hl => ?_)
                  have := kc_m1
                  exact L73 ((-1) : Int32) _ _ _ _ hG (by omega) c39_79_2 (lv_sub hl [2, 3, 4, 0, 1] rfl) hW
                · refine q_iload hM dX4_expression_66 (lv_at hl 0 rfl) ?_
                  refine q_goto (tgt := 72) hM dX4_expression_68 (by decide) ?_
                  refine q_istore_n (lv9 := [(3, .int r3085), (4, .int r3085), (0, .ref (ad 79)), (1, .int op), (2, .int w4_2)]) hM dX4_expression_72 hl (by decide) rfl (fun ls hl => ?_)
                  exact L73 r3085 _ _ _ _ hG (by omega) c39_79_2 (lv_sub hl [2, 3, 4, 0, 1] rfl) hW
          refine q_iload_n hM dX4_expression_25 (lv_at hl 3 rfl) ?_
          refine q_iconst (v := ((-1) : Int32)) hM dX4_expression_26 (by decide) ?_
          refine q_icmp_eq (tgt := 39) hM dX4_expression_27 (by decide) (rfl : w4_3.toInt = w4_3.toInt) (kc_m1 : ((-1) : Int32).toInt = (-1)) (fun h27 => ?_) (fun h27 => ?_)
          · exact L39  _ _ _ _ hG q3079 (lv_sub hl [0, 1, 2, 3] rfl) hW
          · refine q_aload_n hM dX4_expression_30 (lv_at hl 0 rfl) ?_
            refine w_get (v := .ref (ad lw)) hM hW FG_X4_15 lb_79 ((hW.2.2.1 79 4 (by omega)).trans h_r4) dX4_expression_31 ?_
            refine q_iload_n hM dX4_expression_34 (lv_at hl 3 rfl) ?_
            refine q_iconst (v := (0 : Int32)) hM dX4_expression_35 (by decide) ?_
            refine q_callV (As := [.int w4_3, .int (0 : Int32)]) (rest := []) hM hW.1 hR hC myX3_add (kAW (v_2_7 (List.mem_of_getElem? (i := 13) rfl)) rfl) (rfl : vwCl[3]? = some (RX3, TX3, 8)) rfl (lo_Lw hlw).1 (shO hW.2.1 (lo_Lw hlw)) (a_X3_add _ _ cA ad g3082 lw w4_3 (0 : Int32) hW.2.1 hG hlw (by have := kc_0; omega) (by have := kc_0; omega)) ⟨by decide, by decide⟩ rfl rfl hl.1 (Nat.le_of_ble_eq_true rfl) dX4_expression_36 (fun v g3122 H locs hp hW1 => ?_)
            obtain ⟨rfl, hs1, hG, hf1⟩ := hp
            have f3123 : fld g3122 79 2 = .int v3077 := (hf1.1 79 2 (by omega)).trans q3079
            have hW : WS ad cA (fun i k => (i = 79 ∧ (k = 2 ∨ k = 3)) ∨ (i = lw ∧ (k = 7)) ∨ i = (lw + 4) ∨ i = (lw + 5)) g0 K g3122 H locs := ⟨hW1, hs1, hW.2.2.tr hf1 (fun i k h => h.elim (fun h => (Or.inr (Or.inl h))) (fun h => h.elim (fun h => (Or.inr (Or.inr (Or.inl h)))) (fun h => (Or.inr (Or.inr (Or.inr h))))))⟩
            exact L39  _ _ _ _ hG f3123 (lv_sub hl [0, 1, 2, 3] rfl) hW
        · refine q_iconst (v := (0 : Int32)) hM dX4_expression_23 (by decide) ?_
          exact hE _ _ _ _ _ _ hW.1 nz_0 ⟨v3077, _, rfl, hW.2.1, hG, hW.2.2, q3079, (by have := kc_0; omega), (by have := kc_0; omega), (by have := kc_0; omega)⟩ dX4_expression_24
  have := kc_m1
  have := kc_m1
  exact L4 _ ((-1) : Int32) ((-1) : Int32) a0 _ _ _ _ (Nat.lt_succ_self _) hG (by omega) (by omega) f3070 (lv_sub hl [2, 3, 1, 0] rfl) hW

theorem dX4_test_29 : decode cX4_test 29 = .ok (.aload_n 0, 1) := by decide +kernel
theorem dX4_test_30 : decode cX4_test 30 = .ok (.dup, 1) := by decide +kernel
theorem dX4_test_31 : decode cX4_test 31 = .ok (.getfield 23, 3) := by decide +kernel
theorem dX4_test_34 : decode cX4_test 34 = .ok (.iconst 1, 1) := by decide +kernel
theorem dX4_test_35 : decode cX4_test 35 = .ok (.iadd, 1) := by decide +kernel
theorem dX4_test_36 : decode cX4_test 36 = .ok (.putfield 23, 3) := by decide +kernel
theorem dX4_test_39 : decode cX4_test 39 = .ok (.iload_n 2, 1) := by decide +kernel
theorem dX4_test_40 : decode cX4_test 40 = .ok (.bipush 40, 2) := by decide +kernel
theorem dX4_test_42 : decode cX4_test 42 = .ok (.if_icmp .ne 28, 3) := by decide +kernel
theorem dX4_test_45 : decode cX4_test 45 = .ok (.aload_n 0, 1) := by decide +kernel
theorem dX4_test_46 : decode cX4_test 46 = .ok (.iload_n 1, 1) := by decide +kernel
theorem dX4_test_47 : decode cX4_test 47 = .ok (.iconst 1, 1) := by decide +kernel
theorem dX4_test_48 : decode cX4_test 48 = .ok (.iadd, 1) := by decide +kernel
theorem dX4_test_49 : decode cX4_test 49 = .ok (.invokevirtual 82, 3) := by decide +kernel
theorem dX4_test_52 : decode cX4_test 52 = .ok (.ifCond .eq 16, 3) := by decide +kernel
theorem dX4_test_55 : decode cX4_test 55 = .ok (.aload_n 0, 1) := by decide +kernel
theorem dX4_test_56 : decode cX4_test 56 = .ok (.bipush 41, 2) := by decide +kernel
theorem dX4_test_58 : decode cX4_test 58 = .ok (.invokevirtual 85, 3) := by decide +kernel
theorem dX4_test_61 : decode cX4_test 61 = .ok (.ifCond .eq 7, 3) := by decide +kernel
theorem dX4_test_64 : decode cX4_test 64 = .ok (.iconst 1, 1) := by decide +kernel
theorem dX4_test_65 : decode cX4_test 65 = .ok (.goto 4, 3) := by decide +kernel
theorem dX4_test_68 : decode cX4_test 68 = .ok (.iconst 0, 1) := by decide +kernel
theorem dX4_test_69 : decode cX4_test 69 = .ok (.ireturn, 1) := by decide +kernel
theorem dX4_test_70 : decode cX4_test 70 = .ok (.aload_n 0, 1) := by decide +kernel
theorem dX4_test_71 : decode cX4_test 71 = .ok (.iload_n 1, 1) := by decide +kernel
theorem dX4_test_72 : decode cX4_test 72 = .ok (.iconst 1, 1) := by decide +kernel
theorem dX4_test_73 : decode cX4_test 73 = .ok (.iadd, 1) := by decide +kernel
theorem dX4_test_74 : decode cX4_test 74 = .ok (.invokevirtual 88, 3) := by decide +kernel
theorem dX4_test_77 : decode cX4_test 77 = .ok (.ifCond .ne 5, 3) := by decide +kernel
theorem dX4_test_80 : decode cX4_test 80 = .ok (.iconst 0, 1) := by decide +kernel
theorem dX4_test_81 : decode cX4_test 81 = .ok (.ireturn, 1) := by decide +kernel
theorem dX4_test_82 : decode cX4_test 82 = .ok (.aload_n 0, 1) := by decide +kernel
theorem dX4_test_83 : decode cX4_test 83 = .ok (.getfield 15, 3) := by decide +kernel
theorem dX4_test_86 : decode cX4_test 86 = .ok (.iconst 3, 1) := by decide +kernel
theorem dX4_test_87 : decode cX4_test 87 = .ok (.iconst 0, 1) := by decide +kernel
theorem dX4_test_88 : decode cX4_test 88 = .ok (.invokevirtual 75, 3) := by decide +kernel
theorem dX4_test_91 : decode cX4_test 91 = .ok (.iconst 1, 1) := by decide +kernel
theorem dX4_test_92 : decode cX4_test 92 = .ok (.ireturn, 1) := by decide +kernel
theorem myX4_condition : MI yX4_condition cX4_condition 6 (some FieldType.boolean) 1 := ⟨kAW (v_2_8 (List.mem_of_getElem? (i := 5) rfl)) rfl, kAW (v_0_0 (List.mem_of_getElem? (i := 8) rfl)) rfl, kAW (v_2_8 (List.mem_of_getElem? (i := 4) rfl)) rfl, kAW (tp_t0 (List.mem_of_getElem? (i := 13) rfl)) rfl, by decide, by decide, by decide +kernel⟩
set_option maxRecDepth 100000 in
set_option maxHeartbeats 4000000 in
theorem a_X4_test_5 (l : Launch) (D : va_G) (cA : Nat → ClassId) (ad : Nat → Nat) (g0 : Nat → va_E) (op : Int32) (en : Int32) (a0 : Int32) (lw : Nat) (hSh : Shp ad cA g0) (hG : Rng g0) (hlw : isLw lw) (h_en : fld g0 79 1 = .int en) (h_a0 : fld g0 79 2 = .int a0) (h_r4 : fld g0 79 4 = .ref (ad lw)) (ah0 : 0 ≤ a0.toInt) (ah1 : a0.toInt ≤ en.toInt) (ah2 : en.toInt ≤ 240) (ok : op.toInt = 5) : CT l NN ad cA D yX4_test cX4_test 3 (some FieldType.boolean) (9, 206) [.ref (ad 79), .int op] g0 (fun v g' => ∃ (a9 : Int32) (r : Int32), v = some (.int r) ∧ Shp ad cA g' ∧ Rng g' ∧ FR (fun i k => (i = 79 ∧ (k = 2 ∨ k = 3)) ∨ (i = lw ∧ (k = 7)) ∨ i = (lw + 4) ∨ i = (lw + 5)) g0 g' ∧ fld g' 79 2 = .int a9 ∧ (a0.toInt ≤ a9.toInt) ∧ (a9.toInt ≤ en.toInt) ∧ (r.toInt = 0 ∨ r.toInt = 1)) := by
  refine q_enterZ (by decide) (Nat.le_of_ble_eq_true rfl) (fun K H locs ls _ _ hM hW0 hR hC hE hl => ?_)
  have hl : lv_has ls 3 [(0, .ref (ad 79)), (1, .int op)] := hl
  have hW : WS ad cA (fun i k => (i = 79 ∧ (k = 2 ∨ k = 3)) ∨ (i = lw ∧ (k = 7)) ∨ i = (lw + 4) ∨ i = (lw + 5)) g0 K g0 H locs := ⟨hW0, hSh, FR.rf⟩
  have ulw := hlw
  unfold isLw at ulw
  have b_en := hG.f h_en rF_79_1 (by decide)
  have b_a0 := hG.f h_a0 rF_79_2 (by decide)
  have f3125 : fld g0 79 2 = .int a0 := h_a0
  refine q_aload_n hM dX4_test_0 (lv_at hl 0 rfl) ?_
  refine q_callV (As := []) (rest := []) hM hW.1 hR hC myX4_sign (kAW (v_2_0 (List.mem_of_getElem? (i := 12) rfl)) rfl) (rfl : vwCl[4]? = some (RX4, TX4, 5)) rfl lb_79.1 (shO hW.2.1 lb_79) (a_X4_sign _ _ cA ad g0 en a0 hW.2.1 hG ((hW.2.2.1 79 1 (by omega)).trans h_en) f3125 (by  omega) (by  omega) (by  omega)) ⟨by decide, by decide⟩ rfl rfl hl.1 (Nat.le_of_ble_eq_true rfl) dX4_test_1 (fun v g3127 H locs hp hW1 => ?_)
  obtain ⟨r3126, rfl, hr3126, rfl⟩ := hp
  have hW : WS ad cA (fun i k => (i = 79 ∧ (k = 2 ∨ k = 3)) ∨ (i = lw ∧ (k = 7)) ∨ i = (lw + 4) ∨ i = (lw + 5)) g0 K g0 H locs := ⟨hW1, hW.2.1, hW.2.2⟩
  refine q_istore_n (lv9 := [(2, .int r3126), (0, .ref (ad 79)), (1, .int op)]) hM dX4_test_4 hl (by decide) rfl (fun ls hl => ?_)
  have L17 : ∀ (g9 : Nat → va_E) (H : Heap) (locs : List Loc) (ls : Array Slot), (Rng g9) → (r3126.toInt = 33 ∨ r3126.toInt = 40) → (fld g9 79 2 = .int a0) → lv_has ls 3 [(0, .ref (ad 79)), (1, .int op), (2, .int r3126)] → WS ad cA (fun i k => (i = 79 ∧ (k = 2 ∨ k = 3)) ∨ (i = lw ∧ (k = 7)) ∨ i = (lw + 4) ∨ i = (lw + 5)) g0 K g9 H locs → XX K 0 0 H locs 17 ls [] := by
    intro g9 H locs ls i17_0 i17_1 c17_79_2 hl hW
    have hG := i17_0
    refine q_iload_n hM dX4_test_17 (lv_at hl 1 rfl) ?_
    refine q_bipush (v := (6 : Int32)) hM dX4_test_18 (by decide) ?_
    refine q_icmp_lt (tgt := 29) hM dX4_test_20 (by decide) (rfl : op.toInt = op.toInt) (kc_6 : (6 : Int32).toInt = 6) (fun h20 => ?_) (fun h20 => ?_)
    · refine q_aload_n hM dX4_test_29 (lv_at hl 0 rfl) ?_
      refine q_dup hM dX4_test_30 rfl ?_
      refine w_get (v := .int a0) hM hW FG_X4_23 lb_79 c17_79_2 dX4_test_31 ?_
      have ba0 := hG.f c17_79_2 rF_79_2 (by decide)
      refine q_iconst (v := (1 : Int32)) hM dX4_test_34 (by decide) ?_
      refine q_iadd hM dX4_test_35 (fun z3130 hz3130 => ?_)
      first | have tz3130 := i_addT hz3130 (rfl : a0.toInt = a0.toInt) (kc_1 : (1 : Int32).toInt = 1) (by omega) (by omega) | skip
      refine w_put hM hW FP_X4_23 lb_79 (by omega) (Or.inl ⟨_, rfl⟩) rfl rfl dX4_test_36 (fun g3131 H locs hW e1 e2 => ?_)
      have f3132 : fld g3131 79 2 = .int z3130 := e1
      have hG := hG.put e1 e2 rF_79_2 (by decide) (by have := i_rng z3130; omega) (by have := i_rng z3130; omega)
      refine q_iload_n hM dX4_test_39 (lv_at hl 2 rfl) ?_
      refine q_bipush (v := (40 : Int32)) hM dX4_test_40 (by decide) ?_
      refine q_icmp_ne (tgt := 70) hM dX4_test_42 (by decide) (rfl : r3126.toInt = r3126.toInt) (kc_40 : (40 : Int32).toInt = 40) (fun h42 => ?_) (fun h42 => ?_)
      · refine q_aload_n hM dX4_test_70 (lv_at hl 0 rfl) ?_
        refine q_iload_n hM dX4_test_71 (lv_at hl 1 rfl) ?_
        refine q_iconst (v := (1 : Int32)) hM dX4_test_72 (by decide) ?_
        refine q_iadd hM dX4_test_73 (fun z3134 hz3134 => ?_)
        first | have tz3134 := i_addT hz3134 (rfl : op.toInt = op.toInt) (kc_1 : (1 : Int32).toInt = 1) (by omega) (by omega) | skip
        refine q_callV (As := [.int z3134]) (rest := []) hM hW.1 hR hC myX4_test (kAW (v_2_8 (List.mem_of_getElem? (i := 6) rfl)) rfl) (rfl : vwCl[4]? = some (RX4, TX4, 5)) rfl lb_79.1 (shO hW.2.1 lb_79) (a_X4_test_6 _ _ cA ad g3131 z3134 en z3130 lw hW.2.1 hG hlw ((hW.2.2.1 79 1 (by omega)).trans h_en) f3132 ((hW.2.2.1 79 4 (by omega)).trans h_r4) (by  omega) (by  omega) (by  omega) (by  omega)) ⟨by decide, by decide⟩ rfl rfl hl.1 (Nat.le_of_ble_eq_true rfl) dX4_test_74 (fun v g3140 H locs hp hW1 => ?_)
        obtain ⟨v3135, r3136, rfl, hs1, hG, hf1, q3137, e3138, e3139, hr3136⟩ := hp
        have hW : WS ad cA (fun i k => (i = 79 ∧ (k = 2 ∨ k = 3)) ∨ (i = lw ∧ (k = 7)) ∨ i = (lw + 4) ∨ i = (lw + 5)) g0 K g3140 H locs := ⟨hW1, hs1, hW.2.2.tr hf1 (fun i k h => h.elim (fun h => (Or.inl h)) (fun h => h.elim (fun h => (Or.inr (Or.inl h))) (fun h => h.elim (fun h => (Or.inr (Or.inr (Or.inl h)))) (fun h => (Or.inr (Or.inr (Or.inr h)))))))⟩
        refine q_if_ne (tgt := 82) hM dX4_test_77 (by decide) (rfl : r3136.toInt = r3136.toInt) (fun h77 => ?_) (fun h77 => ?_)
        · refine q_aload_n hM dX4_test_82 (lv_at hl 0 rfl) ?_
          refine w_get (v := .ref (ad lw)) hM hW FG_X4_15 lb_79 ((hW.2.2.1 79 4 (by omega)).trans h_r4) dX4_test_83 ?_
          refine q_iconst (v := (3 : Int32)) hM dX4_test_86 (by decide) ?_
          refine q_iconst (v := (0 : Int32)) hM dX4_test_87 (by decide) ?_
          refine q_callV (As := [.int (3 : Int32), .int (0 : Int32)]) (rest := []) hM hW.1 hR hC myX3_add (kAW (v_2_7 (List.mem_of_getElem? (i := 13) rfl)) rfl) (rfl : vwCl[3]? = some (RX3, TX3, 8)) rfl (lo_Lw hlw).1 (shO hW.2.1 (lo_Lw hlw)) (a_X3_add _ _ cA ad g3140 lw (3 : Int32) (0 : Int32) hW.2.1 hG hlw (by have := kc_3; have := kc_0; omega) (by have := kc_3; have := kc_0; omega)) ⟨by decide, by decide⟩ rfl rfl hl.1 (Nat.le_of_ble_eq_true rfl) dX4_test_88 (fun v g3142 H locs hp hW1 => ?_)
          obtain ⟨rfl, hs1, hG, hf1⟩ := hp
          have f3143 : fld g3142 79 2 = .int v3135 := (hf1.1 79 2 (by omega)).trans q3137
          have hW : WS ad cA (fun i k => (i = 79 ∧ (k = 2 ∨ k = 3)) ∨ (i = lw ∧ (k = 7)) ∨ i = (lw + 4) ∨ i = (lw + 5)) g0 K g3142 H locs := ⟨hW1, hs1, hW.2.2.tr hf1 (fun i k h => h.elim (fun h => (Or.inr (Or.inl h))) (fun h => h.elim (fun h => (Or.inr (Or.inr (Or.inl h)))) (fun h => (Or.inr (Or.inr (Or.inr h))))))⟩
          refine q_iconst (v := (1 : Int32)) hM dX4_test_91 (by decide) ?_
          exact hE _ _ _ _ _ _ hW.1 nz_1 ⟨v3135, _, rfl, hW.2.1, hG, hW.2.2, f3143, (by have := kc_1; omega), (by have := kc_1; omega), (by have := kc_1; omega)⟩ dX4_test_92
        · refine q_iconst (v := (0 : Int32)) hM dX4_test_80 (by decide) ?_
          exact hE _ _ _ _ _ _ hW.1 nz_0 ⟨v3135, _, rfl, hW.2.1, hG, hW.2.2, q3137, (by have := kc_0; omega), (by have := kc_0; omega), (by have := kc_0; omega)⟩ dX4_test_81
      · refine q_aload_n hM dX4_test_45 (lv_at hl 0 rfl) ?_
        refine q_iload_n hM dX4_test_46 (lv_at hl 1 rfl) ?_
        refine q_iconst (v := (1 : Int32)) hM dX4_test_47 (by decide) ?_
        refine q_iadd hM dX4_test_48 (fun z3146 hz3146 => ?_)
        first | have tz3146 := i_addT hz3146 (rfl : op.toInt = op.toInt) (kc_1 : (1 : Int32).toInt = 1) (by omega) (by omega) | skip
        refine q_callV (As := [.int z3146]) (rest := []) hM hW.1 hR hC myX4_condition (kAW (v_2_8 (List.mem_of_getElem? (i := 2) rfl)) rfl) (rfl : vwCl[4]? = some (RX4, TX4, 5)) rfl lb_79.1 (shO hW.2.1 lb_79) (a_X4_condition_6 _ _ cA ad g3131 z3146 en z3130 lw hW.2.1 hG hlw ((hW.2.2.1 79 1 (by omega)).trans h_en) f3132 ((hW.2.2.1 79 4 (by omega)).trans h_r4) (by  omega) (by  omega) (by  omega) (by  omega)) ⟨by decide, by decide⟩ rfl rfl hl.1 (Nat.le_of_ble_eq_true rfl) dX4_test_49 (fun v g3152 H locs hp hW1 => ?_)
        obtain ⟨v3147, r3148, rfl, hs1, hG, hf1, q3149, e3150, e3151, hr3148⟩ := hp
        have hW : WS ad cA (fun i k => (i = 79 ∧ (k = 2 ∨ k = 3)) ∨ (i = lw ∧ (k = 7)) ∨ i = (lw + 4) ∨ i = (lw + 5)) g0 K g3152 H locs := ⟨hW1, hs1, hW.2.2.tr hf1 (fun i k h => h.elim (fun h => (Or.inl h)) (fun h => h.elim (fun h => (Or.inr (Or.inl h))) (fun h => h.elim (fun h => (Or.inr (Or.inr (Or.inl h)))) (fun h => (Or.inr (Or.inr (Or.inr h)))))))⟩
        refine q_if_eq (tgt := 68) hM dX4_test_52 (by decide) (rfl : r3148.toInt = r3148.toInt) (fun h52 => ?_) (fun h52 => ?_)
        · refine q_iconst (v := (0 : Int32)) hM dX4_test_68 (by decide) ?_
          exact hE _ _ _ _ _ _ hW.1 nz_0 ⟨v3147, _, rfl, hW.2.1, hG, hW.2.2, q3149, (by have := kc_0; omega), (by have := kc_0; omega), (by have := kc_0; omega)⟩ dX4_test_69
        · refine q_aload_n hM dX4_test_55 (lv_at hl 0 rfl) ?_
          refine q_bipush (v := (41 : Int32)) hM dX4_test_56 (by decide) ?_
          refine q_callV (As := [.int (41 : Int32)]) (rest := []) hM hW.1 hR hC myX4_passes (kAW (v_2_7 (List.mem_of_getElem? (i := 4) rfl)) rfl) (rfl : vwCl[4]? = some (RX4, TX4, 5)) rfl lb_79.1 (shO hW.2.1 lb_79) (a_X4_passes _ _ cA ad g3152 (41 : Int32) en v3147 hW.2.1 hG ((hW.2.2.1 79 1 (by omega)).trans h_en) q3149 (by have := kc_41; omega) (by have := kc_41; omega) (by have := kc_41; omega)) ⟨by decide, by decide⟩ rfl rfl hl.1 (Nat.le_of_ble_eq_true rfl) dX4_test_58 (fun v g3160 H locs hp hW1 => ?_)
          obtain ⟨v3155, r3156, rfl, hs1, hG, hf1, q3157, e3158, e3159, hr3156⟩ := hp
          have hW : WS ad cA (fun i k => (i = 79 ∧ (k = 2 ∨ k = 3)) ∨ (i = lw ∧ (k = 7)) ∨ i = (lw + 4) ∨ i = (lw + 5)) g0 K g3160 H locs := ⟨hW1, hs1, hW.2.2.tr hf1 (fun i k h => (Or.inl h))⟩
          refine q_if_eq (tgt := 68) hM dX4_test_61 (by decide) (rfl : r3156.toInt = r3156.toInt) (fun h61 => ?_) (fun h61 => ?_)
          · refine q_iconst (v := (0 : Int32)) hM dX4_test_68 (by decide) ?_
            exact hE _ _ _ _ _ _ hW.1 nz_0 ⟨v3155, _, rfl, hW.2.1, hG, hW.2.2, q3157, (by have := kc_0; omega), (by have := kc_0; omega), (by have := kc_0; omega)⟩ dX4_test_69
          · refine q_iconst (v := (1 : Int32)) hM dX4_test_64 (by decide) ?_
            refine q_goto (tgt := 69) hM dX4_test_65 (by decide) ?_
            exact hE _ _ _ _ _ _ hW.1 nz_1 ⟨v3155, _, rfl, hW.2.1, hG, hW.2.2, q3157, (by have := kc_1; omega), (by have := kc_1; omega), (by have := kc_1; omega)⟩ dX4_test_69
    · omega
  refine q_iload_n hM dX4_test_5 (lv_at hl 0 rfl) ?_
  refine q_bipush (v := (33 : Int32)) hM dX4_test_6 (by decide) ?_
  refine q_icmp_eq (tgt := 17) hM dX4_test_8 (by decide) (rfl : r3126.toInt = r3126.toInt) (kc_33 : (33 : Int32).toInt = 33) (fun h8 => ?_) (fun h8 => ?_)
  · exact L17  _ _ _ _ hG (by omega) f3125 (lv_sub hl [1, 2, 0] rfl) hW
  · refine q_iload_n hM dX4_test_11 (lv_at hl 0 rfl) ?_
    refine q_bipush (v := (40 : Int32)) hM dX4_test_12 (by decide) ?_
    refine q_icmp_ne (tgt := 93) hM dX4_test_14 (by decide) (rfl : r3126.toInt = r3126.toInt) (kc_40 : (40 : Int32).toInt = 40) (fun h14 => ?_) (fun h14 => ?_)
    · refine q_aload_n hM dX4_test_93 (lv_at hl 1 rfl) ?_
      refine q_iload_n hM dX4_test_94 (lv_at hl 2 rfl) ?_
      refine q_callV (As := [.int op]) (rest := []) hM hW.1 hR hC myX4_expression (kAW (v_2_6 (List.mem_of_getElem? (i := 12) rfl)) rfl) (rfl : vwCl[4]? = some (RX4, TX4, 5)) rfl lb_79.1 (shO hW.2.1 lb_79) (a_X4_expression_5 _ _ cA ad g0 op en a0 lw hW.2.1 hG hlw ((hW.2.2.1 79 1 (by omega)).trans h_en) f3125 ((hW.2.2.1 79 4 (by omega)).trans h_r4) (by  omega) (by  omega) (by  omega) (by  omega)) ⟨by decide, by decide⟩ rfl rfl hl.1 (Nat.le_of_ble_eq_true rfl) dX4_test_95 (fun v g3172 H locs hp hW1 => ?_)
      obtain ⟨v3167, r3168, rfl, hs1, hG, hf1, q3169, e3170, e3171, hr3168⟩ := hp
      have hW : WS ad cA (fun i k => (i = 79 ∧ (k = 2 ∨ k = 3)) ∨ (i = lw ∧ (k = 7)) ∨ i = (lw + 4) ∨ i = (lw + 5)) g0 K g3172 H locs := ⟨hW1, hs1, hW.2.2.tr hf1 (fun i k h => h.elim (fun h => (Or.inl h)) (fun h => h.elim (fun h => (Or.inr (Or.inl h))) (fun h => h.elim (fun h => (Or.inr (Or.inr (Or.inl h)))) (fun h => (Or.inr (Or.inr (Or.inr h)))))))⟩
      refine q_if_ne (tgt := 103) hM dX4_test_98 (by decide) (rfl : r3168.toInt = r3168.toInt) (fun h98 => ?_) (fun h98 => ?_)
      · refine q_aload_n hM dX4_test_103 (lv_at hl 1 rfl) ?_
        refine q_callV (As := []) (rest := []) hM hW.1 hR hC myX4_sign (kAW (v_2_0 (List.mem_of_getElem? (i := 12) rfl)) rfl) (rfl : vwCl[4]? = some (RX4, TX4, 5)) rfl lb_79.1 (shO hW.2.1 lb_79) (a_X4_sign _ _ cA ad g3172 en v3167 hW.2.1 hG ((hW.2.2.1 79 1 (by omega)).trans h_en) q3169 (by  omega) (by  omega) (by  omega)) ⟨by decide, by decide⟩ rfl rfl hl.1 (Nat.le_of_ble_eq_true rfl) dX4_test_104 (fun v g3175 H locs hp hW1 => ?_)
        obtain ⟨r3174, rfl, hr3174, rfl⟩ := hp
        have hW : WS ad cA (fun i k => (i = 79 ∧ (k = 2 ∨ k = 3)) ∨ (i = lw ∧ (k = 7)) ∨ i = (lw + 4) ∨ i = (lw + 5)) g0 K g3172 H locs := ⟨hW1, hW.2.1, hW.2.2⟩
        refine q_istore_n (lv9 := [(2, .int r3174), (0, .ref (ad 79)), (1, .int op)]) hM dX4_test_107 hl (by decide) rfl (fun ls hl => ?_)
        have L132 : ∀ (g9 : Nat → va_E) (H : Heap) (locs : List Loc) (ls : Array Slot), (Rng g9) → (0 ≤ r3174.toInt) → (fld g9 79 2 = .int v3167) → lv_has ls 3 [(0, .ref (ad 79)), (1, .int op), (2, .int r3174)] → WS ad cA (fun i k => (i = 79 ∧ (k = 2 ∨ k = 3)) ∨ (i = lw ∧ (k = 7)) ∨ i = (lw + 4) ∨ i = (lw + 5)) g0 K g9 H locs → XX K 0 0 H locs 132 ls [] := by
          intro g9 H locs ls i132_0 i132_1 c132_79_2 hl hW
          have hG := i132_0
          refine q_aload_n hM dX4_test_132 (lv_at hl 0 rfl) ?_
          refine q_dup hM dX4_test_133 rfl ?_
          refine w_get (v := .int v3167) hM hW FG_X4_23 lb_79 c132_79_2 dX4_test_134 ?_
          have bv3167 := hG.f c132_79_2 rF_79_2 (by decide)
          refine q_iconst (v := (1 : Int32)) hM dX4_test_137 (by decide) ?_
          refine q_iadd hM dX4_test_138 (fun z3177 hz3177 => ?_)
          first | have tz3177 := i_addT hz3177 (rfl : v3167.toInt = v3167.toInt) (kc_1 : (1 : Int32).toInt = 1) (by omega) (by omega) | skip
          refine w_put hM hW FP_X4_23 lb_79 (by omega) (Or.inl ⟨_, rfl⟩) rfl rfl dX4_test_139 (fun g3178 H locs hW e1 e2 => ?_)
          have f3179 : fld g3178 79 2 = .int z3177 := e1
          have hG := hG.put e1 e2 rF_79_2 (by decide) (by have := i_rng z3177; omega) (by have := i_rng z3177; omega)
          refine q_aload_n hM dX4_test_142 (lv_at hl 0 rfl) ?_
          refine q_iload_n hM dX4_test_143 (lv_at hl 1 rfl) ?_
          refine q_callV (As := [.int op]) (rest := []) hM hW.1 hR hC myX4_expression (kAW (v_2_6 (List.mem_of_getElem? (i := 12) rfl)) rfl) (rfl : vwCl[4]? = some (RX4, TX4, 5)) rfl lb_79.1 (shO hW.2.1 lb_79) (a_X4_expression_5 _ _ cA ad g3178 op en z3177 lw hW.2.1 hG hlw ((hW.2.2.1 79 1 (by omega)).trans h_en) f3179 ((hW.2.2.1 79 4 (by omega)).trans h_r4) (by  omega) (by  omega) (by  omega) (by  omega)) ⟨by decide, by decide⟩ rfl rfl hl.1 (Nat.le_of_ble_eq_true rfl) dX4_test_144 (fun v g3185 H locs hp hW1 => ?_)
          obtain ⟨v3180, r3181, rfl, hs1, hG, hf1, q3182, e3183, e3184, hr3181⟩ := hp
          have hW : WS ad cA (fun i k => (i = 79 ∧ (k = 2 ∨ k = 3)) ∨ (i = lw ∧ (k = 7)) ∨ i = (lw + 4) ∨ i = (lw + 5)) g0 K g3185 H locs := ⟨hW1, hs1, hW.2.2.tr hf1 (fun i k h => h.elim (fun h => (Or.inl h)) (fun h => h.elim (fun h => (Or.inr (Or.inl h))) (fun h => h.elim (fun h => (Or.inr (Or.inr (Or.inl h)))) (fun h => (Or.inr (Or.inr (Or.inr h)))))))⟩
          refine q_if_ne (tgt := 152) hM dX4_test_147 (by decide) (rfl : r3181.toInt = r3181.toInt) (fun h147 => ?_) (fun h147 => ?_)
          · refine q_aload_n hM dX4_test_152 (lv_at hl 0 rfl) ?_
            refine w_get (v := .ref (ad lw)) hM hW FG_X4_15 lb_79 ((hW.2.2.1 79 4 (by omega)).trans h_r4) dX4_test_153 ?_
            refine q_iload_n hM dX4_test_156 (lv_at hl 2 rfl) ?_
            refine q_iconst (v := (0 : Int32)) hM dX4_test_157 (by decide) ?_
            refine q_callV (As := [.int r3174, .int (0 : Int32)]) (rest := []) hM hW.1 hR hC myX3_add (kAW (v_2_7 (List.mem_of_getElem? (i := 13) rfl)) rfl) (rfl : vwCl[3]? = some (RX3, TX3, 8)) rfl (lo_Lw hlw).1 (shO hW.2.1 (lo_Lw hlw)) (a_X3_add _ _ cA ad g3185 lw r3174 (0 : Int32) hW.2.1 hG hlw (by have := kc_0; omega) (by have := kc_0; omega)) ⟨by decide, by decide⟩ rfl rfl hl.1 (Nat.le_of_ble_eq_true rfl) dX4_test_158 (fun v g3187 H locs hp hW1 => ?_)
            obtain ⟨rfl, hs1, hG, hf1⟩ := hp
            have f3188 : fld g3187 79 2 = .int v3180 := (hf1.1 79 2 (by omega)).trans q3182
            have hW : WS ad cA (fun i k => (i = 79 ∧ (k = 2 ∨ k = 3)) ∨ (i = lw ∧ (k = 7)) ∨ i = (lw + 4) ∨ i = (lw + 5)) g0 K g3187 H locs := ⟨hW1, hs1, hW.2.2.tr hf1 (fun i k h => h.elim (fun h => (Or.inr (Or.inl h))) (fun h => h.elim (fun h => (Or.inr (Or.inr (Or.inl h)))) (fun h => (Or.inr (Or.inr (Or.inr h))))))⟩
            refine q_iconst (v := (1 : Int32)) hM dX4_test_161 (by decide) ?_
            exact hE _ _ _ _ _ _ hW.1 nz_1 ⟨v3180, _, rfl, hW.2.1, hG, hW.2.2, f3188, (by have := kc_1; omega), (by have := kc_1; omega), (by have := kc_1; omega)⟩ dX4_test_162
          · refine q_iconst (v := (0 : Int32)) hM dX4_test_150 (by decide) ?_
            exact hE _ _ _ _ _ _ hW.1 nz_0 ⟨v3180, _, rfl, hW.2.1, hG, hW.2.2, q3182, (by have := kc_0; omega), (by have := kc_0; omega), (by have := kc_0; omega)⟩ dX4_test_151
        refine q_iload_n hM dX4_test_108 (lv_at hl 0 rfl) ?_
        refine q_bipush (v := (60 : Int32)) hM dX4_test_109 (by decide) ?_
        refine q_icmp_eq (tgt := 132) hM dX4_test_111 (by decide) (rfl : r3174.toInt = r3174.toInt) (kc_60 : (60 : Int32).toInt = 60) (fun h111 => ?_) (fun h111 => ?_)
        · exact L132  _ _ _ _ hG (by omega) q3169 (lv_sub hl [1, 2, 0] rfl) hW
        · refine q_iload_n hM dX4_test_114 (lv_at hl 0 rfl) ?_
          refine q_bipush (v := (62 : Int32)) hM dX4_test_115 (by decide) ?_
          refine q_icmp_eq (tgt := 132) hM dX4_test_117 (by decide) (rfl : r3174.toInt = r3174.toInt) (kc_62 : (62 : Int32).toInt = 62) (fun h117 => ?_) (fun h117 => ?_)
          · exact L132  _ _ _ _ hG (by omega) q3169 (lv_sub hl [1, 2, 0] rfl) hW
          · refine q_iload_n hM dX4_test_120 (lv_at hl 0 rfl) ?_
            refine q_bipush (v := (61 : Int32)) hM dX4_test_121 (by decide) ?_
            refine q_icmp_eq (tgt := 132) hM dX4_test_123 (by decide) (rfl : r3174.toInt = r3174.toInt) (kc_61 : (61 : Int32).toInt = 61) (fun h123 => ?_) (fun h123 => ?_)
            · exact L132  _ _ _ _ hG (by omega) q3169 (lv_sub hl [1, 2, 0] rfl) hW
            · refine q_aload_n hM dX4_test_126 (lv_at hl 1 rfl) ?_
              refine q_iconst (v := (1 : Int32)) hM dX4_test_127 (by decide) ?_
              refine q_callV (As := [.int (1 : Int32)]) (rest := []) hM hW.1 hR hC myX4_wrong (kAW (v_2_6 (List.mem_of_getElem? (i := 8) rfl)) rfl) (rfl : vwCl[4]? = some (RX4, TX4, 5)) rfl lb_79.1 (shO hW.2.1 lb_79) (a_X4_wrong _ _ cA ad g3172 (1 : Int32) hW.2.1 hG) ⟨by decide, by decide⟩ rfl rfl hl.1 (Nat.le_of_ble_eq_true rfl) dX4_test_128 (fun v g3197 H locs hp hW1 => ?_)
              obtain ⟨r3196, rfl, hs1, hG, hf1, hr3196⟩ := hp
              have f3198 : fld g3197 79 2 = .int v3167 := (hf1.1 79 2 (by omega)).trans q3169
              have hW : WS ad cA (fun i k => (i = 79 ∧ (k = 2 ∨ k = 3)) ∨ (i = lw ∧ (k = 7)) ∨ i = (lw + 4) ∨ i = (lw + 5)) g0 K g3197 H locs := ⟨hW1, hs1, hW.2.2.tr hf1 (fun i k h => (Or.inl (by omega)))⟩
              exact hE _ _ _ _ _ _ hW.1 (nz_or (by omega)) ⟨v3167, _, rfl, hW.2.1, hG, hW.2.2, f3198, (by omega), (by omega), (by omega)⟩ dX4_test_131
      · refine q_iconst (v := (0 : Int32)) hM dX4_test_101 (by decide) ?_
        exact hE _ _ _ _ _ _ hW.1 nz_0 ⟨v3167, _, rfl, hW.2.1, hG, hW.2.2, q3169, (by have := kc_0; omega), (by have := kc_0; omega), (by have := kc_0; omega)⟩ dX4_test_102
    · exact L17  _ _ _ _ hG (by omega) f3125 (lv_sub hl [1, 2, 0] rfl) hW


set_option maxRecDepth 100000 in
set_option maxHeartbeats 4000000 in
theorem a_X4_condition_5 (l : Launch) (D : va_G) (cA : Nat → ClassId) (ad : Nat → Nat) (g0 : Nat → va_E) (op : Int32) (en : Int32) (a0 : Int32) (lw : Nat) (hSh : Shp ad cA g0) (hG : Rng g0) (hlw : isLw lw) (h_en : fld g0 79 1 = .int en) (h_a0 : fld g0 79 2 = .int a0) (h_r4 : fld g0 79 4 = .ref (ad lw)) (ah0 : 0 ≤ a0.toInt) (ah1 : a0.toInt ≤ en.toInt) (ah2 : en.toInt ≤ 240) (ok : op.toInt = 5) : CT l NN ad cA D yX4_condition cX4_condition 6 (some FieldType.boolean) (10, 228) [.ref (ad 79), .int op] g0 (fun v g' => ∃ (a9 : Int32) (r : Int32), v = some (.int r) ∧ Shp ad cA g' ∧ Rng g' ∧ FR (fun i k => (i = 79 ∧ (k = 2 ∨ k = 3)) ∨ (i = lw ∧ (k = 7)) ∨ i = (lw + 4) ∨ i = (lw + 5)) g0 g' ∧ fld g' 79 2 = .int a9 ∧ (a0.toInt ≤ a9.toInt) ∧ (a9.toInt ≤ en.toInt) ∧ (r.toInt = 0 ∨ r.toInt = 1)) := by
  refine q_enterZ (by decide) (Nat.le_of_ble_eq_true rfl) (fun K H locs ls _ _ hM hW0 hR hC hE hl => ?_)
  have hl : lv_has ls 6 [(0, .ref (ad 79)), (1, .int op)] := hl
  have hW : WS ad cA (fun i k => (i = 79 ∧ (k = 2 ∨ k = 3)) ∨ (i = lw ∧ (k = 7)) ∨ i = (lw + 4) ∨ i = (lw + 5)) g0 K g0 H locs := ⟨hW0, hSh, FR.rf⟩
  have ulw := hlw
  unfold isLw at ulw
  have b_en := hG.f h_en rF_79_1 (by decide)
  have b_a0 := hG.f h_a0 rF_79_2 (by decide)
  have f3201 : fld g0 79 2 = .int a0 := h_a0
  refine q_iconst (v := ((-1) : Int32)) hM dX4_condition_0 (by decide) ?_
  refine q_istore_n (lv9 := [(2, .int ((-1) : Int32)), (0, .ref (ad 79)), (1, .int op)]) hM dX4_condition_1 hl (by decide) rfl (fun ls hl => ?_)
  refine q_iconst (v := ((-1) : Int32)) hM dX4_condition_2 (by decide) ?_
  refine q_istore_n (lv9 := [(3, .int ((-1) : Int32)), (2, .int ((-1) : Int32)), (0, .ref (ad 79)), (1, .int op)]) hM dX4_condition_3 hl (by decide) rfl (fun ls hl => ?_)
  have L4 : ∀ (fu4 : Nat) (w4_2 : Int32) (w4_3 : Int32) (aa : Int32) (g9 : Nat → va_E) (H : Heap) (locs : List Loc) (ls : Array Slot), (en.toInt - aa.toInt + 1).toNat < fu4 → (Rng g9) → (a0.toInt ≤ aa.toInt) → (aa.toInt ≤ en.toInt) → (-1 ≤ w4_2.toInt) → (w4_2.toInt ≤ 256) → (-1 ≤ w4_3.toInt) → (w4_3.toInt ≤ 256) → (fld g9 79 2 = .int aa) → lv_has ls 6 [(0, .ref (ad 79)), (1, .int op), (2, .int w4_2), (3, .int w4_3)] → WS ad cA (fun i k => (i = 79 ∧ (k = 2 ∨ k = 3)) ∨ (i = lw ∧ (k = 7)) ∨ i = (lw + 4) ∨ i = (lw + 5)) g0 K g9 H locs → XX K 0 0 H locs 4 ls [] := by
    intro fu4
    induction fu4 with
    | zero => intro w4_2 w4_3 aa g9 H locs ls h0; omega
    | succ fu4 ih4 =>
      intro w4_2 w4_3 aa g9 H locs ls hm4 i4_0 i4_1 i4_2 i4_3 i4_4 i4_5 i4_6 c4_79_2 hl hW
      have hG := i4_0
      refine q_aload_n hM dX4_condition_4 (lv_at hl 0 rfl) ?_
      refine w_get (v := .int aa) hM hW FG_X4_23 lb_79 c4_79_2 dX4_condition_5 ?_
      have baa := hG.f c4_79_2 rF_79_2 (by decide)
      refine q_aload_n hM dX4_condition_8 (lv_at hl 0 rfl) ?_
      refine w_get (v := .int en) hM hW FG_X4_19 lb_79 ((hW.2.2.1 79 1 (by omega)).trans h_en) dX4_condition_9 ?_
      refine q_icmp_gt (tgt := 114) hM dX4_condition_12 (by decide) (rfl : aa.toInt = aa.toInt) (rfl : en.toInt = en.toInt) (fun h12 => ?_) (fun h12 => ?_)
      · refine q_aload_n hM dX4_condition_114 (lv_at hl 0 rfl) ?_
        refine q_iconst (v := (1 : Int32)) hM dX4_condition_115 (by decide) ?_
        refine q_callV (As := [.int (1 : Int32)]) (rest := []) hM hW.1 hR hC myX4_wrong (kAW (v_2_6 (List.mem_of_getElem? (i := 8) rfl)) rfl) (rfl : vwCl[4]? = some (RX4, TX4, 5)) rfl lb_79.1 (shO hW.2.1 lb_79) (a_X4_wrong _ _ cA ad g9 (1 : Int32) hW.2.1 hG) ⟨by decide, by decide⟩ rfl rfl hl.1 (Nat.le_of_ble_eq_true rfl) dX4_condition_116 (fun v g3205 H locs hp hW1 => ?_)
        obtain ⟨r3204, rfl, hs1, hG, hf1, hr3204⟩ := hp
        have f3206 : fld g3205 79 2 = .int aa := (hf1.1 79 2 (by omega)).trans c4_79_2
        have hW : WS ad cA (fun i k => (i = 79 ∧ (k = 2 ∨ k = 3)) ∨ (i = lw ∧ (k = 7)) ∨ i = (lw + 4) ∨ i = (lw + 5)) g0 K g3205 H locs := ⟨hW1, hs1, hW.2.2.tr hf1 (fun i k h => (Or.inl (by omega)))⟩
        exact hE _ _ _ _ _ _ hW.1 (nz_or (by omega)) ⟨aa, _, rfl, hW.2.1, hG, hW.2.2, f3206, (by omega), (by omega), (by omega)⟩ dX4_condition_119
      · refine q_aload_n hM dX4_condition_15 (lv_at hl 0 rfl) ?_
        refine q_iload_n hM dX4_condition_16 (lv_at hl 1 rfl) ?_
        refine q_callV (As := [.int op]) (rest := []) hM hW.1 hR hC myX4_test (kAW (v_2_8 (List.mem_of_getElem? (i := 6) rfl)) rfl) (rfl : vwCl[4]? = some (RX4, TX4, 5)) rfl lb_79.1 (shO hW.2.1 lb_79) (a_X4_test_5 _ _ cA ad g9 op en aa lw hW.2.1 hG hlw ((hW.2.2.1 79 1 (by omega)).trans h_en) c4_79_2 ((hW.2.2.1 79 4 (by omega)).trans h_r4) (by  omega) (by  omega) (by  omega) (by  omega)) ⟨by decide, by decide⟩ rfl rfl hl.1 (Nat.le_of_ble_eq_true rfl) dX4_condition_17 (fun v g3213 H locs hp hW1 => ?_)
        obtain ⟨v3208, r3209, rfl, hs1, hG, hf1, q3210, e3211, e3212, hr3209⟩ := hp
        have hW : WS ad cA (fun i k => (i = 79 ∧ (k = 2 ∨ k = 3)) ∨ (i = lw ∧ (k = 7)) ∨ i = (lw + 4) ∨ i = (lw + 5)) g0 K g3213 H locs := ⟨hW1, hs1, hW.2.2.tr hf1 (fun i k h => h.elim (fun h => (Or.inl h)) (fun h => h.elim (fun h => (Or.inr (Or.inl h))) (fun h => h.elim (fun h => (Or.inr (Or.inr (Or.inl h)))) (fun h => (Or.inr (Or.inr (Or.inr h)))))))⟩
        refine q_if_ne (tgt := 25) hM dX4_condition_20 (by decide) (rfl : r3209.toInt = r3209.toInt) (fun h20 => ?_) (fun h20 => ?_)
        · refine q_aload_n hM dX4_condition_25 (lv_at hl 0 rfl) ?_
          refine q_callV (As := []) (rest := []) hM hW.1 hR hC myX4_sign (kAW (v_2_0 (List.mem_of_getElem? (i := 12) rfl)) rfl) (rfl : vwCl[4]? = some (RX4, TX4, 5)) rfl lb_79.1 (shO hW.2.1 lb_79) (a_X4_sign _ _ cA ad g3213 en v3208 hW.2.1 hG ((hW.2.2.1 79 1 (by omega)).trans h_en) q3210 (by  omega) (by  omega) (by  omega)) ⟨by decide, by decide⟩ rfl rfl hl.1 (Nat.le_of_ble_eq_true rfl) dX4_condition_26 (fun v g3216 H locs hp hW1 => ?_)
          obtain ⟨r3215, rfl, hr3215, rfl⟩ := hp
          have hW : WS ad cA (fun i k => (i = 79 ∧ (k = 2 ∨ k = 3)) ∨ (i = lw ∧ (k = 7)) ∨ i = (lw + 4) ∨ i = (lw + 5)) g0 K g3213 H locs := ⟨hW1, hW.2.1, hW.2.2⟩
          refine q_istore (lv9 := [(4, .int r3215), (0, .ref (ad 79)), (1, .int op), (2, .int w4_2), (3, .int w4_3)]) hM dX4_condition_29 hl (by decide) rfl (fun ls hl => ?_)
          refine q_aload_n hM dX4_condition_31 (lv_at hl 1 rfl) ?_
          refine w_get (v := .ref (ad lw)) hM hW FG_X4_15 lb_79 ((hW.2.2.1 79 4 (by omega)).trans h_r4) dX4_condition_32 ?_
          refine w_getI hM hW FG_X4_35 (lo_Lw hlw) (by decide) (by decide) dX4_condition_35 (fun x3217 fx3217 => ?_)
          have bx3217 := hG.f fx3217 (rF_Lw_7 hlw) (by decide)
          refine q_istore (lv9 := [(5, .int x3217), (4, .int r3215), (0, .ref (ad 79)), (1, .int op), (2, .int w4_2), (3, .int w4_3)]) hM dX4_condition_38 hl (by decide) rfl (fun ls hl => ?_)
          have L101 : ∀ (n101 : Int32) (o101 : Int32) (g9 : Nat → va_E) (H : Heap) (locs : List Loc) (ls : Array Slot), (Rng g9) → (-1 ≤ n101.toInt) → (n101.toInt ≤ 256) → (-1 ≤ o101.toInt) → (o101.toInt ≤ 256) → (0 ≤ r3215.toInt) → (fld g9 79 2 = .int v3208) → lv_has ls 6 [(0, .ref (ad 79)), (1, .int op), (2, .int n101), (3, .int o101), (4, .int r3215), (5, .int x3217)] → WS ad cA (fun i k => (i = 79 ∧ (k = 2 ∨ k = 3)) ∨ (i = lw ∧ (k = 7)) ∨ i = (lw + 4) ∨ i = (lw + 5)) g0 K g9 H locs → XX K 0 0 H locs 101 ls [] := by
            intro n101 o101 g9 H locs ls i101_0 i101_1 i101_2 i101_3 i101_4 i101_5 c101_79_2 hl hW
            have hG := i101_0
            refine q_aload_n hM dX4_condition_101 (lv_at hl 0 rfl) ?_
            refine q_dup hM dX4_condition_102 rfl ?_
            refine w_get (v := .int v3208) hM hW FG_X4_23 lb_79 c101_79_2 dX4_condition_103 ?_
            have bv3208 := hG.f c101_79_2 rF_79_2 (by decide)
            refine q_iconst (v := (1 : Int32)) hM dX4_condition_106 (by decide) ?_
            refine q_iadd hM dX4_condition_107 (fun z3219 hz3219 => ?_)
            first | have tz3219 := i_addT hz3219 (rfl : v3208.toInt = v3208.toInt) (kc_1 : (1 : Int32).toInt = 1) (by omega) (by omega) | skip
            refine w_put hM hW FP_X4_23 lb_79 (by omega) (Or.inl ⟨_, rfl⟩) rfl rfl dX4_condition_108 (fun g3220 H locs hW e1 e2 => ?_)
            have f3221 : fld g3220 79 2 = .int z3219 := e1
            have hG := hG.put e1 e2 rF_79_2 (by decide) (by have := i_rng z3219; omega) (by have := i_rng z3219; omega)
            refine q_goto (tgt := 4) hM dX4_condition_111 (by decide) ?_
            exact ih4 n101 o101 z3219 _ _ _ _ (by omega) hG (by omega) (by omega) (by omega) (by omega) (by omega) (by omega) f3221 (lv_sub hl [0, 1, 2, 3] rfl) hW
          refine q_iload hM dX4_condition_40 (lv_at hl 1 rfl) ?_
          refine q_bipush (v := (38 : Int32)) hM dX4_condition_42 (by decide) ?_
          refine q_icmp_ne (tgt := 62) hM dX4_condition_44 (by decide) (rfl : r3215.toInt = r3215.toInt) (kc_38 : (38 : Int32).toInt = 38) (fun h44 => ?_) (fun h44 => ?_)
          · refine q_aload_n hM dX4_condition_62 (lv_at hl 2 rfl) ?_
            refine w_get (v := .ref (ad lw)) hM hW FG_X4_15 lb_79 ((hW.2.2.1 79 4 (by omega)).trans h_r4) dX4_condition_63 ?_
            refine q_iload_n hM dX4_condition_66 (lv_at hl 4 rfl) ?_
            refine q_callV (As := [.int w4_2]) (rest := []) hM hW.1 hR hC myX3_land (kAW (v_2_8 (List.mem_of_getElem? (i := 10) rfl)) rfl) (rfl : vwCl[3]? = some (RX3, TX3, 8)) rfl (lo_Lw hlw).1 (shO hW.2.1 (lo_Lw hlw)) (a_X3_land _ _ cA ad g3213 lw w4_2 hW.2.1 hG hlw) ⟨by decide, by decide⟩ rfl rfl hl.1 (Nat.le_of_ble_eq_true rfl) dX4_condition_67 (fun v g3223 H locs hp hW1 => ?_)
            obtain ⟨rfl, hs1, hG, hf1⟩ := hp
            have f3224 : fld g3223 79 2 = .int v3208 := (hf1.1 79 2 (by omega)).trans q3210
            have f3225 : fld g3223 lw 7 = .int x3217 := (hf1.1 lw 7 (by omega)).trans fx3217
            have hW : WS ad cA (fun i k => (i = 79 ∧ (k = 2 ∨ k = 3)) ∨ (i = lw ∧ (k = 7)) ∨ i = (lw + 4) ∨ i = (lw + 5)) g0 K g3223 H locs := ⟨hW1, hs1, hW.2.2.tr hf1 (fun i k h => (Or.inr (Or.inr (Or.inr h))))⟩
            refine q_iconst (v := ((-1) : Int32)) hM dX4_condition_70 (by decide) ?_
            refine q_istore_n (lv9 := [(2, .int ((-1) : Int32)), (5, .int x3217), (4, .int r3215), (0, .ref (ad 79)), (1, .int op), (3, .int w4_3)]) hM dX4_condition_71 hl (by decide) rfl (fun ls hl => ?_)
            refine q_iload hM dX4_condition_72 (lv_at hl 2 rfl) ?_
            refine q_bipush (v := (124 : Int32)) hM dX4_condition_74 (by decide) ?_
            refine q_icmp_eq (tgt := 89) hM dX4_condition_76 (by decide) (rfl : r3215.toInt = r3215.toInt) (kc_124 : (124 : Int32).toInt = 124) (fun h76 => ?_) (fun h76 => ?_)
            · refine q_aload_n hM dX4_condition_89 (lv_at hl 3 rfl) ?_
              refine w_get (v := .ref (ad lw)) hM hW FG_X4_15 lb_79 ((hW.2.2.1 79 4 (by omega)).trans h_r4) dX4_condition_90 ?_
              refine q_iconst (v := (5 : Int32)) hM dX4_condition_93 (by decide) ?_
              refine q_iload_n hM dX4_condition_94 (lv_at hl 5 rfl) ?_
              refine q_callV (As := [.int (5 : Int32), .int w4_3]) (rest := []) hM hW.1 hR hC myX3_add (kAW (v_2_7 (List.mem_of_getElem? (i := 13) rfl)) rfl) (rfl : vwCl[3]? = some (RX3, TX3, 8)) rfl (lo_Lw hlw).1 (shO hW.2.1 (lo_Lw hlw)) (a_X3_add _ _ cA ad g3223 lw (5 : Int32) w4_3 hW.2.1 hG hlw (by have := kc_5; omega) (by have := kc_5; omega)) ⟨by decide, by decide⟩ rfl rfl hl.1 (Nat.le_of_ble_eq_true rfl) dX4_condition_95 (fun v g3227 H locs hp hW1 => ?_)
              obtain ⟨rfl, hs1, hG, hf1⟩ := hp
              have f3228 : fld g3227 79 2 = .int v3208 := (hf1.1 79 2 (by omega)).trans f3224
              have hW : WS ad cA (fun i k => (i = 79 ∧ (k = 2 ∨ k = 3)) ∨ (i = lw ∧ (k = 7)) ∨ i = (lw + 4) ∨ i = (lw + 5)) g0 K g3227 H locs := ⟨hW1, hs1, hW.2.2.tr hf1 (fun i k h => h.elim (fun h => (Or.inr (Or.inl h))) (fun h => h.elim (fun h => (Or.inr (Or.inr (Or.inl h)))) (fun h => (Or.inr (Or.inr (Or.inr h))))))⟩
              refine q_iload hM dX4_condition_98 (lv_at hl 1 rfl) ?_
              refine q_istore_n (lv9 := [(3, .int x3217), (2, .int ((-1) : Int32)), (5, .int x3217), (4, .int r3215), (0, .ref (ad 79)), (1, .int op)]) hM dX4_condition_100 hl (by decide) rfl (fun ls hl => ?_)
              have := kc_m1
              exact L101 ((-1) : Int32) x3217 _ _ _ _ hG (by omega) (by omega) (by omega) (by omega) (by omega) f3228 (lv_sub hl [4, 5, 1, 0, 3, 2] rfl) hW
            · refine q_aload_n hM dX4_condition_79 (lv_at hl 3 rfl) ?_
              refine w_get (v := .ref (ad lw)) hM hW FG_X4_15 lb_79 ((hW.2.2.1 79 4 (by omega)).trans h_r4) dX4_condition_80 ?_
              refine q_iload_n hM dX4_condition_83 (lv_at hl 5 rfl) ?_
              refine q_callV (As := [.int w4_3]) (rest := []) hM hW.1 hR hC myX3_land (kAW (v_2_8 (List.mem_of_getElem? (i := 10) rfl)) rfl) (rfl : vwCl[3]? = some (RX3, TX3, 8)) rfl (lo_Lw hlw).1 (shO hW.2.1 (lo_Lw hlw)) (a_X3_land _ _ cA ad g3223 lw w4_3 hW.2.1 hG hlw) ⟨by decide, by decide⟩ rfl rfl hl.1 (Nat.le_of_ble_eq_true rfl) dX4_condition_84 (fun v g3230 H locs hp hW1 => ?_)
              obtain ⟨rfl, hs1, hG, hf1⟩ := hp
              have f3231 : fld g3230 79 2 = .int v3208 := (hf1.1 79 2 (by omega)).trans f3224
              have f3232 : fld g3230 lw 7 = .int x3217 := (hf1.1 lw 7 (by omega)).trans f3225
              have hW : WS ad cA (fun i k => (i = 79 ∧ (k = 2 ∨ k = 3)) ∨ (i = lw ∧ (k = 7)) ∨ i = (lw + 4) ∨ i = (lw + 5)) g0 K g3230 H locs := ⟨hW1, hs1, hW.2.2.tr hf1 (fun i k h => (Or.inr (Or.inr (Or.inr h))))⟩
              refine q_iconst (v := (1 : Int32)) hM dX4_condition_87 (by decide) ?_
              exact hE _ _ _ _ _ _ hW.1 nz_1 ⟨v3208, _, rfl, hW.2.1, hG, hW.2.2, f3231, (by have := kc_1; omega), (by have := kc_1; omega), (by have := kc_1; omega)⟩ dX4_condition_88
          · refine q_aload_n hM dX4_condition_47 (lv_at hl 2 rfl) ?_
            refine w_get (v := .ref (ad lw)) hM hW FG_X4_15 lb_79 ((hW.2.2.1 79 4 (by omega)).trans h_r4) dX4_condition_48 ?_
            refine q_iconst (v := (4 : Int32)) hM dX4_condition_51 (by decide) ?_
            refine q_iload_n hM dX4_condition_52 (lv_at hl 4 rfl) ?_
            refine q_callV (As := [.int (4 : Int32), .int w4_2]) (rest := []) hM hW.1 hR hC myX3_add (kAW (v_2_7 (List.mem_of_getElem? (i := 13) rfl)) rfl) (rfl : vwCl[3]? = some (RX3, TX3, 8)) rfl (lo_Lw hlw).1 (shO hW.2.1 (lo_Lw hlw)) (a_X3_add _ _ cA ad g3213 lw (4 : Int32) w4_2 hW.2.1 hG hlw (by have := kc_4; omega) (by have := kc_4; omega)) ⟨by decide, by decide⟩ rfl rfl hl.1 (Nat.le_of_ble_eq_true rfl) dX4_condition_53 (fun v g3234 H locs hp hW1 => ?_)
            obtain ⟨rfl, hs1, hG, hf1⟩ := hp
            have f3235 : fld g3234 79 2 = .int v3208 := (hf1.1 79 2 (by omega)).trans q3210
            have hW : WS ad cA (fun i k => (i = 79 ∧ (k = 2 ∨ k = 3)) ∨ (i = lw ∧ (k = 7)) ∨ i = (lw + 4) ∨ i = (lw + 5)) g0 K g3234 H locs := ⟨hW1, hs1, hW.2.2.tr hf1 (fun i k h => h.elim (fun h => (Or.inr (Or.inl h))) (fun h => h.elim (fun h => (Or.inr (Or.inr (Or.inl h)))) (fun h => (Or.inr (Or.inr (Or.inr h))))))⟩
            refine q_iload hM dX4_condition_56 (lv_at hl 0 rfl) ?_
            refine q_istore_n (lv9 := [(2, .int x3217), (5, .int x3217), (4, .int r3215), (0, .ref (ad 79)), (1, .int op), (3, .int w4_3)]) hM dX4_condition_58 hl (by decide) rfl (fun ls hl => ?_)
            refine q_goto (tgt := 101) hM dX4_condition_59 (by decide) ?_
            exact L101 x3217 w4_3 _ _ _ _ hG (by omega) (by omega) (by omega) (by omega) (by omega) f3235 (lv_sub hl [3, 4, 0, 5, 2, 1] rfl) hW
        · refine q_iconst (v := (0 : Int32)) hM dX4_condition_23 (by decide) ?_
          exact hE _ _ _ _ _ _ hW.1 nz_0 ⟨v3208, _, rfl, hW.2.1, hG, hW.2.2, q3210, (by have := kc_0; omega), (by have := kc_0; omega), (by have := kc_0; omega)⟩ dX4_condition_24
  have := kc_m1
  have := kc_m1
  exact L4 _ ((-1) : Int32) ((-1) : Int32) a0 _ _ _ _ (Nat.lt_succ_self _) hG (by omega) (by omega) (by omega) (by omega) (by omega) (by omega) f3201 (lv_sub hl [2, 3, 1, 0] rfl) hW


set_option maxRecDepth 100000 in
set_option maxHeartbeats 4000000 in
theorem a_X4_factor_4 (l : Launch) (D : va_G) (cA : Nat → ClassId) (ad : Nat → Nat) (g0 : Nat → va_E) (op : Int32) (en : Int32) (a0 : Int32) (lw : Nat) (hSh : Shp ad cA g0) (hG : Rng g0) (hlw : isLw lw) (h_en : fld g0 79 1 = .int en) (h_a0 : fld g0 79 2 = .int a0) (h_r4 : fld g0 79 4 = .ref (ad lw)) (ah0 : 0 ≤ a0.toInt) (ah1 : a0.toInt ≤ en.toInt) (ah2 : en.toInt ≤ 240) (ok : op.toInt = 4) : CT l NN ad cA D yX4_factor cX4_factor 4 (some FieldType.boolean) (9, 206) [.ref (ad 79), .int op] g0 (fun v g' => ∃ (a9 : Int32) (r : Int32), v = some (.int r) ∧ Shp ad cA g' ∧ Rng g' ∧ FR (fun i k => (i = 79 ∧ (k = 2 ∨ k = 3)) ∨ (i = lw ∧ (k = 7)) ∨ i = (lw + 4) ∨ i = (lw + 5)) g0 g' ∧ fld g' 79 2 = .int a9 ∧ (a0.toInt ≤ a9.toInt) ∧ (a9.toInt ≤ en.toInt) ∧ (r.toInt = 0 ∨ r.toInt = 1)) := by
  refine q_enterZ (by decide) (Nat.le_of_ble_eq_true rfl) (fun K H locs ls _ _ hM hW0 hR hC hE hl => ?_)
  have hl : lv_has ls 4 [(0, .ref (ad 79)), (1, .int op)] := hl
  have hW : WS ad cA (fun i k => (i = 79 ∧ (k = 2 ∨ k = 3)) ∨ (i = lw ∧ (k = 7)) ∨ i = (lw + 4) ∨ i = (lw + 5)) g0 K g0 H locs := ⟨hW0, hSh, FR.rf⟩
  have ulw := hlw
  unfold isLw at ulw
  have b_en := hG.f h_en rF_79_1 (by decide)
  have b_a0 := hG.f h_a0 rF_79_2 (by decide)
  have f3237 : fld g0 79 2 = .int a0 := h_a0
  refine q_aload_n hM dX4_factor_0 (lv_at hl 0 rfl) ?_
  refine q_callV (As := []) (rest := []) hM hW.1 hR hC myX4_sign (kAW (v_2_0 (List.mem_of_getElem? (i := 12) rfl)) rfl) (rfl : vwCl[4]? = some (RX4, TX4, 5)) rfl lb_79.1 (shO hW.2.1 lb_79) (a_X4_sign _ _ cA ad g0 en a0 hW.2.1 hG ((hW.2.2.1 79 1 (by omega)).trans h_en) f3237 (by  omega) (by  omega) (by  omega)) ⟨by decide, by decide⟩ rfl rfl hl.1 (Nat.le_of_ble_eq_true rfl) dX4_factor_1 (fun v g3239 H locs hp hW1 => ?_)
  obtain ⟨r3238, rfl, hr3238, rfl⟩ := hp
  have hW : WS ad cA (fun i k => (i = 79 ∧ (k = 2 ∨ k = 3)) ∨ (i = lw ∧ (k = 7)) ∨ i = (lw + 4) ∨ i = (lw + 5)) g0 K g0 H locs := ⟨hW1, hW.2.1, hW.2.2⟩
  refine q_istore_n (lv9 := [(2, .int r3238), (0, .ref (ad 79)), (1, .int op)]) hM dX4_factor_4 hl (by decide) rfl (fun ls hl => ?_)
  refine q_iload_n hM dX4_factor_5 (lv_at hl 0 rfl) ?_
  refine q_bipush (v := (91 : Int32)) hM dX4_factor_6 (by decide) ?_
  refine q_icmp_ne (tgt := 58) hM dX4_factor_8 (by decide) (rfl : r3238.toInt = r3238.toInt) (kc_91 : (91 : Int32).toInt = 91) (fun h8 => ?_) (fun h8 => ?_)
  · refine q_iload_n hM dX4_factor_58 (lv_at hl 0 rfl) ?_
    refine q_bipush (v := (48 : Int32)) hM dX4_factor_59 (by decide) ?_
    refine q_bipush (v := (57 : Int32)) hM dX4_factor_61 (by decide) ?_
    refine q_callN (host := "ForgetSchool") (As := [.int r3238, .int (48 : Int32), .int (57 : Int32)]) (rest := []) hM hW.1 hR hC myX11_within (List.mem_of_getElem? (i := 2) rfl) (c_X11_within _ _ cA ad g0 r3238 (48 : Int32) (57 : Int32) hW.2.1) ⟨by decide, by decide⟩ rfl rfl hl.1 (Nat.le_of_ble_eq_true rfl) dX4_factor_63 (fun v g3242 H locs hp hW1 => ?_)
    obtain ⟨r3241, rfl, hr3241, rfl⟩ := hp
    have hW : WS ad cA (fun i k => (i = 79 ∧ (k = 2 ∨ k = 3)) ∨ (i = lw ∧ (k = 7)) ∨ i = (lw + 4) ∨ i = (lw + 5)) g0 K g0 H locs := ⟨hW1, hW.2.1, hW.2.2⟩
    have := kc_48
    have := kc_57
    refine q_if_eq (tgt := 102) hM dX4_factor_66 (by decide) (rfl : r3241.toInt = r3241.toInt) (fun h66 => ?_) (fun h66 => ?_)
    · refine q_ldcS1 hM hW.1 rfl dX4_factor_102 ?_
      refine q_iload_n hM dX4_factor_104 (lv_at hl 0 rfl) ?_
      refine q_callS (As := [.ref (ad 401), .int r3238]) (rest := []) hM hW.1 hR hC myX4_placeOf (kAW (v_2_1 (List.mem_of_getElem? (i := 1) rfl)) rfl) (a_X4_placeOf_1 _ _ cA ad g0 r3238 hW.2.1 hG) ⟨by decide, by decide⟩ rfl rfl hl.1 (Nat.le_of_ble_eq_true rfl) dX4_factor_105 (fun v g3245 H locs hp hW1 => ?_)
      obtain ⟨r3244, rfl, hr3244, rfl⟩ := hp
      have hW : WS ad cA (fun i k => (i = 79 ∧ (k = 2 ∨ k = 3)) ∨ (i = lw ∧ (k = 7)) ∨ i = (lw + 4) ∨ i = (lw + 5)) g0 K g0 H locs := ⟨hW1, hW.2.1, hW.2.2⟩
      refine q_istore_n (lv9 := [(3, .int r3244), (2, .int r3238), (0, .ref (ad 79)), (1, .int op)]) hM dX4_factor_108 hl (by decide) rfl (fun ls hl => ?_)
      refine q_iload_n hM dX4_factor_109 (lv_at hl 0 rfl) ?_
      refine q_if_ge (tgt := 119) hM dX4_factor_110 (by decide) (rfl : r3244.toInt = r3244.toInt) (fun h110 => ?_) (fun h110 => ?_)
      · refine q_aload_n hM dX4_factor_119 (lv_at hl 2 rfl) ?_
        refine w_get (v := .ref (ad lw)) hM hW FG_X4_15 lb_79 ((hW.2.2.1 79 4 (by omega)).trans h_r4) dX4_factor_120 ?_
        refine q_iconst (v := (2 : Int32)) hM dX4_factor_123 (by decide) ?_
        refine q_iload_n hM dX4_factor_124 (lv_at hl 0 rfl) ?_
        refine q_callV (As := [.int (2 : Int32), .int r3244]) (rest := []) hM hW.1 hR hC myX3_add (kAW (v_2_7 (List.mem_of_getElem? (i := 13) rfl)) rfl) (rfl : vwCl[3]? = some (RX3, TX3, 8)) rfl (lo_Lw hlw).1 (shO hW.2.1 (lo_Lw hlw)) (a_X3_add _ _ cA ad g0 lw (2 : Int32) r3244 hW.2.1 hG hlw (by have := kc_2; omega) (by have := kc_2; omega)) ⟨by decide, by decide⟩ rfl rfl hl.1 (Nat.le_of_ble_eq_true rfl) dX4_factor_125 (fun v g3247 H locs hp hW1 => ?_)
        obtain ⟨rfl, hs1, hG, hf1⟩ := hp
        have f3248 : fld g3247 79 2 = .int a0 := (hf1.1 79 2 (by omega)).trans f3237
        have hW : WS ad cA (fun i k => (i = 79 ∧ (k = 2 ∨ k = 3)) ∨ (i = lw ∧ (k = 7)) ∨ i = (lw + 4) ∨ i = (lw + 5)) g0 K g3247 H locs := ⟨hW1, hs1, hW.2.2.tr hf1 (fun i k h => h.elim (fun h => (Or.inr (Or.inl h))) (fun h => h.elim (fun h => (Or.inr (Or.inr (Or.inl h)))) (fun h => (Or.inr (Or.inr (Or.inr h))))))⟩
        refine q_aload_n hM dX4_factor_128 (lv_at hl 2 rfl) ?_
        refine q_dup hM dX4_factor_129 rfl ?_
        refine w_get (v := .int a0) hM hW FG_X4_23 lb_79 f3248 dX4_factor_130 ?_
        have ba0 := hG.f f3248 rF_79_2 (by decide)
        refine q_iconst (v := (1 : Int32)) hM dX4_factor_133 (by decide) ?_
        refine q_iadd hM dX4_factor_134 (fun z3249 hz3249 => ?_)
        first | have tz3249 := i_addT hz3249 (rfl : a0.toInt = a0.toInt) (kc_1 : (1 : Int32).toInt = 1) (by omega) (by omega) | skip
        refine w_put hM hW FP_X4_23 lb_79 (by omega) (Or.inl ⟨_, rfl⟩) rfl rfl dX4_factor_135 (fun g3250 H locs hW e1 e2 => ?_)
        have f3251 : fld g3250 79 2 = .int z3249 := e1
        have hG := hG.put e1 e2 rF_79_2 (by decide) (by have := i_rng z3249; omega) (by have := i_rng z3249; omega)
        refine q_iconst (v := (1 : Int32)) hM dX4_factor_138 (by decide) ?_
        exact hE _ _ _ _ _ _ hW.1 nz_1 ⟨z3249, _, rfl, hW.2.1, hG, hW.2.2, f3251, (by have := kc_1; omega), (by have := kc_1; omega), (by have := kc_1; omega)⟩ dX4_factor_139
      · refine q_aload_n hM dX4_factor_113 (lv_at hl 2 rfl) ?_
        refine q_iconst (v := (1 : Int32)) hM dX4_factor_114 (by decide) ?_
        refine q_callV (As := [.int (1 : Int32)]) (rest := []) hM hW.1 hR hC myX4_wrong (kAW (v_2_6 (List.mem_of_getElem? (i := 8) rfl)) rfl) (rfl : vwCl[4]? = some (RX4, TX4, 5)) rfl lb_79.1 (shO hW.2.1 lb_79) (a_X4_wrong _ _ cA ad g0 (1 : Int32) hW.2.1 hG) ⟨by decide, by decide⟩ rfl rfl hl.1 (Nat.le_of_ble_eq_true rfl) dX4_factor_115 (fun v g3254 H locs hp hW1 => ?_)
        obtain ⟨r3253, rfl, hs1, hG, hf1, hr3253⟩ := hp
        have f3255 : fld g3254 79 2 = .int a0 := (hf1.1 79 2 (by omega)).trans f3237
        have hW : WS ad cA (fun i k => (i = 79 ∧ (k = 2 ∨ k = 3)) ∨ (i = lw ∧ (k = 7)) ∨ i = (lw + 4) ∨ i = (lw + 5)) g0 K g3254 H locs := ⟨hW1, hs1, hW.2.2.tr hf1 (fun i k h => (Or.inl (by omega)))⟩
        exact hE _ _ _ _ _ _ hW.1 (nz_or (by omega)) ⟨a0, _, rfl, hW.2.1, hG, hW.2.2, f3255, (by omega), (by omega), (by omega)⟩ dX4_factor_118
    · refine q_aload_n hM dX4_factor_69 (lv_at hl 1 rfl) ?_
      refine q_callV (As := []) (rest := []) hM hW.1 hR hC myX4_number (kAW (v_2_7 (List.mem_of_getElem? (i := 9) rfl)) rfl) (rfl : vwCl[4]? = some (RX4, TX4, 5)) rfl lb_79.1 (shO hW.2.1 lb_79) (a_X4_number _ _ cA ad g0 en a0 hW.2.1 hG ((hW.2.2.1 79 1 (by omega)).trans h_en) f3237 (by  omega) (by  omega) (by  omega)) ⟨by decide, by decide⟩ rfl rfl hl.1 (Nat.le_of_ble_eq_true rfl) dX4_factor_70 (fun v g3262 H locs hp hW1 => ?_)
      obtain ⟨v3257, r3258, rfl, hs1, hG, hf1, q3259, e3260, e3261, hr3258⟩ := hp
      have hW : WS ad cA (fun i k => (i = 79 ∧ (k = 2 ∨ k = 3)) ∨ (i = lw ∧ (k = 7)) ∨ i = (lw + 4) ∨ i = (lw + 5)) g0 K g3262 H locs := ⟨hW1, hs1, hW.2.2.tr hf1 (fun i k h => (Or.inl (by omega)))⟩
      refine q_istore_n (lv9 := [(3, .int r3258), (2, .int r3238), (0, .ref (ad 79)), (1, .int op)]) hM dX4_factor_73 hl (by decide) rfl (fun ls hl => ?_)
      refine q_aload_n hM dX4_factor_74 (lv_at hl 2 rfl) ?_
      refine w_get (v := .ref (ad lw)) hM hW FG_X4_15 lb_79 ((hW.2.2.1 79 4 (by omega)).trans h_r4) dX4_factor_75 ?_
      refine q_iconst (v := (1 : Int32)) hM dX4_factor_78 (by decide) ?_
      refine q_iload_n hM dX4_factor_79 (lv_at hl 0 rfl) ?_
      refine q_callV (As := [.int (1 : Int32), .int r3258]) (rest := []) hM hW.1 hR hC myX3_add (kAW (v_2_7 (List.mem_of_getElem? (i := 13) rfl)) rfl) (rfl : vwCl[3]? = some (RX3, TX3, 8)) rfl (lo_Lw hlw).1 (shO hW.2.1 (lo_Lw hlw)) (a_X3_add _ _ cA ad g3262 lw (1 : Int32) r3258 hW.2.1 hG hlw (by have := kc_1; omega) (by have := kc_1; omega)) ⟨by decide, by decide⟩ rfl rfl hl.1 (Nat.le_of_ble_eq_true rfl) dX4_factor_80 (fun v g3263 H locs hp hW1 => ?_)
      obtain ⟨rfl, hs1, hG, hf1⟩ := hp
      have f3264 : fld g3263 79 2 = .int v3257 := (hf1.1 79 2 (by omega)).trans q3259
      have hW : WS ad cA (fun i k => (i = 79 ∧ (k = 2 ∨ k = 3)) ∨ (i = lw ∧ (k = 7)) ∨ i = (lw + 4) ∨ i = (lw + 5)) g0 K g3263 H locs := ⟨hW1, hs1, hW.2.2.tr hf1 (fun i k h => h.elim (fun h => (Or.inr (Or.inl h))) (fun h => h.elim (fun h => (Or.inr (Or.inr (Or.inl h)))) (fun h => (Or.inr (Or.inr (Or.inr h))))))⟩
      refine q_iload_n hM dX4_factor_83 (lv_at hl 0 rfl) ?_
      refine q_iconst (v := ((-1) : Int32)) hM dX4_factor_84 (by decide) ?_
      refine q_icmp_ne (tgt := 96) hM dX4_factor_85 (by decide) (rfl : r3258.toInt = r3258.toInt) (kc_m1 : ((-1) : Int32).toInt = (-1)) (fun h85 => ?_) (fun h85 => ?_)
      · refine q_iconst (v := (1 : Int32)) hM dX4_factor_96 (by decide) ?_
        refine q_goto (tgt := 101) hM dX4_factor_97 (by decide) ?_
        exact hE _ _ _ _ _ _ hW.1 nz_1 ⟨v3257, _, rfl, hW.2.1, hG, hW.2.2, f3264, (by have := kc_1; omega), (by have := kc_1; omega), (by have := kc_1; omega)⟩ dX4_factor_101
      · refine q_aload_n hM dX4_factor_88 (lv_at hl 2 rfl) ?_
        refine q_iconst (v := (2 : Int32)) hM dX4_factor_89 (by decide) ?_
        refine q_callV (As := [.int (2 : Int32)]) (rest := []) hM hW.1 hR hC myX4_wrong (kAW (v_2_6 (List.mem_of_getElem? (i := 8) rfl)) rfl) (rfl : vwCl[4]? = some (RX4, TX4, 5)) rfl lb_79.1 (shO hW.2.1 lb_79) (a_X4_wrong _ _ cA ad g3263 (2 : Int32) hW.2.1 hG) ⟨by decide, by decide⟩ rfl rfl hl.1 (Nat.le_of_ble_eq_true rfl) dX4_factor_90 (fun v g3268 H locs hp hW1 => ?_)
        obtain ⟨r3267, rfl, hs1, hG, hf1, hr3267⟩ := hp
        have f3269 : fld g3268 79 2 = .int v3257 := (hf1.1 79 2 (by omega)).trans f3264
        have hW : WS ad cA (fun i k => (i = 79 ∧ (k = 2 ∨ k = 3)) ∨ (i = lw ∧ (k = 7)) ∨ i = (lw + 4) ∨ i = (lw + 5)) g0 K g3268 H locs := ⟨hW1, hs1, hW.2.2.tr hf1 (fun i k h => (Or.inl (by omega)))⟩
        refine q_if_eq (tgt := 100) hM dX4_factor_93 (by decide) (rfl : r3267.toInt = r3267.toInt) (fun h93 => ?_) (fun h93 => ?_)
        · refine q_iconst (v := (0 : Int32)) hM dX4_factor_100 (by decide) ?_
          exact hE _ _ _ _ _ _ hW.1 nz_0 ⟨v3257, _, rfl, hW.2.1, hG, hW.2.2, f3269, (by have := kc_0; omega), (by have := kc_0; omega), (by have := kc_0; omega)⟩ dX4_factor_101
        · refine q_iconst (v := (1 : Int32)) hM dX4_factor_96 (by decide) ?_
          refine q_goto (tgt := 101) hM dX4_factor_97 (by decide) ?_
          exact hE _ _ _ _ _ _ hW.1 nz_1 ⟨v3257, _, rfl, hW.2.1, hG, hW.2.2, f3269, (by have := kc_1; omega), (by have := kc_1; omega), (by have := kc_1; omega)⟩ dX4_factor_101
  · refine q_iload_n hM dX4_factor_11 (lv_at hl 2 rfl) ?_
    refine q_bipush (v := (6 : Int32)) hM dX4_factor_12 (by decide) ?_
    refine q_icmp_lt (tgt := 23) hM dX4_factor_14 (by decide) (rfl : op.toInt = op.toInt) (kc_6 : (6 : Int32).toInt = 6) (fun h14 => ?_) (fun h14 => ?_)
    · refine q_aload_n hM dX4_factor_23 (lv_at hl 1 rfl) ?_
      refine q_dup hM dX4_factor_24 rfl ?_
      refine w_get (v := .int a0) hM hW FG_X4_23 lb_79 f3237 dX4_factor_25 ?_
      have ba0 := hG.f f3237 rF_79_2 (by decide)
      refine q_iconst (v := (1 : Int32)) hM dX4_factor_28 (by decide) ?_
      refine q_iadd hM dX4_factor_29 (fun z3274 hz3274 => ?_)
      first | have tz3274 := i_addT hz3274 (rfl : a0.toInt = a0.toInt) (kc_1 : (1 : Int32).toInt = 1) (by omega) (by omega) | skip
      refine w_put hM hW FP_X4_23 lb_79 (by omega) (Or.inl ⟨_, rfl⟩) rfl rfl dX4_factor_30 (fun g3275 H locs hW e1 e2 => ?_)
      have f3276 : fld g3275 79 2 = .int z3274 := e1
      have hG := hG.put e1 e2 rF_79_2 (by decide) (by have := i_rng z3274; omega) (by have := i_rng z3274; omega)
      refine q_aload_n hM dX4_factor_33 (lv_at hl 1 rfl) ?_
      refine q_iload_n hM dX4_factor_34 (lv_at hl 2 rfl) ?_
      refine q_iconst (v := (1 : Int32)) hM dX4_factor_35 (by decide) ?_
      refine q_iadd hM dX4_factor_36 (fun z3277 hz3277 => ?_)
      first | have tz3277 := i_addT hz3277 (rfl : op.toInt = op.toInt) (kc_1 : (1 : Int32).toInt = 1) (by omega) (by omega) | skip
      refine q_callV (As := [.int z3277]) (rest := []) hM hW.1 hR hC myX4_expression (kAW (v_2_6 (List.mem_of_getElem? (i := 12) rfl)) rfl) (rfl : vwCl[4]? = some (RX4, TX4, 5)) rfl lb_79.1 (shO hW.2.1 lb_79) (a_X4_expression_5 _ _ cA ad g3275 z3277 en z3274 lw hW.2.1 hG hlw ((hW.2.2.1 79 1 (by omega)).trans h_en) f3276 ((hW.2.2.1 79 4 (by omega)).trans h_r4) (by  omega) (by  omega) (by  omega) (by  omega)) ⟨by decide, by decide⟩ rfl rfl hl.1 (Nat.le_of_ble_eq_true rfl) dX4_factor_37 (fun v g3283 H locs hp hW1 => ?_)
      obtain ⟨v3278, r3279, rfl, hs1, hG, hf1, q3280, e3281, e3282, hr3279⟩ := hp
      have hW : WS ad cA (fun i k => (i = 79 ∧ (k = 2 ∨ k = 3)) ∨ (i = lw ∧ (k = 7)) ∨ i = (lw + 4) ∨ i = (lw + 5)) g0 K g3283 H locs := ⟨hW1, hs1, hW.2.2.tr hf1 (fun i k h => h.elim (fun h => (Or.inl h)) (fun h => h.elim (fun h => (Or.inr (Or.inl h))) (fun h => h.elim (fun h => (Or.inr (Or.inr (Or.inl h)))) (fun h => (Or.inr (Or.inr (Or.inr h)))))))⟩
      refine q_if_eq (tgt := 56) hM dX4_factor_40 (by decide) (rfl : r3279.toInt = r3279.toInt) (fun h40 => ?_) (fun h40 => ?_)
      · refine q_iconst (v := (0 : Int32)) hM dX4_factor_56 (by decide) ?_
        exact hE _ _ _ _ _ _ hW.1 nz_0 ⟨v3278, _, rfl, hW.2.1, hG, hW.2.2, q3280, (by have := kc_0; omega), (by have := kc_0; omega), (by have := kc_0; omega)⟩ dX4_factor_57
      · refine q_aload_n hM dX4_factor_43 (lv_at hl 1 rfl) ?_
        refine q_bipush (v := (93 : Int32)) hM dX4_factor_44 (by decide) ?_
        refine q_callV (As := [.int (93 : Int32)]) (rest := []) hM hW.1 hR hC myX4_passes (kAW (v_2_7 (List.mem_of_getElem? (i := 4) rfl)) rfl) (rfl : vwCl[4]? = some (RX4, TX4, 5)) rfl lb_79.1 (shO hW.2.1 lb_79) (a_X4_passes _ _ cA ad g3283 (93 : Int32) en v3278 hW.2.1 hG ((hW.2.2.1 79 1 (by omega)).trans h_en) q3280 (by have := kc_93; omega) (by have := kc_93; omega) (by have := kc_93; omega)) ⟨by decide, by decide⟩ rfl rfl hl.1 (Nat.le_of_ble_eq_true rfl) dX4_factor_46 (fun v g3291 H locs hp hW1 => ?_)
        obtain ⟨v3286, r3287, rfl, hs1, hG, hf1, q3288, e3289, e3290, hr3287⟩ := hp
        have hW : WS ad cA (fun i k => (i = 79 ∧ (k = 2 ∨ k = 3)) ∨ (i = lw ∧ (k = 7)) ∨ i = (lw + 4) ∨ i = (lw + 5)) g0 K g3291 H locs := ⟨hW1, hs1, hW.2.2.tr hf1 (fun i k h => (Or.inl h))⟩
        refine q_if_eq (tgt := 56) hM dX4_factor_49 (by decide) (rfl : r3287.toInt = r3287.toInt) (fun h49 => ?_) (fun h49 => ?_)
        · refine q_iconst (v := (0 : Int32)) hM dX4_factor_56 (by decide) ?_
          exact hE _ _ _ _ _ _ hW.1 nz_0 ⟨v3286, _, rfl, hW.2.1, hG, hW.2.2, q3288, (by have := kc_0; omega), (by have := kc_0; omega), (by have := kc_0; omega)⟩ dX4_factor_57
        · refine q_iconst (v := (1 : Int32)) hM dX4_factor_52 (by decide) ?_
          refine q_goto (tgt := 57) hM dX4_factor_53 (by decide) ?_
          exact hE _ _ _ _ _ _ hW.1 nz_1 ⟨v3286, _, rfl, hW.2.1, hG, hW.2.2, q3288, (by have := kc_1; omega), (by have := kc_1; omega), (by have := kc_1; omega)⟩ dX4_factor_57
    · omega


set_option maxRecDepth 100000 in
set_option maxHeartbeats 4000000 in
theorem a_X4_expression_4 (l : Launch) (D : va_G) (cA : Nat → ClassId) (ad : Nat → Nat) (g0 : Nat → va_E) (op : Int32) (en : Int32) (a0 : Int32) (lw : Nat) (hSh : Shp ad cA g0) (hG : Rng g0) (hlw : isLw lw) (h_en : fld g0 79 1 = .int en) (h_a0 : fld g0 79 2 = .int a0) (h_r4 : fld g0 79 4 = .ref (ad lw)) (ah0 : 0 ≤ a0.toInt) (ah1 : a0.toInt ≤ en.toInt) (ah2 : en.toInt ≤ 240) (ok : op.toInt = 4) : CT l NN ad cA D yX4_expression cX4_expression 5 (some FieldType.boolean) (10, 229) [.ref (ad 79), .int op] g0 (fun v g' => ∃ (a9 : Int32) (r : Int32), v = some (.int r) ∧ Shp ad cA g' ∧ Rng g' ∧ FR (fun i k => (i = 79 ∧ (k = 2 ∨ k = 3)) ∨ (i = lw ∧ (k = 7)) ∨ i = (lw + 4) ∨ i = (lw + 5)) g0 g' ∧ fld g' 79 2 = .int a9 ∧ (a0.toInt ≤ a9.toInt) ∧ (a9.toInt ≤ en.toInt) ∧ (r.toInt = 0 ∨ r.toInt = 1)) := by
  refine q_enterZ (by decide) (Nat.le_of_ble_eq_true rfl) (fun K H locs ls _ _ hM hW0 hR hC hE hl => ?_)
  have hl : lv_has ls 5 [(0, .ref (ad 79)), (1, .int op)] := hl
  have hW : WS ad cA (fun i k => (i = 79 ∧ (k = 2 ∨ k = 3)) ∨ (i = lw ∧ (k = 7)) ∨ i = (lw + 4) ∨ i = (lw + 5)) g0 K g0 H locs := ⟨hW0, hSh, FR.rf⟩
  have ulw := hlw
  unfold isLw at ulw
  have b_en := hG.f h_en rF_79_1 (by decide)
  have b_a0 := hG.f h_a0 rF_79_2 (by decide)
  have f3295 : fld g0 79 2 = .int a0 := h_a0
  refine q_iconst (v := ((-1) : Int32)) hM dX4_expression_0 (by decide) ?_
  refine q_istore_n (lv9 := [(2, .int ((-1) : Int32)), (0, .ref (ad 79)), (1, .int op)]) hM dX4_expression_1 hl (by decide) rfl (fun ls hl => ?_)
  refine q_iconst (v := ((-1) : Int32)) hM dX4_expression_2 (by decide) ?_
  refine q_istore_n (lv9 := [(3, .int ((-1) : Int32)), (2, .int ((-1) : Int32)), (0, .ref (ad 79)), (1, .int op)]) hM dX4_expression_3 hl (by decide) rfl (fun ls hl => ?_)
  have L4 : ∀ (fu4 : Nat) (w4_3 : Int32) (w4_2 : Int32) (aa : Int32) (g9 : Nat → va_E) (H : Heap) (locs : List Loc) (ls : Array Slot), (en.toInt - aa.toInt + 1).toNat < fu4 → (Rng g9) → (a0.toInt ≤ aa.toInt) → (aa.toInt ≤ en.toInt) → (fld g9 79 2 = .int aa) → lv_has ls 5 [(0, .ref (ad 79)), (1, .int op), (2, .int w4_2), (3, .int w4_3)] → WS ad cA (fun i k => (i = 79 ∧ (k = 2 ∨ k = 3)) ∨ (i = lw ∧ (k = 7)) ∨ i = (lw + 4) ∨ i = (lw + 5)) g0 K g9 H locs → XX K 0 0 H locs 4 ls [] := by
    intro fu4
    induction fu4 with
    | zero => intro w4_3 w4_2 aa g9 H locs ls h0; omega
    | succ fu4 ih4 =>
      intro w4_3 w4_2 aa g9 H locs ls hm4 i4_0 i4_1 i4_2 c4_79_2 hl hW
      have hG := i4_0
      refine q_aload_n hM dX4_expression_4 (lv_at hl 0 rfl) ?_
      refine w_get (v := .int aa) hM hW FG_X4_23 lb_79 c4_79_2 dX4_expression_5 ?_
      have baa := hG.f c4_79_2 rF_79_2 (by decide)
      refine q_aload_n hM dX4_expression_8 (lv_at hl 0 rfl) ?_
      refine w_get (v := .int en) hM hW FG_X4_19 lb_79 ((hW.2.2.1 79 1 (by omega)).trans h_en) dX4_expression_9 ?_
      refine q_icmp_gt (tgt := 133) hM dX4_expression_12 (by decide) (rfl : aa.toInt = aa.toInt) (rfl : en.toInt = en.toInt) (fun h12 => ?_) (fun h12 => ?_)
      · refine q_aload_n hM dX4_expression_133 (lv_at hl 0 rfl) ?_
        refine q_iconst (v := (1 : Int32)) hM dX4_expression_134 (by decide) ?_
        refine q_callV (As := [.int (1 : Int32)]) (rest := []) hM hW.1 hR hC myX4_wrong (kAW (v_2_6 (List.mem_of_getElem? (i := 8) rfl)) rfl) (rfl : vwCl[4]? = some (RX4, TX4, 5)) rfl lb_79.1 (shO hW.2.1 lb_79) (a_X4_wrong _ _ cA ad g9 (1 : Int32) hW.2.1 hG) ⟨by decide, by decide⟩ rfl rfl hl.1 (Nat.le_of_ble_eq_true rfl) dX4_expression_135 (fun v g3299 H locs hp hW1 => ?_)
        obtain ⟨r3298, rfl, hs1, hG, hf1, hr3298⟩ := hp
        have f3300 : fld g3299 79 2 = .int aa := (hf1.1 79 2 (by omega)).trans c4_79_2
        have hW : WS ad cA (fun i k => (i = 79 ∧ (k = 2 ∨ k = 3)) ∨ (i = lw ∧ (k = 7)) ∨ i = (lw + 4) ∨ i = (lw + 5)) g0 K g3299 H locs := ⟨hW1, hs1, hW.2.2.tr hf1 (fun i k h => (Or.inl (by omega)))⟩
        exact hE _ _ _ _ _ _ hW.1 (nz_or (by omega)) ⟨aa, _, rfl, hW.2.1, hG, hW.2.2, f3300, (by omega), (by omega), (by omega)⟩ dX4_expression_138
      · refine q_aload_n hM dX4_expression_15 (lv_at hl 0 rfl) ?_
        refine q_iload_n hM dX4_expression_16 (lv_at hl 1 rfl) ?_
        refine q_callV (As := [.int op]) (rest := []) hM hW.1 hR hC myX4_factor (kAW (v_2_7 (List.mem_of_getElem? (i := 0) rfl)) rfl) (rfl : vwCl[4]? = some (RX4, TX4, 5)) rfl lb_79.1 (shO hW.2.1 lb_79) (a_X4_factor_4 _ _ cA ad g9 op en aa lw hW.2.1 hG hlw ((hW.2.2.1 79 1 (by omega)).trans h_en) c4_79_2 ((hW.2.2.1 79 4 (by omega)).trans h_r4) (by  omega) (by  omega) (by  omega) (by  omega)) ⟨by decide, by decide⟩ rfl rfl hl.1 (Nat.le_of_ble_eq_true rfl) dX4_expression_17 (fun v g3307 H locs hp hW1 => ?_)
        obtain ⟨v3302, r3303, rfl, hs1, hG, hf1, q3304, e3305, e3306, hr3303⟩ := hp
        have hW : WS ad cA (fun i k => (i = 79 ∧ (k = 2 ∨ k = 3)) ∨ (i = lw ∧ (k = 7)) ∨ i = (lw + 4) ∨ i = (lw + 5)) g0 K g3307 H locs := ⟨hW1, hs1, hW.2.2.tr hf1 (fun i k h => h.elim (fun h => (Or.inl h)) (fun h => h.elim (fun h => (Or.inr (Or.inl h))) (fun h => h.elim (fun h => (Or.inr (Or.inr (Or.inl h)))) (fun h => (Or.inr (Or.inr (Or.inr h)))))))⟩
        refine q_if_ne (tgt := 25) hM dX4_expression_20 (by decide) (rfl : r3303.toInt = r3303.toInt) (fun h20 => ?_) (fun h20 => ?_)
        · have L39 : ∀ (g9 : Nat → va_E) (H : Heap) (locs : List Loc) (ls : Array Slot), (Rng g9) → (fld g9 79 2 = .int v3302) → lv_has ls 5 [(0, .ref (ad 79)), (1, .int op), (2, .int w4_2), (3, .int w4_3)] → WS ad cA (fun i k => (i = 79 ∧ (k = 2 ∨ k = 3)) ∨ (i = lw ∧ (k = 7)) ∨ i = (lw + 4) ∨ i = (lw + 5)) g0 K g9 H locs → XX K 0 0 H locs 39 ls [] := by
            intro g9 H locs ls i39_0 c39_79_2 hl hW
            have hG := i39_0
            refine q_aload_n hM dX4_expression_39 (lv_at hl 0 rfl) ?_
            refine q_callV (As := []) (rest := []) hM hW.1 hR hC myX4_sign (kAW (v_2_0 (List.mem_of_getElem? (i := 12) rfl)) rfl) (rfl : vwCl[4]? = some (RX4, TX4, 5)) rfl lb_79.1 (shO hW.2.1 lb_79) (a_X4_sign _ _ cA ad g9 en v3302 hW.2.1 hG ((hW.2.2.1 79 1 (by omega)).trans h_en) c39_79_2 (by  omega) (by  omega) (by  omega)) ⟨by decide, by decide⟩ rfl rfl hl.1 (Nat.le_of_ble_eq_true rfl) dX4_expression_40 (fun v g3311 H locs hp hW1 => ?_)
            obtain ⟨r3310, rfl, hr3310, rfl⟩ := hp
            have hW : WS ad cA (fun i k => (i = 79 ∧ (k = 2 ∨ k = 3)) ∨ (i = lw ∧ (k = 7)) ∨ i = (lw + 4) ∨ i = (lw + 5)) g0 K g9 H locs := ⟨hW1, hW.2.1, hW.2.2⟩
            refine q_istore (lv9 := [(4, .int r3310), (0, .ref (ad 79)), (1, .int op), (2, .int w4_2), (3, .int w4_3)]) hM dX4_expression_43 hl (by decide) rfl (fun ls hl => ?_)
            have L73 : ∀ (p73 : Int32) (g9 : Nat → va_E) (H : Heap) (locs : List Loc) (ls : Array Slot), (Rng g9) → (p73.toInt = -1 ∨ 0 ≤ r3310.toInt) → (fld g9 79 2 = .int v3302) → lv_has ls 5 [(0, .ref (ad 79)), (1, .int op), (2, .int w4_2), (3, .int p73), (4, .int r3310)] → WS ad cA (fun i k => (i = 79 ∧ (k = 2 ∨ k = 3)) ∨ (i = lw ∧ (k = 7)) ∨ i = (lw + 4) ∨ i = (lw + 5)) g0 K g9 H locs → XX K 0 0 H locs 73 ls [] := by
              intro p73 g9 H locs ls i73_0 i73_1 c73_79_2 hl hW
              have hG := i73_0
              refine q_iload_n hM dX4_expression_73 (lv_at hl 3 rfl) ?_
              refine q_iconst (v := ((-1) : Int32)) hM dX4_expression_74 (by decide) ?_
              refine q_icmp_ne (tgt := 120) hM dX4_expression_75 (by decide) (rfl : p73.toInt = p73.toInt) (kc_m1 : ((-1) : Int32).toInt = (-1)) (fun h75 => ?_) (fun h75 => ?_)
              · refine q_aload_n hM dX4_expression_120 (lv_at hl 0 rfl) ?_
                refine q_dup hM dX4_expression_121 rfl ?_
                refine w_get (v := .int v3302) hM hW FG_X4_23 lb_79 c73_79_2 dX4_expression_122 ?_
                have bv3302 := hG.f c73_79_2 rF_79_2 (by decide)
                refine q_iconst (v := (1 : Int32)) hM dX4_expression_125 (by decide) ?_
                refine q_iadd hM dX4_expression_126 (fun z3314 hz3314 => ?_)
                first | have tz3314 := i_addT hz3314 (rfl : v3302.toInt = v3302.toInt) (kc_1 : (1 : Int32).toInt = 1) (by omega) (by omega) | skip
                refine w_put hM hW FP_X4_23 lb_79 (by omega) (Or.inl ⟨_, rfl⟩) rfl rfl dX4_expression_127 (fun g3315 H locs hW e1 e2 => ?_)
                have f3316 : fld g3315 79 2 = .int z3314 := e1
                have hG := hG.put e1 e2 rF_79_2 (by decide) (by have := i_rng z3314; omega) (by have := i_rng z3314; omega)
                refine q_goto (tgt := 4) hM dX4_expression_130 (by decide) ?_
                exact ih4 p73 w4_2 z3314 _ _ _ _ (by omega) hG (by omega) (by omega) f3316 (lv_sub hl [0, 1, 2, 3] rfl) hW
              · have L92 : ∀ (g9 : Nat → va_E) (H : Heap) (locs : List Loc) (ls : Array Slot), (Rng g9) → (fld g9 79 2 = .int v3302) → lv_has ls 5 [(0, .ref (ad 79)), (1, .int op), (2, .int w4_2), (3, .int p73), (4, .int r3310)] → WS ad cA (fun i k => (i = 79 ∧ (k = 2 ∨ k = 3)) ∨ (i = lw ∧ (k = 7)) ∨ i = (lw + 4) ∨ i = (lw + 5)) g0 K g9 H locs → XX K 0 0 H locs 92 ls [] := by
                  intro g9 H locs ls i92_0 c92_79_2 hl hW
                  have hG := i92_0
                  refine q_iload hM dX4_expression_92 (lv_at hl 4 rfl) ?_
                  refine q_bipush (v := (43 : Int32)) hM dX4_expression_94 (by decide) ?_
                  refine q_icmp_eq (tgt := 106) hM dX4_expression_96 (by decide) (rfl : r3310.toInt = r3310.toInt) (kc_43 : (43 : Int32).toInt = 43) (fun h96 => ?_) (fun h96 => ?_)
                  · refine q_iload hM dX4_expression_106 (lv_at hl 4 rfl) ?_
                    refine q_goto (tgt := 112) hM dX4_expression_108 (by decide) ?_
                    refine q_istore_n (lv9 := [(2, .int r3310), (0, .ref (ad 79)), (1, .int op), (3, .int p73), (4, .int r3310)]) hM dX4_expression_112 hl (by decide) rfl (fun ls hl => ?_)
                    refine q_iload_n hM dX4_expression_113 (lv_at hl 0 rfl) ?_
                    refine q_iconst (v := ((-1) : Int32)) hM dX4_expression_114 (by decide) ?_
                    refine q_icmp_ne (tgt := 120) hM dX4_expression_115 (by decide) (rfl : r3310.toInt = r3310.toInt) (kc_m1 : ((-1) : Int32).toInt = (-1)) (fun h115 => ?_) (fun h115 => ?_)
                    · refine q_aload_n hM dX4_expression_120 (lv_at hl 1 rfl) ?_
                      refine q_dup hM dX4_expression_121 rfl ?_
                      refine w_get (v := .int v3302) hM hW FG_X4_23 lb_79 c92_79_2 dX4_expression_122 ?_
                      have bv3302 := hG.f c92_79_2 rF_79_2 (by decide)
                      refine q_iconst (v := (1 : Int32)) hM dX4_expression_125 (by decide) ?_
                      refine q_iadd hM dX4_expression_126 (fun z3321 hz3321 => ?_)
                      first | have tz3321 := i_addT hz3321 (rfl : v3302.toInt = v3302.toInt) (kc_1 : (1 : Int32).toInt = 1) (by omega) (by omega) | skip
                      refine w_put hM hW FP_X4_23 lb_79 (by omega) (Or.inl ⟨_, rfl⟩) rfl rfl dX4_expression_127 (fun g3322 H locs hW e1 e2 => ?_)
                      have f3323 : fld g3322 79 2 = .int z3321 := e1
                      have hG := hG.put e1 e2 rF_79_2 (by decide) (by have := i_rng z3321; omega) (by have := i_rng z3321; omega)
                      refine q_goto (tgt := 4) hM dX4_expression_130 (by decide) ?_
                      exact ih4 p73 r3310 z3321 _ _ _ _ (by omega) hG (by omega) (by omega) f3323 (lv_sub hl [1, 2, 0, 3] rfl) hW
                    · refine q_iconst (v := (1 : Int32)) hM dX4_expression_118 (by decide) ?_
                      exact hE _ _ _ _ _ _ hW.1 nz_1 ⟨v3302, _, rfl, hW.2.1, hG, hW.2.2, c92_79_2, (by have := kc_1; omega), (by have := kc_1; omega), (by have := kc_1; omega)⟩ dX4_expression_119
                  · refine q_iload hM dX4_expression_99 (lv_at hl 4 rfl) ?_
                    refine q_bipush (v := (45 : Int32)) hM dX4_expression_101 (by decide) ?_
                    refine q_icmp_ne (tgt := 111) hM dX4_expression_103 (by decide) (rfl : r3310.toInt = r3310.toInt) (kc_45 : (45 : Int32).toInt = 45) (fun h103 => ?_) (fun h103 => ?_)
                    · refine q_iconst (v := ((-1) : Int32)) hM dX4_expression_111 (by decide) ?_
                      refine q_istore_n (lv9 := [(2, .int ((-1) : Int32)), (0, .ref (ad 79)), (1, .int op), (3, .int p73), (4, .int r3310)]) hM dX4_expression_112 hl (by decide) rfl (fun ls hl => ?_)
                      refine q_iload_n hM dX4_expression_113 (lv_at hl 0 rfl) ?_
                      refine q_iconst (v := ((-1) : Int32)) hM dX4_expression_114 (by decide) ?_
                      refine q_icmp_ne (tgt := 120) hM dX4_expression_115 (by decide) (kc_m1 : ((-1) : Int32).toInt = (-1)) (kc_m1 : ((-1) : Int32).toInt = (-1)) (fun h115 => ?_) (fun h115 => ?_)
                      · omega
                      · refine q_iconst (v := (1 : Int32)) hM dX4_expression_118 (by decide) ?_
                        exact hE _ _ _ _ _ _ hW.1 nz_1 ⟨v3302, _, rfl, hW.2.1, hG, hW.2.2, c92_79_2, (by have := kc_1; omega), (by have := kc_1; omega), (by have := kc_1; omega)⟩ dX4_expression_119
                    · refine q_iload hM dX4_expression_106 (lv_at hl 4 rfl) ?_
                      refine q_goto (tgt := 112) hM dX4_expression_108 (by decide) ?_
                      refine q_istore_n (lv9 := [(2, .int r3310), (0, .ref (ad 79)), (1, .int op), (3, .int p73), (4, .int r3310)]) hM dX4_expression_112 hl (by decide) rfl (fun ls hl => ?_)
                      refine q_iload_n hM dX4_expression_113 (lv_at hl 0 rfl) ?_
                      refine q_iconst (v := ((-1) : Int32)) hM dX4_expression_114 (by decide) ?_
                      refine q_icmp_ne (tgt := 120) hM dX4_expression_115 (by decide) (rfl : r3310.toInt = r3310.toInt) (kc_m1 : ((-1) : Int32).toInt = (-1)) (fun h115 => ?_) (fun h115 => ?_)
                      · refine q_aload_n hM dX4_expression_120 (lv_at hl 1 rfl) ?_
                        refine q_dup hM dX4_expression_121 rfl ?_
                        refine w_get (v := .int v3302) hM hW FG_X4_23 lb_79 c92_79_2 dX4_expression_122 ?_
                        have bv3302 := hG.f c92_79_2 rF_79_2 (by decide)
                        refine q_iconst (v := (1 : Int32)) hM dX4_expression_125 (by decide) ?_
                        refine q_iadd hM dX4_expression_126 (fun z3331 hz3331 => ?_)
                        first | have tz3331 := i_addT hz3331 (rfl : v3302.toInt = v3302.toInt) (kc_1 : (1 : Int32).toInt = 1) (by omega) (by omega) | skip
                        refine w_put hM hW FP_X4_23 lb_79 (by omega) (Or.inl ⟨_, rfl⟩) rfl rfl dX4_expression_127 (fun g3332 H locs hW e1 e2 => ?_)
                        have f3333 : fld g3332 79 2 = .int z3331 := e1
                        have hG := hG.put e1 e2 rF_79_2 (by decide) (by have := i_rng z3331; omega) (by have := i_rng z3331; omega)
                        refine q_goto (tgt := 4) hM dX4_expression_130 (by decide) ?_
                        exact ih4 p73 r3310 z3331 _ _ _ _ (by omega) hG (by omega) (by omega) f3333 (lv_sub hl [1, 2, 0, 3] rfl) hW
                      · refine q_iconst (v := (1 : Int32)) hM dX4_expression_118 (by decide) ?_
                        exact hE _ _ _ _ _ _ hW.1 nz_1 ⟨v3302, _, rfl, hW.2.1, hG, hW.2.2, c92_79_2, (by have := kc_1; omega), (by have := kc_1; omega), (by have := kc_1; omega)⟩ dX4_expression_119
                refine q_iload_n hM dX4_expression_78 (lv_at hl 2 rfl) ?_
                refine q_iconst (v := ((-1) : Int32)) hM dX4_expression_79 (by decide) ?_
                refine q_icmp_eq (tgt := 92) hM dX4_expression_80 (by decide) (rfl : w4_2.toInt = w4_2.toInt) (kc_m1 : ((-1) : Int32).toInt = (-1)) (fun h80 => ?_) (fun h80 => ?_)
                · exact L92  _ _ _ _ hG c73_79_2 (lv_sub hl [0, 1, 2, 3, 4] rfl) hW
                · refine q_aload_n hM dX4_expression_83 (lv_at hl 0 rfl) ?_
                  refine w_get (v := .ref (ad lw)) hM hW FG_X4_15 lb_79 ((hW.2.2.1 79 4 (by omega)).trans h_r4) dX4_expression_84 ?_
                  refine q_iload_n hM dX4_expression_87 (lv_at hl 2 rfl) ?_
                  refine q_iconst (v := (0 : Int32)) hM dX4_expression_88 (by decide) ?_
                  refine q_callV (As := [.int w4_2, .int (0 : Int32)]) (rest := []) hM hW.1 hR hC myX3_add (kAW (v_2_7 (List.mem_of_getElem? (i := 13) rfl)) rfl) (rfl : vwCl[3]? = some (RX3, TX3, 8)) rfl (lo_Lw hlw).1 (shO hW.2.1 (lo_Lw hlw)) (a_X3_add _ _ cA ad g9 lw w4_2 (0 : Int32) hW.2.1 hG hlw (by have := kc_0; omega) (by have := kc_0; omega)) ⟨by decide, by decide⟩ rfl rfl hl.1 (Nat.le_of_ble_eq_true rfl) dX4_expression_89 (fun v g3337 H locs hp hW1 => ?_)
                  obtain ⟨rfl, hs1, hG, hf1⟩ := hp
                  have f3338 : fld g3337 79 2 = .int v3302 := (hf1.1 79 2 (by omega)).trans c73_79_2
                  have hW : WS ad cA (fun i k => (i = 79 ∧ (k = 2 ∨ k = 3)) ∨ (i = lw ∧ (k = 7)) ∨ i = (lw + 4) ∨ i = (lw + 5)) g0 K g3337 H locs := ⟨hW1, hs1, hW.2.2.tr hf1 (fun i k h => h.elim (fun h => (Or.inr (Or.inl h))) (fun h => h.elim (fun h => (Or.inr (Or.inr (Or.inl h)))) (fun h => (Or.inr (Or.inr (Or.inr h))))))⟩
                  exact L92  _ _ _ _ hG f3338 (lv_sub hl [0, 1, 2, 3, 4] rfl) hW
            refine q_iload hM dX4_expression_45 (lv_at hl 0 rfl) ?_
            refine q_bipush (v := (42 : Int32)) hM dX4_expression_47 (by decide) ?_
            refine q_icmp_eq (tgt := 66) hM dX4_expression_49 (by decide) (rfl : r3310.toInt = r3310.toInt) (kc_42 : (42 : Int32).toInt = 42) (fun h49 => ?_) (fun h49 => ?_)
            · refine q_iload hM dX4_expression_66 (lv_at hl 0 rfl) ?_
              refine q_goto (tgt := 72) hM dX4_expression_68 (by decide) ?_
              refine q_istore_n (lv9 := [(3, .int r3310), (4, .int r3310), (0, .ref (ad 79)), (1, .int op), (2, .int w4_2)]) hM dX4_expression_72 hl (by decide) rfl (fun ls hl => ?_)
              exact L73 r3310 _ _ _ _ hG (by omega) c39_79_2 (lv_sub hl [2, 3, 4, 0, 1] rfl) hW
            · refine q_iload hM dX4_expression_52 (lv_at hl 0 rfl) ?_
              refine q_bipush (v := (47 : Int32)) hM dX4_expression_54 (by decide) ?_
              refine q_icmp_eq (tgt := 66) hM dX4_expression_56 (by decide) (rfl : r3310.toInt = r3310.toInt) (kc_47 : (47 : Int32).toInt = 47) (fun h56 => ?_) (fun h56 => ?_)
              · refine q_iload hM dX4_expression_66 (lv_at hl 0 rfl) ?_
                refine q_goto (tgt := 72) hM dX4_expression_68 (by decide) ?_
                refine q_istore_n (lv9 := [(3, .int r3310), (4, .int r3310), (0, .ref (ad 79)), (1, .int op), (2, .int w4_2)]) hM dX4_expression_72 hl (by decide) rfl (fun ls hl => ?_)
                exact L73 r3310 _ _ _ _ hG (by omega) c39_79_2 (lv_sub hl [2, 3, 4, 0, 1] rfl) hW
              · refine q_iload hM dX4_expression_59 (lv_at hl 0 rfl) ?_
                refine q_bipush (v := (37 : Int32)) hM dX4_expression_61 (by decide) ?_
                refine q_icmp_ne (tgt := 71) hM dX4_expression_63 (by decide) (rfl : r3310.toInt = r3310.toInt) (kc_37 : (37 : Int32).toInt = 37) (fun h63 => ?_) (fun h63 => ?_)
                · refine q_iconst (v := ((-1) : Int32)) hM dX4_expression_71 (by decide) ?_
                  refine q_istore_n (lv9 := [(3, .int ((-1) : Int32)), (4, .int r3310), (0, .ref (ad 79)), (1, .int op), (2, .int w4_2)]) hM dX4_expression_72 hl (by decide) rfl (fun ls hl => ?_)
                  have := kc_m1
                  exact L73 ((-1) : Int32) _ _ _ _ hG (by omega) c39_79_2 (lv_sub hl [2, 3, 4, 0, 1] rfl) hW
                · refine q_iload hM dX4_expression_66 (lv_at hl 0 rfl) ?_
                  refine q_goto (tgt := 72) hM dX4_expression_68 (by decide) ?_
                  refine q_istore_n (lv9 := [(3, .int r3310), (4, .int r3310), (0, .ref (ad 79)), (1, .int op), (2, .int w4_2)]) hM dX4_expression_72 hl (by decide) rfl (fun ls hl => ?_)
                  exact L73 r3310 _ _ _ _ hG (by omega) c39_79_2 (lv_sub hl [2, 3, 4, 0, 1] rfl) hW
          refine q_iload_n hM dX4_expression_25 (lv_at hl 3 rfl) ?_
          refine q_iconst (v := ((-1) : Int32)) hM dX4_expression_26 (by decide) ?_
          refine q_icmp_eq (tgt := 39) hM dX4_expression_27 (by decide) (rfl : w4_3.toInt = w4_3.toInt) (kc_m1 : ((-1) : Int32).toInt = (-1)) (fun h27 => ?_) (fun h27 => ?_)
          · exact L39  _ _ _ _ hG q3304 (lv_sub hl [0, 1, 2, 3] rfl) hW
          · refine q_aload_n hM dX4_expression_30 (lv_at hl 0 rfl) ?_
            refine w_get (v := .ref (ad lw)) hM hW FG_X4_15 lb_79 ((hW.2.2.1 79 4 (by omega)).trans h_r4) dX4_expression_31 ?_
            refine q_iload_n hM dX4_expression_34 (lv_at hl 3 rfl) ?_
            refine q_iconst (v := (0 : Int32)) hM dX4_expression_35 (by decide) ?_
            refine q_callV (As := [.int w4_3, .int (0 : Int32)]) (rest := []) hM hW.1 hR hC myX3_add (kAW (v_2_7 (List.mem_of_getElem? (i := 13) rfl)) rfl) (rfl : vwCl[3]? = some (RX3, TX3, 8)) rfl (lo_Lw hlw).1 (shO hW.2.1 (lo_Lw hlw)) (a_X3_add _ _ cA ad g3307 lw w4_3 (0 : Int32) hW.2.1 hG hlw (by have := kc_0; omega) (by have := kc_0; omega)) ⟨by decide, by decide⟩ rfl rfl hl.1 (Nat.le_of_ble_eq_true rfl) dX4_expression_36 (fun v g3347 H locs hp hW1 => ?_)
            obtain ⟨rfl, hs1, hG, hf1⟩ := hp
            have f3348 : fld g3347 79 2 = .int v3302 := (hf1.1 79 2 (by omega)).trans q3304
            have hW : WS ad cA (fun i k => (i = 79 ∧ (k = 2 ∨ k = 3)) ∨ (i = lw ∧ (k = 7)) ∨ i = (lw + 4) ∨ i = (lw + 5)) g0 K g3347 H locs := ⟨hW1, hs1, hW.2.2.tr hf1 (fun i k h => h.elim (fun h => (Or.inr (Or.inl h))) (fun h => h.elim (fun h => (Or.inr (Or.inr (Or.inl h)))) (fun h => (Or.inr (Or.inr (Or.inr h))))))⟩
            exact L39  _ _ _ _ hG f3348 (lv_sub hl [0, 1, 2, 3] rfl) hW
        · refine q_iconst (v := (0 : Int32)) hM dX4_expression_23 (by decide) ?_
          exact hE _ _ _ _ _ _ hW.1 nz_0 ⟨v3302, _, rfl, hW.2.1, hG, hW.2.2, q3304, (by have := kc_0; omega), (by have := kc_0; omega), (by have := kc_0; omega)⟩ dX4_expression_24
  have := kc_m1
  have := kc_m1
  exact L4 _ ((-1) : Int32) ((-1) : Int32) a0 _ _ _ _ (Nat.lt_succ_self _) hG (by omega) (by omega) f3295 (lv_sub hl [2, 3, 1, 0] rfl) hW


set_option maxRecDepth 100000 in
set_option maxHeartbeats 4000000 in
theorem a_X4_test_4 (l : Launch) (D : va_G) (cA : Nat → ClassId) (ad : Nat → Nat) (g0 : Nat → va_E) (op : Int32) (en : Int32) (a0 : Int32) (lw : Nat) (hSh : Shp ad cA g0) (hG : Rng g0) (hlw : isLw lw) (h_en : fld g0 79 1 = .int en) (h_a0 : fld g0 79 2 = .int a0) (h_r4 : fld g0 79 4 = .ref (ad lw)) (ah0 : 0 ≤ a0.toInt) (ah1 : a0.toInt ≤ en.toInt) (ah2 : en.toInt ≤ 240) (ok : op.toInt = 4) : CT l NN ad cA D yX4_test cX4_test 3 (some FieldType.boolean) (11, 253) [.ref (ad 79), .int op] g0 (fun v g' => ∃ (a9 : Int32) (r : Int32), v = some (.int r) ∧ Shp ad cA g' ∧ Rng g' ∧ FR (fun i k => (i = 79 ∧ (k = 2 ∨ k = 3)) ∨ (i = lw ∧ (k = 7)) ∨ i = (lw + 4) ∨ i = (lw + 5)) g0 g' ∧ fld g' 79 2 = .int a9 ∧ (a0.toInt ≤ a9.toInt) ∧ (a9.toInt ≤ en.toInt) ∧ (r.toInt = 0 ∨ r.toInt = 1)) := by
  refine q_enterZ (by decide) (Nat.le_of_ble_eq_true rfl) (fun K H locs ls _ _ hM hW0 hR hC hE hl => ?_)
  have hl : lv_has ls 3 [(0, .ref (ad 79)), (1, .int op)] := hl
  have hW : WS ad cA (fun i k => (i = 79 ∧ (k = 2 ∨ k = 3)) ∨ (i = lw ∧ (k = 7)) ∨ i = (lw + 4) ∨ i = (lw + 5)) g0 K g0 H locs := ⟨hW0, hSh, FR.rf⟩
  have ulw := hlw
  unfold isLw at ulw
  have b_en := hG.f h_en rF_79_1 (by decide)
  have b_a0 := hG.f h_a0 rF_79_2 (by decide)
  have f3350 : fld g0 79 2 = .int a0 := h_a0
  refine q_aload_n hM dX4_test_0 (lv_at hl 0 rfl) ?_
  refine q_callV (As := []) (rest := []) hM hW.1 hR hC myX4_sign (kAW (v_2_0 (List.mem_of_getElem? (i := 12) rfl)) rfl) (rfl : vwCl[4]? = some (RX4, TX4, 5)) rfl lb_79.1 (shO hW.2.1 lb_79) (a_X4_sign _ _ cA ad g0 en a0 hW.2.1 hG ((hW.2.2.1 79 1 (by omega)).trans h_en) f3350 (by  omega) (by  omega) (by  omega)) ⟨by decide, by decide⟩ rfl rfl hl.1 (Nat.le_of_ble_eq_true rfl) dX4_test_1 (fun v g3352 H locs hp hW1 => ?_)
  obtain ⟨r3351, rfl, hr3351, rfl⟩ := hp
  have hW : WS ad cA (fun i k => (i = 79 ∧ (k = 2 ∨ k = 3)) ∨ (i = lw ∧ (k = 7)) ∨ i = (lw + 4) ∨ i = (lw + 5)) g0 K g0 H locs := ⟨hW1, hW.2.1, hW.2.2⟩
  refine q_istore_n (lv9 := [(2, .int r3351), (0, .ref (ad 79)), (1, .int op)]) hM dX4_test_4 hl (by decide) rfl (fun ls hl => ?_)
  have L17 : ∀ (g9 : Nat → va_E) (H : Heap) (locs : List Loc) (ls : Array Slot), (Rng g9) → (r3351.toInt = 33 ∨ r3351.toInt = 40) → (fld g9 79 2 = .int a0) → lv_has ls 3 [(0, .ref (ad 79)), (1, .int op), (2, .int r3351)] → WS ad cA (fun i k => (i = 79 ∧ (k = 2 ∨ k = 3)) ∨ (i = lw ∧ (k = 7)) ∨ i = (lw + 4) ∨ i = (lw + 5)) g0 K g9 H locs → XX K 0 0 H locs 17 ls [] := by
    intro g9 H locs ls i17_0 i17_1 c17_79_2 hl hW
    have hG := i17_0
    refine q_iload_n hM dX4_test_17 (lv_at hl 1 rfl) ?_
    refine q_bipush (v := (6 : Int32)) hM dX4_test_18 (by decide) ?_
    refine q_icmp_lt (tgt := 29) hM dX4_test_20 (by decide) (rfl : op.toInt = op.toInt) (kc_6 : (6 : Int32).toInt = 6) (fun h20 => ?_) (fun h20 => ?_)
    · refine q_aload_n hM dX4_test_29 (lv_at hl 0 rfl) ?_
      refine q_dup hM dX4_test_30 rfl ?_
      refine w_get (v := .int a0) hM hW FG_X4_23 lb_79 c17_79_2 dX4_test_31 ?_
      have ba0 := hG.f c17_79_2 rF_79_2 (by decide)
      refine q_iconst (v := (1 : Int32)) hM dX4_test_34 (by decide) ?_
      refine q_iadd hM dX4_test_35 (fun z3355 hz3355 => ?_)
      first | have tz3355 := i_addT hz3355 (rfl : a0.toInt = a0.toInt) (kc_1 : (1 : Int32).toInt = 1) (by omega) (by omega) | skip
      refine w_put hM hW FP_X4_23 lb_79 (by omega) (Or.inl ⟨_, rfl⟩) rfl rfl dX4_test_36 (fun g3356 H locs hW e1 e2 => ?_)
      have f3357 : fld g3356 79 2 = .int z3355 := e1
      have hG := hG.put e1 e2 rF_79_2 (by decide) (by have := i_rng z3355; omega) (by have := i_rng z3355; omega)
      refine q_iload_n hM dX4_test_39 (lv_at hl 2 rfl) ?_
      refine q_bipush (v := (40 : Int32)) hM dX4_test_40 (by decide) ?_
      refine q_icmp_ne (tgt := 70) hM dX4_test_42 (by decide) (rfl : r3351.toInt = r3351.toInt) (kc_40 : (40 : Int32).toInt = 40) (fun h42 => ?_) (fun h42 => ?_)
      · refine q_aload_n hM dX4_test_70 (lv_at hl 0 rfl) ?_
        refine q_iload_n hM dX4_test_71 (lv_at hl 1 rfl) ?_
        refine q_iconst (v := (1 : Int32)) hM dX4_test_72 (by decide) ?_
        refine q_iadd hM dX4_test_73 (fun z3359 hz3359 => ?_)
        first | have tz3359 := i_addT hz3359 (rfl : op.toInt = op.toInt) (kc_1 : (1 : Int32).toInt = 1) (by omega) (by omega) | skip
        refine q_callV (As := [.int z3359]) (rest := []) hM hW.1 hR hC myX4_test (kAW (v_2_8 (List.mem_of_getElem? (i := 6) rfl)) rfl) (rfl : vwCl[4]? = some (RX4, TX4, 5)) rfl lb_79.1 (shO hW.2.1 lb_79) (a_X4_test_5 _ _ cA ad g3356 z3359 en z3355 lw hW.2.1 hG hlw ((hW.2.2.1 79 1 (by omega)).trans h_en) f3357 ((hW.2.2.1 79 4 (by omega)).trans h_r4) (by  omega) (by  omega) (by  omega) (by  omega)) ⟨by decide, by decide⟩ rfl rfl hl.1 (Nat.le_of_ble_eq_true rfl) dX4_test_74 (fun v g3365 H locs hp hW1 => ?_)
        obtain ⟨v3360, r3361, rfl, hs1, hG, hf1, q3362, e3363, e3364, hr3361⟩ := hp
        have hW : WS ad cA (fun i k => (i = 79 ∧ (k = 2 ∨ k = 3)) ∨ (i = lw ∧ (k = 7)) ∨ i = (lw + 4) ∨ i = (lw + 5)) g0 K g3365 H locs := ⟨hW1, hs1, hW.2.2.tr hf1 (fun i k h => h.elim (fun h => (Or.inl h)) (fun h => h.elim (fun h => (Or.inr (Or.inl h))) (fun h => h.elim (fun h => (Or.inr (Or.inr (Or.inl h)))) (fun h => (Or.inr (Or.inr (Or.inr h)))))))⟩
        refine q_if_ne (tgt := 82) hM dX4_test_77 (by decide) (rfl : r3361.toInt = r3361.toInt) (fun h77 => ?_) (fun h77 => ?_)
        · refine q_aload_n hM dX4_test_82 (lv_at hl 0 rfl) ?_
          refine w_get (v := .ref (ad lw)) hM hW FG_X4_15 lb_79 ((hW.2.2.1 79 4 (by omega)).trans h_r4) dX4_test_83 ?_
          refine q_iconst (v := (3 : Int32)) hM dX4_test_86 (by decide) ?_
          refine q_iconst (v := (0 : Int32)) hM dX4_test_87 (by decide) ?_
          refine q_callV (As := [.int (3 : Int32), .int (0 : Int32)]) (rest := []) hM hW.1 hR hC myX3_add (kAW (v_2_7 (List.mem_of_getElem? (i := 13) rfl)) rfl) (rfl : vwCl[3]? = some (RX3, TX3, 8)) rfl (lo_Lw hlw).1 (shO hW.2.1 (lo_Lw hlw)) (a_X3_add _ _ cA ad g3365 lw (3 : Int32) (0 : Int32) hW.2.1 hG hlw (by have := kc_3; have := kc_0; omega) (by have := kc_3; have := kc_0; omega)) ⟨by decide, by decide⟩ rfl rfl hl.1 (Nat.le_of_ble_eq_true rfl) dX4_test_88 (fun v g3367 H locs hp hW1 => ?_)
          obtain ⟨rfl, hs1, hG, hf1⟩ := hp
          have f3368 : fld g3367 79 2 = .int v3360 := (hf1.1 79 2 (by omega)).trans q3362
          have hW : WS ad cA (fun i k => (i = 79 ∧ (k = 2 ∨ k = 3)) ∨ (i = lw ∧ (k = 7)) ∨ i = (lw + 4) ∨ i = (lw + 5)) g0 K g3367 H locs := ⟨hW1, hs1, hW.2.2.tr hf1 (fun i k h => h.elim (fun h => (Or.inr (Or.inl h))) (fun h => h.elim (fun h => (Or.inr (Or.inr (Or.inl h)))) (fun h => (Or.inr (Or.inr (Or.inr h))))))⟩
          refine q_iconst (v := (1 : Int32)) hM dX4_test_91 (by decide) ?_
          exact hE _ _ _ _ _ _ hW.1 nz_1 ⟨v3360, _, rfl, hW.2.1, hG, hW.2.2, f3368, (by have := kc_1; omega), (by have := kc_1; omega), (by have := kc_1; omega)⟩ dX4_test_92
        · refine q_iconst (v := (0 : Int32)) hM dX4_test_80 (by decide) ?_
          exact hE _ _ _ _ _ _ hW.1 nz_0 ⟨v3360, _, rfl, hW.2.1, hG, hW.2.2, q3362, (by have := kc_0; omega), (by have := kc_0; omega), (by have := kc_0; omega)⟩ dX4_test_81
      · refine q_aload_n hM dX4_test_45 (lv_at hl 0 rfl) ?_
        refine q_iload_n hM dX4_test_46 (lv_at hl 1 rfl) ?_
        refine q_iconst (v := (1 : Int32)) hM dX4_test_47 (by decide) ?_
        refine q_iadd hM dX4_test_48 (fun z3371 hz3371 => ?_)
        first | have tz3371 := i_addT hz3371 (rfl : op.toInt = op.toInt) (kc_1 : (1 : Int32).toInt = 1) (by omega) (by omega) | skip
        refine q_callV (As := [.int z3371]) (rest := []) hM hW.1 hR hC myX4_condition (kAW (v_2_8 (List.mem_of_getElem? (i := 2) rfl)) rfl) (rfl : vwCl[4]? = some (RX4, TX4, 5)) rfl lb_79.1 (shO hW.2.1 lb_79) (a_X4_condition_5 _ _ cA ad g3356 z3371 en z3355 lw hW.2.1 hG hlw ((hW.2.2.1 79 1 (by omega)).trans h_en) f3357 ((hW.2.2.1 79 4 (by omega)).trans h_r4) (by  omega) (by  omega) (by  omega) (by  omega)) ⟨by decide, by decide⟩ rfl rfl hl.1 (Nat.le_of_ble_eq_true rfl) dX4_test_49 (fun v g3377 H locs hp hW1 => ?_)
        obtain ⟨v3372, r3373, rfl, hs1, hG, hf1, q3374, e3375, e3376, hr3373⟩ := hp
        have hW : WS ad cA (fun i k => (i = 79 ∧ (k = 2 ∨ k = 3)) ∨ (i = lw ∧ (k = 7)) ∨ i = (lw + 4) ∨ i = (lw + 5)) g0 K g3377 H locs := ⟨hW1, hs1, hW.2.2.tr hf1 (fun i k h => h.elim (fun h => (Or.inl h)) (fun h => h.elim (fun h => (Or.inr (Or.inl h))) (fun h => h.elim (fun h => (Or.inr (Or.inr (Or.inl h)))) (fun h => (Or.inr (Or.inr (Or.inr h)))))))⟩
        refine q_if_eq (tgt := 68) hM dX4_test_52 (by decide) (rfl : r3373.toInt = r3373.toInt) (fun h52 => ?_) (fun h52 => ?_)
        · refine q_iconst (v := (0 : Int32)) hM dX4_test_68 (by decide) ?_
          exact hE _ _ _ _ _ _ hW.1 nz_0 ⟨v3372, _, rfl, hW.2.1, hG, hW.2.2, q3374, (by have := kc_0; omega), (by have := kc_0; omega), (by have := kc_0; omega)⟩ dX4_test_69
        · refine q_aload_n hM dX4_test_55 (lv_at hl 0 rfl) ?_
          refine q_bipush (v := (41 : Int32)) hM dX4_test_56 (by decide) ?_
          refine q_callV (As := [.int (41 : Int32)]) (rest := []) hM hW.1 hR hC myX4_passes (kAW (v_2_7 (List.mem_of_getElem? (i := 4) rfl)) rfl) (rfl : vwCl[4]? = some (RX4, TX4, 5)) rfl lb_79.1 (shO hW.2.1 lb_79) (a_X4_passes _ _ cA ad g3377 (41 : Int32) en v3372 hW.2.1 hG ((hW.2.2.1 79 1 (by omega)).trans h_en) q3374 (by have := kc_41; omega) (by have := kc_41; omega) (by have := kc_41; omega)) ⟨by decide, by decide⟩ rfl rfl hl.1 (Nat.le_of_ble_eq_true rfl) dX4_test_58 (fun v g3385 H locs hp hW1 => ?_)
          obtain ⟨v3380, r3381, rfl, hs1, hG, hf1, q3382, e3383, e3384, hr3381⟩ := hp
          have hW : WS ad cA (fun i k => (i = 79 ∧ (k = 2 ∨ k = 3)) ∨ (i = lw ∧ (k = 7)) ∨ i = (lw + 4) ∨ i = (lw + 5)) g0 K g3385 H locs := ⟨hW1, hs1, hW.2.2.tr hf1 (fun i k h => (Or.inl h))⟩
          refine q_if_eq (tgt := 68) hM dX4_test_61 (by decide) (rfl : r3381.toInt = r3381.toInt) (fun h61 => ?_) (fun h61 => ?_)
          · refine q_iconst (v := (0 : Int32)) hM dX4_test_68 (by decide) ?_
            exact hE _ _ _ _ _ _ hW.1 nz_0 ⟨v3380, _, rfl, hW.2.1, hG, hW.2.2, q3382, (by have := kc_0; omega), (by have := kc_0; omega), (by have := kc_0; omega)⟩ dX4_test_69
          · refine q_iconst (v := (1 : Int32)) hM dX4_test_64 (by decide) ?_
            refine q_goto (tgt := 69) hM dX4_test_65 (by decide) ?_
            exact hE _ _ _ _ _ _ hW.1 nz_1 ⟨v3380, _, rfl, hW.2.1, hG, hW.2.2, q3382, (by have := kc_1; omega), (by have := kc_1; omega), (by have := kc_1; omega)⟩ dX4_test_69
    · omega
  refine q_iload_n hM dX4_test_5 (lv_at hl 0 rfl) ?_
  refine q_bipush (v := (33 : Int32)) hM dX4_test_6 (by decide) ?_
  refine q_icmp_eq (tgt := 17) hM dX4_test_8 (by decide) (rfl : r3351.toInt = r3351.toInt) (kc_33 : (33 : Int32).toInt = 33) (fun h8 => ?_) (fun h8 => ?_)
  · exact L17  _ _ _ _ hG (by omega) f3350 (lv_sub hl [1, 2, 0] rfl) hW
  · refine q_iload_n hM dX4_test_11 (lv_at hl 0 rfl) ?_
    refine q_bipush (v := (40 : Int32)) hM dX4_test_12 (by decide) ?_
    refine q_icmp_ne (tgt := 93) hM dX4_test_14 (by decide) (rfl : r3351.toInt = r3351.toInt) (kc_40 : (40 : Int32).toInt = 40) (fun h14 => ?_) (fun h14 => ?_)
    · refine q_aload_n hM dX4_test_93 (lv_at hl 1 rfl) ?_
      refine q_iload_n hM dX4_test_94 (lv_at hl 2 rfl) ?_
      refine q_callV (As := [.int op]) (rest := []) hM hW.1 hR hC myX4_expression (kAW (v_2_6 (List.mem_of_getElem? (i := 12) rfl)) rfl) (rfl : vwCl[4]? = some (RX4, TX4, 5)) rfl lb_79.1 (shO hW.2.1 lb_79) (a_X4_expression_4 _ _ cA ad g0 op en a0 lw hW.2.1 hG hlw ((hW.2.2.1 79 1 (by omega)).trans h_en) f3350 ((hW.2.2.1 79 4 (by omega)).trans h_r4) (by  omega) (by  omega) (by  omega) (by  omega)) ⟨by decide, by decide⟩ rfl rfl hl.1 (Nat.le_of_ble_eq_true rfl) dX4_test_95 (fun v g3397 H locs hp hW1 => ?_)
      obtain ⟨v3392, r3393, rfl, hs1, hG, hf1, q3394, e3395, e3396, hr3393⟩ := hp
      have hW : WS ad cA (fun i k => (i = 79 ∧ (k = 2 ∨ k = 3)) ∨ (i = lw ∧ (k = 7)) ∨ i = (lw + 4) ∨ i = (lw + 5)) g0 K g3397 H locs := ⟨hW1, hs1, hW.2.2.tr hf1 (fun i k h => h.elim (fun h => (Or.inl h)) (fun h => h.elim (fun h => (Or.inr (Or.inl h))) (fun h => h.elim (fun h => (Or.inr (Or.inr (Or.inl h)))) (fun h => (Or.inr (Or.inr (Or.inr h)))))))⟩
      refine q_if_ne (tgt := 103) hM dX4_test_98 (by decide) (rfl : r3393.toInt = r3393.toInt) (fun h98 => ?_) (fun h98 => ?_)
      · refine q_aload_n hM dX4_test_103 (lv_at hl 1 rfl) ?_
        refine q_callV (As := []) (rest := []) hM hW.1 hR hC myX4_sign (kAW (v_2_0 (List.mem_of_getElem? (i := 12) rfl)) rfl) (rfl : vwCl[4]? = some (RX4, TX4, 5)) rfl lb_79.1 (shO hW.2.1 lb_79) (a_X4_sign _ _ cA ad g3397 en v3392 hW.2.1 hG ((hW.2.2.1 79 1 (by omega)).trans h_en) q3394 (by  omega) (by  omega) (by  omega)) ⟨by decide, by decide⟩ rfl rfl hl.1 (Nat.le_of_ble_eq_true rfl) dX4_test_104 (fun v g3400 H locs hp hW1 => ?_)
        obtain ⟨r3399, rfl, hr3399, rfl⟩ := hp
        have hW : WS ad cA (fun i k => (i = 79 ∧ (k = 2 ∨ k = 3)) ∨ (i = lw ∧ (k = 7)) ∨ i = (lw + 4) ∨ i = (lw + 5)) g0 K g3397 H locs := ⟨hW1, hW.2.1, hW.2.2⟩
        refine q_istore_n (lv9 := [(2, .int r3399), (0, .ref (ad 79)), (1, .int op)]) hM dX4_test_107 hl (by decide) rfl (fun ls hl => ?_)
        have L132 : ∀ (g9 : Nat → va_E) (H : Heap) (locs : List Loc) (ls : Array Slot), (Rng g9) → (0 ≤ r3399.toInt) → (fld g9 79 2 = .int v3392) → lv_has ls 3 [(0, .ref (ad 79)), (1, .int op), (2, .int r3399)] → WS ad cA (fun i k => (i = 79 ∧ (k = 2 ∨ k = 3)) ∨ (i = lw ∧ (k = 7)) ∨ i = (lw + 4) ∨ i = (lw + 5)) g0 K g9 H locs → XX K 0 0 H locs 132 ls [] := by
          intro g9 H locs ls i132_0 i132_1 c132_79_2 hl hW
          have hG := i132_0
          refine q_aload_n hM dX4_test_132 (lv_at hl 0 rfl) ?_
          refine q_dup hM dX4_test_133 rfl ?_
          refine w_get (v := .int v3392) hM hW FG_X4_23 lb_79 c132_79_2 dX4_test_134 ?_
          have bv3392 := hG.f c132_79_2 rF_79_2 (by decide)
          refine q_iconst (v := (1 : Int32)) hM dX4_test_137 (by decide) ?_
          refine q_iadd hM dX4_test_138 (fun z3402 hz3402 => ?_)
          first | have tz3402 := i_addT hz3402 (rfl : v3392.toInt = v3392.toInt) (kc_1 : (1 : Int32).toInt = 1) (by omega) (by omega) | skip
          refine w_put hM hW FP_X4_23 lb_79 (by omega) (Or.inl ⟨_, rfl⟩) rfl rfl dX4_test_139 (fun g3403 H locs hW e1 e2 => ?_)
          have f3404 : fld g3403 79 2 = .int z3402 := e1
          have hG := hG.put e1 e2 rF_79_2 (by decide) (by have := i_rng z3402; omega) (by have := i_rng z3402; omega)
          refine q_aload_n hM dX4_test_142 (lv_at hl 0 rfl) ?_
          refine q_iload_n hM dX4_test_143 (lv_at hl 1 rfl) ?_
          refine q_callV (As := [.int op]) (rest := []) hM hW.1 hR hC myX4_expression (kAW (v_2_6 (List.mem_of_getElem? (i := 12) rfl)) rfl) (rfl : vwCl[4]? = some (RX4, TX4, 5)) rfl lb_79.1 (shO hW.2.1 lb_79) (a_X4_expression_4 _ _ cA ad g3403 op en z3402 lw hW.2.1 hG hlw ((hW.2.2.1 79 1 (by omega)).trans h_en) f3404 ((hW.2.2.1 79 4 (by omega)).trans h_r4) (by  omega) (by  omega) (by  omega) (by  omega)) ⟨by decide, by decide⟩ rfl rfl hl.1 (Nat.le_of_ble_eq_true rfl) dX4_test_144 (fun v g3410 H locs hp hW1 => ?_)
          obtain ⟨v3405, r3406, rfl, hs1, hG, hf1, q3407, e3408, e3409, hr3406⟩ := hp
          have hW : WS ad cA (fun i k => (i = 79 ∧ (k = 2 ∨ k = 3)) ∨ (i = lw ∧ (k = 7)) ∨ i = (lw + 4) ∨ i = (lw + 5)) g0 K g3410 H locs := ⟨hW1, hs1, hW.2.2.tr hf1 (fun i k h => h.elim (fun h => (Or.inl h)) (fun h => h.elim (fun h => (Or.inr (Or.inl h))) (fun h => h.elim (fun h => (Or.inr (Or.inr (Or.inl h)))) (fun h => (Or.inr (Or.inr (Or.inr h)))))))⟩
          refine q_if_ne (tgt := 152) hM dX4_test_147 (by decide) (rfl : r3406.toInt = r3406.toInt) (fun h147 => ?_) (fun h147 => ?_)
          · refine q_aload_n hM dX4_test_152 (lv_at hl 0 rfl) ?_
            refine w_get (v := .ref (ad lw)) hM hW FG_X4_15 lb_79 ((hW.2.2.1 79 4 (by omega)).trans h_r4) dX4_test_153 ?_
            refine q_iload_n hM dX4_test_156 (lv_at hl 2 rfl) ?_
            refine q_iconst (v := (0 : Int32)) hM dX4_test_157 (by decide) ?_
            refine q_callV (As := [.int r3399, .int (0 : Int32)]) (rest := []) hM hW.1 hR hC myX3_add (kAW (v_2_7 (List.mem_of_getElem? (i := 13) rfl)) rfl) (rfl : vwCl[3]? = some (RX3, TX3, 8)) rfl (lo_Lw hlw).1 (shO hW.2.1 (lo_Lw hlw)) (a_X3_add _ _ cA ad g3410 lw r3399 (0 : Int32) hW.2.1 hG hlw (by have := kc_0; omega) (by have := kc_0; omega)) ⟨by decide, by decide⟩ rfl rfl hl.1 (Nat.le_of_ble_eq_true rfl) dX4_test_158 (fun v g3412 H locs hp hW1 => ?_)
            obtain ⟨rfl, hs1, hG, hf1⟩ := hp
            have f3413 : fld g3412 79 2 = .int v3405 := (hf1.1 79 2 (by omega)).trans q3407
            have hW : WS ad cA (fun i k => (i = 79 ∧ (k = 2 ∨ k = 3)) ∨ (i = lw ∧ (k = 7)) ∨ i = (lw + 4) ∨ i = (lw + 5)) g0 K g3412 H locs := ⟨hW1, hs1, hW.2.2.tr hf1 (fun i k h => h.elim (fun h => (Or.inr (Or.inl h))) (fun h => h.elim (fun h => (Or.inr (Or.inr (Or.inl h)))) (fun h => (Or.inr (Or.inr (Or.inr h))))))⟩
            refine q_iconst (v := (1 : Int32)) hM dX4_test_161 (by decide) ?_
            exact hE _ _ _ _ _ _ hW.1 nz_1 ⟨v3405, _, rfl, hW.2.1, hG, hW.2.2, f3413, (by have := kc_1; omega), (by have := kc_1; omega), (by have := kc_1; omega)⟩ dX4_test_162
          · refine q_iconst (v := (0 : Int32)) hM dX4_test_150 (by decide) ?_
            exact hE _ _ _ _ _ _ hW.1 nz_0 ⟨v3405, _, rfl, hW.2.1, hG, hW.2.2, q3407, (by have := kc_0; omega), (by have := kc_0; omega), (by have := kc_0; omega)⟩ dX4_test_151
        refine q_iload_n hM dX4_test_108 (lv_at hl 0 rfl) ?_
        refine q_bipush (v := (60 : Int32)) hM dX4_test_109 (by decide) ?_
        refine q_icmp_eq (tgt := 132) hM dX4_test_111 (by decide) (rfl : r3399.toInt = r3399.toInt) (kc_60 : (60 : Int32).toInt = 60) (fun h111 => ?_) (fun h111 => ?_)
        · exact L132  _ _ _ _ hG (by omega) q3394 (lv_sub hl [1, 2, 0] rfl) hW
        · refine q_iload_n hM dX4_test_114 (lv_at hl 0 rfl) ?_
          refine q_bipush (v := (62 : Int32)) hM dX4_test_115 (by decide) ?_
          refine q_icmp_eq (tgt := 132) hM dX4_test_117 (by decide) (rfl : r3399.toInt = r3399.toInt) (kc_62 : (62 : Int32).toInt = 62) (fun h117 => ?_) (fun h117 => ?_)
          · exact L132  _ _ _ _ hG (by omega) q3394 (lv_sub hl [1, 2, 0] rfl) hW
          · refine q_iload_n hM dX4_test_120 (lv_at hl 0 rfl) ?_
            refine q_bipush (v := (61 : Int32)) hM dX4_test_121 (by decide) ?_
            refine q_icmp_eq (tgt := 132) hM dX4_test_123 (by decide) (rfl : r3399.toInt = r3399.toInt) (kc_61 : (61 : Int32).toInt = 61) (fun h123 => ?_) (fun h123 => ?_)
            · exact L132  _ _ _ _ hG (by omega) q3394 (lv_sub hl [1, 2, 0] rfl) hW
            · refine q_aload_n hM dX4_test_126 (lv_at hl 1 rfl) ?_
              refine q_iconst (v := (1 : Int32)) hM dX4_test_127 (by decide) ?_
              refine q_callV (As := [.int (1 : Int32)]) (rest := []) hM hW.1 hR hC myX4_wrong (kAW (v_2_6 (List.mem_of_getElem? (i := 8) rfl)) rfl) (rfl : vwCl[4]? = some (RX4, TX4, 5)) rfl lb_79.1 (shO hW.2.1 lb_79) (a_X4_wrong _ _ cA ad g3397 (1 : Int32) hW.2.1 hG) ⟨by decide, by decide⟩ rfl rfl hl.1 (Nat.le_of_ble_eq_true rfl) dX4_test_128 (fun v g3422 H locs hp hW1 => ?_)
              obtain ⟨r3421, rfl, hs1, hG, hf1, hr3421⟩ := hp
              have f3423 : fld g3422 79 2 = .int v3392 := (hf1.1 79 2 (by omega)).trans q3394
              have hW : WS ad cA (fun i k => (i = 79 ∧ (k = 2 ∨ k = 3)) ∨ (i = lw ∧ (k = 7)) ∨ i = (lw + 4) ∨ i = (lw + 5)) g0 K g3422 H locs := ⟨hW1, hs1, hW.2.2.tr hf1 (fun i k h => (Or.inl (by omega)))⟩
              exact hE _ _ _ _ _ _ hW.1 (nz_or (by omega)) ⟨v3392, _, rfl, hW.2.1, hG, hW.2.2, f3423, (by omega), (by omega), (by omega)⟩ dX4_test_131
      · refine q_iconst (v := (0 : Int32)) hM dX4_test_101 (by decide) ?_
        exact hE _ _ _ _ _ _ hW.1 nz_0 ⟨v3392, _, rfl, hW.2.1, hG, hW.2.2, q3394, (by have := kc_0; omega), (by have := kc_0; omega), (by have := kc_0; omega)⟩ dX4_test_102
    · exact L17  _ _ _ _ hG (by omega) f3350 (lv_sub hl [1, 2, 0] rfl) hW


set_option maxRecDepth 100000 in
set_option maxHeartbeats 4000000 in
theorem a_X4_condition_4 (l : Launch) (D : va_G) (cA : Nat → ClassId) (ad : Nat → Nat) (g0 : Nat → va_E) (op : Int32) (en : Int32) (a0 : Int32) (lw : Nat) (hSh : Shp ad cA g0) (hG : Rng g0) (hlw : isLw lw) (h_en : fld g0 79 1 = .int en) (h_a0 : fld g0 79 2 = .int a0) (h_r4 : fld g0 79 4 = .ref (ad lw)) (ah0 : 0 ≤ a0.toInt) (ah1 : a0.toInt ≤ en.toInt) (ah2 : en.toInt ≤ 240) (ok : op.toInt = 4) : CT l NN ad cA D yX4_condition cX4_condition 6 (some FieldType.boolean) (12, 275) [.ref (ad 79), .int op] g0 (fun v g' => ∃ (a9 : Int32) (r : Int32), v = some (.int r) ∧ Shp ad cA g' ∧ Rng g' ∧ FR (fun i k => (i = 79 ∧ (k = 2 ∨ k = 3)) ∨ (i = lw ∧ (k = 7)) ∨ i = (lw + 4) ∨ i = (lw + 5)) g0 g' ∧ fld g' 79 2 = .int a9 ∧ (a0.toInt ≤ a9.toInt) ∧ (a9.toInt ≤ en.toInt) ∧ (r.toInt = 0 ∨ r.toInt = 1)) := by
  refine q_enterZ (by decide) (Nat.le_of_ble_eq_true rfl) (fun K H locs ls _ _ hM hW0 hR hC hE hl => ?_)
  have hl : lv_has ls 6 [(0, .ref (ad 79)), (1, .int op)] := hl
  have hW : WS ad cA (fun i k => (i = 79 ∧ (k = 2 ∨ k = 3)) ∨ (i = lw ∧ (k = 7)) ∨ i = (lw + 4) ∨ i = (lw + 5)) g0 K g0 H locs := ⟨hW0, hSh, FR.rf⟩
  have ulw := hlw
  unfold isLw at ulw
  have b_en := hG.f h_en rF_79_1 (by decide)
  have b_a0 := hG.f h_a0 rF_79_2 (by decide)
  have f3426 : fld g0 79 2 = .int a0 := h_a0
  refine q_iconst (v := ((-1) : Int32)) hM dX4_condition_0 (by decide) ?_
  refine q_istore_n (lv9 := [(2, .int ((-1) : Int32)), (0, .ref (ad 79)), (1, .int op)]) hM dX4_condition_1 hl (by decide) rfl (fun ls hl => ?_)
  refine q_iconst (v := ((-1) : Int32)) hM dX4_condition_2 (by decide) ?_
  refine q_istore_n (lv9 := [(3, .int ((-1) : Int32)), (2, .int ((-1) : Int32)), (0, .ref (ad 79)), (1, .int op)]) hM dX4_condition_3 hl (by decide) rfl (fun ls hl => ?_)
  have L4 : ∀ (fu4 : Nat) (w4_2 : Int32) (w4_3 : Int32) (aa : Int32) (g9 : Nat → va_E) (H : Heap) (locs : List Loc) (ls : Array Slot), (en.toInt - aa.toInt + 1).toNat < fu4 → (Rng g9) → (a0.toInt ≤ aa.toInt) → (aa.toInt ≤ en.toInt) → (-1 ≤ w4_2.toInt) → (w4_2.toInt ≤ 256) → (-1 ≤ w4_3.toInt) → (w4_3.toInt ≤ 256) → (fld g9 79 2 = .int aa) → lv_has ls 6 [(0, .ref (ad 79)), (1, .int op), (2, .int w4_2), (3, .int w4_3)] → WS ad cA (fun i k => (i = 79 ∧ (k = 2 ∨ k = 3)) ∨ (i = lw ∧ (k = 7)) ∨ i = (lw + 4) ∨ i = (lw + 5)) g0 K g9 H locs → XX K 0 0 H locs 4 ls [] := by
    intro fu4
    induction fu4 with
    | zero => intro w4_2 w4_3 aa g9 H locs ls h0; omega
    | succ fu4 ih4 =>
      intro w4_2 w4_3 aa g9 H locs ls hm4 i4_0 i4_1 i4_2 i4_3 i4_4 i4_5 i4_6 c4_79_2 hl hW
      have hG := i4_0
      refine q_aload_n hM dX4_condition_4 (lv_at hl 0 rfl) ?_
      refine w_get (v := .int aa) hM hW FG_X4_23 lb_79 c4_79_2 dX4_condition_5 ?_
      have baa := hG.f c4_79_2 rF_79_2 (by decide)
      refine q_aload_n hM dX4_condition_8 (lv_at hl 0 rfl) ?_
      refine w_get (v := .int en) hM hW FG_X4_19 lb_79 ((hW.2.2.1 79 1 (by omega)).trans h_en) dX4_condition_9 ?_
      refine q_icmp_gt (tgt := 114) hM dX4_condition_12 (by decide) (rfl : aa.toInt = aa.toInt) (rfl : en.toInt = en.toInt) (fun h12 => ?_) (fun h12 => ?_)
      · refine q_aload_n hM dX4_condition_114 (lv_at hl 0 rfl) ?_
        refine q_iconst (v := (1 : Int32)) hM dX4_condition_115 (by decide) ?_
        refine q_callV (As := [.int (1 : Int32)]) (rest := []) hM hW.1 hR hC myX4_wrong (kAW (v_2_6 (List.mem_of_getElem? (i := 8) rfl)) rfl) (rfl : vwCl[4]? = some (RX4, TX4, 5)) rfl lb_79.1 (shO hW.2.1 lb_79) (a_X4_wrong _ _ cA ad g9 (1 : Int32) hW.2.1 hG) ⟨by decide, by decide⟩ rfl rfl hl.1 (Nat.le_of_ble_eq_true rfl) dX4_condition_116 (fun v g3430 H locs hp hW1 => ?_)
        obtain ⟨r3429, rfl, hs1, hG, hf1, hr3429⟩ := hp
        have f3431 : fld g3430 79 2 = .int aa := (hf1.1 79 2 (by omega)).trans c4_79_2
        have hW : WS ad cA (fun i k => (i = 79 ∧ (k = 2 ∨ k = 3)) ∨ (i = lw ∧ (k = 7)) ∨ i = (lw + 4) ∨ i = (lw + 5)) g0 K g3430 H locs := ⟨hW1, hs1, hW.2.2.tr hf1 (fun i k h => (Or.inl (by omega)))⟩
        exact hE _ _ _ _ _ _ hW.1 (nz_or (by omega)) ⟨aa, _, rfl, hW.2.1, hG, hW.2.2, f3431, (by omega), (by omega), (by omega)⟩ dX4_condition_119
      · refine q_aload_n hM dX4_condition_15 (lv_at hl 0 rfl) ?_
        refine q_iload_n hM dX4_condition_16 (lv_at hl 1 rfl) ?_
        refine q_callV (As := [.int op]) (rest := []) hM hW.1 hR hC myX4_test (kAW (v_2_8 (List.mem_of_getElem? (i := 6) rfl)) rfl) (rfl : vwCl[4]? = some (RX4, TX4, 5)) rfl lb_79.1 (shO hW.2.1 lb_79) (a_X4_test_4 _ _ cA ad g9 op en aa lw hW.2.1 hG hlw ((hW.2.2.1 79 1 (by omega)).trans h_en) c4_79_2 ((hW.2.2.1 79 4 (by omega)).trans h_r4) (by  omega) (by  omega) (by  omega) (by  omega)) ⟨by decide, by decide⟩ rfl rfl hl.1 (Nat.le_of_ble_eq_true rfl) dX4_condition_17 (fun v g3438 H locs hp hW1 => ?_)
        obtain ⟨v3433, r3434, rfl, hs1, hG, hf1, q3435, e3436, e3437, hr3434⟩ := hp
        have hW : WS ad cA (fun i k => (i = 79 ∧ (k = 2 ∨ k = 3)) ∨ (i = lw ∧ (k = 7)) ∨ i = (lw + 4) ∨ i = (lw + 5)) g0 K g3438 H locs := ⟨hW1, hs1, hW.2.2.tr hf1 (fun i k h => h.elim (fun h => (Or.inl h)) (fun h => h.elim (fun h => (Or.inr (Or.inl h))) (fun h => h.elim (fun h => (Or.inr (Or.inr (Or.inl h)))) (fun h => (Or.inr (Or.inr (Or.inr h)))))))⟩
        refine q_if_ne (tgt := 25) hM dX4_condition_20 (by decide) (rfl : r3434.toInt = r3434.toInt) (fun h20 => ?_) (fun h20 => ?_)
        · refine q_aload_n hM dX4_condition_25 (lv_at hl 0 rfl) ?_
          refine q_callV (As := []) (rest := []) hM hW.1 hR hC myX4_sign (kAW (v_2_0 (List.mem_of_getElem? (i := 12) rfl)) rfl) (rfl : vwCl[4]? = some (RX4, TX4, 5)) rfl lb_79.1 (shO hW.2.1 lb_79) (a_X4_sign _ _ cA ad g3438 en v3433 hW.2.1 hG ((hW.2.2.1 79 1 (by omega)).trans h_en) q3435 (by  omega) (by  omega) (by  omega)) ⟨by decide, by decide⟩ rfl rfl hl.1 (Nat.le_of_ble_eq_true rfl) dX4_condition_26 (fun v g3441 H locs hp hW1 => ?_)
          obtain ⟨r3440, rfl, hr3440, rfl⟩ := hp
          have hW : WS ad cA (fun i k => (i = 79 ∧ (k = 2 ∨ k = 3)) ∨ (i = lw ∧ (k = 7)) ∨ i = (lw + 4) ∨ i = (lw + 5)) g0 K g3438 H locs := ⟨hW1, hW.2.1, hW.2.2⟩
          refine q_istore (lv9 := [(4, .int r3440), (0, .ref (ad 79)), (1, .int op), (2, .int w4_2), (3, .int w4_3)]) hM dX4_condition_29 hl (by decide) rfl (fun ls hl => ?_)
          refine q_aload_n hM dX4_condition_31 (lv_at hl 1 rfl) ?_
          refine w_get (v := .ref (ad lw)) hM hW FG_X4_15 lb_79 ((hW.2.2.1 79 4 (by omega)).trans h_r4) dX4_condition_32 ?_
          refine w_getI hM hW FG_X4_35 (lo_Lw hlw) (by decide) (by decide) dX4_condition_35 (fun x3442 fx3442 => ?_)
          have bx3442 := hG.f fx3442 (rF_Lw_7 hlw) (by decide)
          refine q_istore (lv9 := [(5, .int x3442), (4, .int r3440), (0, .ref (ad 79)), (1, .int op), (2, .int w4_2), (3, .int w4_3)]) hM dX4_condition_38 hl (by decide) rfl (fun ls hl => ?_)
          have L101 : ∀ (n101 : Int32) (o101 : Int32) (g9 : Nat → va_E) (H : Heap) (locs : List Loc) (ls : Array Slot), (Rng g9) → (-1 ≤ n101.toInt) → (n101.toInt ≤ 256) → (-1 ≤ o101.toInt) → (o101.toInt ≤ 256) → (0 ≤ r3440.toInt) → (fld g9 79 2 = .int v3433) → lv_has ls 6 [(0, .ref (ad 79)), (1, .int op), (2, .int n101), (3, .int o101), (4, .int r3440), (5, .int x3442)] → WS ad cA (fun i k => (i = 79 ∧ (k = 2 ∨ k = 3)) ∨ (i = lw ∧ (k = 7)) ∨ i = (lw + 4) ∨ i = (lw + 5)) g0 K g9 H locs → XX K 0 0 H locs 101 ls [] := by
            intro n101 o101 g9 H locs ls i101_0 i101_1 i101_2 i101_3 i101_4 i101_5 c101_79_2 hl hW
            have hG := i101_0
            refine q_aload_n hM dX4_condition_101 (lv_at hl 0 rfl) ?_
            refine q_dup hM dX4_condition_102 rfl ?_
            refine w_get (v := .int v3433) hM hW FG_X4_23 lb_79 c101_79_2 dX4_condition_103 ?_
            have bv3433 := hG.f c101_79_2 rF_79_2 (by decide)
            refine q_iconst (v := (1 : Int32)) hM dX4_condition_106 (by decide) ?_
            refine q_iadd hM dX4_condition_107 (fun z3444 hz3444 => ?_)
            first | have tz3444 := i_addT hz3444 (rfl : v3433.toInt = v3433.toInt) (kc_1 : (1 : Int32).toInt = 1) (by omega) (by omega) | skip
            refine w_put hM hW FP_X4_23 lb_79 (by omega) (Or.inl ⟨_, rfl⟩) rfl rfl dX4_condition_108 (fun g3445 H locs hW e1 e2 => ?_)
            have f3446 : fld g3445 79 2 = .int z3444 := e1
            have hG := hG.put e1 e2 rF_79_2 (by decide) (by have := i_rng z3444; omega) (by have := i_rng z3444; omega)
            refine q_goto (tgt := 4) hM dX4_condition_111 (by decide) ?_
            exact ih4 n101 o101 z3444 _ _ _ _ (by omega) hG (by omega) (by omega) (by omega) (by omega) (by omega) (by omega) f3446 (lv_sub hl [0, 1, 2, 3] rfl) hW
          refine q_iload hM dX4_condition_40 (lv_at hl 1 rfl) ?_
          refine q_bipush (v := (38 : Int32)) hM dX4_condition_42 (by decide) ?_
          refine q_icmp_ne (tgt := 62) hM dX4_condition_44 (by decide) (rfl : r3440.toInt = r3440.toInt) (kc_38 : (38 : Int32).toInt = 38) (fun h44 => ?_) (fun h44 => ?_)
          · refine q_aload_n hM dX4_condition_62 (lv_at hl 2 rfl) ?_
            refine w_get (v := .ref (ad lw)) hM hW FG_X4_15 lb_79 ((hW.2.2.1 79 4 (by omega)).trans h_r4) dX4_condition_63 ?_
            refine q_iload_n hM dX4_condition_66 (lv_at hl 4 rfl) ?_
            refine q_callV (As := [.int w4_2]) (rest := []) hM hW.1 hR hC myX3_land (kAW (v_2_8 (List.mem_of_getElem? (i := 10) rfl)) rfl) (rfl : vwCl[3]? = some (RX3, TX3, 8)) rfl (lo_Lw hlw).1 (shO hW.2.1 (lo_Lw hlw)) (a_X3_land _ _ cA ad g3438 lw w4_2 hW.2.1 hG hlw) ⟨by decide, by decide⟩ rfl rfl hl.1 (Nat.le_of_ble_eq_true rfl) dX4_condition_67 (fun v g3448 H locs hp hW1 => ?_)
            obtain ⟨rfl, hs1, hG, hf1⟩ := hp
            have f3449 : fld g3448 79 2 = .int v3433 := (hf1.1 79 2 (by omega)).trans q3435
            have f3450 : fld g3448 lw 7 = .int x3442 := (hf1.1 lw 7 (by omega)).trans fx3442
            have hW : WS ad cA (fun i k => (i = 79 ∧ (k = 2 ∨ k = 3)) ∨ (i = lw ∧ (k = 7)) ∨ i = (lw + 4) ∨ i = (lw + 5)) g0 K g3448 H locs := ⟨hW1, hs1, hW.2.2.tr hf1 (fun i k h => (Or.inr (Or.inr (Or.inr h))))⟩
            refine q_iconst (v := ((-1) : Int32)) hM dX4_condition_70 (by decide) ?_
            refine q_istore_n (lv9 := [(2, .int ((-1) : Int32)), (5, .int x3442), (4, .int r3440), (0, .ref (ad 79)), (1, .int op), (3, .int w4_3)]) hM dX4_condition_71 hl (by decide) rfl (fun ls hl => ?_)
            refine q_iload hM dX4_condition_72 (lv_at hl 2 rfl) ?_
            refine q_bipush (v := (124 : Int32)) hM dX4_condition_74 (by decide) ?_
            refine q_icmp_eq (tgt := 89) hM dX4_condition_76 (by decide) (rfl : r3440.toInt = r3440.toInt) (kc_124 : (124 : Int32).toInt = 124) (fun h76 => ?_) (fun h76 => ?_)
            · refine q_aload_n hM dX4_condition_89 (lv_at hl 3 rfl) ?_
              refine w_get (v := .ref (ad lw)) hM hW FG_X4_15 lb_79 ((hW.2.2.1 79 4 (by omega)).trans h_r4) dX4_condition_90 ?_
              refine q_iconst (v := (5 : Int32)) hM dX4_condition_93 (by decide) ?_
              refine q_iload_n hM dX4_condition_94 (lv_at hl 5 rfl) ?_
              refine q_callV (As := [.int (5 : Int32), .int w4_3]) (rest := []) hM hW.1 hR hC myX3_add (kAW (v_2_7 (List.mem_of_getElem? (i := 13) rfl)) rfl) (rfl : vwCl[3]? = some (RX3, TX3, 8)) rfl (lo_Lw hlw).1 (shO hW.2.1 (lo_Lw hlw)) (a_X3_add _ _ cA ad g3448 lw (5 : Int32) w4_3 hW.2.1 hG hlw (by have := kc_5; omega) (by have := kc_5; omega)) ⟨by decide, by decide⟩ rfl rfl hl.1 (Nat.le_of_ble_eq_true rfl) dX4_condition_95 (fun v g3452 H locs hp hW1 => ?_)
              obtain ⟨rfl, hs1, hG, hf1⟩ := hp
              have f3453 : fld g3452 79 2 = .int v3433 := (hf1.1 79 2 (by omega)).trans f3449
              have hW : WS ad cA (fun i k => (i = 79 ∧ (k = 2 ∨ k = 3)) ∨ (i = lw ∧ (k = 7)) ∨ i = (lw + 4) ∨ i = (lw + 5)) g0 K g3452 H locs := ⟨hW1, hs1, hW.2.2.tr hf1 (fun i k h => h.elim (fun h => (Or.inr (Or.inl h))) (fun h => h.elim (fun h => (Or.inr (Or.inr (Or.inl h)))) (fun h => (Or.inr (Or.inr (Or.inr h))))))⟩
              refine q_iload hM dX4_condition_98 (lv_at hl 1 rfl) ?_
              refine q_istore_n (lv9 := [(3, .int x3442), (2, .int ((-1) : Int32)), (5, .int x3442), (4, .int r3440), (0, .ref (ad 79)), (1, .int op)]) hM dX4_condition_100 hl (by decide) rfl (fun ls hl => ?_)
              have := kc_m1
              exact L101 ((-1) : Int32) x3442 _ _ _ _ hG (by omega) (by omega) (by omega) (by omega) (by omega) f3453 (lv_sub hl [4, 5, 1, 0, 3, 2] rfl) hW
            · refine q_aload_n hM dX4_condition_79 (lv_at hl 3 rfl) ?_
              refine w_get (v := .ref (ad lw)) hM hW FG_X4_15 lb_79 ((hW.2.2.1 79 4 (by omega)).trans h_r4) dX4_condition_80 ?_
              refine q_iload_n hM dX4_condition_83 (lv_at hl 5 rfl) ?_
              refine q_callV (As := [.int w4_3]) (rest := []) hM hW.1 hR hC myX3_land (kAW (v_2_8 (List.mem_of_getElem? (i := 10) rfl)) rfl) (rfl : vwCl[3]? = some (RX3, TX3, 8)) rfl (lo_Lw hlw).1 (shO hW.2.1 (lo_Lw hlw)) (a_X3_land _ _ cA ad g3448 lw w4_3 hW.2.1 hG hlw) ⟨by decide, by decide⟩ rfl rfl hl.1 (Nat.le_of_ble_eq_true rfl) dX4_condition_84 (fun v g3455 H locs hp hW1 => ?_)
              obtain ⟨rfl, hs1, hG, hf1⟩ := hp
              have f3456 : fld g3455 79 2 = .int v3433 := (hf1.1 79 2 (by omega)).trans f3449
              have f3457 : fld g3455 lw 7 = .int x3442 := (hf1.1 lw 7 (by omega)).trans f3450
              have hW : WS ad cA (fun i k => (i = 79 ∧ (k = 2 ∨ k = 3)) ∨ (i = lw ∧ (k = 7)) ∨ i = (lw + 4) ∨ i = (lw + 5)) g0 K g3455 H locs := ⟨hW1, hs1, hW.2.2.tr hf1 (fun i k h => (Or.inr (Or.inr (Or.inr h))))⟩
              refine q_iconst (v := (1 : Int32)) hM dX4_condition_87 (by decide) ?_
              exact hE _ _ _ _ _ _ hW.1 nz_1 ⟨v3433, _, rfl, hW.2.1, hG, hW.2.2, f3456, (by have := kc_1; omega), (by have := kc_1; omega), (by have := kc_1; omega)⟩ dX4_condition_88
          · refine q_aload_n hM dX4_condition_47 (lv_at hl 2 rfl) ?_
            refine w_get (v := .ref (ad lw)) hM hW FG_X4_15 lb_79 ((hW.2.2.1 79 4 (by omega)).trans h_r4) dX4_condition_48 ?_
            refine q_iconst (v := (4 : Int32)) hM dX4_condition_51 (by decide) ?_
            refine q_iload_n hM dX4_condition_52 (lv_at hl 4 rfl) ?_
            refine q_callV (As := [.int (4 : Int32), .int w4_2]) (rest := []) hM hW.1 hR hC myX3_add (kAW (v_2_7 (List.mem_of_getElem? (i := 13) rfl)) rfl) (rfl : vwCl[3]? = some (RX3, TX3, 8)) rfl (lo_Lw hlw).1 (shO hW.2.1 (lo_Lw hlw)) (a_X3_add _ _ cA ad g3438 lw (4 : Int32) w4_2 hW.2.1 hG hlw (by have := kc_4; omega) (by have := kc_4; omega)) ⟨by decide, by decide⟩ rfl rfl hl.1 (Nat.le_of_ble_eq_true rfl) dX4_condition_53 (fun v g3459 H locs hp hW1 => ?_)
            obtain ⟨rfl, hs1, hG, hf1⟩ := hp
            have f3460 : fld g3459 79 2 = .int v3433 := (hf1.1 79 2 (by omega)).trans q3435
            have hW : WS ad cA (fun i k => (i = 79 ∧ (k = 2 ∨ k = 3)) ∨ (i = lw ∧ (k = 7)) ∨ i = (lw + 4) ∨ i = (lw + 5)) g0 K g3459 H locs := ⟨hW1, hs1, hW.2.2.tr hf1 (fun i k h => h.elim (fun h => (Or.inr (Or.inl h))) (fun h => h.elim (fun h => (Or.inr (Or.inr (Or.inl h)))) (fun h => (Or.inr (Or.inr (Or.inr h))))))⟩
            refine q_iload hM dX4_condition_56 (lv_at hl 0 rfl) ?_
            refine q_istore_n (lv9 := [(2, .int x3442), (5, .int x3442), (4, .int r3440), (0, .ref (ad 79)), (1, .int op), (3, .int w4_3)]) hM dX4_condition_58 hl (by decide) rfl (fun ls hl => ?_)
            refine q_goto (tgt := 101) hM dX4_condition_59 (by decide) ?_
            exact L101 x3442 w4_3 _ _ _ _ hG (by omega) (by omega) (by omega) (by omega) (by omega) f3460 (lv_sub hl [3, 4, 0, 5, 2, 1] rfl) hW
        · refine q_iconst (v := (0 : Int32)) hM dX4_condition_23 (by decide) ?_
          exact hE _ _ _ _ _ _ hW.1 nz_0 ⟨v3433, _, rfl, hW.2.1, hG, hW.2.2, q3435, (by have := kc_0; omega), (by have := kc_0; omega), (by have := kc_0; omega)⟩ dX4_condition_24
  have := kc_m1
  have := kc_m1
  exact L4 _ ((-1) : Int32) ((-1) : Int32) a0 _ _ _ _ (Nat.lt_succ_self _) hG (by omega) (by omega) (by omega) (by omega) (by omega) (by omega) f3426 (lv_sub hl [2, 3, 1, 0] rfl) hW


set_option maxRecDepth 100000 in
set_option maxHeartbeats 4000000 in
theorem a_X4_factor_3 (l : Launch) (D : va_G) (cA : Nat → ClassId) (ad : Nat → Nat) (g0 : Nat → va_E) (op : Int32) (en : Int32) (a0 : Int32) (lw : Nat) (hSh : Shp ad cA g0) (hG : Rng g0) (hlw : isLw lw) (h_en : fld g0 79 1 = .int en) (h_a0 : fld g0 79 2 = .int a0) (h_r4 : fld g0 79 4 = .ref (ad lw)) (ah0 : 0 ≤ a0.toInt) (ah1 : a0.toInt ≤ en.toInt) (ah2 : en.toInt ≤ 240) (ok : op.toInt = 3) : CT l NN ad cA D yX4_factor cX4_factor 4 (some FieldType.boolean) (11, 253) [.ref (ad 79), .int op] g0 (fun v g' => ∃ (a9 : Int32) (r : Int32), v = some (.int r) ∧ Shp ad cA g' ∧ Rng g' ∧ FR (fun i k => (i = 79 ∧ (k = 2 ∨ k = 3)) ∨ (i = lw ∧ (k = 7)) ∨ i = (lw + 4) ∨ i = (lw + 5)) g0 g' ∧ fld g' 79 2 = .int a9 ∧ (a0.toInt ≤ a9.toInt) ∧ (a9.toInt ≤ en.toInt) ∧ (r.toInt = 0 ∨ r.toInt = 1)) := by
  refine q_enterZ (by decide) (Nat.le_of_ble_eq_true rfl) (fun K H locs ls _ _ hM hW0 hR hC hE hl => ?_)
  have hl : lv_has ls 4 [(0, .ref (ad 79)), (1, .int op)] := hl
  have hW : WS ad cA (fun i k => (i = 79 ∧ (k = 2 ∨ k = 3)) ∨ (i = lw ∧ (k = 7)) ∨ i = (lw + 4) ∨ i = (lw + 5)) g0 K g0 H locs := ⟨hW0, hSh, FR.rf⟩
  have ulw := hlw
  unfold isLw at ulw
  have b_en := hG.f h_en rF_79_1 (by decide)
  have b_a0 := hG.f h_a0 rF_79_2 (by decide)
  have f3462 : fld g0 79 2 = .int a0 := h_a0
  refine q_aload_n hM dX4_factor_0 (lv_at hl 0 rfl) ?_
  refine q_callV (As := []) (rest := []) hM hW.1 hR hC myX4_sign (kAW (v_2_0 (List.mem_of_getElem? (i := 12) rfl)) rfl) (rfl : vwCl[4]? = some (RX4, TX4, 5)) rfl lb_79.1 (shO hW.2.1 lb_79) (a_X4_sign _ _ cA ad g0 en a0 hW.2.1 hG ((hW.2.2.1 79 1 (by omega)).trans h_en) f3462 (by  omega) (by  omega) (by  omega)) ⟨by decide, by decide⟩ rfl rfl hl.1 (Nat.le_of_ble_eq_true rfl) dX4_factor_1 (fun v g3464 H locs hp hW1 => ?_)
  obtain ⟨r3463, rfl, hr3463, rfl⟩ := hp
  have hW : WS ad cA (fun i k => (i = 79 ∧ (k = 2 ∨ k = 3)) ∨ (i = lw ∧ (k = 7)) ∨ i = (lw + 4) ∨ i = (lw + 5)) g0 K g0 H locs := ⟨hW1, hW.2.1, hW.2.2⟩
  refine q_istore_n (lv9 := [(2, .int r3463), (0, .ref (ad 79)), (1, .int op)]) hM dX4_factor_4 hl (by decide) rfl (fun ls hl => ?_)
  refine q_iload_n hM dX4_factor_5 (lv_at hl 0 rfl) ?_
  refine q_bipush (v := (91 : Int32)) hM dX4_factor_6 (by decide) ?_
  refine q_icmp_ne (tgt := 58) hM dX4_factor_8 (by decide) (rfl : r3463.toInt = r3463.toInt) (kc_91 : (91 : Int32).toInt = 91) (fun h8 => ?_) (fun h8 => ?_)
  · refine q_iload_n hM dX4_factor_58 (lv_at hl 0 rfl) ?_
    refine q_bipush (v := (48 : Int32)) hM dX4_factor_59 (by decide) ?_
    refine q_bipush (v := (57 : Int32)) hM dX4_factor_61 (by decide) ?_
    refine q_callN (host := "ForgetSchool") (As := [.int r3463, .int (48 : Int32), .int (57 : Int32)]) (rest := []) hM hW.1 hR hC myX11_within (List.mem_of_getElem? (i := 2) rfl) (c_X11_within _ _ cA ad g0 r3463 (48 : Int32) (57 : Int32) hW.2.1) ⟨by decide, by decide⟩ rfl rfl hl.1 (Nat.le_of_ble_eq_true rfl) dX4_factor_63 (fun v g3467 H locs hp hW1 => ?_)
    obtain ⟨r3466, rfl, hr3466, rfl⟩ := hp
    have hW : WS ad cA (fun i k => (i = 79 ∧ (k = 2 ∨ k = 3)) ∨ (i = lw ∧ (k = 7)) ∨ i = (lw + 4) ∨ i = (lw + 5)) g0 K g0 H locs := ⟨hW1, hW.2.1, hW.2.2⟩
    have := kc_48
    have := kc_57
    refine q_if_eq (tgt := 102) hM dX4_factor_66 (by decide) (rfl : r3466.toInt = r3466.toInt) (fun h66 => ?_) (fun h66 => ?_)
    · refine q_ldcS1 hM hW.1 rfl dX4_factor_102 ?_
      refine q_iload_n hM dX4_factor_104 (lv_at hl 0 rfl) ?_
      refine q_callS (As := [.ref (ad 401), .int r3463]) (rest := []) hM hW.1 hR hC myX4_placeOf (kAW (v_2_1 (List.mem_of_getElem? (i := 1) rfl)) rfl) (a_X4_placeOf_1 _ _ cA ad g0 r3463 hW.2.1 hG) ⟨by decide, by decide⟩ rfl rfl hl.1 (Nat.le_of_ble_eq_true rfl) dX4_factor_105 (fun v g3470 H locs hp hW1 => ?_)
      obtain ⟨r3469, rfl, hr3469, rfl⟩ := hp
      have hW : WS ad cA (fun i k => (i = 79 ∧ (k = 2 ∨ k = 3)) ∨ (i = lw ∧ (k = 7)) ∨ i = (lw + 4) ∨ i = (lw + 5)) g0 K g0 H locs := ⟨hW1, hW.2.1, hW.2.2⟩
      refine q_istore_n (lv9 := [(3, .int r3469), (2, .int r3463), (0, .ref (ad 79)), (1, .int op)]) hM dX4_factor_108 hl (by decide) rfl (fun ls hl => ?_)
      refine q_iload_n hM dX4_factor_109 (lv_at hl 0 rfl) ?_
      refine q_if_ge (tgt := 119) hM dX4_factor_110 (by decide) (rfl : r3469.toInt = r3469.toInt) (fun h110 => ?_) (fun h110 => ?_)
      · refine q_aload_n hM dX4_factor_119 (lv_at hl 2 rfl) ?_
        refine w_get (v := .ref (ad lw)) hM hW FG_X4_15 lb_79 ((hW.2.2.1 79 4 (by omega)).trans h_r4) dX4_factor_120 ?_
        refine q_iconst (v := (2 : Int32)) hM dX4_factor_123 (by decide) ?_
        refine q_iload_n hM dX4_factor_124 (lv_at hl 0 rfl) ?_
        refine q_callV (As := [.int (2 : Int32), .int r3469]) (rest := []) hM hW.1 hR hC myX3_add (kAW (v_2_7 (List.mem_of_getElem? (i := 13) rfl)) rfl) (rfl : vwCl[3]? = some (RX3, TX3, 8)) rfl (lo_Lw hlw).1 (shO hW.2.1 (lo_Lw hlw)) (a_X3_add _ _ cA ad g0 lw (2 : Int32) r3469 hW.2.1 hG hlw (by have := kc_2; omega) (by have := kc_2; omega)) ⟨by decide, by decide⟩ rfl rfl hl.1 (Nat.le_of_ble_eq_true rfl) dX4_factor_125 (fun v g3472 H locs hp hW1 => ?_)
        obtain ⟨rfl, hs1, hG, hf1⟩ := hp
        have f3473 : fld g3472 79 2 = .int a0 := (hf1.1 79 2 (by omega)).trans f3462
        have hW : WS ad cA (fun i k => (i = 79 ∧ (k = 2 ∨ k = 3)) ∨ (i = lw ∧ (k = 7)) ∨ i = (lw + 4) ∨ i = (lw + 5)) g0 K g3472 H locs := ⟨hW1, hs1, hW.2.2.tr hf1 (fun i k h => h.elim (fun h => (Or.inr (Or.inl h))) (fun h => h.elim (fun h => (Or.inr (Or.inr (Or.inl h)))) (fun h => (Or.inr (Or.inr (Or.inr h))))))⟩
        refine q_aload_n hM dX4_factor_128 (lv_at hl 2 rfl) ?_
        refine q_dup hM dX4_factor_129 rfl ?_
        refine w_get (v := .int a0) hM hW FG_X4_23 lb_79 f3473 dX4_factor_130 ?_
        have ba0 := hG.f f3473 rF_79_2 (by decide)
        refine q_iconst (v := (1 : Int32)) hM dX4_factor_133 (by decide) ?_
        refine q_iadd hM dX4_factor_134 (fun z3474 hz3474 => ?_)
        first | have tz3474 := i_addT hz3474 (rfl : a0.toInt = a0.toInt) (kc_1 : (1 : Int32).toInt = 1) (by omega) (by omega) | skip
        refine w_put hM hW FP_X4_23 lb_79 (by omega) (Or.inl ⟨_, rfl⟩) rfl rfl dX4_factor_135 (fun g3475 H locs hW e1 e2 => ?_)
        have f3476 : fld g3475 79 2 = .int z3474 := e1
        have hG := hG.put e1 e2 rF_79_2 (by decide) (by have := i_rng z3474; omega) (by have := i_rng z3474; omega)
        refine q_iconst (v := (1 : Int32)) hM dX4_factor_138 (by decide) ?_
        exact hE _ _ _ _ _ _ hW.1 nz_1 ⟨z3474, _, rfl, hW.2.1, hG, hW.2.2, f3476, (by have := kc_1; omega), (by have := kc_1; omega), (by have := kc_1; omega)⟩ dX4_factor_139
      · refine q_aload_n hM dX4_factor_113 (lv_at hl 2 rfl) ?_
        refine q_iconst (v := (1 : Int32)) hM dX4_factor_114 (by decide) ?_
        refine q_callV (As := [.int (1 : Int32)]) (rest := []) hM hW.1 hR hC myX4_wrong (kAW (v_2_6 (List.mem_of_getElem? (i := 8) rfl)) rfl) (rfl : vwCl[4]? = some (RX4, TX4, 5)) rfl lb_79.1 (shO hW.2.1 lb_79) (a_X4_wrong _ _ cA ad g0 (1 : Int32) hW.2.1 hG) ⟨by decide, by decide⟩ rfl rfl hl.1 (Nat.le_of_ble_eq_true rfl) dX4_factor_115 (fun v g3479 H locs hp hW1 => ?_)
        obtain ⟨r3478, rfl, hs1, hG, hf1, hr3478⟩ := hp
        have f3480 : fld g3479 79 2 = .int a0 := (hf1.1 79 2 (by omega)).trans f3462
        have hW : WS ad cA (fun i k => (i = 79 ∧ (k = 2 ∨ k = 3)) ∨ (i = lw ∧ (k = 7)) ∨ i = (lw + 4) ∨ i = (lw + 5)) g0 K g3479 H locs := ⟨hW1, hs1, hW.2.2.tr hf1 (fun i k h => (Or.inl (by omega)))⟩
        exact hE _ _ _ _ _ _ hW.1 (nz_or (by omega)) ⟨a0, _, rfl, hW.2.1, hG, hW.2.2, f3480, (by omega), (by omega), (by omega)⟩ dX4_factor_118
    · refine q_aload_n hM dX4_factor_69 (lv_at hl 1 rfl) ?_
      refine q_callV (As := []) (rest := []) hM hW.1 hR hC myX4_number (kAW (v_2_7 (List.mem_of_getElem? (i := 9) rfl)) rfl) (rfl : vwCl[4]? = some (RX4, TX4, 5)) rfl lb_79.1 (shO hW.2.1 lb_79) (a_X4_number _ _ cA ad g0 en a0 hW.2.1 hG ((hW.2.2.1 79 1 (by omega)).trans h_en) f3462 (by  omega) (by  omega) (by  omega)) ⟨by decide, by decide⟩ rfl rfl hl.1 (Nat.le_of_ble_eq_true rfl) dX4_factor_70 (fun v g3487 H locs hp hW1 => ?_)
      obtain ⟨v3482, r3483, rfl, hs1, hG, hf1, q3484, e3485, e3486, hr3483⟩ := hp
      have hW : WS ad cA (fun i k => (i = 79 ∧ (k = 2 ∨ k = 3)) ∨ (i = lw ∧ (k = 7)) ∨ i = (lw + 4) ∨ i = (lw + 5)) g0 K g3487 H locs := ⟨hW1, hs1, hW.2.2.tr hf1 (fun i k h => (Or.inl (by omega)))⟩
      refine q_istore_n (lv9 := [(3, .int r3483), (2, .int r3463), (0, .ref (ad 79)), (1, .int op)]) hM dX4_factor_73 hl (by decide) rfl (fun ls hl => ?_)
      refine q_aload_n hM dX4_factor_74 (lv_at hl 2 rfl) ?_
      refine w_get (v := .ref (ad lw)) hM hW FG_X4_15 lb_79 ((hW.2.2.1 79 4 (by omega)).trans h_r4) dX4_factor_75 ?_
      refine q_iconst (v := (1 : Int32)) hM dX4_factor_78 (by decide) ?_
      refine q_iload_n hM dX4_factor_79 (lv_at hl 0 rfl) ?_
      refine q_callV (As := [.int (1 : Int32), .int r3483]) (rest := []) hM hW.1 hR hC myX3_add (kAW (v_2_7 (List.mem_of_getElem? (i := 13) rfl)) rfl) (rfl : vwCl[3]? = some (RX3, TX3, 8)) rfl (lo_Lw hlw).1 (shO hW.2.1 (lo_Lw hlw)) (a_X3_add _ _ cA ad g3487 lw (1 : Int32) r3483 hW.2.1 hG hlw (by have := kc_1; omega) (by have := kc_1; omega)) ⟨by decide, by decide⟩ rfl rfl hl.1 (Nat.le_of_ble_eq_true rfl) dX4_factor_80 (fun v g3488 H locs hp hW1 => ?_)
      obtain ⟨rfl, hs1, hG, hf1⟩ := hp
      have f3489 : fld g3488 79 2 = .int v3482 := (hf1.1 79 2 (by omega)).trans q3484
      have hW : WS ad cA (fun i k => (i = 79 ∧ (k = 2 ∨ k = 3)) ∨ (i = lw ∧ (k = 7)) ∨ i = (lw + 4) ∨ i = (lw + 5)) g0 K g3488 H locs := ⟨hW1, hs1, hW.2.2.tr hf1 (fun i k h => h.elim (fun h => (Or.inr (Or.inl h))) (fun h => h.elim (fun h => (Or.inr (Or.inr (Or.inl h)))) (fun h => (Or.inr (Or.inr (Or.inr h))))))⟩
      refine q_iload_n hM dX4_factor_83 (lv_at hl 0 rfl) ?_
      refine q_iconst (v := ((-1) : Int32)) hM dX4_factor_84 (by decide) ?_
      refine q_icmp_ne (tgt := 96) hM dX4_factor_85 (by decide) (rfl : r3483.toInt = r3483.toInt) (kc_m1 : ((-1) : Int32).toInt = (-1)) (fun h85 => ?_) (fun h85 => ?_)
      · refine q_iconst (v := (1 : Int32)) hM dX4_factor_96 (by decide) ?_
        refine q_goto (tgt := 101) hM dX4_factor_97 (by decide) ?_
        exact hE _ _ _ _ _ _ hW.1 nz_1 ⟨v3482, _, rfl, hW.2.1, hG, hW.2.2, f3489, (by have := kc_1; omega), (by have := kc_1; omega), (by have := kc_1; omega)⟩ dX4_factor_101
      · refine q_aload_n hM dX4_factor_88 (lv_at hl 2 rfl) ?_
        refine q_iconst (v := (2 : Int32)) hM dX4_factor_89 (by decide) ?_
        refine q_callV (As := [.int (2 : Int32)]) (rest := []) hM hW.1 hR hC myX4_wrong (kAW (v_2_6 (List.mem_of_getElem? (i := 8) rfl)) rfl) (rfl : vwCl[4]? = some (RX4, TX4, 5)) rfl lb_79.1 (shO hW.2.1 lb_79) (a_X4_wrong _ _ cA ad g3488 (2 : Int32) hW.2.1 hG) ⟨by decide, by decide⟩ rfl rfl hl.1 (Nat.le_of_ble_eq_true rfl) dX4_factor_90 (fun v g3493 H locs hp hW1 => ?_)
        obtain ⟨r3492, rfl, hs1, hG, hf1, hr3492⟩ := hp
        have f3494 : fld g3493 79 2 = .int v3482 := (hf1.1 79 2 (by omega)).trans f3489
        have hW : WS ad cA (fun i k => (i = 79 ∧ (k = 2 ∨ k = 3)) ∨ (i = lw ∧ (k = 7)) ∨ i = (lw + 4) ∨ i = (lw + 5)) g0 K g3493 H locs := ⟨hW1, hs1, hW.2.2.tr hf1 (fun i k h => (Or.inl (by omega)))⟩
        refine q_if_eq (tgt := 100) hM dX4_factor_93 (by decide) (rfl : r3492.toInt = r3492.toInt) (fun h93 => ?_) (fun h93 => ?_)
        · refine q_iconst (v := (0 : Int32)) hM dX4_factor_100 (by decide) ?_
          exact hE _ _ _ _ _ _ hW.1 nz_0 ⟨v3482, _, rfl, hW.2.1, hG, hW.2.2, f3494, (by have := kc_0; omega), (by have := kc_0; omega), (by have := kc_0; omega)⟩ dX4_factor_101
        · refine q_iconst (v := (1 : Int32)) hM dX4_factor_96 (by decide) ?_
          refine q_goto (tgt := 101) hM dX4_factor_97 (by decide) ?_
          exact hE _ _ _ _ _ _ hW.1 nz_1 ⟨v3482, _, rfl, hW.2.1, hG, hW.2.2, f3494, (by have := kc_1; omega), (by have := kc_1; omega), (by have := kc_1; omega)⟩ dX4_factor_101
  · refine q_iload_n hM dX4_factor_11 (lv_at hl 2 rfl) ?_
    refine q_bipush (v := (6 : Int32)) hM dX4_factor_12 (by decide) ?_
    refine q_icmp_lt (tgt := 23) hM dX4_factor_14 (by decide) (rfl : op.toInt = op.toInt) (kc_6 : (6 : Int32).toInt = 6) (fun h14 => ?_) (fun h14 => ?_)
    · refine q_aload_n hM dX4_factor_23 (lv_at hl 1 rfl) ?_
      refine q_dup hM dX4_factor_24 rfl ?_
      refine w_get (v := .int a0) hM hW FG_X4_23 lb_79 f3462 dX4_factor_25 ?_
      have ba0 := hG.f f3462 rF_79_2 (by decide)
      refine q_iconst (v := (1 : Int32)) hM dX4_factor_28 (by decide) ?_
      refine q_iadd hM dX4_factor_29 (fun z3499 hz3499 => ?_)
      first | have tz3499 := i_addT hz3499 (rfl : a0.toInt = a0.toInt) (kc_1 : (1 : Int32).toInt = 1) (by omega) (by omega) | skip
      refine w_put hM hW FP_X4_23 lb_79 (by omega) (Or.inl ⟨_, rfl⟩) rfl rfl dX4_factor_30 (fun g3500 H locs hW e1 e2 => ?_)
      have f3501 : fld g3500 79 2 = .int z3499 := e1
      have hG := hG.put e1 e2 rF_79_2 (by decide) (by have := i_rng z3499; omega) (by have := i_rng z3499; omega)
      refine q_aload_n hM dX4_factor_33 (lv_at hl 1 rfl) ?_
      refine q_iload_n hM dX4_factor_34 (lv_at hl 2 rfl) ?_
      refine q_iconst (v := (1 : Int32)) hM dX4_factor_35 (by decide) ?_
      refine q_iadd hM dX4_factor_36 (fun z3502 hz3502 => ?_)
      first | have tz3502 := i_addT hz3502 (rfl : op.toInt = op.toInt) (kc_1 : (1 : Int32).toInt = 1) (by omega) (by omega) | skip
      refine q_callV (As := [.int z3502]) (rest := []) hM hW.1 hR hC myX4_expression (kAW (v_2_6 (List.mem_of_getElem? (i := 12) rfl)) rfl) (rfl : vwCl[4]? = some (RX4, TX4, 5)) rfl lb_79.1 (shO hW.2.1 lb_79) (a_X4_expression_4 _ _ cA ad g3500 z3502 en z3499 lw hW.2.1 hG hlw ((hW.2.2.1 79 1 (by omega)).trans h_en) f3501 ((hW.2.2.1 79 4 (by omega)).trans h_r4) (by  omega) (by  omega) (by  omega) (by  omega)) ⟨by decide, by decide⟩ rfl rfl hl.1 (Nat.le_of_ble_eq_true rfl) dX4_factor_37 (fun v g3508 H locs hp hW1 => ?_)
      obtain ⟨v3503, r3504, rfl, hs1, hG, hf1, q3505, e3506, e3507, hr3504⟩ := hp
      have hW : WS ad cA (fun i k => (i = 79 ∧ (k = 2 ∨ k = 3)) ∨ (i = lw ∧ (k = 7)) ∨ i = (lw + 4) ∨ i = (lw + 5)) g0 K g3508 H locs := ⟨hW1, hs1, hW.2.2.tr hf1 (fun i k h => h.elim (fun h => (Or.inl h)) (fun h => h.elim (fun h => (Or.inr (Or.inl h))) (fun h => h.elim (fun h => (Or.inr (Or.inr (Or.inl h)))) (fun h => (Or.inr (Or.inr (Or.inr h)))))))⟩
      refine q_if_eq (tgt := 56) hM dX4_factor_40 (by decide) (rfl : r3504.toInt = r3504.toInt) (fun h40 => ?_) (fun h40 => ?_)
      · refine q_iconst (v := (0 : Int32)) hM dX4_factor_56 (by decide) ?_
        exact hE _ _ _ _ _ _ hW.1 nz_0 ⟨v3503, _, rfl, hW.2.1, hG, hW.2.2, q3505, (by have := kc_0; omega), (by have := kc_0; omega), (by have := kc_0; omega)⟩ dX4_factor_57
      · refine q_aload_n hM dX4_factor_43 (lv_at hl 1 rfl) ?_
        refine q_bipush (v := (93 : Int32)) hM dX4_factor_44 (by decide) ?_
        refine q_callV (As := [.int (93 : Int32)]) (rest := []) hM hW.1 hR hC myX4_passes (kAW (v_2_7 (List.mem_of_getElem? (i := 4) rfl)) rfl) (rfl : vwCl[4]? = some (RX4, TX4, 5)) rfl lb_79.1 (shO hW.2.1 lb_79) (a_X4_passes _ _ cA ad g3508 (93 : Int32) en v3503 hW.2.1 hG ((hW.2.2.1 79 1 (by omega)).trans h_en) q3505 (by have := kc_93; omega) (by have := kc_93; omega) (by have := kc_93; omega)) ⟨by decide, by decide⟩ rfl rfl hl.1 (Nat.le_of_ble_eq_true rfl) dX4_factor_46 (fun v g3516 H locs hp hW1 => ?_)
        obtain ⟨v3511, r3512, rfl, hs1, hG, hf1, q3513, e3514, e3515, hr3512⟩ := hp
        have hW : WS ad cA (fun i k => (i = 79 ∧ (k = 2 ∨ k = 3)) ∨ (i = lw ∧ (k = 7)) ∨ i = (lw + 4) ∨ i = (lw + 5)) g0 K g3516 H locs := ⟨hW1, hs1, hW.2.2.tr hf1 (fun i k h => (Or.inl h))⟩
        refine q_if_eq (tgt := 56) hM dX4_factor_49 (by decide) (rfl : r3512.toInt = r3512.toInt) (fun h49 => ?_) (fun h49 => ?_)
        · refine q_iconst (v := (0 : Int32)) hM dX4_factor_56 (by decide) ?_
          exact hE _ _ _ _ _ _ hW.1 nz_0 ⟨v3511, _, rfl, hW.2.1, hG, hW.2.2, q3513, (by have := kc_0; omega), (by have := kc_0; omega), (by have := kc_0; omega)⟩ dX4_factor_57
        · refine q_iconst (v := (1 : Int32)) hM dX4_factor_52 (by decide) ?_
          refine q_goto (tgt := 57) hM dX4_factor_53 (by decide) ?_
          exact hE _ _ _ _ _ _ hW.1 nz_1 ⟨v3511, _, rfl, hW.2.1, hG, hW.2.2, q3513, (by have := kc_1; omega), (by have := kc_1; omega), (by have := kc_1; omega)⟩ dX4_factor_57
    · omega


set_option maxRecDepth 100000 in
set_option maxHeartbeats 4000000 in
theorem a_X4_expression_3 (l : Launch) (D : va_G) (cA : Nat → ClassId) (ad : Nat → Nat) (g0 : Nat → va_E) (op : Int32) (en : Int32) (a0 : Int32) (lw : Nat) (hSh : Shp ad cA g0) (hG : Rng g0) (hlw : isLw lw) (h_en : fld g0 79 1 = .int en) (h_a0 : fld g0 79 2 = .int a0) (h_r4 : fld g0 79 4 = .ref (ad lw)) (ah0 : 0 ≤ a0.toInt) (ah1 : a0.toInt ≤ en.toInt) (ah2 : en.toInt ≤ 240) (ok : op.toInt = 3) : CT l NN ad cA D yX4_expression cX4_expression 5 (some FieldType.boolean) (12, 276) [.ref (ad 79), .int op] g0 (fun v g' => ∃ (a9 : Int32) (r : Int32), v = some (.int r) ∧ Shp ad cA g' ∧ Rng g' ∧ FR (fun i k => (i = 79 ∧ (k = 2 ∨ k = 3)) ∨ (i = lw ∧ (k = 7)) ∨ i = (lw + 4) ∨ i = (lw + 5)) g0 g' ∧ fld g' 79 2 = .int a9 ∧ (a0.toInt ≤ a9.toInt) ∧ (a9.toInt ≤ en.toInt) ∧ (r.toInt = 0 ∨ r.toInt = 1)) := by
  refine q_enterZ (by decide) (Nat.le_of_ble_eq_true rfl) (fun K H locs ls _ _ hM hW0 hR hC hE hl => ?_)
  have hl : lv_has ls 5 [(0, .ref (ad 79)), (1, .int op)] := hl
  have hW : WS ad cA (fun i k => (i = 79 ∧ (k = 2 ∨ k = 3)) ∨ (i = lw ∧ (k = 7)) ∨ i = (lw + 4) ∨ i = (lw + 5)) g0 K g0 H locs := ⟨hW0, hSh, FR.rf⟩
  have ulw := hlw
  unfold isLw at ulw
  have b_en := hG.f h_en rF_79_1 (by decide)
  have b_a0 := hG.f h_a0 rF_79_2 (by decide)
  have f3520 : fld g0 79 2 = .int a0 := h_a0
  refine q_iconst (v := ((-1) : Int32)) hM dX4_expression_0 (by decide) ?_
  refine q_istore_n (lv9 := [(2, .int ((-1) : Int32)), (0, .ref (ad 79)), (1, .int op)]) hM dX4_expression_1 hl (by decide) rfl (fun ls hl => ?_)
  refine q_iconst (v := ((-1) : Int32)) hM dX4_expression_2 (by decide) ?_
  refine q_istore_n (lv9 := [(3, .int ((-1) : Int32)), (2, .int ((-1) : Int32)), (0, .ref (ad 79)), (1, .int op)]) hM dX4_expression_3 hl (by decide) rfl (fun ls hl => ?_)
  have L4 : ∀ (fu4 : Nat) (w4_3 : Int32) (w4_2 : Int32) (aa : Int32) (g9 : Nat → va_E) (H : Heap) (locs : List Loc) (ls : Array Slot), (en.toInt - aa.toInt + 1).toNat < fu4 → (Rng g9) → (a0.toInt ≤ aa.toInt) → (aa.toInt ≤ en.toInt) → (fld g9 79 2 = .int aa) → lv_has ls 5 [(0, .ref (ad 79)), (1, .int op), (2, .int w4_2), (3, .int w4_3)] → WS ad cA (fun i k => (i = 79 ∧ (k = 2 ∨ k = 3)) ∨ (i = lw ∧ (k = 7)) ∨ i = (lw + 4) ∨ i = (lw + 5)) g0 K g9 H locs → XX K 0 0 H locs 4 ls [] := by
    intro fu4
    induction fu4 with
    | zero => intro w4_3 w4_2 aa g9 H locs ls h0; omega
    | succ fu4 ih4 =>
      intro w4_3 w4_2 aa g9 H locs ls hm4 i4_0 i4_1 i4_2 c4_79_2 hl hW
      have hG := i4_0
      refine q_aload_n hM dX4_expression_4 (lv_at hl 0 rfl) ?_
      refine w_get (v := .int aa) hM hW FG_X4_23 lb_79 c4_79_2 dX4_expression_5 ?_
      have baa := hG.f c4_79_2 rF_79_2 (by decide)
      refine q_aload_n hM dX4_expression_8 (lv_at hl 0 rfl) ?_
      refine w_get (v := .int en) hM hW FG_X4_19 lb_79 ((hW.2.2.1 79 1 (by omega)).trans h_en) dX4_expression_9 ?_
      refine q_icmp_gt (tgt := 133) hM dX4_expression_12 (by decide) (rfl : aa.toInt = aa.toInt) (rfl : en.toInt = en.toInt) (fun h12 => ?_) (fun h12 => ?_)
      · refine q_aload_n hM dX4_expression_133 (lv_at hl 0 rfl) ?_
        refine q_iconst (v := (1 : Int32)) hM dX4_expression_134 (by decide) ?_
        refine q_callV (As := [.int (1 : Int32)]) (rest := []) hM hW.1 hR hC myX4_wrong (kAW (v_2_6 (List.mem_of_getElem? (i := 8) rfl)) rfl) (rfl : vwCl[4]? = some (RX4, TX4, 5)) rfl lb_79.1 (shO hW.2.1 lb_79) (a_X4_wrong _ _ cA ad g9 (1 : Int32) hW.2.1 hG) ⟨by decide, by decide⟩ rfl rfl hl.1 (Nat.le_of_ble_eq_true rfl) dX4_expression_135 (fun v g3524 H locs hp hW1 => ?_)
        obtain ⟨r3523, rfl, hs1, hG, hf1, hr3523⟩ := hp
        have f3525 : fld g3524 79 2 = .int aa := (hf1.1 79 2 (by omega)).trans c4_79_2
        have hW : WS ad cA (fun i k => (i = 79 ∧ (k = 2 ∨ k = 3)) ∨ (i = lw ∧ (k = 7)) ∨ i = (lw + 4) ∨ i = (lw + 5)) g0 K g3524 H locs := ⟨hW1, hs1, hW.2.2.tr hf1 (fun i k h => (Or.inl (by omega)))⟩
        exact hE _ _ _ _ _ _ hW.1 (nz_or (by omega)) ⟨aa, _, rfl, hW.2.1, hG, hW.2.2, f3525, (by omega), (by omega), (by omega)⟩ dX4_expression_138
      · refine q_aload_n hM dX4_expression_15 (lv_at hl 0 rfl) ?_
        refine q_iload_n hM dX4_expression_16 (lv_at hl 1 rfl) ?_
        refine q_callV (As := [.int op]) (rest := []) hM hW.1 hR hC myX4_factor (kAW (v_2_7 (List.mem_of_getElem? (i := 0) rfl)) rfl) (rfl : vwCl[4]? = some (RX4, TX4, 5)) rfl lb_79.1 (shO hW.2.1 lb_79) (a_X4_factor_3 _ _ cA ad g9 op en aa lw hW.2.1 hG hlw ((hW.2.2.1 79 1 (by omega)).trans h_en) c4_79_2 ((hW.2.2.1 79 4 (by omega)).trans h_r4) (by  omega) (by  omega) (by  omega) (by  omega)) ⟨by decide, by decide⟩ rfl rfl hl.1 (Nat.le_of_ble_eq_true rfl) dX4_expression_17 (fun v g3532 H locs hp hW1 => ?_)
        obtain ⟨v3527, r3528, rfl, hs1, hG, hf1, q3529, e3530, e3531, hr3528⟩ := hp
        have hW : WS ad cA (fun i k => (i = 79 ∧ (k = 2 ∨ k = 3)) ∨ (i = lw ∧ (k = 7)) ∨ i = (lw + 4) ∨ i = (lw + 5)) g0 K g3532 H locs := ⟨hW1, hs1, hW.2.2.tr hf1 (fun i k h => h.elim (fun h => (Or.inl h)) (fun h => h.elim (fun h => (Or.inr (Or.inl h))) (fun h => h.elim (fun h => (Or.inr (Or.inr (Or.inl h)))) (fun h => (Or.inr (Or.inr (Or.inr h)))))))⟩
        refine q_if_ne (tgt := 25) hM dX4_expression_20 (by decide) (rfl : r3528.toInt = r3528.toInt) (fun h20 => ?_) (fun h20 => ?_)
        · have L39 : ∀ (g9 : Nat → va_E) (H : Heap) (locs : List Loc) (ls : Array Slot), (Rng g9) → (fld g9 79 2 = .int v3527) → lv_has ls 5 [(0, .ref (ad 79)), (1, .int op), (2, .int w4_2), (3, .int w4_3)] → WS ad cA (fun i k => (i = 79 ∧ (k = 2 ∨ k = 3)) ∨ (i = lw ∧ (k = 7)) ∨ i = (lw + 4) ∨ i = (lw + 5)) g0 K g9 H locs → XX K 0 0 H locs 39 ls [] := by
            intro g9 H locs ls i39_0 c39_79_2 hl hW
            have hG := i39_0
            refine q_aload_n hM dX4_expression_39 (lv_at hl 0 rfl) ?_
            refine q_callV (As := []) (rest := []) hM hW.1 hR hC myX4_sign (kAW (v_2_0 (List.mem_of_getElem? (i := 12) rfl)) rfl) (rfl : vwCl[4]? = some (RX4, TX4, 5)) rfl lb_79.1 (shO hW.2.1 lb_79) (a_X4_sign _ _ cA ad g9 en v3527 hW.2.1 hG ((hW.2.2.1 79 1 (by omega)).trans h_en) c39_79_2 (by  omega) (by  omega) (by  omega)) ⟨by decide, by decide⟩ rfl rfl hl.1 (Nat.le_of_ble_eq_true rfl) dX4_expression_40 (fun v g3536 H locs hp hW1 => ?_)
            obtain ⟨r3535, rfl, hr3535, rfl⟩ := hp
            have hW : WS ad cA (fun i k => (i = 79 ∧ (k = 2 ∨ k = 3)) ∨ (i = lw ∧ (k = 7)) ∨ i = (lw + 4) ∨ i = (lw + 5)) g0 K g9 H locs := ⟨hW1, hW.2.1, hW.2.2⟩
            refine q_istore (lv9 := [(4, .int r3535), (0, .ref (ad 79)), (1, .int op), (2, .int w4_2), (3, .int w4_3)]) hM dX4_expression_43 hl (by decide) rfl (fun ls hl => ?_)
            have L73 : ∀ (p73 : Int32) (g9 : Nat → va_E) (H : Heap) (locs : List Loc) (ls : Array Slot), (Rng g9) → (p73.toInt = -1 ∨ 0 ≤ r3535.toInt) → (fld g9 79 2 = .int v3527) → lv_has ls 5 [(0, .ref (ad 79)), (1, .int op), (2, .int w4_2), (3, .int p73), (4, .int r3535)] → WS ad cA (fun i k => (i = 79 ∧ (k = 2 ∨ k = 3)) ∨ (i = lw ∧ (k = 7)) ∨ i = (lw + 4) ∨ i = (lw + 5)) g0 K g9 H locs → XX K 0 0 H locs 73 ls [] := by
              intro p73 g9 H locs ls i73_0 i73_1 c73_79_2 hl hW
              have hG := i73_0
              refine q_iload_n hM dX4_expression_73 (lv_at hl 3 rfl) ?_
              refine q_iconst (v := ((-1) : Int32)) hM dX4_expression_74 (by decide) ?_
              refine q_icmp_ne (tgt := 120) hM dX4_expression_75 (by decide) (rfl : p73.toInt = p73.toInt) (kc_m1 : ((-1) : Int32).toInt = (-1)) (fun h75 => ?_) (fun h75 => ?_)
              · refine q_aload_n hM dX4_expression_120 (lv_at hl 0 rfl) ?_
                refine q_dup hM dX4_expression_121 rfl ?_
                refine w_get (v := .int v3527) hM hW FG_X4_23 lb_79 c73_79_2 dX4_expression_122 ?_
                have bv3527 := hG.f c73_79_2 rF_79_2 (by decide)
                refine q_iconst (v := (1 : Int32)) hM dX4_expression_125 (by decide) ?_
                refine q_iadd hM dX4_expression_126 (fun z3539 hz3539 => ?_)
                first | have tz3539 := i_addT hz3539 (rfl : v3527.toInt = v3527.toInt) (kc_1 : (1 : Int32).toInt = 1) (by omega) (by omega) | skip
                refine w_put hM hW FP_X4_23 lb_79 (by omega) (Or.inl ⟨_, rfl⟩) rfl rfl dX4_expression_127 (fun g3540 H locs hW e1 e2 => ?_)
                have f3541 : fld g3540 79 2 = .int z3539 := e1
                have hG := hG.put e1 e2 rF_79_2 (by decide) (by have := i_rng z3539; omega) (by have := i_rng z3539; omega)
                refine q_goto (tgt := 4) hM dX4_expression_130 (by decide) ?_
                exact ih4 p73 w4_2 z3539 _ _ _ _ (by omega) hG (by omega) (by omega) f3541 (lv_sub hl [0, 1, 2, 3] rfl) hW
              · have L92 : ∀ (g9 : Nat → va_E) (H : Heap) (locs : List Loc) (ls : Array Slot), (Rng g9) → (fld g9 79 2 = .int v3527) → lv_has ls 5 [(0, .ref (ad 79)), (1, .int op), (2, .int w4_2), (3, .int p73), (4, .int r3535)] → WS ad cA (fun i k => (i = 79 ∧ (k = 2 ∨ k = 3)) ∨ (i = lw ∧ (k = 7)) ∨ i = (lw + 4) ∨ i = (lw + 5)) g0 K g9 H locs → XX K 0 0 H locs 92 ls [] := by
                  intro g9 H locs ls i92_0 c92_79_2 hl hW
                  have hG := i92_0
                  refine q_iload hM dX4_expression_92 (lv_at hl 4 rfl) ?_
                  refine q_bipush (v := (43 : Int32)) hM dX4_expression_94 (by decide) ?_
                  refine q_icmp_eq (tgt := 106) hM dX4_expression_96 (by decide) (rfl : r3535.toInt = r3535.toInt) (kc_43 : (43 : Int32).toInt = 43) (fun h96 => ?_) (fun h96 => ?_)
                  · refine q_iload hM dX4_expression_106 (lv_at hl 4 rfl) ?_
                    refine q_goto (tgt := 112) hM dX4_expression_108 (by decide) ?_
                    refine q_istore_n (lv9 := [(2, .int r3535), (0, .ref (ad 79)), (1, .int op), (3, .int p73), (4, .int r3535)]) hM dX4_expression_112 hl (by decide) rfl (fun ls hl => ?_)
                    refine q_iload_n hM dX4_expression_113 (lv_at hl 0 rfl) ?_
                    refine q_iconst (v := ((-1) : Int32)) hM dX4_expression_114 (by decide) ?_
                    refine q_icmp_ne (tgt := 120) hM dX4_expression_115 (by decide) (rfl : r3535.toInt = r3535.toInt) (kc_m1 : ((-1) : Int32).toInt = (-1)) (fun h115 => ?_) (fun h115 => ?_)
                    · refine q_aload_n hM dX4_expression_120 (lv_at hl 1 rfl) ?_
                      refine q_dup hM dX4_expression_121 rfl ?_
                      refine w_get (v := .int v3527) hM hW FG_X4_23 lb_79 c92_79_2 dX4_expression_122 ?_
                      have bv3527 := hG.f c92_79_2 rF_79_2 (by decide)
                      refine q_iconst (v := (1 : Int32)) hM dX4_expression_125 (by decide) ?_
                      refine q_iadd hM dX4_expression_126 (fun z3546 hz3546 => ?_)
                      first | have tz3546 := i_addT hz3546 (rfl : v3527.toInt = v3527.toInt) (kc_1 : (1 : Int32).toInt = 1) (by omega) (by omega) | skip
                      refine w_put hM hW FP_X4_23 lb_79 (by omega) (Or.inl ⟨_, rfl⟩) rfl rfl dX4_expression_127 (fun g3547 H locs hW e1 e2 => ?_)
                      have f3548 : fld g3547 79 2 = .int z3546 := e1
                      have hG := hG.put e1 e2 rF_79_2 (by decide) (by have := i_rng z3546; omega) (by have := i_rng z3546; omega)
                      refine q_goto (tgt := 4) hM dX4_expression_130 (by decide) ?_
                      exact ih4 p73 r3535 z3546 _ _ _ _ (by omega) hG (by omega) (by omega) f3548 (lv_sub hl [1, 2, 0, 3] rfl) hW
                    · refine q_iconst (v := (1 : Int32)) hM dX4_expression_118 (by decide) ?_
                      exact hE _ _ _ _ _ _ hW.1 nz_1 ⟨v3527, _, rfl, hW.2.1, hG, hW.2.2, c92_79_2, (by have := kc_1; omega), (by have := kc_1; omega), (by have := kc_1; omega)⟩ dX4_expression_119
                  · refine q_iload hM dX4_expression_99 (lv_at hl 4 rfl) ?_
                    refine q_bipush (v := (45 : Int32)) hM dX4_expression_101 (by decide) ?_
                    refine q_icmp_ne (tgt := 111) hM dX4_expression_103 (by decide) (rfl : r3535.toInt = r3535.toInt) (kc_45 : (45 : Int32).toInt = 45) (fun h103 => ?_) (fun h103 => ?_)
                    · refine q_iconst (v := ((-1) : Int32)) hM dX4_expression_111 (by decide) ?_
                      refine q_istore_n (lv9 := [(2, .int ((-1) : Int32)), (0, .ref (ad 79)), (1, .int op), (3, .int p73), (4, .int r3535)]) hM dX4_expression_112 hl (by decide) rfl (fun ls hl => ?_)
                      refine q_iload_n hM dX4_expression_113 (lv_at hl 0 rfl) ?_
                      refine q_iconst (v := ((-1) : Int32)) hM dX4_expression_114 (by decide) ?_
                      refine q_icmp_ne (tgt := 120) hM dX4_expression_115 (by decide) (kc_m1 : ((-1) : Int32).toInt = (-1)) (kc_m1 : ((-1) : Int32).toInt = (-1)) (fun h115 => ?_) (fun h115 => ?_)
                      · omega
                      · refine q_iconst (v := (1 : Int32)) hM dX4_expression_118 (by decide) ?_
                        exact hE _ _ _ _ _ _ hW.1 nz_1 ⟨v3527, _, rfl, hW.2.1, hG, hW.2.2, c92_79_2, (by have := kc_1; omega), (by have := kc_1; omega), (by have := kc_1; omega)⟩ dX4_expression_119
                    · refine q_iload hM dX4_expression_106 (lv_at hl 4 rfl) ?_
                      refine q_goto (tgt := 112) hM dX4_expression_108 (by decide) ?_
                      refine q_istore_n (lv9 := [(2, .int r3535), (0, .ref (ad 79)), (1, .int op), (3, .int p73), (4, .int r3535)]) hM dX4_expression_112 hl (by decide) rfl (fun ls hl => ?_)
                      refine q_iload_n hM dX4_expression_113 (lv_at hl 0 rfl) ?_
                      refine q_iconst (v := ((-1) : Int32)) hM dX4_expression_114 (by decide) ?_
                      refine q_icmp_ne (tgt := 120) hM dX4_expression_115 (by decide) (rfl : r3535.toInt = r3535.toInt) (kc_m1 : ((-1) : Int32).toInt = (-1)) (fun h115 => ?_) (fun h115 => ?_)
                      · refine q_aload_n hM dX4_expression_120 (lv_at hl 1 rfl) ?_
                        refine q_dup hM dX4_expression_121 rfl ?_
                        refine w_get (v := .int v3527) hM hW FG_X4_23 lb_79 c92_79_2 dX4_expression_122 ?_
                        have bv3527 := hG.f c92_79_2 rF_79_2 (by decide)
                        refine q_iconst (v := (1 : Int32)) hM dX4_expression_125 (by decide) ?_
                        refine q_iadd hM dX4_expression_126 (fun z3556 hz3556 => ?_)
                        first | have tz3556 := i_addT hz3556 (rfl : v3527.toInt = v3527.toInt) (kc_1 : (1 : Int32).toInt = 1) (by omega) (by omega) | skip
                        refine w_put hM hW FP_X4_23 lb_79 (by omega) (Or.inl ⟨_, rfl⟩) rfl rfl dX4_expression_127 (fun g3557 H locs hW e1 e2 => ?_)
                        have f3558 : fld g3557 79 2 = .int z3556 := e1
                        have hG := hG.put e1 e2 rF_79_2 (by decide) (by have := i_rng z3556; omega) (by have := i_rng z3556; omega)
                        refine q_goto (tgt := 4) hM dX4_expression_130 (by decide) ?_
                        exact ih4 p73 r3535 z3556 _ _ _ _ (by omega) hG (by omega) (by omega) f3558 (lv_sub hl [1, 2, 0, 3] rfl) hW
                      · refine q_iconst (v := (1 : Int32)) hM dX4_expression_118 (by decide) ?_
                        exact hE _ _ _ _ _ _ hW.1 nz_1 ⟨v3527, _, rfl, hW.2.1, hG, hW.2.2, c92_79_2, (by have := kc_1; omega), (by have := kc_1; omega), (by have := kc_1; omega)⟩ dX4_expression_119
                refine q_iload_n hM dX4_expression_78 (lv_at hl 2 rfl) ?_
                refine q_iconst (v := ((-1) : Int32)) hM dX4_expression_79 (by decide) ?_
                refine q_icmp_eq (tgt := 92) hM dX4_expression_80 (by decide) (rfl : w4_2.toInt = w4_2.toInt) (kc_m1 : ((-1) : Int32).toInt = (-1)) (fun h80 => ?_) (fun h80 => ?_)
                · exact L92  _ _ _ _ hG c73_79_2 (lv_sub hl [0, 1, 2, 3, 4] rfl) hW
                · refine q_aload_n hM dX4_expression_83 (lv_at hl 0 rfl) ?_
                  refine w_get (v := .ref (ad lw)) hM hW FG_X4_15 lb_79 ((hW.2.2.1 79 4 (by omega)).trans h_r4) dX4_expression_84 ?_
                  refine q_iload_n hM dX4_expression_87 (lv_at hl 2 rfl) ?_
                  refine q_iconst (v := (0 : Int32)) hM dX4_expression_88 (by decide) ?_
                  refine q_callV (As := [.int w4_2, .int (0 : Int32)]) (rest := []) hM hW.1 hR hC myX3_add (kAW (v_2_7 (List.mem_of_getElem? (i := 13) rfl)) rfl) (rfl : vwCl[3]? = some (RX3, TX3, 8)) rfl (lo_Lw hlw).1 (shO hW.2.1 (lo_Lw hlw)) (a_X3_add _ _ cA ad g9 lw w4_2 (0 : Int32) hW.2.1 hG hlw (by have := kc_0; omega) (by have := kc_0; omega)) ⟨by decide, by decide⟩ rfl rfl hl.1 (Nat.le_of_ble_eq_true rfl) dX4_expression_89 (fun v g3562 H locs hp hW1 => ?_)
                  obtain ⟨rfl, hs1, hG, hf1⟩ := hp
                  have f3563 : fld g3562 79 2 = .int v3527 := (hf1.1 79 2 (by omega)).trans c73_79_2
                  have hW : WS ad cA (fun i k => (i = 79 ∧ (k = 2 ∨ k = 3)) ∨ (i = lw ∧ (k = 7)) ∨ i = (lw + 4) ∨ i = (lw + 5)) g0 K g3562 H locs := ⟨hW1, hs1, hW.2.2.tr hf1 (fun i k h => h.elim (fun h => (Or.inr (Or.inl h))) (fun h => h.elim (fun h => (Or.inr (Or.inr (Or.inl h)))) (fun h => (Or.inr (Or.inr (Or.inr h))))))⟩
                  exact L92  _ _ _ _ hG f3563 (lv_sub hl [0, 1, 2, 3, 4] rfl) hW
            refine q_iload hM dX4_expression_45 (lv_at hl 0 rfl) ?_
            refine q_bipush (v := (42 : Int32)) hM dX4_expression_47 (by decide) ?_
            refine q_icmp_eq (tgt := 66) hM dX4_expression_49 (by decide) (rfl : r3535.toInt = r3535.toInt) (kc_42 : (42 : Int32).toInt = 42) (fun h49 => ?_) (fun h49 => ?_)
            · refine q_iload hM dX4_expression_66 (lv_at hl 0 rfl) ?_
              refine q_goto (tgt := 72) hM dX4_expression_68 (by decide) ?_
              refine q_istore_n (lv9 := [(3, .int r3535), (4, .int r3535), (0, .ref (ad 79)), (1, .int op), (2, .int w4_2)]) hM dX4_expression_72 hl (by decide) rfl (fun ls hl => ?_)
              exact L73 r3535 _ _ _ _ hG (by omega) c39_79_2 (lv_sub hl [2, 3, 4, 0, 1] rfl) hW
            · refine q_iload hM dX4_expression_52 (lv_at hl 0 rfl) ?_
              refine q_bipush (v := (47 : Int32)) hM dX4_expression_54 (by decide) ?_
              refine q_icmp_eq (tgt := 66) hM dX4_expression_56 (by decide) (rfl : r3535.toInt = r3535.toInt) (kc_47 : (47 : Int32).toInt = 47) (fun h56 => ?_) (fun h56 => ?_)
              · refine q_iload hM dX4_expression_66 (lv_at hl 0 rfl) ?_
                refine q_goto (tgt := 72) hM dX4_expression_68 (by decide) ?_
                refine q_istore_n (lv9 := [(3, .int r3535), (4, .int r3535), (0, .ref (ad 79)), (1, .int op), (2, .int w4_2)]) hM dX4_expression_72 hl (by decide) rfl (fun ls hl => ?_)
                exact L73 r3535 _ _ _ _ hG (by omega) c39_79_2 (lv_sub hl [2, 3, 4, 0, 1] rfl) hW
              · refine q_iload hM dX4_expression_59 (lv_at hl 0 rfl) ?_
                refine q_bipush (v := (37 : Int32)) hM dX4_expression_61 (by decide) ?_
                refine q_icmp_ne (tgt := 71) hM dX4_expression_63 (by decide) (rfl : r3535.toInt = r3535.toInt) (kc_37 : (37 : Int32).toInt = 37) (fun h63 => ?_) (fun h63 => ?_)
                · refine q_iconst (v := ((-1) : Int32)) hM dX4_expression_71 (by decide) ?_
                  refine q_istore_n (lv9 := [(3, .int ((-1) : Int32)), (4, .int r3535), (0, .ref (ad 79)), (1, .int op), (2, .int w4_2)]) hM dX4_expression_72 hl (by decide) rfl (fun ls hl => ?_)
                  have := kc_m1
                  exact L73 ((-1) : Int32) _ _ _ _ hG (by omega) c39_79_2 (lv_sub hl [2, 3, 4, 0, 1] rfl) hW
                · refine q_iload hM dX4_expression_66 (lv_at hl 0 rfl) ?_
                  refine q_goto (tgt := 72) hM dX4_expression_68 (by decide) ?_
                  refine q_istore_n (lv9 := [(3, .int r3535), (4, .int r3535), (0, .ref (ad 79)), (1, .int op), (2, .int w4_2)]) hM dX4_expression_72 hl (by decide) rfl (fun ls hl => ?_)
                  exact L73 r3535 _ _ _ _ hG (by omega) c39_79_2 (lv_sub hl [2, 3, 4, 0, 1] rfl) hW
          refine q_iload_n hM dX4_expression_25 (lv_at hl 3 rfl) ?_
          refine q_iconst (v := ((-1) : Int32)) hM dX4_expression_26 (by decide) ?_
          refine q_icmp_eq (tgt := 39) hM dX4_expression_27 (by decide) (rfl : w4_3.toInt = w4_3.toInt) (kc_m1 : ((-1) : Int32).toInt = (-1)) (fun h27 => ?_) (fun h27 => ?_)
          · exact L39  _ _ _ _ hG q3529 (lv_sub hl [0, 1, 2, 3] rfl) hW
          · refine q_aload_n hM dX4_expression_30 (lv_at hl 0 rfl) ?_
            refine w_get (v := .ref (ad lw)) hM hW FG_X4_15 lb_79 ((hW.2.2.1 79 4 (by omega)).trans h_r4) dX4_expression_31 ?_
            refine q_iload_n hM dX4_expression_34 (lv_at hl 3 rfl) ?_
            refine q_iconst (v := (0 : Int32)) hM dX4_expression_35 (by decide) ?_
            refine q_callV (As := [.int w4_3, .int (0 : Int32)]) (rest := []) hM hW.1 hR hC myX3_add (kAW (v_2_7 (List.mem_of_getElem? (i := 13) rfl)) rfl) (rfl : vwCl[3]? = some (RX3, TX3, 8)) rfl (lo_Lw hlw).1 (shO hW.2.1 (lo_Lw hlw)) (a_X3_add _ _ cA ad g3532 lw w4_3 (0 : Int32) hW.2.1 hG hlw (by have := kc_0; omega) (by have := kc_0; omega)) ⟨by decide, by decide⟩ rfl rfl hl.1 (Nat.le_of_ble_eq_true rfl) dX4_expression_36 (fun v g3572 H locs hp hW1 => ?_)
            obtain ⟨rfl, hs1, hG, hf1⟩ := hp
            have f3573 : fld g3572 79 2 = .int v3527 := (hf1.1 79 2 (by omega)).trans q3529
            have hW : WS ad cA (fun i k => (i = 79 ∧ (k = 2 ∨ k = 3)) ∨ (i = lw ∧ (k = 7)) ∨ i = (lw + 4) ∨ i = (lw + 5)) g0 K g3572 H locs := ⟨hW1, hs1, hW.2.2.tr hf1 (fun i k h => h.elim (fun h => (Or.inr (Or.inl h))) (fun h => h.elim (fun h => (Or.inr (Or.inr (Or.inl h)))) (fun h => (Or.inr (Or.inr (Or.inr h))))))⟩
            exact L39  _ _ _ _ hG f3573 (lv_sub hl [0, 1, 2, 3] rfl) hW
        · refine q_iconst (v := (0 : Int32)) hM dX4_expression_23 (by decide) ?_
          exact hE _ _ _ _ _ _ hW.1 nz_0 ⟨v3527, _, rfl, hW.2.1, hG, hW.2.2, q3529, (by have := kc_0; omega), (by have := kc_0; omega), (by have := kc_0; omega)⟩ dX4_expression_24
  have := kc_m1
  have := kc_m1
  exact L4 _ ((-1) : Int32) ((-1) : Int32) a0 _ _ _ _ (Nat.lt_succ_self _) hG (by omega) (by omega) f3520 (lv_sub hl [2, 3, 1, 0] rfl) hW


set_option maxRecDepth 100000 in
set_option maxHeartbeats 4000000 in
theorem a_X4_test_3 (l : Launch) (D : va_G) (cA : Nat → ClassId) (ad : Nat → Nat) (g0 : Nat → va_E) (op : Int32) (en : Int32) (a0 : Int32) (lw : Nat) (hSh : Shp ad cA g0) (hG : Rng g0) (hlw : isLw lw) (h_en : fld g0 79 1 = .int en) (h_a0 : fld g0 79 2 = .int a0) (h_r4 : fld g0 79 4 = .ref (ad lw)) (ah0 : 0 ≤ a0.toInt) (ah1 : a0.toInt ≤ en.toInt) (ah2 : en.toInt ≤ 240) (ok : op.toInt = 3) : CT l NN ad cA D yX4_test cX4_test 3 (some FieldType.boolean) (13, 300) [.ref (ad 79), .int op] g0 (fun v g' => ∃ (a9 : Int32) (r : Int32), v = some (.int r) ∧ Shp ad cA g' ∧ Rng g' ∧ FR (fun i k => (i = 79 ∧ (k = 2 ∨ k = 3)) ∨ (i = lw ∧ (k = 7)) ∨ i = (lw + 4) ∨ i = (lw + 5)) g0 g' ∧ fld g' 79 2 = .int a9 ∧ (a0.toInt ≤ a9.toInt) ∧ (a9.toInt ≤ en.toInt) ∧ (r.toInt = 0 ∨ r.toInt = 1)) := by
  refine q_enterZ (by decide) (Nat.le_of_ble_eq_true rfl) (fun K H locs ls _ _ hM hW0 hR hC hE hl => ?_)
  have hl : lv_has ls 3 [(0, .ref (ad 79)), (1, .int op)] := hl
  have hW : WS ad cA (fun i k => (i = 79 ∧ (k = 2 ∨ k = 3)) ∨ (i = lw ∧ (k = 7)) ∨ i = (lw + 4) ∨ i = (lw + 5)) g0 K g0 H locs := ⟨hW0, hSh, FR.rf⟩
  have ulw := hlw
  unfold isLw at ulw
  have b_en := hG.f h_en rF_79_1 (by decide)
  have b_a0 := hG.f h_a0 rF_79_2 (by decide)
  have f3575 : fld g0 79 2 = .int a0 := h_a0
  refine q_aload_n hM dX4_test_0 (lv_at hl 0 rfl) ?_
  refine q_callV (As := []) (rest := []) hM hW.1 hR hC myX4_sign (kAW (v_2_0 (List.mem_of_getElem? (i := 12) rfl)) rfl) (rfl : vwCl[4]? = some (RX4, TX4, 5)) rfl lb_79.1 (shO hW.2.1 lb_79) (a_X4_sign _ _ cA ad g0 en a0 hW.2.1 hG ((hW.2.2.1 79 1 (by omega)).trans h_en) f3575 (by  omega) (by  omega) (by  omega)) ⟨by decide, by decide⟩ rfl rfl hl.1 (Nat.le_of_ble_eq_true rfl) dX4_test_1 (fun v g3577 H locs hp hW1 => ?_)
  obtain ⟨r3576, rfl, hr3576, rfl⟩ := hp
  have hW : WS ad cA (fun i k => (i = 79 ∧ (k = 2 ∨ k = 3)) ∨ (i = lw ∧ (k = 7)) ∨ i = (lw + 4) ∨ i = (lw + 5)) g0 K g0 H locs := ⟨hW1, hW.2.1, hW.2.2⟩
  refine q_istore_n (lv9 := [(2, .int r3576), (0, .ref (ad 79)), (1, .int op)]) hM dX4_test_4 hl (by decide) rfl (fun ls hl => ?_)
  have L17 : ∀ (g9 : Nat → va_E) (H : Heap) (locs : List Loc) (ls : Array Slot), (Rng g9) → (r3576.toInt = 33 ∨ r3576.toInt = 40) → (fld g9 79 2 = .int a0) → lv_has ls 3 [(0, .ref (ad 79)), (1, .int op), (2, .int r3576)] → WS ad cA (fun i k => (i = 79 ∧ (k = 2 ∨ k = 3)) ∨ (i = lw ∧ (k = 7)) ∨ i = (lw + 4) ∨ i = (lw + 5)) g0 K g9 H locs → XX K 0 0 H locs 17 ls [] := by
    intro g9 H locs ls i17_0 i17_1 c17_79_2 hl hW
    have hG := i17_0
    refine q_iload_n hM dX4_test_17 (lv_at hl 1 rfl) ?_
    refine q_bipush (v := (6 : Int32)) hM dX4_test_18 (by decide) ?_
    refine q_icmp_lt (tgt := 29) hM dX4_test_20 (by decide) (rfl : op.toInt = op.toInt) (kc_6 : (6 : Int32).toInt = 6) (fun h20 => ?_) (fun h20 => ?_)
    · refine q_aload_n hM dX4_test_29 (lv_at hl 0 rfl) ?_
      refine q_dup hM dX4_test_30 rfl ?_
      refine w_get (v := .int a0) hM hW FG_X4_23 lb_79 c17_79_2 dX4_test_31 ?_
      have ba0 := hG.f c17_79_2 rF_79_2 (by decide)
      refine q_iconst (v := (1 : Int32)) hM dX4_test_34 (by decide) ?_
      refine q_iadd hM dX4_test_35 (fun z3580 hz3580 => ?_)
      first | have tz3580 := i_addT hz3580 (rfl : a0.toInt = a0.toInt) (kc_1 : (1 : Int32).toInt = 1) (by omega) (by omega) | skip
      refine w_put hM hW FP_X4_23 lb_79 (by omega) (Or.inl ⟨_, rfl⟩) rfl rfl dX4_test_36 (fun g3581 H locs hW e1 e2 => ?_)
      have f3582 : fld g3581 79 2 = .int z3580 := e1
      have hG := hG.put e1 e2 rF_79_2 (by decide) (by have := i_rng z3580; omega) (by have := i_rng z3580; omega)
      refine q_iload_n hM dX4_test_39 (lv_at hl 2 rfl) ?_
      refine q_bipush (v := (40 : Int32)) hM dX4_test_40 (by decide) ?_
      refine q_icmp_ne (tgt := 70) hM dX4_test_42 (by decide) (rfl : r3576.toInt = r3576.toInt) (kc_40 : (40 : Int32).toInt = 40) (fun h42 => ?_) (fun h42 => ?_)
      · refine q_aload_n hM dX4_test_70 (lv_at hl 0 rfl) ?_
        refine q_iload_n hM dX4_test_71 (lv_at hl 1 rfl) ?_
        refine q_iconst (v := (1 : Int32)) hM dX4_test_72 (by decide) ?_
        refine q_iadd hM dX4_test_73 (fun z3584 hz3584 => ?_)
        first | have tz3584 := i_addT hz3584 (rfl : op.toInt = op.toInt) (kc_1 : (1 : Int32).toInt = 1) (by omega) (by omega) | skip
        refine q_callV (As := [.int z3584]) (rest := []) hM hW.1 hR hC myX4_test (kAW (v_2_8 (List.mem_of_getElem? (i := 6) rfl)) rfl) (rfl : vwCl[4]? = some (RX4, TX4, 5)) rfl lb_79.1 (shO hW.2.1 lb_79) (a_X4_test_4 _ _ cA ad g3581 z3584 en z3580 lw hW.2.1 hG hlw ((hW.2.2.1 79 1 (by omega)).trans h_en) f3582 ((hW.2.2.1 79 4 (by omega)).trans h_r4) (by  omega) (by  omega) (by  omega) (by  omega)) ⟨by decide, by decide⟩ rfl rfl hl.1 (Nat.le_of_ble_eq_true rfl) dX4_test_74 (fun v g3590 H locs hp hW1 => ?_)
        obtain ⟨v3585, r3586, rfl, hs1, hG, hf1, q3587, e3588, e3589, hr3586⟩ := hp
        have hW : WS ad cA (fun i k => (i = 79 ∧ (k = 2 ∨ k = 3)) ∨ (i = lw ∧ (k = 7)) ∨ i = (lw + 4) ∨ i = (lw + 5)) g0 K g3590 H locs := ⟨hW1, hs1, hW.2.2.tr hf1 (fun i k h => h.elim (fun h => (Or.inl h)) (fun h => h.elim (fun h => (Or.inr (Or.inl h))) (fun h => h.elim (fun h => (Or.inr (Or.inr (Or.inl h)))) (fun h => (Or.inr (Or.inr (Or.inr h)))))))⟩
        refine q_if_ne (tgt := 82) hM dX4_test_77 (by decide) (rfl : r3586.toInt = r3586.toInt) (fun h77 => ?_) (fun h77 => ?_)
        · refine q_aload_n hM dX4_test_82 (lv_at hl 0 rfl) ?_
          refine w_get (v := .ref (ad lw)) hM hW FG_X4_15 lb_79 ((hW.2.2.1 79 4 (by omega)).trans h_r4) dX4_test_83 ?_
          refine q_iconst (v := (3 : Int32)) hM dX4_test_86 (by decide) ?_
          refine q_iconst (v := (0 : Int32)) hM dX4_test_87 (by decide) ?_
          refine q_callV (As := [.int (3 : Int32), .int (0 : Int32)]) (rest := []) hM hW.1 hR hC myX3_add (kAW (v_2_7 (List.mem_of_getElem? (i := 13) rfl)) rfl) (rfl : vwCl[3]? = some (RX3, TX3, 8)) rfl (lo_Lw hlw).1 (shO hW.2.1 (lo_Lw hlw)) (a_X3_add _ _ cA ad g3590 lw (3 : Int32) (0 : Int32) hW.2.1 hG hlw (by have := kc_3; have := kc_0; omega) (by have := kc_3; have := kc_0; omega)) ⟨by decide, by decide⟩ rfl rfl hl.1 (Nat.le_of_ble_eq_true rfl) dX4_test_88 (fun v g3592 H locs hp hW1 => ?_)
          obtain ⟨rfl, hs1, hG, hf1⟩ := hp
          have f3593 : fld g3592 79 2 = .int v3585 := (hf1.1 79 2 (by omega)).trans q3587
          have hW : WS ad cA (fun i k => (i = 79 ∧ (k = 2 ∨ k = 3)) ∨ (i = lw ∧ (k = 7)) ∨ i = (lw + 4) ∨ i = (lw + 5)) g0 K g3592 H locs := ⟨hW1, hs1, hW.2.2.tr hf1 (fun i k h => h.elim (fun h => (Or.inr (Or.inl h))) (fun h => h.elim (fun h => (Or.inr (Or.inr (Or.inl h)))) (fun h => (Or.inr (Or.inr (Or.inr h))))))⟩
          refine q_iconst (v := (1 : Int32)) hM dX4_test_91 (by decide) ?_
          exact hE _ _ _ _ _ _ hW.1 nz_1 ⟨v3585, _, rfl, hW.2.1, hG, hW.2.2, f3593, (by have := kc_1; omega), (by have := kc_1; omega), (by have := kc_1; omega)⟩ dX4_test_92
        · refine q_iconst (v := (0 : Int32)) hM dX4_test_80 (by decide) ?_
          exact hE _ _ _ _ _ _ hW.1 nz_0 ⟨v3585, _, rfl, hW.2.1, hG, hW.2.2, q3587, (by have := kc_0; omega), (by have := kc_0; omega), (by have := kc_0; omega)⟩ dX4_test_81
      · refine q_aload_n hM dX4_test_45 (lv_at hl 0 rfl) ?_
        refine q_iload_n hM dX4_test_46 (lv_at hl 1 rfl) ?_
        refine q_iconst (v := (1 : Int32)) hM dX4_test_47 (by decide) ?_
        refine q_iadd hM dX4_test_48 (fun z3596 hz3596 => ?_)
        first | have tz3596 := i_addT hz3596 (rfl : op.toInt = op.toInt) (kc_1 : (1 : Int32).toInt = 1) (by omega) (by omega) | skip
        refine q_callV (As := [.int z3596]) (rest := []) hM hW.1 hR hC myX4_condition (kAW (v_2_8 (List.mem_of_getElem? (i := 2) rfl)) rfl) (rfl : vwCl[4]? = some (RX4, TX4, 5)) rfl lb_79.1 (shO hW.2.1 lb_79) (a_X4_condition_4 _ _ cA ad g3581 z3596 en z3580 lw hW.2.1 hG hlw ((hW.2.2.1 79 1 (by omega)).trans h_en) f3582 ((hW.2.2.1 79 4 (by omega)).trans h_r4) (by  omega) (by  omega) (by  omega) (by  omega)) ⟨by decide, by decide⟩ rfl rfl hl.1 (Nat.le_of_ble_eq_true rfl) dX4_test_49 (fun v g3602 H locs hp hW1 => ?_)
        obtain ⟨v3597, r3598, rfl, hs1, hG, hf1, q3599, e3600, e3601, hr3598⟩ := hp
        have hW : WS ad cA (fun i k => (i = 79 ∧ (k = 2 ∨ k = 3)) ∨ (i = lw ∧ (k = 7)) ∨ i = (lw + 4) ∨ i = (lw + 5)) g0 K g3602 H locs := ⟨hW1, hs1, hW.2.2.tr hf1 (fun i k h => h.elim (fun h => (Or.inl h)) (fun h => h.elim (fun h => (Or.inr (Or.inl h))) (fun h => h.elim (fun h => (Or.inr (Or.inr (Or.inl h)))) (fun h => (Or.inr (Or.inr (Or.inr h)))))))⟩
        refine q_if_eq (tgt := 68) hM dX4_test_52 (by decide) (rfl : r3598.toInt = r3598.toInt) (fun h52 => ?_) (fun h52 => ?_)
        · refine q_iconst (v := (0 : Int32)) hM dX4_test_68 (by decide) ?_
          exact hE _ _ _ _ _ _ hW.1 nz_0 ⟨v3597, _, rfl, hW.2.1, hG, hW.2.2, q3599, (by have := kc_0; omega), (by have := kc_0; omega), (by have := kc_0; omega)⟩ dX4_test_69
        · refine q_aload_n hM dX4_test_55 (lv_at hl 0 rfl) ?_
          refine q_bipush (v := (41 : Int32)) hM dX4_test_56 (by decide) ?_
          refine q_callV (As := [.int (41 : Int32)]) (rest := []) hM hW.1 hR hC myX4_passes (kAW (v_2_7 (List.mem_of_getElem? (i := 4) rfl)) rfl) (rfl : vwCl[4]? = some (RX4, TX4, 5)) rfl lb_79.1 (shO hW.2.1 lb_79) (a_X4_passes _ _ cA ad g3602 (41 : Int32) en v3597 hW.2.1 hG ((hW.2.2.1 79 1 (by omega)).trans h_en) q3599 (by have := kc_41; omega) (by have := kc_41; omega) (by have := kc_41; omega)) ⟨by decide, by decide⟩ rfl rfl hl.1 (Nat.le_of_ble_eq_true rfl) dX4_test_58 (fun v g3610 H locs hp hW1 => ?_)
          obtain ⟨v3605, r3606, rfl, hs1, hG, hf1, q3607, e3608, e3609, hr3606⟩ := hp
          have hW : WS ad cA (fun i k => (i = 79 ∧ (k = 2 ∨ k = 3)) ∨ (i = lw ∧ (k = 7)) ∨ i = (lw + 4) ∨ i = (lw + 5)) g0 K g3610 H locs := ⟨hW1, hs1, hW.2.2.tr hf1 (fun i k h => (Or.inl h))⟩
          refine q_if_eq (tgt := 68) hM dX4_test_61 (by decide) (rfl : r3606.toInt = r3606.toInt) (fun h61 => ?_) (fun h61 => ?_)
          · refine q_iconst (v := (0 : Int32)) hM dX4_test_68 (by decide) ?_
            exact hE _ _ _ _ _ _ hW.1 nz_0 ⟨v3605, _, rfl, hW.2.1, hG, hW.2.2, q3607, (by have := kc_0; omega), (by have := kc_0; omega), (by have := kc_0; omega)⟩ dX4_test_69
          · refine q_iconst (v := (1 : Int32)) hM dX4_test_64 (by decide) ?_
            refine q_goto (tgt := 69) hM dX4_test_65 (by decide) ?_
            exact hE _ _ _ _ _ _ hW.1 nz_1 ⟨v3605, _, rfl, hW.2.1, hG, hW.2.2, q3607, (by have := kc_1; omega), (by have := kc_1; omega), (by have := kc_1; omega)⟩ dX4_test_69
    · omega
  refine q_iload_n hM dX4_test_5 (lv_at hl 0 rfl) ?_
  refine q_bipush (v := (33 : Int32)) hM dX4_test_6 (by decide) ?_
  refine q_icmp_eq (tgt := 17) hM dX4_test_8 (by decide) (rfl : r3576.toInt = r3576.toInt) (kc_33 : (33 : Int32).toInt = 33) (fun h8 => ?_) (fun h8 => ?_)
  · exact L17  _ _ _ _ hG (by omega) f3575 (lv_sub hl [1, 2, 0] rfl) hW
  · refine q_iload_n hM dX4_test_11 (lv_at hl 0 rfl) ?_
    refine q_bipush (v := (40 : Int32)) hM dX4_test_12 (by decide) ?_
    refine q_icmp_ne (tgt := 93) hM dX4_test_14 (by decide) (rfl : r3576.toInt = r3576.toInt) (kc_40 : (40 : Int32).toInt = 40) (fun h14 => ?_) (fun h14 => ?_)
    · refine q_aload_n hM dX4_test_93 (lv_at hl 1 rfl) ?_
      refine q_iload_n hM dX4_test_94 (lv_at hl 2 rfl) ?_
      refine q_callV (As := [.int op]) (rest := []) hM hW.1 hR hC myX4_expression (kAW (v_2_6 (List.mem_of_getElem? (i := 12) rfl)) rfl) (rfl : vwCl[4]? = some (RX4, TX4, 5)) rfl lb_79.1 (shO hW.2.1 lb_79) (a_X4_expression_3 _ _ cA ad g0 op en a0 lw hW.2.1 hG hlw ((hW.2.2.1 79 1 (by omega)).trans h_en) f3575 ((hW.2.2.1 79 4 (by omega)).trans h_r4) (by  omega) (by  omega) (by  omega) (by  omega)) ⟨by decide, by decide⟩ rfl rfl hl.1 (Nat.le_of_ble_eq_true rfl) dX4_test_95 (fun v g3622 H locs hp hW1 => ?_)
      obtain ⟨v3617, r3618, rfl, hs1, hG, hf1, q3619, e3620, e3621, hr3618⟩ := hp
      have hW : WS ad cA (fun i k => (i = 79 ∧ (k = 2 ∨ k = 3)) ∨ (i = lw ∧ (k = 7)) ∨ i = (lw + 4) ∨ i = (lw + 5)) g0 K g3622 H locs := ⟨hW1, hs1, hW.2.2.tr hf1 (fun i k h => h.elim (fun h => (Or.inl h)) (fun h => h.elim (fun h => (Or.inr (Or.inl h))) (fun h => h.elim (fun h => (Or.inr (Or.inr (Or.inl h)))) (fun h => (Or.inr (Or.inr (Or.inr h)))))))⟩
      refine q_if_ne (tgt := 103) hM dX4_test_98 (by decide) (rfl : r3618.toInt = r3618.toInt) (fun h98 => ?_) (fun h98 => ?_)
      · refine q_aload_n hM dX4_test_103 (lv_at hl 1 rfl) ?_
        refine q_callV (As := []) (rest := []) hM hW.1 hR hC myX4_sign (kAW (v_2_0 (List.mem_of_getElem? (i := 12) rfl)) rfl) (rfl : vwCl[4]? = some (RX4, TX4, 5)) rfl lb_79.1 (shO hW.2.1 lb_79) (a_X4_sign _ _ cA ad g3622 en v3617 hW.2.1 hG ((hW.2.2.1 79 1 (by omega)).trans h_en) q3619 (by  omega) (by  omega) (by  omega)) ⟨by decide, by decide⟩ rfl rfl hl.1 (Nat.le_of_ble_eq_true rfl) dX4_test_104 (fun v g3625 H locs hp hW1 => ?_)
        obtain ⟨r3624, rfl, hr3624, rfl⟩ := hp
        have hW : WS ad cA (fun i k => (i = 79 ∧ (k = 2 ∨ k = 3)) ∨ (i = lw ∧ (k = 7)) ∨ i = (lw + 4) ∨ i = (lw + 5)) g0 K g3622 H locs := ⟨hW1, hW.2.1, hW.2.2⟩
        refine q_istore_n (lv9 := [(2, .int r3624), (0, .ref (ad 79)), (1, .int op)]) hM dX4_test_107 hl (by decide) rfl (fun ls hl => ?_)
        have L132 : ∀ (g9 : Nat → va_E) (H : Heap) (locs : List Loc) (ls : Array Slot), (Rng g9) → (0 ≤ r3624.toInt) → (fld g9 79 2 = .int v3617) → lv_has ls 3 [(0, .ref (ad 79)), (1, .int op), (2, .int r3624)] → WS ad cA (fun i k => (i = 79 ∧ (k = 2 ∨ k = 3)) ∨ (i = lw ∧ (k = 7)) ∨ i = (lw + 4) ∨ i = (lw + 5)) g0 K g9 H locs → XX K 0 0 H locs 132 ls [] := by
          intro g9 H locs ls i132_0 i132_1 c132_79_2 hl hW
          have hG := i132_0
          refine q_aload_n hM dX4_test_132 (lv_at hl 0 rfl) ?_
          refine q_dup hM dX4_test_133 rfl ?_
          refine w_get (v := .int v3617) hM hW FG_X4_23 lb_79 c132_79_2 dX4_test_134 ?_
          have bv3617 := hG.f c132_79_2 rF_79_2 (by decide)
          refine q_iconst (v := (1 : Int32)) hM dX4_test_137 (by decide) ?_
          refine q_iadd hM dX4_test_138 (fun z3627 hz3627 => ?_)
          first | have tz3627 := i_addT hz3627 (rfl : v3617.toInt = v3617.toInt) (kc_1 : (1 : Int32).toInt = 1) (by omega) (by omega) | skip
          refine w_put hM hW FP_X4_23 lb_79 (by omega) (Or.inl ⟨_, rfl⟩) rfl rfl dX4_test_139 (fun g3628 H locs hW e1 e2 => ?_)
          have f3629 : fld g3628 79 2 = .int z3627 := e1
          have hG := hG.put e1 e2 rF_79_2 (by decide) (by have := i_rng z3627; omega) (by have := i_rng z3627; omega)
          refine q_aload_n hM dX4_test_142 (lv_at hl 0 rfl) ?_
          refine q_iload_n hM dX4_test_143 (lv_at hl 1 rfl) ?_
          refine q_callV (As := [.int op]) (rest := []) hM hW.1 hR hC myX4_expression (kAW (v_2_6 (List.mem_of_getElem? (i := 12) rfl)) rfl) (rfl : vwCl[4]? = some (RX4, TX4, 5)) rfl lb_79.1 (shO hW.2.1 lb_79) (a_X4_expression_3 _ _ cA ad g3628 op en z3627 lw hW.2.1 hG hlw ((hW.2.2.1 79 1 (by omega)).trans h_en) f3629 ((hW.2.2.1 79 4 (by omega)).trans h_r4) (by  omega) (by  omega) (by  omega) (by  omega)) ⟨by decide, by decide⟩ rfl rfl hl.1 (Nat.le_of_ble_eq_true rfl) dX4_test_144 (fun v g3635 H locs hp hW1 => ?_)
          obtain ⟨v3630, r3631, rfl, hs1, hG, hf1, q3632, e3633, e3634, hr3631⟩ := hp
          have hW : WS ad cA (fun i k => (i = 79 ∧ (k = 2 ∨ k = 3)) ∨ (i = lw ∧ (k = 7)) ∨ i = (lw + 4) ∨ i = (lw + 5)) g0 K g3635 H locs := ⟨hW1, hs1, hW.2.2.tr hf1 (fun i k h => h.elim (fun h => (Or.inl h)) (fun h => h.elim (fun h => (Or.inr (Or.inl h))) (fun h => h.elim (fun h => (Or.inr (Or.inr (Or.inl h)))) (fun h => (Or.inr (Or.inr (Or.inr h)))))))⟩
          refine q_if_ne (tgt := 152) hM dX4_test_147 (by decide) (rfl : r3631.toInt = r3631.toInt) (fun h147 => ?_) (fun h147 => ?_)
          · refine q_aload_n hM dX4_test_152 (lv_at hl 0 rfl) ?_
            refine w_get (v := .ref (ad lw)) hM hW FG_X4_15 lb_79 ((hW.2.2.1 79 4 (by omega)).trans h_r4) dX4_test_153 ?_
            refine q_iload_n hM dX4_test_156 (lv_at hl 2 rfl) ?_
            refine q_iconst (v := (0 : Int32)) hM dX4_test_157 (by decide) ?_
            refine q_callV (As := [.int r3624, .int (0 : Int32)]) (rest := []) hM hW.1 hR hC myX3_add (kAW (v_2_7 (List.mem_of_getElem? (i := 13) rfl)) rfl) (rfl : vwCl[3]? = some (RX3, TX3, 8)) rfl (lo_Lw hlw).1 (shO hW.2.1 (lo_Lw hlw)) (a_X3_add _ _ cA ad g3635 lw r3624 (0 : Int32) hW.2.1 hG hlw (by have := kc_0; omega) (by have := kc_0; omega)) ⟨by decide, by decide⟩ rfl rfl hl.1 (Nat.le_of_ble_eq_true rfl) dX4_test_158 (fun v g3637 H locs hp hW1 => ?_)
            obtain ⟨rfl, hs1, hG, hf1⟩ := hp
            have f3638 : fld g3637 79 2 = .int v3630 := (hf1.1 79 2 (by omega)).trans q3632
            have hW : WS ad cA (fun i k => (i = 79 ∧ (k = 2 ∨ k = 3)) ∨ (i = lw ∧ (k = 7)) ∨ i = (lw + 4) ∨ i = (lw + 5)) g0 K g3637 H locs := ⟨hW1, hs1, hW.2.2.tr hf1 (fun i k h => h.elim (fun h => (Or.inr (Or.inl h))) (fun h => h.elim (fun h => (Or.inr (Or.inr (Or.inl h)))) (fun h => (Or.inr (Or.inr (Or.inr h))))))⟩
            refine q_iconst (v := (1 : Int32)) hM dX4_test_161 (by decide) ?_
            exact hE _ _ _ _ _ _ hW.1 nz_1 ⟨v3630, _, rfl, hW.2.1, hG, hW.2.2, f3638, (by have := kc_1; omega), (by have := kc_1; omega), (by have := kc_1; omega)⟩ dX4_test_162
          · refine q_iconst (v := (0 : Int32)) hM dX4_test_150 (by decide) ?_
            exact hE _ _ _ _ _ _ hW.1 nz_0 ⟨v3630, _, rfl, hW.2.1, hG, hW.2.2, q3632, (by have := kc_0; omega), (by have := kc_0; omega), (by have := kc_0; omega)⟩ dX4_test_151
        refine q_iload_n hM dX4_test_108 (lv_at hl 0 rfl) ?_
        refine q_bipush (v := (60 : Int32)) hM dX4_test_109 (by decide) ?_
        refine q_icmp_eq (tgt := 132) hM dX4_test_111 (by decide) (rfl : r3624.toInt = r3624.toInt) (kc_60 : (60 : Int32).toInt = 60) (fun h111 => ?_) (fun h111 => ?_)
        · exact L132  _ _ _ _ hG (by omega) q3619 (lv_sub hl [1, 2, 0] rfl) hW
        · refine q_iload_n hM dX4_test_114 (lv_at hl 0 rfl) ?_
          refine q_bipush (v := (62 : Int32)) hM dX4_test_115 (by decide) ?_
          refine q_icmp_eq (tgt := 132) hM dX4_test_117 (by decide) (rfl : r3624.toInt = r3624.toInt) (kc_62 : (62 : Int32).toInt = 62) (fun h117 => ?_) (fun h117 => ?_)
          · exact L132  _ _ _ _ hG (by omega) q3619 (lv_sub hl [1, 2, 0] rfl) hW
          · refine q_iload_n hM dX4_test_120 (lv_at hl 0 rfl) ?_
            refine q_bipush (v := (61 : Int32)) hM dX4_test_121 (by decide) ?_
            refine q_icmp_eq (tgt := 132) hM dX4_test_123 (by decide) (rfl : r3624.toInt = r3624.toInt) (kc_61 : (61 : Int32).toInt = 61) (fun h123 => ?_) (fun h123 => ?_)
            · exact L132  _ _ _ _ hG (by omega) q3619 (lv_sub hl [1, 2, 0] rfl) hW
            · refine q_aload_n hM dX4_test_126 (lv_at hl 1 rfl) ?_
              refine q_iconst (v := (1 : Int32)) hM dX4_test_127 (by decide) ?_
              refine q_callV (As := [.int (1 : Int32)]) (rest := []) hM hW.1 hR hC myX4_wrong (kAW (v_2_6 (List.mem_of_getElem? (i := 8) rfl)) rfl) (rfl : vwCl[4]? = some (RX4, TX4, 5)) rfl lb_79.1 (shO hW.2.1 lb_79) (a_X4_wrong _ _ cA ad g3622 (1 : Int32) hW.2.1 hG) ⟨by decide, by decide⟩ rfl rfl hl.1 (Nat.le_of_ble_eq_true rfl) dX4_test_128 (fun v g3647 H locs hp hW1 => ?_)
              obtain ⟨r3646, rfl, hs1, hG, hf1, hr3646⟩ := hp
              have f3648 : fld g3647 79 2 = .int v3617 := (hf1.1 79 2 (by omega)).trans q3619
              have hW : WS ad cA (fun i k => (i = 79 ∧ (k = 2 ∨ k = 3)) ∨ (i = lw ∧ (k = 7)) ∨ i = (lw + 4) ∨ i = (lw + 5)) g0 K g3647 H locs := ⟨hW1, hs1, hW.2.2.tr hf1 (fun i k h => (Or.inl (by omega)))⟩
              exact hE _ _ _ _ _ _ hW.1 (nz_or (by omega)) ⟨v3617, _, rfl, hW.2.1, hG, hW.2.2, f3648, (by omega), (by omega), (by omega)⟩ dX4_test_131
      · refine q_iconst (v := (0 : Int32)) hM dX4_test_101 (by decide) ?_
        exact hE _ _ _ _ _ _ hW.1 nz_0 ⟨v3617, _, rfl, hW.2.1, hG, hW.2.2, q3619, (by have := kc_0; omega), (by have := kc_0; omega), (by have := kc_0; omega)⟩ dX4_test_102
    · exact L17  _ _ _ _ hG (by omega) f3575 (lv_sub hl [1, 2, 0] rfl) hW


set_option maxRecDepth 100000 in
set_option maxHeartbeats 4000000 in
theorem a_X4_condition_3 (l : Launch) (D : va_G) (cA : Nat → ClassId) (ad : Nat → Nat) (g0 : Nat → va_E) (op : Int32) (en : Int32) (a0 : Int32) (lw : Nat) (hSh : Shp ad cA g0) (hG : Rng g0) (hlw : isLw lw) (h_en : fld g0 79 1 = .int en) (h_a0 : fld g0 79 2 = .int a0) (h_r4 : fld g0 79 4 = .ref (ad lw)) (ah0 : 0 ≤ a0.toInt) (ah1 : a0.toInt ≤ en.toInt) (ah2 : en.toInt ≤ 240) (ok : op.toInt = 3) : CT l NN ad cA D yX4_condition cX4_condition 6 (some FieldType.boolean) (14, 322) [.ref (ad 79), .int op] g0 (fun v g' => ∃ (a9 : Int32) (r : Int32), v = some (.int r) ∧ Shp ad cA g' ∧ Rng g' ∧ FR (fun i k => (i = 79 ∧ (k = 2 ∨ k = 3)) ∨ (i = lw ∧ (k = 7)) ∨ i = (lw + 4) ∨ i = (lw + 5)) g0 g' ∧ fld g' 79 2 = .int a9 ∧ (a0.toInt ≤ a9.toInt) ∧ (a9.toInt ≤ en.toInt) ∧ (r.toInt = 0 ∨ r.toInt = 1)) := by
  refine q_enterZ (by decide) (Nat.le_of_ble_eq_true rfl) (fun K H locs ls _ _ hM hW0 hR hC hE hl => ?_)
  have hl : lv_has ls 6 [(0, .ref (ad 79)), (1, .int op)] := hl
  have hW : WS ad cA (fun i k => (i = 79 ∧ (k = 2 ∨ k = 3)) ∨ (i = lw ∧ (k = 7)) ∨ i = (lw + 4) ∨ i = (lw + 5)) g0 K g0 H locs := ⟨hW0, hSh, FR.rf⟩
  have ulw := hlw
  unfold isLw at ulw
  have b_en := hG.f h_en rF_79_1 (by decide)
  have b_a0 := hG.f h_a0 rF_79_2 (by decide)
  have f3651 : fld g0 79 2 = .int a0 := h_a0
  refine q_iconst (v := ((-1) : Int32)) hM dX4_condition_0 (by decide) ?_
  refine q_istore_n (lv9 := [(2, .int ((-1) : Int32)), (0, .ref (ad 79)), (1, .int op)]) hM dX4_condition_1 hl (by decide) rfl (fun ls hl => ?_)
  refine q_iconst (v := ((-1) : Int32)) hM dX4_condition_2 (by decide) ?_
  refine q_istore_n (lv9 := [(3, .int ((-1) : Int32)), (2, .int ((-1) : Int32)), (0, .ref (ad 79)), (1, .int op)]) hM dX4_condition_3 hl (by decide) rfl (fun ls hl => ?_)
  have L4 : ∀ (fu4 : Nat) (w4_2 : Int32) (w4_3 : Int32) (aa : Int32) (g9 : Nat → va_E) (H : Heap) (locs : List Loc) (ls : Array Slot), (en.toInt - aa.toInt + 1).toNat < fu4 → (Rng g9) → (a0.toInt ≤ aa.toInt) → (aa.toInt ≤ en.toInt) → (-1 ≤ w4_2.toInt) → (w4_2.toInt ≤ 256) → (-1 ≤ w4_3.toInt) → (w4_3.toInt ≤ 256) → (fld g9 79 2 = .int aa) → lv_has ls 6 [(0, .ref (ad 79)), (1, .int op), (2, .int w4_2), (3, .int w4_3)] → WS ad cA (fun i k => (i = 79 ∧ (k = 2 ∨ k = 3)) ∨ (i = lw ∧ (k = 7)) ∨ i = (lw + 4) ∨ i = (lw + 5)) g0 K g9 H locs → XX K 0 0 H locs 4 ls [] := by
    intro fu4
    induction fu4 with
    | zero => intro w4_2 w4_3 aa g9 H locs ls h0; omega
    | succ fu4 ih4 =>
      intro w4_2 w4_3 aa g9 H locs ls hm4 i4_0 i4_1 i4_2 i4_3 i4_4 i4_5 i4_6 c4_79_2 hl hW
      have hG := i4_0
      refine q_aload_n hM dX4_condition_4 (lv_at hl 0 rfl) ?_
      refine w_get (v := .int aa) hM hW FG_X4_23 lb_79 c4_79_2 dX4_condition_5 ?_
      have baa := hG.f c4_79_2 rF_79_2 (by decide)
      refine q_aload_n hM dX4_condition_8 (lv_at hl 0 rfl) ?_
      refine w_get (v := .int en) hM hW FG_X4_19 lb_79 ((hW.2.2.1 79 1 (by omega)).trans h_en) dX4_condition_9 ?_
      refine q_icmp_gt (tgt := 114) hM dX4_condition_12 (by decide) (rfl : aa.toInt = aa.toInt) (rfl : en.toInt = en.toInt) (fun h12 => ?_) (fun h12 => ?_)
      · refine q_aload_n hM dX4_condition_114 (lv_at hl 0 rfl) ?_
        refine q_iconst (v := (1 : Int32)) hM dX4_condition_115 (by decide) ?_
        refine q_callV (As := [.int (1 : Int32)]) (rest := []) hM hW.1 hR hC myX4_wrong (kAW (v_2_6 (List.mem_of_getElem? (i := 8) rfl)) rfl) (rfl : vwCl[4]? = some (RX4, TX4, 5)) rfl lb_79.1 (shO hW.2.1 lb_79) (a_X4_wrong _ _ cA ad g9 (1 : Int32) hW.2.1 hG) ⟨by decide, by decide⟩ rfl rfl hl.1 (Nat.le_of_ble_eq_true rfl) dX4_condition_116 (fun v g3655 H locs hp hW1 => ?_)
        obtain ⟨r3654, rfl, hs1, hG, hf1, hr3654⟩ := hp
        have f3656 : fld g3655 79 2 = .int aa := (hf1.1 79 2 (by omega)).trans c4_79_2
        have hW : WS ad cA (fun i k => (i = 79 ∧ (k = 2 ∨ k = 3)) ∨ (i = lw ∧ (k = 7)) ∨ i = (lw + 4) ∨ i = (lw + 5)) g0 K g3655 H locs := ⟨hW1, hs1, hW.2.2.tr hf1 (fun i k h => (Or.inl (by omega)))⟩
        exact hE _ _ _ _ _ _ hW.1 (nz_or (by omega)) ⟨aa, _, rfl, hW.2.1, hG, hW.2.2, f3656, (by omega), (by omega), (by omega)⟩ dX4_condition_119
      · refine q_aload_n hM dX4_condition_15 (lv_at hl 0 rfl) ?_
        refine q_iload_n hM dX4_condition_16 (lv_at hl 1 rfl) ?_
        refine q_callV (As := [.int op]) (rest := []) hM hW.1 hR hC myX4_test (kAW (v_2_8 (List.mem_of_getElem? (i := 6) rfl)) rfl) (rfl : vwCl[4]? = some (RX4, TX4, 5)) rfl lb_79.1 (shO hW.2.1 lb_79) (a_X4_test_3 _ _ cA ad g9 op en aa lw hW.2.1 hG hlw ((hW.2.2.1 79 1 (by omega)).trans h_en) c4_79_2 ((hW.2.2.1 79 4 (by omega)).trans h_r4) (by  omega) (by  omega) (by  omega) (by  omega)) ⟨by decide, by decide⟩ rfl rfl hl.1 (Nat.le_of_ble_eq_true rfl) dX4_condition_17 (fun v g3663 H locs hp hW1 => ?_)
        obtain ⟨v3658, r3659, rfl, hs1, hG, hf1, q3660, e3661, e3662, hr3659⟩ := hp
        have hW : WS ad cA (fun i k => (i = 79 ∧ (k = 2 ∨ k = 3)) ∨ (i = lw ∧ (k = 7)) ∨ i = (lw + 4) ∨ i = (lw + 5)) g0 K g3663 H locs := ⟨hW1, hs1, hW.2.2.tr hf1 (fun i k h => h.elim (fun h => (Or.inl h)) (fun h => h.elim (fun h => (Or.inr (Or.inl h))) (fun h => h.elim (fun h => (Or.inr (Or.inr (Or.inl h)))) (fun h => (Or.inr (Or.inr (Or.inr h)))))))⟩
        refine q_if_ne (tgt := 25) hM dX4_condition_20 (by decide) (rfl : r3659.toInt = r3659.toInt) (fun h20 => ?_) (fun h20 => ?_)
        · refine q_aload_n hM dX4_condition_25 (lv_at hl 0 rfl) ?_
          refine q_callV (As := []) (rest := []) hM hW.1 hR hC myX4_sign (kAW (v_2_0 (List.mem_of_getElem? (i := 12) rfl)) rfl) (rfl : vwCl[4]? = some (RX4, TX4, 5)) rfl lb_79.1 (shO hW.2.1 lb_79) (a_X4_sign _ _ cA ad g3663 en v3658 hW.2.1 hG ((hW.2.2.1 79 1 (by omega)).trans h_en) q3660 (by  omega) (by  omega) (by  omega)) ⟨by decide, by decide⟩ rfl rfl hl.1 (Nat.le_of_ble_eq_true rfl) dX4_condition_26 (fun v g3666 H locs hp hW1 => ?_)
          obtain ⟨r3665, rfl, hr3665, rfl⟩ := hp
          have hW : WS ad cA (fun i k => (i = 79 ∧ (k = 2 ∨ k = 3)) ∨ (i = lw ∧ (k = 7)) ∨ i = (lw + 4) ∨ i = (lw + 5)) g0 K g3663 H locs := ⟨hW1, hW.2.1, hW.2.2⟩
          refine q_istore (lv9 := [(4, .int r3665), (0, .ref (ad 79)), (1, .int op), (2, .int w4_2), (3, .int w4_3)]) hM dX4_condition_29 hl (by decide) rfl (fun ls hl => ?_)
          refine q_aload_n hM dX4_condition_31 (lv_at hl 1 rfl) ?_
          refine w_get (v := .ref (ad lw)) hM hW FG_X4_15 lb_79 ((hW.2.2.1 79 4 (by omega)).trans h_r4) dX4_condition_32 ?_
          refine w_getI hM hW FG_X4_35 (lo_Lw hlw) (by decide) (by decide) dX4_condition_35 (fun x3667 fx3667 => ?_)
          have bx3667 := hG.f fx3667 (rF_Lw_7 hlw) (by decide)
          refine q_istore (lv9 := [(5, .int x3667), (4, .int r3665), (0, .ref (ad 79)), (1, .int op), (2, .int w4_2), (3, .int w4_3)]) hM dX4_condition_38 hl (by decide) rfl (fun ls hl => ?_)
          have L101 : ∀ (n101 : Int32) (o101 : Int32) (g9 : Nat → va_E) (H : Heap) (locs : List Loc) (ls : Array Slot), (Rng g9) → (-1 ≤ n101.toInt) → (n101.toInt ≤ 256) → (-1 ≤ o101.toInt) → (o101.toInt ≤ 256) → (0 ≤ r3665.toInt) → (fld g9 79 2 = .int v3658) → lv_has ls 6 [(0, .ref (ad 79)), (1, .int op), (2, .int n101), (3, .int o101), (4, .int r3665), (5, .int x3667)] → WS ad cA (fun i k => (i = 79 ∧ (k = 2 ∨ k = 3)) ∨ (i = lw ∧ (k = 7)) ∨ i = (lw + 4) ∨ i = (lw + 5)) g0 K g9 H locs → XX K 0 0 H locs 101 ls [] := by
            intro n101 o101 g9 H locs ls i101_0 i101_1 i101_2 i101_3 i101_4 i101_5 c101_79_2 hl hW
            have hG := i101_0
            refine q_aload_n hM dX4_condition_101 (lv_at hl 0 rfl) ?_
            refine q_dup hM dX4_condition_102 rfl ?_
            refine w_get (v := .int v3658) hM hW FG_X4_23 lb_79 c101_79_2 dX4_condition_103 ?_
            have bv3658 := hG.f c101_79_2 rF_79_2 (by decide)
            refine q_iconst (v := (1 : Int32)) hM dX4_condition_106 (by decide) ?_
            refine q_iadd hM dX4_condition_107 (fun z3669 hz3669 => ?_)
            first | have tz3669 := i_addT hz3669 (rfl : v3658.toInt = v3658.toInt) (kc_1 : (1 : Int32).toInt = 1) (by omega) (by omega) | skip
            refine w_put hM hW FP_X4_23 lb_79 (by omega) (Or.inl ⟨_, rfl⟩) rfl rfl dX4_condition_108 (fun g3670 H locs hW e1 e2 => ?_)
            have f3671 : fld g3670 79 2 = .int z3669 := e1
            have hG := hG.put e1 e2 rF_79_2 (by decide) (by have := i_rng z3669; omega) (by have := i_rng z3669; omega)
            refine q_goto (tgt := 4) hM dX4_condition_111 (by decide) ?_
            exact ih4 n101 o101 z3669 _ _ _ _ (by omega) hG (by omega) (by omega) (by omega) (by omega) (by omega) (by omega) f3671 (lv_sub hl [0, 1, 2, 3] rfl) hW
          refine q_iload hM dX4_condition_40 (lv_at hl 1 rfl) ?_
          refine q_bipush (v := (38 : Int32)) hM dX4_condition_42 (by decide) ?_
          refine q_icmp_ne (tgt := 62) hM dX4_condition_44 (by decide) (rfl : r3665.toInt = r3665.toInt) (kc_38 : (38 : Int32).toInt = 38) (fun h44 => ?_) (fun h44 => ?_)
          · refine q_aload_n hM dX4_condition_62 (lv_at hl 2 rfl) ?_
            refine w_get (v := .ref (ad lw)) hM hW FG_X4_15 lb_79 ((hW.2.2.1 79 4 (by omega)).trans h_r4) dX4_condition_63 ?_
            refine q_iload_n hM dX4_condition_66 (lv_at hl 4 rfl) ?_
            refine q_callV (As := [.int w4_2]) (rest := []) hM hW.1 hR hC myX3_land (kAW (v_2_8 (List.mem_of_getElem? (i := 10) rfl)) rfl) (rfl : vwCl[3]? = some (RX3, TX3, 8)) rfl (lo_Lw hlw).1 (shO hW.2.1 (lo_Lw hlw)) (a_X3_land _ _ cA ad g3663 lw w4_2 hW.2.1 hG hlw) ⟨by decide, by decide⟩ rfl rfl hl.1 (Nat.le_of_ble_eq_true rfl) dX4_condition_67 (fun v g3673 H locs hp hW1 => ?_)
            obtain ⟨rfl, hs1, hG, hf1⟩ := hp
            have f3674 : fld g3673 79 2 = .int v3658 := (hf1.1 79 2 (by omega)).trans q3660
            have f3675 : fld g3673 lw 7 = .int x3667 := (hf1.1 lw 7 (by omega)).trans fx3667
            have hW : WS ad cA (fun i k => (i = 79 ∧ (k = 2 ∨ k = 3)) ∨ (i = lw ∧ (k = 7)) ∨ i = (lw + 4) ∨ i = (lw + 5)) g0 K g3673 H locs := ⟨hW1, hs1, hW.2.2.tr hf1 (fun i k h => (Or.inr (Or.inr (Or.inr h))))⟩
            refine q_iconst (v := ((-1) : Int32)) hM dX4_condition_70 (by decide) ?_
            refine q_istore_n (lv9 := [(2, .int ((-1) : Int32)), (5, .int x3667), (4, .int r3665), (0, .ref (ad 79)), (1, .int op), (3, .int w4_3)]) hM dX4_condition_71 hl (by decide) rfl (fun ls hl => ?_)
            refine q_iload hM dX4_condition_72 (lv_at hl 2 rfl) ?_
            refine q_bipush (v := (124 : Int32)) hM dX4_condition_74 (by decide) ?_
            refine q_icmp_eq (tgt := 89) hM dX4_condition_76 (by decide) (rfl : r3665.toInt = r3665.toInt) (kc_124 : (124 : Int32).toInt = 124) (fun h76 => ?_) (fun h76 => ?_)
            · refine q_aload_n hM dX4_condition_89 (lv_at hl 3 rfl) ?_
              refine w_get (v := .ref (ad lw)) hM hW FG_X4_15 lb_79 ((hW.2.2.1 79 4 (by omega)).trans h_r4) dX4_condition_90 ?_
              refine q_iconst (v := (5 : Int32)) hM dX4_condition_93 (by decide) ?_
              refine q_iload_n hM dX4_condition_94 (lv_at hl 5 rfl) ?_
              refine q_callV (As := [.int (5 : Int32), .int w4_3]) (rest := []) hM hW.1 hR hC myX3_add (kAW (v_2_7 (List.mem_of_getElem? (i := 13) rfl)) rfl) (rfl : vwCl[3]? = some (RX3, TX3, 8)) rfl (lo_Lw hlw).1 (shO hW.2.1 (lo_Lw hlw)) (a_X3_add _ _ cA ad g3673 lw (5 : Int32) w4_3 hW.2.1 hG hlw (by have := kc_5; omega) (by have := kc_5; omega)) ⟨by decide, by decide⟩ rfl rfl hl.1 (Nat.le_of_ble_eq_true rfl) dX4_condition_95 (fun v g3677 H locs hp hW1 => ?_)
              obtain ⟨rfl, hs1, hG, hf1⟩ := hp
              have f3678 : fld g3677 79 2 = .int v3658 := (hf1.1 79 2 (by omega)).trans f3674
              have hW : WS ad cA (fun i k => (i = 79 ∧ (k = 2 ∨ k = 3)) ∨ (i = lw ∧ (k = 7)) ∨ i = (lw + 4) ∨ i = (lw + 5)) g0 K g3677 H locs := ⟨hW1, hs1, hW.2.2.tr hf1 (fun i k h => h.elim (fun h => (Or.inr (Or.inl h))) (fun h => h.elim (fun h => (Or.inr (Or.inr (Or.inl h)))) (fun h => (Or.inr (Or.inr (Or.inr h))))))⟩
              refine q_iload hM dX4_condition_98 (lv_at hl 1 rfl) ?_
              refine q_istore_n (lv9 := [(3, .int x3667), (2, .int ((-1) : Int32)), (5, .int x3667), (4, .int r3665), (0, .ref (ad 79)), (1, .int op)]) hM dX4_condition_100 hl (by decide) rfl (fun ls hl => ?_)
              have := kc_m1
              exact L101 ((-1) : Int32) x3667 _ _ _ _ hG (by omega) (by omega) (by omega) (by omega) (by omega) f3678 (lv_sub hl [4, 5, 1, 0, 3, 2] rfl) hW
            · refine q_aload_n hM dX4_condition_79 (lv_at hl 3 rfl) ?_
              refine w_get (v := .ref (ad lw)) hM hW FG_X4_15 lb_79 ((hW.2.2.1 79 4 (by omega)).trans h_r4) dX4_condition_80 ?_
              refine q_iload_n hM dX4_condition_83 (lv_at hl 5 rfl) ?_
              refine q_callV (As := [.int w4_3]) (rest := []) hM hW.1 hR hC myX3_land (kAW (v_2_8 (List.mem_of_getElem? (i := 10) rfl)) rfl) (rfl : vwCl[3]? = some (RX3, TX3, 8)) rfl (lo_Lw hlw).1 (shO hW.2.1 (lo_Lw hlw)) (a_X3_land _ _ cA ad g3673 lw w4_3 hW.2.1 hG hlw) ⟨by decide, by decide⟩ rfl rfl hl.1 (Nat.le_of_ble_eq_true rfl) dX4_condition_84 (fun v g3680 H locs hp hW1 => ?_)
              obtain ⟨rfl, hs1, hG, hf1⟩ := hp
              have f3681 : fld g3680 79 2 = .int v3658 := (hf1.1 79 2 (by omega)).trans f3674
              have f3682 : fld g3680 lw 7 = .int x3667 := (hf1.1 lw 7 (by omega)).trans f3675
              have hW : WS ad cA (fun i k => (i = 79 ∧ (k = 2 ∨ k = 3)) ∨ (i = lw ∧ (k = 7)) ∨ i = (lw + 4) ∨ i = (lw + 5)) g0 K g3680 H locs := ⟨hW1, hs1, hW.2.2.tr hf1 (fun i k h => (Or.inr (Or.inr (Or.inr h))))⟩
              refine q_iconst (v := (1 : Int32)) hM dX4_condition_87 (by decide) ?_
              exact hE _ _ _ _ _ _ hW.1 nz_1 ⟨v3658, _, rfl, hW.2.1, hG, hW.2.2, f3681, (by have := kc_1; omega), (by have := kc_1; omega), (by have := kc_1; omega)⟩ dX4_condition_88
          · refine q_aload_n hM dX4_condition_47 (lv_at hl 2 rfl) ?_
            refine w_get (v := .ref (ad lw)) hM hW FG_X4_15 lb_79 ((hW.2.2.1 79 4 (by omega)).trans h_r4) dX4_condition_48 ?_
            refine q_iconst (v := (4 : Int32)) hM dX4_condition_51 (by decide) ?_
            refine q_iload_n hM dX4_condition_52 (lv_at hl 4 rfl) ?_
            refine q_callV (As := [.int (4 : Int32), .int w4_2]) (rest := []) hM hW.1 hR hC myX3_add (kAW (v_2_7 (List.mem_of_getElem? (i := 13) rfl)) rfl) (rfl : vwCl[3]? = some (RX3, TX3, 8)) rfl (lo_Lw hlw).1 (shO hW.2.1 (lo_Lw hlw)) (a_X3_add _ _ cA ad g3663 lw (4 : Int32) w4_2 hW.2.1 hG hlw (by have := kc_4; omega) (by have := kc_4; omega)) ⟨by decide, by decide⟩ rfl rfl hl.1 (Nat.le_of_ble_eq_true rfl) dX4_condition_53 (fun v g3684 H locs hp hW1 => ?_)
            obtain ⟨rfl, hs1, hG, hf1⟩ := hp
            have f3685 : fld g3684 79 2 = .int v3658 := (hf1.1 79 2 (by omega)).trans q3660
            have hW : WS ad cA (fun i k => (i = 79 ∧ (k = 2 ∨ k = 3)) ∨ (i = lw ∧ (k = 7)) ∨ i = (lw + 4) ∨ i = (lw + 5)) g0 K g3684 H locs := ⟨hW1, hs1, hW.2.2.tr hf1 (fun i k h => h.elim (fun h => (Or.inr (Or.inl h))) (fun h => h.elim (fun h => (Or.inr (Or.inr (Or.inl h)))) (fun h => (Or.inr (Or.inr (Or.inr h))))))⟩
            refine q_iload hM dX4_condition_56 (lv_at hl 0 rfl) ?_
            refine q_istore_n (lv9 := [(2, .int x3667), (5, .int x3667), (4, .int r3665), (0, .ref (ad 79)), (1, .int op), (3, .int w4_3)]) hM dX4_condition_58 hl (by decide) rfl (fun ls hl => ?_)
            refine q_goto (tgt := 101) hM dX4_condition_59 (by decide) ?_
            exact L101 x3667 w4_3 _ _ _ _ hG (by omega) (by omega) (by omega) (by omega) (by omega) f3685 (lv_sub hl [3, 4, 0, 5, 2, 1] rfl) hW
        · refine q_iconst (v := (0 : Int32)) hM dX4_condition_23 (by decide) ?_
          exact hE _ _ _ _ _ _ hW.1 nz_0 ⟨v3658, _, rfl, hW.2.1, hG, hW.2.2, q3660, (by have := kc_0; omega), (by have := kc_0; omega), (by have := kc_0; omega)⟩ dX4_condition_24
  have := kc_m1
  have := kc_m1
  exact L4 _ ((-1) : Int32) ((-1) : Int32) a0 _ _ _ _ (Nat.lt_succ_self _) hG (by omega) (by omega) (by omega) (by omega) (by omega) (by omega) f3651 (lv_sub hl [2, 3, 1, 0] rfl) hW


set_option maxRecDepth 100000 in
set_option maxHeartbeats 4000000 in
theorem a_X4_factor_2 (l : Launch) (D : va_G) (cA : Nat → ClassId) (ad : Nat → Nat) (g0 : Nat → va_E) (op : Int32) (en : Int32) (a0 : Int32) (lw : Nat) (hSh : Shp ad cA g0) (hG : Rng g0) (hlw : isLw lw) (h_en : fld g0 79 1 = .int en) (h_a0 : fld g0 79 2 = .int a0) (h_r4 : fld g0 79 4 = .ref (ad lw)) (ah0 : 0 ≤ a0.toInt) (ah1 : a0.toInt ≤ en.toInt) (ah2 : en.toInt ≤ 240) (ok : op.toInt = 2) : CT l NN ad cA D yX4_factor cX4_factor 4 (some FieldType.boolean) (13, 300) [.ref (ad 79), .int op] g0 (fun v g' => ∃ (a9 : Int32) (r : Int32), v = some (.int r) ∧ Shp ad cA g' ∧ Rng g' ∧ FR (fun i k => (i = 79 ∧ (k = 2 ∨ k = 3)) ∨ (i = lw ∧ (k = 7)) ∨ i = (lw + 4) ∨ i = (lw + 5)) g0 g' ∧ fld g' 79 2 = .int a9 ∧ (a0.toInt ≤ a9.toInt) ∧ (a9.toInt ≤ en.toInt) ∧ (r.toInt = 0 ∨ r.toInt = 1)) := by
  refine q_enterZ (by decide) (Nat.le_of_ble_eq_true rfl) (fun K H locs ls _ _ hM hW0 hR hC hE hl => ?_)
  have hl : lv_has ls 4 [(0, .ref (ad 79)), (1, .int op)] := hl
  have hW : WS ad cA (fun i k => (i = 79 ∧ (k = 2 ∨ k = 3)) ∨ (i = lw ∧ (k = 7)) ∨ i = (lw + 4) ∨ i = (lw + 5)) g0 K g0 H locs := ⟨hW0, hSh, FR.rf⟩
  have ulw := hlw
  unfold isLw at ulw
  have b_en := hG.f h_en rF_79_1 (by decide)
  have b_a0 := hG.f h_a0 rF_79_2 (by decide)
  have f3687 : fld g0 79 2 = .int a0 := h_a0
  refine q_aload_n hM dX4_factor_0 (lv_at hl 0 rfl) ?_
  refine q_callV (As := []) (rest := []) hM hW.1 hR hC myX4_sign (kAW (v_2_0 (List.mem_of_getElem? (i := 12) rfl)) rfl) (rfl : vwCl[4]? = some (RX4, TX4, 5)) rfl lb_79.1 (shO hW.2.1 lb_79) (a_X4_sign _ _ cA ad g0 en a0 hW.2.1 hG ((hW.2.2.1 79 1 (by omega)).trans h_en) f3687 (by  omega) (by  omega) (by  omega)) ⟨by decide, by decide⟩ rfl rfl hl.1 (Nat.le_of_ble_eq_true rfl) dX4_factor_1 (fun v g3689 H locs hp hW1 => ?_)
  obtain ⟨r3688, rfl, hr3688, rfl⟩ := hp
  have hW : WS ad cA (fun i k => (i = 79 ∧ (k = 2 ∨ k = 3)) ∨ (i = lw ∧ (k = 7)) ∨ i = (lw + 4) ∨ i = (lw + 5)) g0 K g0 H locs := ⟨hW1, hW.2.1, hW.2.2⟩
  refine q_istore_n (lv9 := [(2, .int r3688), (0, .ref (ad 79)), (1, .int op)]) hM dX4_factor_4 hl (by decide) rfl (fun ls hl => ?_)
  refine q_iload_n hM dX4_factor_5 (lv_at hl 0 rfl) ?_
  refine q_bipush (v := (91 : Int32)) hM dX4_factor_6 (by decide) ?_
  refine q_icmp_ne (tgt := 58) hM dX4_factor_8 (by decide) (rfl : r3688.toInt = r3688.toInt) (kc_91 : (91 : Int32).toInt = 91) (fun h8 => ?_) (fun h8 => ?_)
  · refine q_iload_n hM dX4_factor_58 (lv_at hl 0 rfl) ?_
    refine q_bipush (v := (48 : Int32)) hM dX4_factor_59 (by decide) ?_
    refine q_bipush (v := (57 : Int32)) hM dX4_factor_61 (by decide) ?_
    refine q_callN (host := "ForgetSchool") (As := [.int r3688, .int (48 : Int32), .int (57 : Int32)]) (rest := []) hM hW.1 hR hC myX11_within (List.mem_of_getElem? (i := 2) rfl) (c_X11_within _ _ cA ad g0 r3688 (48 : Int32) (57 : Int32) hW.2.1) ⟨by decide, by decide⟩ rfl rfl hl.1 (Nat.le_of_ble_eq_true rfl) dX4_factor_63 (fun v g3692 H locs hp hW1 => ?_)
    obtain ⟨r3691, rfl, hr3691, rfl⟩ := hp
    have hW : WS ad cA (fun i k => (i = 79 ∧ (k = 2 ∨ k = 3)) ∨ (i = lw ∧ (k = 7)) ∨ i = (lw + 4) ∨ i = (lw + 5)) g0 K g0 H locs := ⟨hW1, hW.2.1, hW.2.2⟩
    have := kc_48
    have := kc_57
    refine q_if_eq (tgt := 102) hM dX4_factor_66 (by decide) (rfl : r3691.toInt = r3691.toInt) (fun h66 => ?_) (fun h66 => ?_)
    · refine q_ldcS1 hM hW.1 rfl dX4_factor_102 ?_
      refine q_iload_n hM dX4_factor_104 (lv_at hl 0 rfl) ?_
      refine q_callS (As := [.ref (ad 401), .int r3688]) (rest := []) hM hW.1 hR hC myX4_placeOf (kAW (v_2_1 (List.mem_of_getElem? (i := 1) rfl)) rfl) (a_X4_placeOf_1 _ _ cA ad g0 r3688 hW.2.1 hG) ⟨by decide, by decide⟩ rfl rfl hl.1 (Nat.le_of_ble_eq_true rfl) dX4_factor_105 (fun v g3695 H locs hp hW1 => ?_)
      obtain ⟨r3694, rfl, hr3694, rfl⟩ := hp
      have hW : WS ad cA (fun i k => (i = 79 ∧ (k = 2 ∨ k = 3)) ∨ (i = lw ∧ (k = 7)) ∨ i = (lw + 4) ∨ i = (lw + 5)) g0 K g0 H locs := ⟨hW1, hW.2.1, hW.2.2⟩
      refine q_istore_n (lv9 := [(3, .int r3694), (2, .int r3688), (0, .ref (ad 79)), (1, .int op)]) hM dX4_factor_108 hl (by decide) rfl (fun ls hl => ?_)
      refine q_iload_n hM dX4_factor_109 (lv_at hl 0 rfl) ?_
      refine q_if_ge (tgt := 119) hM dX4_factor_110 (by decide) (rfl : r3694.toInt = r3694.toInt) (fun h110 => ?_) (fun h110 => ?_)
      · refine q_aload_n hM dX4_factor_119 (lv_at hl 2 rfl) ?_
        refine w_get (v := .ref (ad lw)) hM hW FG_X4_15 lb_79 ((hW.2.2.1 79 4 (by omega)).trans h_r4) dX4_factor_120 ?_
        refine q_iconst (v := (2 : Int32)) hM dX4_factor_123 (by decide) ?_
        refine q_iload_n hM dX4_factor_124 (lv_at hl 0 rfl) ?_
        refine q_callV (As := [.int (2 : Int32), .int r3694]) (rest := []) hM hW.1 hR hC myX3_add (kAW (v_2_7 (List.mem_of_getElem? (i := 13) rfl)) rfl) (rfl : vwCl[3]? = some (RX3, TX3, 8)) rfl (lo_Lw hlw).1 (shO hW.2.1 (lo_Lw hlw)) (a_X3_add _ _ cA ad g0 lw (2 : Int32) r3694 hW.2.1 hG hlw (by have := kc_2; omega) (by have := kc_2; omega)) ⟨by decide, by decide⟩ rfl rfl hl.1 (Nat.le_of_ble_eq_true rfl) dX4_factor_125 (fun v g3697 H locs hp hW1 => ?_)
        obtain ⟨rfl, hs1, hG, hf1⟩ := hp
        have f3698 : fld g3697 79 2 = .int a0 := (hf1.1 79 2 (by omega)).trans f3687
        have hW : WS ad cA (fun i k => (i = 79 ∧ (k = 2 ∨ k = 3)) ∨ (i = lw ∧ (k = 7)) ∨ i = (lw + 4) ∨ i = (lw + 5)) g0 K g3697 H locs := ⟨hW1, hs1, hW.2.2.tr hf1 (fun i k h => h.elim (fun h => (Or.inr (Or.inl h))) (fun h => h.elim (fun h => (Or.inr (Or.inr (Or.inl h)))) (fun h => (Or.inr (Or.inr (Or.inr h))))))⟩
        refine q_aload_n hM dX4_factor_128 (lv_at hl 2 rfl) ?_
        refine q_dup hM dX4_factor_129 rfl ?_
        refine w_get (v := .int a0) hM hW FG_X4_23 lb_79 f3698 dX4_factor_130 ?_
        have ba0 := hG.f f3698 rF_79_2 (by decide)
        refine q_iconst (v := (1 : Int32)) hM dX4_factor_133 (by decide) ?_
        refine q_iadd hM dX4_factor_134 (fun z3699 hz3699 => ?_)
        first | have tz3699 := i_addT hz3699 (rfl : a0.toInt = a0.toInt) (kc_1 : (1 : Int32).toInt = 1) (by omega) (by omega) | skip
        refine w_put hM hW FP_X4_23 lb_79 (by omega) (Or.inl ⟨_, rfl⟩) rfl rfl dX4_factor_135 (fun g3700 H locs hW e1 e2 => ?_)
        have f3701 : fld g3700 79 2 = .int z3699 := e1
        have hG := hG.put e1 e2 rF_79_2 (by decide) (by have := i_rng z3699; omega) (by have := i_rng z3699; omega)
        refine q_iconst (v := (1 : Int32)) hM dX4_factor_138 (by decide) ?_
        exact hE _ _ _ _ _ _ hW.1 nz_1 ⟨z3699, _, rfl, hW.2.1, hG, hW.2.2, f3701, (by have := kc_1; omega), (by have := kc_1; omega), (by have := kc_1; omega)⟩ dX4_factor_139
      · refine q_aload_n hM dX4_factor_113 (lv_at hl 2 rfl) ?_
        refine q_iconst (v := (1 : Int32)) hM dX4_factor_114 (by decide) ?_
        refine q_callV (As := [.int (1 : Int32)]) (rest := []) hM hW.1 hR hC myX4_wrong (kAW (v_2_6 (List.mem_of_getElem? (i := 8) rfl)) rfl) (rfl : vwCl[4]? = some (RX4, TX4, 5)) rfl lb_79.1 (shO hW.2.1 lb_79) (a_X4_wrong _ _ cA ad g0 (1 : Int32) hW.2.1 hG) ⟨by decide, by decide⟩ rfl rfl hl.1 (Nat.le_of_ble_eq_true rfl) dX4_factor_115 (fun v g3704 H locs hp hW1 => ?_)
        obtain ⟨r3703, rfl, hs1, hG, hf1, hr3703⟩ := hp
        have f3705 : fld g3704 79 2 = .int a0 := (hf1.1 79 2 (by omega)).trans f3687
        have hW : WS ad cA (fun i k => (i = 79 ∧ (k = 2 ∨ k = 3)) ∨ (i = lw ∧ (k = 7)) ∨ i = (lw + 4) ∨ i = (lw + 5)) g0 K g3704 H locs := ⟨hW1, hs1, hW.2.2.tr hf1 (fun i k h => (Or.inl (by omega)))⟩
        exact hE _ _ _ _ _ _ hW.1 (nz_or (by omega)) ⟨a0, _, rfl, hW.2.1, hG, hW.2.2, f3705, (by omega), (by omega), (by omega)⟩ dX4_factor_118
    · refine q_aload_n hM dX4_factor_69 (lv_at hl 1 rfl) ?_
      refine q_callV (As := []) (rest := []) hM hW.1 hR hC myX4_number (kAW (v_2_7 (List.mem_of_getElem? (i := 9) rfl)) rfl) (rfl : vwCl[4]? = some (RX4, TX4, 5)) rfl lb_79.1 (shO hW.2.1 lb_79) (a_X4_number _ _ cA ad g0 en a0 hW.2.1 hG ((hW.2.2.1 79 1 (by omega)).trans h_en) f3687 (by  omega) (by  omega) (by  omega)) ⟨by decide, by decide⟩ rfl rfl hl.1 (Nat.le_of_ble_eq_true rfl) dX4_factor_70 (fun v g3712 H locs hp hW1 => ?_)
      obtain ⟨v3707, r3708, rfl, hs1, hG, hf1, q3709, e3710, e3711, hr3708⟩ := hp
      have hW : WS ad cA (fun i k => (i = 79 ∧ (k = 2 ∨ k = 3)) ∨ (i = lw ∧ (k = 7)) ∨ i = (lw + 4) ∨ i = (lw + 5)) g0 K g3712 H locs := ⟨hW1, hs1, hW.2.2.tr hf1 (fun i k h => (Or.inl (by omega)))⟩
      refine q_istore_n (lv9 := [(3, .int r3708), (2, .int r3688), (0, .ref (ad 79)), (1, .int op)]) hM dX4_factor_73 hl (by decide) rfl (fun ls hl => ?_)
      refine q_aload_n hM dX4_factor_74 (lv_at hl 2 rfl) ?_
      refine w_get (v := .ref (ad lw)) hM hW FG_X4_15 lb_79 ((hW.2.2.1 79 4 (by omega)).trans h_r4) dX4_factor_75 ?_
      refine q_iconst (v := (1 : Int32)) hM dX4_factor_78 (by decide) ?_
      refine q_iload_n hM dX4_factor_79 (lv_at hl 0 rfl) ?_
      refine q_callV (As := [.int (1 : Int32), .int r3708]) (rest := []) hM hW.1 hR hC myX3_add (kAW (v_2_7 (List.mem_of_getElem? (i := 13) rfl)) rfl) (rfl : vwCl[3]? = some (RX3, TX3, 8)) rfl (lo_Lw hlw).1 (shO hW.2.1 (lo_Lw hlw)) (a_X3_add _ _ cA ad g3712 lw (1 : Int32) r3708 hW.2.1 hG hlw (by have := kc_1; omega) (by have := kc_1; omega)) ⟨by decide, by decide⟩ rfl rfl hl.1 (Nat.le_of_ble_eq_true rfl) dX4_factor_80 (fun v g3713 H locs hp hW1 => ?_)
      obtain ⟨rfl, hs1, hG, hf1⟩ := hp
      have f3714 : fld g3713 79 2 = .int v3707 := (hf1.1 79 2 (by omega)).trans q3709
      have hW : WS ad cA (fun i k => (i = 79 ∧ (k = 2 ∨ k = 3)) ∨ (i = lw ∧ (k = 7)) ∨ i = (lw + 4) ∨ i = (lw + 5)) g0 K g3713 H locs := ⟨hW1, hs1, hW.2.2.tr hf1 (fun i k h => h.elim (fun h => (Or.inr (Or.inl h))) (fun h => h.elim (fun h => (Or.inr (Or.inr (Or.inl h)))) (fun h => (Or.inr (Or.inr (Or.inr h))))))⟩
      refine q_iload_n hM dX4_factor_83 (lv_at hl 0 rfl) ?_
      refine q_iconst (v := ((-1) : Int32)) hM dX4_factor_84 (by decide) ?_
      refine q_icmp_ne (tgt := 96) hM dX4_factor_85 (by decide) (rfl : r3708.toInt = r3708.toInt) (kc_m1 : ((-1) : Int32).toInt = (-1)) (fun h85 => ?_) (fun h85 => ?_)
      · refine q_iconst (v := (1 : Int32)) hM dX4_factor_96 (by decide) ?_
        refine q_goto (tgt := 101) hM dX4_factor_97 (by decide) ?_
        exact hE _ _ _ _ _ _ hW.1 nz_1 ⟨v3707, _, rfl, hW.2.1, hG, hW.2.2, f3714, (by have := kc_1; omega), (by have := kc_1; omega), (by have := kc_1; omega)⟩ dX4_factor_101
      · refine q_aload_n hM dX4_factor_88 (lv_at hl 2 rfl) ?_
        refine q_iconst (v := (2 : Int32)) hM dX4_factor_89 (by decide) ?_
        refine q_callV (As := [.int (2 : Int32)]) (rest := []) hM hW.1 hR hC myX4_wrong (kAW (v_2_6 (List.mem_of_getElem? (i := 8) rfl)) rfl) (rfl : vwCl[4]? = some (RX4, TX4, 5)) rfl lb_79.1 (shO hW.2.1 lb_79) (a_X4_wrong _ _ cA ad g3713 (2 : Int32) hW.2.1 hG) ⟨by decide, by decide⟩ rfl rfl hl.1 (Nat.le_of_ble_eq_true rfl) dX4_factor_90 (fun v g3718 H locs hp hW1 => ?_)
        obtain ⟨r3717, rfl, hs1, hG, hf1, hr3717⟩ := hp
        have f3719 : fld g3718 79 2 = .int v3707 := (hf1.1 79 2 (by omega)).trans f3714
        have hW : WS ad cA (fun i k => (i = 79 ∧ (k = 2 ∨ k = 3)) ∨ (i = lw ∧ (k = 7)) ∨ i = (lw + 4) ∨ i = (lw + 5)) g0 K g3718 H locs := ⟨hW1, hs1, hW.2.2.tr hf1 (fun i k h => (Or.inl (by omega)))⟩
        refine q_if_eq (tgt := 100) hM dX4_factor_93 (by decide) (rfl : r3717.toInt = r3717.toInt) (fun h93 => ?_) (fun h93 => ?_)
        · refine q_iconst (v := (0 : Int32)) hM dX4_factor_100 (by decide) ?_
          exact hE _ _ _ _ _ _ hW.1 nz_0 ⟨v3707, _, rfl, hW.2.1, hG, hW.2.2, f3719, (by have := kc_0; omega), (by have := kc_0; omega), (by have := kc_0; omega)⟩ dX4_factor_101
        · refine q_iconst (v := (1 : Int32)) hM dX4_factor_96 (by decide) ?_
          refine q_goto (tgt := 101) hM dX4_factor_97 (by decide) ?_
          exact hE _ _ _ _ _ _ hW.1 nz_1 ⟨v3707, _, rfl, hW.2.1, hG, hW.2.2, f3719, (by have := kc_1; omega), (by have := kc_1; omega), (by have := kc_1; omega)⟩ dX4_factor_101
  · refine q_iload_n hM dX4_factor_11 (lv_at hl 2 rfl) ?_
    refine q_bipush (v := (6 : Int32)) hM dX4_factor_12 (by decide) ?_
    refine q_icmp_lt (tgt := 23) hM dX4_factor_14 (by decide) (rfl : op.toInt = op.toInt) (kc_6 : (6 : Int32).toInt = 6) (fun h14 => ?_) (fun h14 => ?_)
    · refine q_aload_n hM dX4_factor_23 (lv_at hl 1 rfl) ?_
      refine q_dup hM dX4_factor_24 rfl ?_
      refine w_get (v := .int a0) hM hW FG_X4_23 lb_79 f3687 dX4_factor_25 ?_
      have ba0 := hG.f f3687 rF_79_2 (by decide)
      refine q_iconst (v := (1 : Int32)) hM dX4_factor_28 (by decide) ?_
      refine q_iadd hM dX4_factor_29 (fun z3724 hz3724 => ?_)
      first | have tz3724 := i_addT hz3724 (rfl : a0.toInt = a0.toInt) (kc_1 : (1 : Int32).toInt = 1) (by omega) (by omega) | skip
      refine w_put hM hW FP_X4_23 lb_79 (by omega) (Or.inl ⟨_, rfl⟩) rfl rfl dX4_factor_30 (fun g3725 H locs hW e1 e2 => ?_)
      have f3726 : fld g3725 79 2 = .int z3724 := e1
      have hG := hG.put e1 e2 rF_79_2 (by decide) (by have := i_rng z3724; omega) (by have := i_rng z3724; omega)
      refine q_aload_n hM dX4_factor_33 (lv_at hl 1 rfl) ?_
      refine q_iload_n hM dX4_factor_34 (lv_at hl 2 rfl) ?_
      refine q_iconst (v := (1 : Int32)) hM dX4_factor_35 (by decide) ?_
      refine q_iadd hM dX4_factor_36 (fun z3727 hz3727 => ?_)
      first | have tz3727 := i_addT hz3727 (rfl : op.toInt = op.toInt) (kc_1 : (1 : Int32).toInt = 1) (by omega) (by omega) | skip
      refine q_callV (As := [.int z3727]) (rest := []) hM hW.1 hR hC myX4_expression (kAW (v_2_6 (List.mem_of_getElem? (i := 12) rfl)) rfl) (rfl : vwCl[4]? = some (RX4, TX4, 5)) rfl lb_79.1 (shO hW.2.1 lb_79) (a_X4_expression_3 _ _ cA ad g3725 z3727 en z3724 lw hW.2.1 hG hlw ((hW.2.2.1 79 1 (by omega)).trans h_en) f3726 ((hW.2.2.1 79 4 (by omega)).trans h_r4) (by  omega) (by  omega) (by  omega) (by  omega)) ⟨by decide, by decide⟩ rfl rfl hl.1 (Nat.le_of_ble_eq_true rfl) dX4_factor_37 (fun v g3733 H locs hp hW1 => ?_)
      obtain ⟨v3728, r3729, rfl, hs1, hG, hf1, q3730, e3731, e3732, hr3729⟩ := hp
      have hW : WS ad cA (fun i k => (i = 79 ∧ (k = 2 ∨ k = 3)) ∨ (i = lw ∧ (k = 7)) ∨ i = (lw + 4) ∨ i = (lw + 5)) g0 K g3733 H locs := ⟨hW1, hs1, hW.2.2.tr hf1 (fun i k h => h.elim (fun h => (Or.inl h)) (fun h => h.elim (fun h => (Or.inr (Or.inl h))) (fun h => h.elim (fun h => (Or.inr (Or.inr (Or.inl h)))) (fun h => (Or.inr (Or.inr (Or.inr h)))))))⟩
      refine q_if_eq (tgt := 56) hM dX4_factor_40 (by decide) (rfl : r3729.toInt = r3729.toInt) (fun h40 => ?_) (fun h40 => ?_)
      · refine q_iconst (v := (0 : Int32)) hM dX4_factor_56 (by decide) ?_
        exact hE _ _ _ _ _ _ hW.1 nz_0 ⟨v3728, _, rfl, hW.2.1, hG, hW.2.2, q3730, (by have := kc_0; omega), (by have := kc_0; omega), (by have := kc_0; omega)⟩ dX4_factor_57
      · refine q_aload_n hM dX4_factor_43 (lv_at hl 1 rfl) ?_
        refine q_bipush (v := (93 : Int32)) hM dX4_factor_44 (by decide) ?_
        refine q_callV (As := [.int (93 : Int32)]) (rest := []) hM hW.1 hR hC myX4_passes (kAW (v_2_7 (List.mem_of_getElem? (i := 4) rfl)) rfl) (rfl : vwCl[4]? = some (RX4, TX4, 5)) rfl lb_79.1 (shO hW.2.1 lb_79) (a_X4_passes _ _ cA ad g3733 (93 : Int32) en v3728 hW.2.1 hG ((hW.2.2.1 79 1 (by omega)).trans h_en) q3730 (by have := kc_93; omega) (by have := kc_93; omega) (by have := kc_93; omega)) ⟨by decide, by decide⟩ rfl rfl hl.1 (Nat.le_of_ble_eq_true rfl) dX4_factor_46 (fun v g3741 H locs hp hW1 => ?_)
        obtain ⟨v3736, r3737, rfl, hs1, hG, hf1, q3738, e3739, e3740, hr3737⟩ := hp
        have hW : WS ad cA (fun i k => (i = 79 ∧ (k = 2 ∨ k = 3)) ∨ (i = lw ∧ (k = 7)) ∨ i = (lw + 4) ∨ i = (lw + 5)) g0 K g3741 H locs := ⟨hW1, hs1, hW.2.2.tr hf1 (fun i k h => (Or.inl h))⟩
        refine q_if_eq (tgt := 56) hM dX4_factor_49 (by decide) (rfl : r3737.toInt = r3737.toInt) (fun h49 => ?_) (fun h49 => ?_)
        · refine q_iconst (v := (0 : Int32)) hM dX4_factor_56 (by decide) ?_
          exact hE _ _ _ _ _ _ hW.1 nz_0 ⟨v3736, _, rfl, hW.2.1, hG, hW.2.2, q3738, (by have := kc_0; omega), (by have := kc_0; omega), (by have := kc_0; omega)⟩ dX4_factor_57
        · refine q_iconst (v := (1 : Int32)) hM dX4_factor_52 (by decide) ?_
          refine q_goto (tgt := 57) hM dX4_factor_53 (by decide) ?_
          exact hE _ _ _ _ _ _ hW.1 nz_1 ⟨v3736, _, rfl, hW.2.1, hG, hW.2.2, q3738, (by have := kc_1; omega), (by have := kc_1; omega), (by have := kc_1; omega)⟩ dX4_factor_57
    · omega


set_option maxRecDepth 100000 in
set_option maxHeartbeats 4000000 in
theorem a_X4_expression_2 (l : Launch) (D : va_G) (cA : Nat → ClassId) (ad : Nat → Nat) (g0 : Nat → va_E) (op : Int32) (en : Int32) (a0 : Int32) (lw : Nat) (hSh : Shp ad cA g0) (hG : Rng g0) (hlw : isLw lw) (h_en : fld g0 79 1 = .int en) (h_a0 : fld g0 79 2 = .int a0) (h_r4 : fld g0 79 4 = .ref (ad lw)) (ah0 : 0 ≤ a0.toInt) (ah1 : a0.toInt ≤ en.toInt) (ah2 : en.toInt ≤ 240) (ok : op.toInt = 2) : CT l NN ad cA D yX4_expression cX4_expression 5 (some FieldType.boolean) (14, 323) [.ref (ad 79), .int op] g0 (fun v g' => ∃ (a9 : Int32) (r : Int32), v = some (.int r) ∧ Shp ad cA g' ∧ Rng g' ∧ FR (fun i k => (i = 79 ∧ (k = 2 ∨ k = 3)) ∨ (i = lw ∧ (k = 7)) ∨ i = (lw + 4) ∨ i = (lw + 5)) g0 g' ∧ fld g' 79 2 = .int a9 ∧ (a0.toInt ≤ a9.toInt) ∧ (a9.toInt ≤ en.toInt) ∧ (r.toInt = 0 ∨ r.toInt = 1)) := by
  refine q_enterZ (by decide) (Nat.le_of_ble_eq_true rfl) (fun K H locs ls _ _ hM hW0 hR hC hE hl => ?_)
  have hl : lv_has ls 5 [(0, .ref (ad 79)), (1, .int op)] := hl
  have hW : WS ad cA (fun i k => (i = 79 ∧ (k = 2 ∨ k = 3)) ∨ (i = lw ∧ (k = 7)) ∨ i = (lw + 4) ∨ i = (lw + 5)) g0 K g0 H locs := ⟨hW0, hSh, FR.rf⟩
  have ulw := hlw
  unfold isLw at ulw
  have b_en := hG.f h_en rF_79_1 (by decide)
  have b_a0 := hG.f h_a0 rF_79_2 (by decide)
  have f3745 : fld g0 79 2 = .int a0 := h_a0
  refine q_iconst (v := ((-1) : Int32)) hM dX4_expression_0 (by decide) ?_
  refine q_istore_n (lv9 := [(2, .int ((-1) : Int32)), (0, .ref (ad 79)), (1, .int op)]) hM dX4_expression_1 hl (by decide) rfl (fun ls hl => ?_)
  refine q_iconst (v := ((-1) : Int32)) hM dX4_expression_2 (by decide) ?_
  refine q_istore_n (lv9 := [(3, .int ((-1) : Int32)), (2, .int ((-1) : Int32)), (0, .ref (ad 79)), (1, .int op)]) hM dX4_expression_3 hl (by decide) rfl (fun ls hl => ?_)
  have L4 : ∀ (fu4 : Nat) (w4_3 : Int32) (w4_2 : Int32) (aa : Int32) (g9 : Nat → va_E) (H : Heap) (locs : List Loc) (ls : Array Slot), (en.toInt - aa.toInt + 1).toNat < fu4 → (Rng g9) → (a0.toInt ≤ aa.toInt) → (aa.toInt ≤ en.toInt) → (fld g9 79 2 = .int aa) → lv_has ls 5 [(0, .ref (ad 79)), (1, .int op), (2, .int w4_2), (3, .int w4_3)] → WS ad cA (fun i k => (i = 79 ∧ (k = 2 ∨ k = 3)) ∨ (i = lw ∧ (k = 7)) ∨ i = (lw + 4) ∨ i = (lw + 5)) g0 K g9 H locs → XX K 0 0 H locs 4 ls [] := by
    intro fu4
    induction fu4 with
    | zero => intro w4_3 w4_2 aa g9 H locs ls h0; omega
    | succ fu4 ih4 =>
      intro w4_3 w4_2 aa g9 H locs ls hm4 i4_0 i4_1 i4_2 c4_79_2 hl hW
      have hG := i4_0
      refine q_aload_n hM dX4_expression_4 (lv_at hl 0 rfl) ?_
      refine w_get (v := .int aa) hM hW FG_X4_23 lb_79 c4_79_2 dX4_expression_5 ?_
      have baa := hG.f c4_79_2 rF_79_2 (by decide)
      refine q_aload_n hM dX4_expression_8 (lv_at hl 0 rfl) ?_
      refine w_get (v := .int en) hM hW FG_X4_19 lb_79 ((hW.2.2.1 79 1 (by omega)).trans h_en) dX4_expression_9 ?_
      refine q_icmp_gt (tgt := 133) hM dX4_expression_12 (by decide) (rfl : aa.toInt = aa.toInt) (rfl : en.toInt = en.toInt) (fun h12 => ?_) (fun h12 => ?_)
      · refine q_aload_n hM dX4_expression_133 (lv_at hl 0 rfl) ?_
        refine q_iconst (v := (1 : Int32)) hM dX4_expression_134 (by decide) ?_
        refine q_callV (As := [.int (1 : Int32)]) (rest := []) hM hW.1 hR hC myX4_wrong (kAW (v_2_6 (List.mem_of_getElem? (i := 8) rfl)) rfl) (rfl : vwCl[4]? = some (RX4, TX4, 5)) rfl lb_79.1 (shO hW.2.1 lb_79) (a_X4_wrong _ _ cA ad g9 (1 : Int32) hW.2.1 hG) ⟨by decide, by decide⟩ rfl rfl hl.1 (Nat.le_of_ble_eq_true rfl) dX4_expression_135 (fun v g3749 H locs hp hW1 => ?_)
        obtain ⟨r3748, rfl, hs1, hG, hf1, hr3748⟩ := hp
        have f3750 : fld g3749 79 2 = .int aa := (hf1.1 79 2 (by omega)).trans c4_79_2
        have hW : WS ad cA (fun i k => (i = 79 ∧ (k = 2 ∨ k = 3)) ∨ (i = lw ∧ (k = 7)) ∨ i = (lw + 4) ∨ i = (lw + 5)) g0 K g3749 H locs := ⟨hW1, hs1, hW.2.2.tr hf1 (fun i k h => (Or.inl (by omega)))⟩
        exact hE _ _ _ _ _ _ hW.1 (nz_or (by omega)) ⟨aa, _, rfl, hW.2.1, hG, hW.2.2, f3750, (by omega), (by omega), (by omega)⟩ dX4_expression_138
      · refine q_aload_n hM dX4_expression_15 (lv_at hl 0 rfl) ?_
        refine q_iload_n hM dX4_expression_16 (lv_at hl 1 rfl) ?_
        refine q_callV (As := [.int op]) (rest := []) hM hW.1 hR hC myX4_factor (kAW (v_2_7 (List.mem_of_getElem? (i := 0) rfl)) rfl) (rfl : vwCl[4]? = some (RX4, TX4, 5)) rfl lb_79.1 (shO hW.2.1 lb_79) (a_X4_factor_2 _ _ cA ad g9 op en aa lw hW.2.1 hG hlw ((hW.2.2.1 79 1 (by omega)).trans h_en) c4_79_2 ((hW.2.2.1 79 4 (by omega)).trans h_r4) (by  omega) (by  omega) (by  omega) (by  omega)) ⟨by decide, by decide⟩ rfl rfl hl.1 (Nat.le_of_ble_eq_true rfl) dX4_expression_17 (fun v g3757 H locs hp hW1 => ?_)
        obtain ⟨v3752, r3753, rfl, hs1, hG, hf1, q3754, e3755, e3756, hr3753⟩ := hp
        have hW : WS ad cA (fun i k => (i = 79 ∧ (k = 2 ∨ k = 3)) ∨ (i = lw ∧ (k = 7)) ∨ i = (lw + 4) ∨ i = (lw + 5)) g0 K g3757 H locs := ⟨hW1, hs1, hW.2.2.tr hf1 (fun i k h => h.elim (fun h => (Or.inl h)) (fun h => h.elim (fun h => (Or.inr (Or.inl h))) (fun h => h.elim (fun h => (Or.inr (Or.inr (Or.inl h)))) (fun h => (Or.inr (Or.inr (Or.inr h)))))))⟩
        refine q_if_ne (tgt := 25) hM dX4_expression_20 (by decide) (rfl : r3753.toInt = r3753.toInt) (fun h20 => ?_) (fun h20 => ?_)
        · have L39 : ∀ (g9 : Nat → va_E) (H : Heap) (locs : List Loc) (ls : Array Slot), (Rng g9) → (fld g9 79 2 = .int v3752) → lv_has ls 5 [(0, .ref (ad 79)), (1, .int op), (2, .int w4_2), (3, .int w4_3)] → WS ad cA (fun i k => (i = 79 ∧ (k = 2 ∨ k = 3)) ∨ (i = lw ∧ (k = 7)) ∨ i = (lw + 4) ∨ i = (lw + 5)) g0 K g9 H locs → XX K 0 0 H locs 39 ls [] := by
            intro g9 H locs ls i39_0 c39_79_2 hl hW
            have hG := i39_0
            refine q_aload_n hM dX4_expression_39 (lv_at hl 0 rfl) ?_
            refine q_callV (As := []) (rest := []) hM hW.1 hR hC myX4_sign (kAW (v_2_0 (List.mem_of_getElem? (i := 12) rfl)) rfl) (rfl : vwCl[4]? = some (RX4, TX4, 5)) rfl lb_79.1 (shO hW.2.1 lb_79) (a_X4_sign _ _ cA ad g9 en v3752 hW.2.1 hG ((hW.2.2.1 79 1 (by omega)).trans h_en) c39_79_2 (by  omega) (by  omega) (by  omega)) ⟨by decide, by decide⟩ rfl rfl hl.1 (Nat.le_of_ble_eq_true rfl) dX4_expression_40 (fun v g3761 H locs hp hW1 => ?_)
            obtain ⟨r3760, rfl, hr3760, rfl⟩ := hp
            have hW : WS ad cA (fun i k => (i = 79 ∧ (k = 2 ∨ k = 3)) ∨ (i = lw ∧ (k = 7)) ∨ i = (lw + 4) ∨ i = (lw + 5)) g0 K g9 H locs := ⟨hW1, hW.2.1, hW.2.2⟩
            refine q_istore (lv9 := [(4, .int r3760), (0, .ref (ad 79)), (1, .int op), (2, .int w4_2), (3, .int w4_3)]) hM dX4_expression_43 hl (by decide) rfl (fun ls hl => ?_)
            have L73 : ∀ (p73 : Int32) (g9 : Nat → va_E) (H : Heap) (locs : List Loc) (ls : Array Slot), (Rng g9) → (p73.toInt = -1 ∨ 0 ≤ r3760.toInt) → (fld g9 79 2 = .int v3752) → lv_has ls 5 [(0, .ref (ad 79)), (1, .int op), (2, .int w4_2), (3, .int p73), (4, .int r3760)] → WS ad cA (fun i k => (i = 79 ∧ (k = 2 ∨ k = 3)) ∨ (i = lw ∧ (k = 7)) ∨ i = (lw + 4) ∨ i = (lw + 5)) g0 K g9 H locs → XX K 0 0 H locs 73 ls [] := by
              intro p73 g9 H locs ls i73_0 i73_1 c73_79_2 hl hW
              have hG := i73_0
              refine q_iload_n hM dX4_expression_73 (lv_at hl 3 rfl) ?_
              refine q_iconst (v := ((-1) : Int32)) hM dX4_expression_74 (by decide) ?_
              refine q_icmp_ne (tgt := 120) hM dX4_expression_75 (by decide) (rfl : p73.toInt = p73.toInt) (kc_m1 : ((-1) : Int32).toInt = (-1)) (fun h75 => ?_) (fun h75 => ?_)
              · refine q_aload_n hM dX4_expression_120 (lv_at hl 0 rfl) ?_
                refine q_dup hM dX4_expression_121 rfl ?_
                refine w_get (v := .int v3752) hM hW FG_X4_23 lb_79 c73_79_2 dX4_expression_122 ?_
                have bv3752 := hG.f c73_79_2 rF_79_2 (by decide)
                refine q_iconst (v := (1 : Int32)) hM dX4_expression_125 (by decide) ?_
                refine q_iadd hM dX4_expression_126 (fun z3764 hz3764 => ?_)
                first | have tz3764 := i_addT hz3764 (rfl : v3752.toInt = v3752.toInt) (kc_1 : (1 : Int32).toInt = 1) (by omega) (by omega) | skip
                refine w_put hM hW FP_X4_23 lb_79 (by omega) (Or.inl ⟨_, rfl⟩) rfl rfl dX4_expression_127 (fun g3765 H locs hW e1 e2 => ?_)
                have f3766 : fld g3765 79 2 = .int z3764 := e1
                have hG := hG.put e1 e2 rF_79_2 (by decide) (by have := i_rng z3764; omega) (by have := i_rng z3764; omega)
                refine q_goto (tgt := 4) hM dX4_expression_130 (by decide) ?_
                exact ih4 p73 w4_2 z3764 _ _ _ _ (by omega) hG (by omega) (by omega) f3766 (lv_sub hl [0, 1, 2, 3] rfl) hW
              · have L92 : ∀ (g9 : Nat → va_E) (H : Heap) (locs : List Loc) (ls : Array Slot), (Rng g9) → (fld g9 79 2 = .int v3752) → lv_has ls 5 [(0, .ref (ad 79)), (1, .int op), (2, .int w4_2), (3, .int p73), (4, .int r3760)] → WS ad cA (fun i k => (i = 79 ∧ (k = 2 ∨ k = 3)) ∨ (i = lw ∧ (k = 7)) ∨ i = (lw + 4) ∨ i = (lw + 5)) g0 K g9 H locs → XX K 0 0 H locs 92 ls [] := by
                  intro g9 H locs ls i92_0 c92_79_2 hl hW
                  have hG := i92_0
                  refine q_iload hM dX4_expression_92 (lv_at hl 4 rfl) ?_
                  refine q_bipush (v := (43 : Int32)) hM dX4_expression_94 (by decide) ?_
                  refine q_icmp_eq (tgt := 106) hM dX4_expression_96 (by decide) (rfl : r3760.toInt = r3760.toInt) (kc_43 : (43 : Int32).toInt = 43) (fun h96 => ?_) (fun h96 => ?_)
                  · refine q_iload hM dX4_expression_106 (lv_at hl 4 rfl) ?_
                    refine q_goto (tgt := 112) hM dX4_expression_108 (by decide) ?_
                    refine q_istore_n (lv9 := [(2, .int r3760), (0, .ref (ad 79)), (1, .int op), (3, .int p73), (4, .int r3760)]) hM dX4_expression_112 hl (by decide) rfl (fun ls hl => ?_)
                    refine q_iload_n hM dX4_expression_113 (lv_at hl 0 rfl) ?_
                    refine q_iconst (v := ((-1) : Int32)) hM dX4_expression_114 (by decide) ?_
                    refine q_icmp_ne (tgt := 120) hM dX4_expression_115 (by decide) (rfl : r3760.toInt = r3760.toInt) (kc_m1 : ((-1) : Int32).toInt = (-1)) (fun h115 => ?_) (fun h115 => ?_)
                    · refine q_aload_n hM dX4_expression_120 (lv_at hl 1 rfl) ?_
                      refine q_dup hM dX4_expression_121 rfl ?_
                      refine w_get (v := .int v3752) hM hW FG_X4_23 lb_79 c92_79_2 dX4_expression_122 ?_
                      have bv3752 := hG.f c92_79_2 rF_79_2 (by decide)
                      refine q_iconst (v := (1 : Int32)) hM dX4_expression_125 (by decide) ?_
                      refine q_iadd hM dX4_expression_126 (fun z3771 hz3771 => ?_)
                      first | have tz3771 := i_addT hz3771 (rfl : v3752.toInt = v3752.toInt) (kc_1 : (1 : Int32).toInt = 1) (by omega) (by omega) | skip
                      refine w_put hM hW FP_X4_23 lb_79 (by omega) (Or.inl ⟨_, rfl⟩) rfl rfl dX4_expression_127 (fun g3772 H locs hW e1 e2 => ?_)
                      have f3773 : fld g3772 79 2 = .int z3771 := e1
                      have hG := hG.put e1 e2 rF_79_2 (by decide) (by have := i_rng z3771; omega) (by have := i_rng z3771; omega)
                      refine q_goto (tgt := 4) hM dX4_expression_130 (by decide) ?_
                      exact ih4 p73 r3760 z3771 _ _ _ _ (by omega) hG (by omega) (by omega) f3773 (lv_sub hl [1, 2, 0, 3] rfl) hW
                    · refine q_iconst (v := (1 : Int32)) hM dX4_expression_118 (by decide) ?_
                      exact hE _ _ _ _ _ _ hW.1 nz_1 ⟨v3752, _, rfl, hW.2.1, hG, hW.2.2, c92_79_2, (by have := kc_1; omega), (by have := kc_1; omega), (by have := kc_1; omega)⟩ dX4_expression_119
                  · refine q_iload hM dX4_expression_99 (lv_at hl 4 rfl) ?_
                    refine q_bipush (v := (45 : Int32)) hM dX4_expression_101 (by decide) ?_
                    refine q_icmp_ne (tgt := 111) hM dX4_expression_103 (by decide) (rfl : r3760.toInt = r3760.toInt) (kc_45 : (45 : Int32).toInt = 45) (fun h103 => ?_) (fun h103 => ?_)
                    · refine q_iconst (v := ((-1) : Int32)) hM dX4_expression_111 (by decide) ?_
                      refine q_istore_n (lv9 := [(2, .int ((-1) : Int32)), (0, .ref (ad 79)), (1, .int op), (3, .int p73), (4, .int r3760)]) hM dX4_expression_112 hl (by decide) rfl (fun ls hl => ?_)
                      refine q_iload_n hM dX4_expression_113 (lv_at hl 0 rfl) ?_
                      refine q_iconst (v := ((-1) : Int32)) hM dX4_expression_114 (by decide) ?_
                      refine q_icmp_ne (tgt := 120) hM dX4_expression_115 (by decide) (kc_m1 : ((-1) : Int32).toInt = (-1)) (kc_m1 : ((-1) : Int32).toInt = (-1)) (fun h115 => ?_) (fun h115 => ?_)
                      · omega
                      · refine q_iconst (v := (1 : Int32)) hM dX4_expression_118 (by decide) ?_
                        exact hE _ _ _ _ _ _ hW.1 nz_1 ⟨v3752, _, rfl, hW.2.1, hG, hW.2.2, c92_79_2, (by have := kc_1; omega), (by have := kc_1; omega), (by have := kc_1; omega)⟩ dX4_expression_119
                    · refine q_iload hM dX4_expression_106 (lv_at hl 4 rfl) ?_
                      refine q_goto (tgt := 112) hM dX4_expression_108 (by decide) ?_
                      refine q_istore_n (lv9 := [(2, .int r3760), (0, .ref (ad 79)), (1, .int op), (3, .int p73), (4, .int r3760)]) hM dX4_expression_112 hl (by decide) rfl (fun ls hl => ?_)
                      refine q_iload_n hM dX4_expression_113 (lv_at hl 0 rfl) ?_
                      refine q_iconst (v := ((-1) : Int32)) hM dX4_expression_114 (by decide) ?_
                      refine q_icmp_ne (tgt := 120) hM dX4_expression_115 (by decide) (rfl : r3760.toInt = r3760.toInt) (kc_m1 : ((-1) : Int32).toInt = (-1)) (fun h115 => ?_) (fun h115 => ?_)
                      · refine q_aload_n hM dX4_expression_120 (lv_at hl 1 rfl) ?_
                        refine q_dup hM dX4_expression_121 rfl ?_
                        refine w_get (v := .int v3752) hM hW FG_X4_23 lb_79 c92_79_2 dX4_expression_122 ?_
                        have bv3752 := hG.f c92_79_2 rF_79_2 (by decide)
                        refine q_iconst (v := (1 : Int32)) hM dX4_expression_125 (by decide) ?_
                        refine q_iadd hM dX4_expression_126 (fun z3781 hz3781 => ?_)
                        first | have tz3781 := i_addT hz3781 (rfl : v3752.toInt = v3752.toInt) (kc_1 : (1 : Int32).toInt = 1) (by omega) (by omega) | skip
                        refine w_put hM hW FP_X4_23 lb_79 (by omega) (Or.inl ⟨_, rfl⟩) rfl rfl dX4_expression_127 (fun g3782 H locs hW e1 e2 => ?_)
                        have f3783 : fld g3782 79 2 = .int z3781 := e1
                        have hG := hG.put e1 e2 rF_79_2 (by decide) (by have := i_rng z3781; omega) (by have := i_rng z3781; omega)
                        refine q_goto (tgt := 4) hM dX4_expression_130 (by decide) ?_
                        exact ih4 p73 r3760 z3781 _ _ _ _ (by omega) hG (by omega) (by omega) f3783 (lv_sub hl [1, 2, 0, 3] rfl) hW
                      · refine q_iconst (v := (1 : Int32)) hM dX4_expression_118 (by decide) ?_
                        exact hE _ _ _ _ _ _ hW.1 nz_1 ⟨v3752, _, rfl, hW.2.1, hG, hW.2.2, c92_79_2, (by have := kc_1; omega), (by have := kc_1; omega), (by have := kc_1; omega)⟩ dX4_expression_119
                refine q_iload_n hM dX4_expression_78 (lv_at hl 2 rfl) ?_
                refine q_iconst (v := ((-1) : Int32)) hM dX4_expression_79 (by decide) ?_
                refine q_icmp_eq (tgt := 92) hM dX4_expression_80 (by decide) (rfl : w4_2.toInt = w4_2.toInt) (kc_m1 : ((-1) : Int32).toInt = (-1)) (fun h80 => ?_) (fun h80 => ?_)
                · exact L92  _ _ _ _ hG c73_79_2 (lv_sub hl [0, 1, 2, 3, 4] rfl) hW
                · refine q_aload_n hM dX4_expression_83 (lv_at hl 0 rfl) ?_
                  refine w_get (v := .ref (ad lw)) hM hW FG_X4_15 lb_79 ((hW.2.2.1 79 4 (by omega)).trans h_r4) dX4_expression_84 ?_
                  refine q_iload_n hM dX4_expression_87 (lv_at hl 2 rfl) ?_
                  refine q_iconst (v := (0 : Int32)) hM dX4_expression_88 (by decide) ?_
                  refine q_callV (As := [.int w4_2, .int (0 : Int32)]) (rest := []) hM hW.1 hR hC myX3_add (kAW (v_2_7 (List.mem_of_getElem? (i := 13) rfl)) rfl) (rfl : vwCl[3]? = some (RX3, TX3, 8)) rfl (lo_Lw hlw).1 (shO hW.2.1 (lo_Lw hlw)) (a_X3_add _ _ cA ad g9 lw w4_2 (0 : Int32) hW.2.1 hG hlw (by have := kc_0; omega) (by have := kc_0; omega)) ⟨by decide, by decide⟩ rfl rfl hl.1 (Nat.le_of_ble_eq_true rfl) dX4_expression_89 (fun v g3787 H locs hp hW1 => ?_)
                  obtain ⟨rfl, hs1, hG, hf1⟩ := hp
                  have f3788 : fld g3787 79 2 = .int v3752 := (hf1.1 79 2 (by omega)).trans c73_79_2
                  have hW : WS ad cA (fun i k => (i = 79 ∧ (k = 2 ∨ k = 3)) ∨ (i = lw ∧ (k = 7)) ∨ i = (lw + 4) ∨ i = (lw + 5)) g0 K g3787 H locs := ⟨hW1, hs1, hW.2.2.tr hf1 (fun i k h => h.elim (fun h => (Or.inr (Or.inl h))) (fun h => h.elim (fun h => (Or.inr (Or.inr (Or.inl h)))) (fun h => (Or.inr (Or.inr (Or.inr h))))))⟩
                  exact L92  _ _ _ _ hG f3788 (lv_sub hl [0, 1, 2, 3, 4] rfl) hW
            refine q_iload hM dX4_expression_45 (lv_at hl 0 rfl) ?_
            refine q_bipush (v := (42 : Int32)) hM dX4_expression_47 (by decide) ?_
            refine q_icmp_eq (tgt := 66) hM dX4_expression_49 (by decide) (rfl : r3760.toInt = r3760.toInt) (kc_42 : (42 : Int32).toInt = 42) (fun h49 => ?_) (fun h49 => ?_)
            · refine q_iload hM dX4_expression_66 (lv_at hl 0 rfl) ?_
              refine q_goto (tgt := 72) hM dX4_expression_68 (by decide) ?_
              refine q_istore_n (lv9 := [(3, .int r3760), (4, .int r3760), (0, .ref (ad 79)), (1, .int op), (2, .int w4_2)]) hM dX4_expression_72 hl (by decide) rfl (fun ls hl => ?_)
              exact L73 r3760 _ _ _ _ hG (by omega) c39_79_2 (lv_sub hl [2, 3, 4, 0, 1] rfl) hW
            · refine q_iload hM dX4_expression_52 (lv_at hl 0 rfl) ?_
              refine q_bipush (v := (47 : Int32)) hM dX4_expression_54 (by decide) ?_
              refine q_icmp_eq (tgt := 66) hM dX4_expression_56 (by decide) (rfl : r3760.toInt = r3760.toInt) (kc_47 : (47 : Int32).toInt = 47) (fun h56 => ?_) (fun h56 => ?_)
              · refine q_iload hM dX4_expression_66 (lv_at hl 0 rfl) ?_
                refine q_goto (tgt := 72) hM dX4_expression_68 (by decide) ?_
                refine q_istore_n (lv9 := [(3, .int r3760), (4, .int r3760), (0, .ref (ad 79)), (1, .int op), (2, .int w4_2)]) hM dX4_expression_72 hl (by decide) rfl (fun ls hl => ?_)
                exact L73 r3760 _ _ _ _ hG (by omega) c39_79_2 (lv_sub hl [2, 3, 4, 0, 1] rfl) hW
              · refine q_iload hM dX4_expression_59 (lv_at hl 0 rfl) ?_
                refine q_bipush (v := (37 : Int32)) hM dX4_expression_61 (by decide) ?_
                refine q_icmp_ne (tgt := 71) hM dX4_expression_63 (by decide) (rfl : r3760.toInt = r3760.toInt) (kc_37 : (37 : Int32).toInt = 37) (fun h63 => ?_) (fun h63 => ?_)
                · refine q_iconst (v := ((-1) : Int32)) hM dX4_expression_71 (by decide) ?_
                  refine q_istore_n (lv9 := [(3, .int ((-1) : Int32)), (4, .int r3760), (0, .ref (ad 79)), (1, .int op), (2, .int w4_2)]) hM dX4_expression_72 hl (by decide) rfl (fun ls hl => ?_)
                  have := kc_m1
                  exact L73 ((-1) : Int32) _ _ _ _ hG (by omega) c39_79_2 (lv_sub hl [2, 3, 4, 0, 1] rfl) hW
                · refine q_iload hM dX4_expression_66 (lv_at hl 0 rfl) ?_
                  refine q_goto (tgt := 72) hM dX4_expression_68 (by decide) ?_
                  refine q_istore_n (lv9 := [(3, .int r3760), (4, .int r3760), (0, .ref (ad 79)), (1, .int op), (2, .int w4_2)]) hM dX4_expression_72 hl (by decide) rfl (fun ls hl => ?_)
                  exact L73 r3760 _ _ _ _ hG (by omega) c39_79_2 (lv_sub hl [2, 3, 4, 0, 1] rfl) hW
          refine q_iload_n hM dX4_expression_25 (lv_at hl 3 rfl) ?_
          refine q_iconst (v := ((-1) : Int32)) hM dX4_expression_26 (by decide) ?_
          refine q_icmp_eq (tgt := 39) hM dX4_expression_27 (by decide) (rfl : w4_3.toInt = w4_3.toInt) (kc_m1 : ((-1) : Int32).toInt = (-1)) (fun h27 => ?_) (fun h27 => ?_)
          · exact L39  _ _ _ _ hG q3754 (lv_sub hl [0, 1, 2, 3] rfl) hW
          · refine q_aload_n hM dX4_expression_30 (lv_at hl 0 rfl) ?_
            refine w_get (v := .ref (ad lw)) hM hW FG_X4_15 lb_79 ((hW.2.2.1 79 4 (by omega)).trans h_r4) dX4_expression_31 ?_
            refine q_iload_n hM dX4_expression_34 (lv_at hl 3 rfl) ?_
            refine q_iconst (v := (0 : Int32)) hM dX4_expression_35 (by decide) ?_
            refine q_callV (As := [.int w4_3, .int (0 : Int32)]) (rest := []) hM hW.1 hR hC myX3_add (kAW (v_2_7 (List.mem_of_getElem? (i := 13) rfl)) rfl) (rfl : vwCl[3]? = some (RX3, TX3, 8)) rfl (lo_Lw hlw).1 (shO hW.2.1 (lo_Lw hlw)) (a_X3_add _ _ cA ad g3757 lw w4_3 (0 : Int32) hW.2.1 hG hlw (by have := kc_0; omega) (by have := kc_0; omega)) ⟨by decide, by decide⟩ rfl rfl hl.1 (Nat.le_of_ble_eq_true rfl) dX4_expression_36 (fun v g3797 H locs hp hW1 => ?_)
            obtain ⟨rfl, hs1, hG, hf1⟩ := hp
            have f3798 : fld g3797 79 2 = .int v3752 := (hf1.1 79 2 (by omega)).trans q3754
            have hW : WS ad cA (fun i k => (i = 79 ∧ (k = 2 ∨ k = 3)) ∨ (i = lw ∧ (k = 7)) ∨ i = (lw + 4) ∨ i = (lw + 5)) g0 K g3797 H locs := ⟨hW1, hs1, hW.2.2.tr hf1 (fun i k h => h.elim (fun h => (Or.inr (Or.inl h))) (fun h => h.elim (fun h => (Or.inr (Or.inr (Or.inl h)))) (fun h => (Or.inr (Or.inr (Or.inr h))))))⟩
            exact L39  _ _ _ _ hG f3798 (lv_sub hl [0, 1, 2, 3] rfl) hW
        · refine q_iconst (v := (0 : Int32)) hM dX4_expression_23 (by decide) ?_
          exact hE _ _ _ _ _ _ hW.1 nz_0 ⟨v3752, _, rfl, hW.2.1, hG, hW.2.2, q3754, (by have := kc_0; omega), (by have := kc_0; omega), (by have := kc_0; omega)⟩ dX4_expression_24
  have := kc_m1
  have := kc_m1
  exact L4 _ ((-1) : Int32) ((-1) : Int32) a0 _ _ _ _ (Nat.lt_succ_self _) hG (by omega) (by omega) f3745 (lv_sub hl [2, 3, 1, 0] rfl) hW


set_option maxRecDepth 100000 in
set_option maxHeartbeats 4000000 in
theorem a_X4_test_2 (l : Launch) (D : va_G) (cA : Nat → ClassId) (ad : Nat → Nat) (g0 : Nat → va_E) (op : Int32) (en : Int32) (a0 : Int32) (lw : Nat) (hSh : Shp ad cA g0) (hG : Rng g0) (hlw : isLw lw) (h_en : fld g0 79 1 = .int en) (h_a0 : fld g0 79 2 = .int a0) (h_r4 : fld g0 79 4 = .ref (ad lw)) (ah0 : 0 ≤ a0.toInt) (ah1 : a0.toInt ≤ en.toInt) (ah2 : en.toInt ≤ 240) (ok : op.toInt = 2) : CT l NN ad cA D yX4_test cX4_test 3 (some FieldType.boolean) (15, 347) [.ref (ad 79), .int op] g0 (fun v g' => ∃ (a9 : Int32) (r : Int32), v = some (.int r) ∧ Shp ad cA g' ∧ Rng g' ∧ FR (fun i k => (i = 79 ∧ (k = 2 ∨ k = 3)) ∨ (i = lw ∧ (k = 7)) ∨ i = (lw + 4) ∨ i = (lw + 5)) g0 g' ∧ fld g' 79 2 = .int a9 ∧ (a0.toInt ≤ a9.toInt) ∧ (a9.toInt ≤ en.toInt) ∧ (r.toInt = 0 ∨ r.toInt = 1)) := by
  refine q_enterZ (by decide) (Nat.le_of_ble_eq_true rfl) (fun K H locs ls _ _ hM hW0 hR hC hE hl => ?_)
  have hl : lv_has ls 3 [(0, .ref (ad 79)), (1, .int op)] := hl
  have hW : WS ad cA (fun i k => (i = 79 ∧ (k = 2 ∨ k = 3)) ∨ (i = lw ∧ (k = 7)) ∨ i = (lw + 4) ∨ i = (lw + 5)) g0 K g0 H locs := ⟨hW0, hSh, FR.rf⟩
  have ulw := hlw
  unfold isLw at ulw
  have b_en := hG.f h_en rF_79_1 (by decide)
  have b_a0 := hG.f h_a0 rF_79_2 (by decide)
  have f3800 : fld g0 79 2 = .int a0 := h_a0
  refine q_aload_n hM dX4_test_0 (lv_at hl 0 rfl) ?_
  refine q_callV (As := []) (rest := []) hM hW.1 hR hC myX4_sign (kAW (v_2_0 (List.mem_of_getElem? (i := 12) rfl)) rfl) (rfl : vwCl[4]? = some (RX4, TX4, 5)) rfl lb_79.1 (shO hW.2.1 lb_79) (a_X4_sign _ _ cA ad g0 en a0 hW.2.1 hG ((hW.2.2.1 79 1 (by omega)).trans h_en) f3800 (by  omega) (by  omega) (by  omega)) ⟨by decide, by decide⟩ rfl rfl hl.1 (Nat.le_of_ble_eq_true rfl) dX4_test_1 (fun v g3802 H locs hp hW1 => ?_)
  obtain ⟨r3801, rfl, hr3801, rfl⟩ := hp
  have hW : WS ad cA (fun i k => (i = 79 ∧ (k = 2 ∨ k = 3)) ∨ (i = lw ∧ (k = 7)) ∨ i = (lw + 4) ∨ i = (lw + 5)) g0 K g0 H locs := ⟨hW1, hW.2.1, hW.2.2⟩
  refine q_istore_n (lv9 := [(2, .int r3801), (0, .ref (ad 79)), (1, .int op)]) hM dX4_test_4 hl (by decide) rfl (fun ls hl => ?_)
  have L17 : ∀ (g9 : Nat → va_E) (H : Heap) (locs : List Loc) (ls : Array Slot), (Rng g9) → (r3801.toInt = 33 ∨ r3801.toInt = 40) → (fld g9 79 2 = .int a0) → lv_has ls 3 [(0, .ref (ad 79)), (1, .int op), (2, .int r3801)] → WS ad cA (fun i k => (i = 79 ∧ (k = 2 ∨ k = 3)) ∨ (i = lw ∧ (k = 7)) ∨ i = (lw + 4) ∨ i = (lw + 5)) g0 K g9 H locs → XX K 0 0 H locs 17 ls [] := by
    intro g9 H locs ls i17_0 i17_1 c17_79_2 hl hW
    have hG := i17_0
    refine q_iload_n hM dX4_test_17 (lv_at hl 1 rfl) ?_
    refine q_bipush (v := (6 : Int32)) hM dX4_test_18 (by decide) ?_
    refine q_icmp_lt (tgt := 29) hM dX4_test_20 (by decide) (rfl : op.toInt = op.toInt) (kc_6 : (6 : Int32).toInt = 6) (fun h20 => ?_) (fun h20 => ?_)
    · refine q_aload_n hM dX4_test_29 (lv_at hl 0 rfl) ?_
      refine q_dup hM dX4_test_30 rfl ?_
      refine w_get (v := .int a0) hM hW FG_X4_23 lb_79 c17_79_2 dX4_test_31 ?_
      have ba0 := hG.f c17_79_2 rF_79_2 (by decide)
      refine q_iconst (v := (1 : Int32)) hM dX4_test_34 (by decide) ?_
      refine q_iadd hM dX4_test_35 (fun z3805 hz3805 => ?_)
      first | have tz3805 := i_addT hz3805 (rfl : a0.toInt = a0.toInt) (kc_1 : (1 : Int32).toInt = 1) (by omega) (by omega) | skip
      refine w_put hM hW FP_X4_23 lb_79 (by omega) (Or.inl ⟨_, rfl⟩) rfl rfl dX4_test_36 (fun g3806 H locs hW e1 e2 => ?_)
      have f3807 : fld g3806 79 2 = .int z3805 := e1
      have hG := hG.put e1 e2 rF_79_2 (by decide) (by have := i_rng z3805; omega) (by have := i_rng z3805; omega)
      refine q_iload_n hM dX4_test_39 (lv_at hl 2 rfl) ?_
      refine q_bipush (v := (40 : Int32)) hM dX4_test_40 (by decide) ?_
      refine q_icmp_ne (tgt := 70) hM dX4_test_42 (by decide) (rfl : r3801.toInt = r3801.toInt) (kc_40 : (40 : Int32).toInt = 40) (fun h42 => ?_) (fun h42 => ?_)
      · refine q_aload_n hM dX4_test_70 (lv_at hl 0 rfl) ?_
        refine q_iload_n hM dX4_test_71 (lv_at hl 1 rfl) ?_
        refine q_iconst (v := (1 : Int32)) hM dX4_test_72 (by decide) ?_
        refine q_iadd hM dX4_test_73 (fun z3809 hz3809 => ?_)
        first | have tz3809 := i_addT hz3809 (rfl : op.toInt = op.toInt) (kc_1 : (1 : Int32).toInt = 1) (by omega) (by omega) | skip
        refine q_callV (As := [.int z3809]) (rest := []) hM hW.1 hR hC myX4_test (kAW (v_2_8 (List.mem_of_getElem? (i := 6) rfl)) rfl) (rfl : vwCl[4]? = some (RX4, TX4, 5)) rfl lb_79.1 (shO hW.2.1 lb_79) (a_X4_test_3 _ _ cA ad g3806 z3809 en z3805 lw hW.2.1 hG hlw ((hW.2.2.1 79 1 (by omega)).trans h_en) f3807 ((hW.2.2.1 79 4 (by omega)).trans h_r4) (by  omega) (by  omega) (by  omega) (by  omega)) ⟨by decide, by decide⟩ rfl rfl hl.1 (Nat.le_of_ble_eq_true rfl) dX4_test_74 (fun v g3815 H locs hp hW1 => ?_)
        obtain ⟨v3810, r3811, rfl, hs1, hG, hf1, q3812, e3813, e3814, hr3811⟩ := hp
        have hW : WS ad cA (fun i k => (i = 79 ∧ (k = 2 ∨ k = 3)) ∨ (i = lw ∧ (k = 7)) ∨ i = (lw + 4) ∨ i = (lw + 5)) g0 K g3815 H locs := ⟨hW1, hs1, hW.2.2.tr hf1 (fun i k h => h.elim (fun h => (Or.inl h)) (fun h => h.elim (fun h => (Or.inr (Or.inl h))) (fun h => h.elim (fun h => (Or.inr (Or.inr (Or.inl h)))) (fun h => (Or.inr (Or.inr (Or.inr h)))))))⟩
        refine q_if_ne (tgt := 82) hM dX4_test_77 (by decide) (rfl : r3811.toInt = r3811.toInt) (fun h77 => ?_) (fun h77 => ?_)
        · refine q_aload_n hM dX4_test_82 (lv_at hl 0 rfl) ?_
          refine w_get (v := .ref (ad lw)) hM hW FG_X4_15 lb_79 ((hW.2.2.1 79 4 (by omega)).trans h_r4) dX4_test_83 ?_
          refine q_iconst (v := (3 : Int32)) hM dX4_test_86 (by decide) ?_
          refine q_iconst (v := (0 : Int32)) hM dX4_test_87 (by decide) ?_
          refine q_callV (As := [.int (3 : Int32), .int (0 : Int32)]) (rest := []) hM hW.1 hR hC myX3_add (kAW (v_2_7 (List.mem_of_getElem? (i := 13) rfl)) rfl) (rfl : vwCl[3]? = some (RX3, TX3, 8)) rfl (lo_Lw hlw).1 (shO hW.2.1 (lo_Lw hlw)) (a_X3_add _ _ cA ad g3815 lw (3 : Int32) (0 : Int32) hW.2.1 hG hlw (by have := kc_3; have := kc_0; omega) (by have := kc_3; have := kc_0; omega)) ⟨by decide, by decide⟩ rfl rfl hl.1 (Nat.le_of_ble_eq_true rfl) dX4_test_88 (fun v g3817 H locs hp hW1 => ?_)
          obtain ⟨rfl, hs1, hG, hf1⟩ := hp
          have f3818 : fld g3817 79 2 = .int v3810 := (hf1.1 79 2 (by omega)).trans q3812
          have hW : WS ad cA (fun i k => (i = 79 ∧ (k = 2 ∨ k = 3)) ∨ (i = lw ∧ (k = 7)) ∨ i = (lw + 4) ∨ i = (lw + 5)) g0 K g3817 H locs := ⟨hW1, hs1, hW.2.2.tr hf1 (fun i k h => h.elim (fun h => (Or.inr (Or.inl h))) (fun h => h.elim (fun h => (Or.inr (Or.inr (Or.inl h)))) (fun h => (Or.inr (Or.inr (Or.inr h))))))⟩
          refine q_iconst (v := (1 : Int32)) hM dX4_test_91 (by decide) ?_
          exact hE _ _ _ _ _ _ hW.1 nz_1 ⟨v3810, _, rfl, hW.2.1, hG, hW.2.2, f3818, (by have := kc_1; omega), (by have := kc_1; omega), (by have := kc_1; omega)⟩ dX4_test_92
        · refine q_iconst (v := (0 : Int32)) hM dX4_test_80 (by decide) ?_
          exact hE _ _ _ _ _ _ hW.1 nz_0 ⟨v3810, _, rfl, hW.2.1, hG, hW.2.2, q3812, (by have := kc_0; omega), (by have := kc_0; omega), (by have := kc_0; omega)⟩ dX4_test_81
      · refine q_aload_n hM dX4_test_45 (lv_at hl 0 rfl) ?_
        refine q_iload_n hM dX4_test_46 (lv_at hl 1 rfl) ?_
        refine q_iconst (v := (1 : Int32)) hM dX4_test_47 (by decide) ?_
        refine q_iadd hM dX4_test_48 (fun z3821 hz3821 => ?_)
        first | have tz3821 := i_addT hz3821 (rfl : op.toInt = op.toInt) (kc_1 : (1 : Int32).toInt = 1) (by omega) (by omega) | skip
        refine q_callV (As := [.int z3821]) (rest := []) hM hW.1 hR hC myX4_condition (kAW (v_2_8 (List.mem_of_getElem? (i := 2) rfl)) rfl) (rfl : vwCl[4]? = some (RX4, TX4, 5)) rfl lb_79.1 (shO hW.2.1 lb_79) (a_X4_condition_3 _ _ cA ad g3806 z3821 en z3805 lw hW.2.1 hG hlw ((hW.2.2.1 79 1 (by omega)).trans h_en) f3807 ((hW.2.2.1 79 4 (by omega)).trans h_r4) (by  omega) (by  omega) (by  omega) (by  omega)) ⟨by decide, by decide⟩ rfl rfl hl.1 (Nat.le_of_ble_eq_true rfl) dX4_test_49 (fun v g3827 H locs hp hW1 => ?_)
        obtain ⟨v3822, r3823, rfl, hs1, hG, hf1, q3824, e3825, e3826, hr3823⟩ := hp
        have hW : WS ad cA (fun i k => (i = 79 ∧ (k = 2 ∨ k = 3)) ∨ (i = lw ∧ (k = 7)) ∨ i = (lw + 4) ∨ i = (lw + 5)) g0 K g3827 H locs := ⟨hW1, hs1, hW.2.2.tr hf1 (fun i k h => h.elim (fun h => (Or.inl h)) (fun h => h.elim (fun h => (Or.inr (Or.inl h))) (fun h => h.elim (fun h => (Or.inr (Or.inr (Or.inl h)))) (fun h => (Or.inr (Or.inr (Or.inr h)))))))⟩
        refine q_if_eq (tgt := 68) hM dX4_test_52 (by decide) (rfl : r3823.toInt = r3823.toInt) (fun h52 => ?_) (fun h52 => ?_)
        · refine q_iconst (v := (0 : Int32)) hM dX4_test_68 (by decide) ?_
          exact hE _ _ _ _ _ _ hW.1 nz_0 ⟨v3822, _, rfl, hW.2.1, hG, hW.2.2, q3824, (by have := kc_0; omega), (by have := kc_0; omega), (by have := kc_0; omega)⟩ dX4_test_69
        · refine q_aload_n hM dX4_test_55 (lv_at hl 0 rfl) ?_
          refine q_bipush (v := (41 : Int32)) hM dX4_test_56 (by decide) ?_
          refine q_callV (As := [.int (41 : Int32)]) (rest := []) hM hW.1 hR hC myX4_passes (kAW (v_2_7 (List.mem_of_getElem? (i := 4) rfl)) rfl) (rfl : vwCl[4]? = some (RX4, TX4, 5)) rfl lb_79.1 (shO hW.2.1 lb_79) (a_X4_passes _ _ cA ad g3827 (41 : Int32) en v3822 hW.2.1 hG ((hW.2.2.1 79 1 (by omega)).trans h_en) q3824 (by have := kc_41; omega) (by have := kc_41; omega) (by have := kc_41; omega)) ⟨by decide, by decide⟩ rfl rfl hl.1 (Nat.le_of_ble_eq_true rfl) dX4_test_58 (fun v g3835 H locs hp hW1 => ?_)
          obtain ⟨v3830, r3831, rfl, hs1, hG, hf1, q3832, e3833, e3834, hr3831⟩ := hp
          have hW : WS ad cA (fun i k => (i = 79 ∧ (k = 2 ∨ k = 3)) ∨ (i = lw ∧ (k = 7)) ∨ i = (lw + 4) ∨ i = (lw + 5)) g0 K g3835 H locs := ⟨hW1, hs1, hW.2.2.tr hf1 (fun i k h => (Or.inl h))⟩
          refine q_if_eq (tgt := 68) hM dX4_test_61 (by decide) (rfl : r3831.toInt = r3831.toInt) (fun h61 => ?_) (fun h61 => ?_)
          · refine q_iconst (v := (0 : Int32)) hM dX4_test_68 (by decide) ?_
            exact hE _ _ _ _ _ _ hW.1 nz_0 ⟨v3830, _, rfl, hW.2.1, hG, hW.2.2, q3832, (by have := kc_0; omega), (by have := kc_0; omega), (by have := kc_0; omega)⟩ dX4_test_69
          · refine q_iconst (v := (1 : Int32)) hM dX4_test_64 (by decide) ?_
            refine q_goto (tgt := 69) hM dX4_test_65 (by decide) ?_
            exact hE _ _ _ _ _ _ hW.1 nz_1 ⟨v3830, _, rfl, hW.2.1, hG, hW.2.2, q3832, (by have := kc_1; omega), (by have := kc_1; omega), (by have := kc_1; omega)⟩ dX4_test_69
    · omega
  refine q_iload_n hM dX4_test_5 (lv_at hl 0 rfl) ?_
  refine q_bipush (v := (33 : Int32)) hM dX4_test_6 (by decide) ?_
  refine q_icmp_eq (tgt := 17) hM dX4_test_8 (by decide) (rfl : r3801.toInt = r3801.toInt) (kc_33 : (33 : Int32).toInt = 33) (fun h8 => ?_) (fun h8 => ?_)
  · exact L17  _ _ _ _ hG (by omega) f3800 (lv_sub hl [1, 2, 0] rfl) hW
  · refine q_iload_n hM dX4_test_11 (lv_at hl 0 rfl) ?_
    refine q_bipush (v := (40 : Int32)) hM dX4_test_12 (by decide) ?_
    refine q_icmp_ne (tgt := 93) hM dX4_test_14 (by decide) (rfl : r3801.toInt = r3801.toInt) (kc_40 : (40 : Int32).toInt = 40) (fun h14 => ?_) (fun h14 => ?_)
    · refine q_aload_n hM dX4_test_93 (lv_at hl 1 rfl) ?_
      refine q_iload_n hM dX4_test_94 (lv_at hl 2 rfl) ?_
      refine q_callV (As := [.int op]) (rest := []) hM hW.1 hR hC myX4_expression (kAW (v_2_6 (List.mem_of_getElem? (i := 12) rfl)) rfl) (rfl : vwCl[4]? = some (RX4, TX4, 5)) rfl lb_79.1 (shO hW.2.1 lb_79) (a_X4_expression_2 _ _ cA ad g0 op en a0 lw hW.2.1 hG hlw ((hW.2.2.1 79 1 (by omega)).trans h_en) f3800 ((hW.2.2.1 79 4 (by omega)).trans h_r4) (by  omega) (by  omega) (by  omega) (by  omega)) ⟨by decide, by decide⟩ rfl rfl hl.1 (Nat.le_of_ble_eq_true rfl) dX4_test_95 (fun v g3847 H locs hp hW1 => ?_)
      obtain ⟨v3842, r3843, rfl, hs1, hG, hf1, q3844, e3845, e3846, hr3843⟩ := hp
      have hW : WS ad cA (fun i k => (i = 79 ∧ (k = 2 ∨ k = 3)) ∨ (i = lw ∧ (k = 7)) ∨ i = (lw + 4) ∨ i = (lw + 5)) g0 K g3847 H locs := ⟨hW1, hs1, hW.2.2.tr hf1 (fun i k h => h.elim (fun h => (Or.inl h)) (fun h => h.elim (fun h => (Or.inr (Or.inl h))) (fun h => h.elim (fun h => (Or.inr (Or.inr (Or.inl h)))) (fun h => (Or.inr (Or.inr (Or.inr h)))))))⟩
      refine q_if_ne (tgt := 103) hM dX4_test_98 (by decide) (rfl : r3843.toInt = r3843.toInt) (fun h98 => ?_) (fun h98 => ?_)
      · refine q_aload_n hM dX4_test_103 (lv_at hl 1 rfl) ?_
        refine q_callV (As := []) (rest := []) hM hW.1 hR hC myX4_sign (kAW (v_2_0 (List.mem_of_getElem? (i := 12) rfl)) rfl) (rfl : vwCl[4]? = some (RX4, TX4, 5)) rfl lb_79.1 (shO hW.2.1 lb_79) (a_X4_sign _ _ cA ad g3847 en v3842 hW.2.1 hG ((hW.2.2.1 79 1 (by omega)).trans h_en) q3844 (by  omega) (by  omega) (by  omega)) ⟨by decide, by decide⟩ rfl rfl hl.1 (Nat.le_of_ble_eq_true rfl) dX4_test_104 (fun v g3850 H locs hp hW1 => ?_)
        obtain ⟨r3849, rfl, hr3849, rfl⟩ := hp
        have hW : WS ad cA (fun i k => (i = 79 ∧ (k = 2 ∨ k = 3)) ∨ (i = lw ∧ (k = 7)) ∨ i = (lw + 4) ∨ i = (lw + 5)) g0 K g3847 H locs := ⟨hW1, hW.2.1, hW.2.2⟩
        refine q_istore_n (lv9 := [(2, .int r3849), (0, .ref (ad 79)), (1, .int op)]) hM dX4_test_107 hl (by decide) rfl (fun ls hl => ?_)
        have L132 : ∀ (g9 : Nat → va_E) (H : Heap) (locs : List Loc) (ls : Array Slot), (Rng g9) → (0 ≤ r3849.toInt) → (fld g9 79 2 = .int v3842) → lv_has ls 3 [(0, .ref (ad 79)), (1, .int op), (2, .int r3849)] → WS ad cA (fun i k => (i = 79 ∧ (k = 2 ∨ k = 3)) ∨ (i = lw ∧ (k = 7)) ∨ i = (lw + 4) ∨ i = (lw + 5)) g0 K g9 H locs → XX K 0 0 H locs 132 ls [] := by
          intro g9 H locs ls i132_0 i132_1 c132_79_2 hl hW
          have hG := i132_0
          refine q_aload_n hM dX4_test_132 (lv_at hl 0 rfl) ?_
          refine q_dup hM dX4_test_133 rfl ?_
          refine w_get (v := .int v3842) hM hW FG_X4_23 lb_79 c132_79_2 dX4_test_134 ?_
          have bv3842 := hG.f c132_79_2 rF_79_2 (by decide)
          refine q_iconst (v := (1 : Int32)) hM dX4_test_137 (by decide) ?_
          refine q_iadd hM dX4_test_138 (fun z3852 hz3852 => ?_)
          first | have tz3852 := i_addT hz3852 (rfl : v3842.toInt = v3842.toInt) (kc_1 : (1 : Int32).toInt = 1) (by omega) (by omega) | skip
          refine w_put hM hW FP_X4_23 lb_79 (by omega) (Or.inl ⟨_, rfl⟩) rfl rfl dX4_test_139 (fun g3853 H locs hW e1 e2 => ?_)
          have f3854 : fld g3853 79 2 = .int z3852 := e1
          have hG := hG.put e1 e2 rF_79_2 (by decide) (by have := i_rng z3852; omega) (by have := i_rng z3852; omega)
          refine q_aload_n hM dX4_test_142 (lv_at hl 0 rfl) ?_
          refine q_iload_n hM dX4_test_143 (lv_at hl 1 rfl) ?_
          refine q_callV (As := [.int op]) (rest := []) hM hW.1 hR hC myX4_expression (kAW (v_2_6 (List.mem_of_getElem? (i := 12) rfl)) rfl) (rfl : vwCl[4]? = some (RX4, TX4, 5)) rfl lb_79.1 (shO hW.2.1 lb_79) (a_X4_expression_2 _ _ cA ad g3853 op en z3852 lw hW.2.1 hG hlw ((hW.2.2.1 79 1 (by omega)).trans h_en) f3854 ((hW.2.2.1 79 4 (by omega)).trans h_r4) (by  omega) (by  omega) (by  omega) (by  omega)) ⟨by decide, by decide⟩ rfl rfl hl.1 (Nat.le_of_ble_eq_true rfl) dX4_test_144 (fun v g3860 H locs hp hW1 => ?_)
          obtain ⟨v3855, r3856, rfl, hs1, hG, hf1, q3857, e3858, e3859, hr3856⟩ := hp
          have hW : WS ad cA (fun i k => (i = 79 ∧ (k = 2 ∨ k = 3)) ∨ (i = lw ∧ (k = 7)) ∨ i = (lw + 4) ∨ i = (lw + 5)) g0 K g3860 H locs := ⟨hW1, hs1, hW.2.2.tr hf1 (fun i k h => h.elim (fun h => (Or.inl h)) (fun h => h.elim (fun h => (Or.inr (Or.inl h))) (fun h => h.elim (fun h => (Or.inr (Or.inr (Or.inl h)))) (fun h => (Or.inr (Or.inr (Or.inr h)))))))⟩
          refine q_if_ne (tgt := 152) hM dX4_test_147 (by decide) (rfl : r3856.toInt = r3856.toInt) (fun h147 => ?_) (fun h147 => ?_)
          · refine q_aload_n hM dX4_test_152 (lv_at hl 0 rfl) ?_
            refine w_get (v := .ref (ad lw)) hM hW FG_X4_15 lb_79 ((hW.2.2.1 79 4 (by omega)).trans h_r4) dX4_test_153 ?_
            refine q_iload_n hM dX4_test_156 (lv_at hl 2 rfl) ?_
            refine q_iconst (v := (0 : Int32)) hM dX4_test_157 (by decide) ?_
            refine q_callV (As := [.int r3849, .int (0 : Int32)]) (rest := []) hM hW.1 hR hC myX3_add (kAW (v_2_7 (List.mem_of_getElem? (i := 13) rfl)) rfl) (rfl : vwCl[3]? = some (RX3, TX3, 8)) rfl (lo_Lw hlw).1 (shO hW.2.1 (lo_Lw hlw)) (a_X3_add _ _ cA ad g3860 lw r3849 (0 : Int32) hW.2.1 hG hlw (by have := kc_0; omega) (by have := kc_0; omega)) ⟨by decide, by decide⟩ rfl rfl hl.1 (Nat.le_of_ble_eq_true rfl) dX4_test_158 (fun v g3862 H locs hp hW1 => ?_)
            obtain ⟨rfl, hs1, hG, hf1⟩ := hp
            have f3863 : fld g3862 79 2 = .int v3855 := (hf1.1 79 2 (by omega)).trans q3857
            have hW : WS ad cA (fun i k => (i = 79 ∧ (k = 2 ∨ k = 3)) ∨ (i = lw ∧ (k = 7)) ∨ i = (lw + 4) ∨ i = (lw + 5)) g0 K g3862 H locs := ⟨hW1, hs1, hW.2.2.tr hf1 (fun i k h => h.elim (fun h => (Or.inr (Or.inl h))) (fun h => h.elim (fun h => (Or.inr (Or.inr (Or.inl h)))) (fun h => (Or.inr (Or.inr (Or.inr h))))))⟩
            refine q_iconst (v := (1 : Int32)) hM dX4_test_161 (by decide) ?_
            exact hE _ _ _ _ _ _ hW.1 nz_1 ⟨v3855, _, rfl, hW.2.1, hG, hW.2.2, f3863, (by have := kc_1; omega), (by have := kc_1; omega), (by have := kc_1; omega)⟩ dX4_test_162
          · refine q_iconst (v := (0 : Int32)) hM dX4_test_150 (by decide) ?_
            exact hE _ _ _ _ _ _ hW.1 nz_0 ⟨v3855, _, rfl, hW.2.1, hG, hW.2.2, q3857, (by have := kc_0; omega), (by have := kc_0; omega), (by have := kc_0; omega)⟩ dX4_test_151
        refine q_iload_n hM dX4_test_108 (lv_at hl 0 rfl) ?_
        refine q_bipush (v := (60 : Int32)) hM dX4_test_109 (by decide) ?_
        refine q_icmp_eq (tgt := 132) hM dX4_test_111 (by decide) (rfl : r3849.toInt = r3849.toInt) (kc_60 : (60 : Int32).toInt = 60) (fun h111 => ?_) (fun h111 => ?_)
        · exact L132  _ _ _ _ hG (by omega) q3844 (lv_sub hl [1, 2, 0] rfl) hW
        · refine q_iload_n hM dX4_test_114 (lv_at hl 0 rfl) ?_
          refine q_bipush (v := (62 : Int32)) hM dX4_test_115 (by decide) ?_
          refine q_icmp_eq (tgt := 132) hM dX4_test_117 (by decide) (rfl : r3849.toInt = r3849.toInt) (kc_62 : (62 : Int32).toInt = 62) (fun h117 => ?_) (fun h117 => ?_)
          · exact L132  _ _ _ _ hG (by omega) q3844 (lv_sub hl [1, 2, 0] rfl) hW
          · refine q_iload_n hM dX4_test_120 (lv_at hl 0 rfl) ?_
            refine q_bipush (v := (61 : Int32)) hM dX4_test_121 (by decide) ?_
            refine q_icmp_eq (tgt := 132) hM dX4_test_123 (by decide) (rfl : r3849.toInt = r3849.toInt) (kc_61 : (61 : Int32).toInt = 61) (fun h123 => ?_) (fun h123 => ?_)
            · exact L132  _ _ _ _ hG (by omega) q3844 (lv_sub hl [1, 2, 0] rfl) hW
            · refine q_aload_n hM dX4_test_126 (lv_at hl 1 rfl) ?_
              refine q_iconst (v := (1 : Int32)) hM dX4_test_127 (by decide) ?_
              refine q_callV (As := [.int (1 : Int32)]) (rest := []) hM hW.1 hR hC myX4_wrong (kAW (v_2_6 (List.mem_of_getElem? (i := 8) rfl)) rfl) (rfl : vwCl[4]? = some (RX4, TX4, 5)) rfl lb_79.1 (shO hW.2.1 lb_79) (a_X4_wrong _ _ cA ad g3847 (1 : Int32) hW.2.1 hG) ⟨by decide, by decide⟩ rfl rfl hl.1 (Nat.le_of_ble_eq_true rfl) dX4_test_128 (fun v g3872 H locs hp hW1 => ?_)
              obtain ⟨r3871, rfl, hs1, hG, hf1, hr3871⟩ := hp
              have f3873 : fld g3872 79 2 = .int v3842 := (hf1.1 79 2 (by omega)).trans q3844
              have hW : WS ad cA (fun i k => (i = 79 ∧ (k = 2 ∨ k = 3)) ∨ (i = lw ∧ (k = 7)) ∨ i = (lw + 4) ∨ i = (lw + 5)) g0 K g3872 H locs := ⟨hW1, hs1, hW.2.2.tr hf1 (fun i k h => (Or.inl (by omega)))⟩
              exact hE _ _ _ _ _ _ hW.1 (nz_or (by omega)) ⟨v3842, _, rfl, hW.2.1, hG, hW.2.2, f3873, (by omega), (by omega), (by omega)⟩ dX4_test_131
      · refine q_iconst (v := (0 : Int32)) hM dX4_test_101 (by decide) ?_
        exact hE _ _ _ _ _ _ hW.1 nz_0 ⟨v3842, _, rfl, hW.2.1, hG, hW.2.2, q3844, (by have := kc_0; omega), (by have := kc_0; omega), (by have := kc_0; omega)⟩ dX4_test_102
    · exact L17  _ _ _ _ hG (by omega) f3800 (lv_sub hl [1, 2, 0] rfl) hW


set_option maxRecDepth 100000 in
set_option maxHeartbeats 4000000 in
theorem a_X4_condition_2 (l : Launch) (D : va_G) (cA : Nat → ClassId) (ad : Nat → Nat) (g0 : Nat → va_E) (op : Int32) (en : Int32) (a0 : Int32) (lw : Nat) (hSh : Shp ad cA g0) (hG : Rng g0) (hlw : isLw lw) (h_en : fld g0 79 1 = .int en) (h_a0 : fld g0 79 2 = .int a0) (h_r4 : fld g0 79 4 = .ref (ad lw)) (ah0 : 0 ≤ a0.toInt) (ah1 : a0.toInt ≤ en.toInt) (ah2 : en.toInt ≤ 240) (ok : op.toInt = 2) : CT l NN ad cA D yX4_condition cX4_condition 6 (some FieldType.boolean) (16, 369) [.ref (ad 79), .int op] g0 (fun v g' => ∃ (a9 : Int32) (r : Int32), v = some (.int r) ∧ Shp ad cA g' ∧ Rng g' ∧ FR (fun i k => (i = 79 ∧ (k = 2 ∨ k = 3)) ∨ (i = lw ∧ (k = 7)) ∨ i = (lw + 4) ∨ i = (lw + 5)) g0 g' ∧ fld g' 79 2 = .int a9 ∧ (a0.toInt ≤ a9.toInt) ∧ (a9.toInt ≤ en.toInt) ∧ (r.toInt = 0 ∨ r.toInt = 1)) := by
  refine q_enterZ (by decide) (Nat.le_of_ble_eq_true rfl) (fun K H locs ls _ _ hM hW0 hR hC hE hl => ?_)
  have hl : lv_has ls 6 [(0, .ref (ad 79)), (1, .int op)] := hl
  have hW : WS ad cA (fun i k => (i = 79 ∧ (k = 2 ∨ k = 3)) ∨ (i = lw ∧ (k = 7)) ∨ i = (lw + 4) ∨ i = (lw + 5)) g0 K g0 H locs := ⟨hW0, hSh, FR.rf⟩
  have ulw := hlw
  unfold isLw at ulw
  have b_en := hG.f h_en rF_79_1 (by decide)
  have b_a0 := hG.f h_a0 rF_79_2 (by decide)
  have f3876 : fld g0 79 2 = .int a0 := h_a0
  refine q_iconst (v := ((-1) : Int32)) hM dX4_condition_0 (by decide) ?_
  refine q_istore_n (lv9 := [(2, .int ((-1) : Int32)), (0, .ref (ad 79)), (1, .int op)]) hM dX4_condition_1 hl (by decide) rfl (fun ls hl => ?_)
  refine q_iconst (v := ((-1) : Int32)) hM dX4_condition_2 (by decide) ?_
  refine q_istore_n (lv9 := [(3, .int ((-1) : Int32)), (2, .int ((-1) : Int32)), (0, .ref (ad 79)), (1, .int op)]) hM dX4_condition_3 hl (by decide) rfl (fun ls hl => ?_)
  have L4 : ∀ (fu4 : Nat) (w4_2 : Int32) (w4_3 : Int32) (aa : Int32) (g9 : Nat → va_E) (H : Heap) (locs : List Loc) (ls : Array Slot), (en.toInt - aa.toInt + 1).toNat < fu4 → (Rng g9) → (a0.toInt ≤ aa.toInt) → (aa.toInt ≤ en.toInt) → (-1 ≤ w4_2.toInt) → (w4_2.toInt ≤ 256) → (-1 ≤ w4_3.toInt) → (w4_3.toInt ≤ 256) → (fld g9 79 2 = .int aa) → lv_has ls 6 [(0, .ref (ad 79)), (1, .int op), (2, .int w4_2), (3, .int w4_3)] → WS ad cA (fun i k => (i = 79 ∧ (k = 2 ∨ k = 3)) ∨ (i = lw ∧ (k = 7)) ∨ i = (lw + 4) ∨ i = (lw + 5)) g0 K g9 H locs → XX K 0 0 H locs 4 ls [] := by
    intro fu4
    induction fu4 with
    | zero => intro w4_2 w4_3 aa g9 H locs ls h0; omega
    | succ fu4 ih4 =>
      intro w4_2 w4_3 aa g9 H locs ls hm4 i4_0 i4_1 i4_2 i4_3 i4_4 i4_5 i4_6 c4_79_2 hl hW
      have hG := i4_0
      refine q_aload_n hM dX4_condition_4 (lv_at hl 0 rfl) ?_
      refine w_get (v := .int aa) hM hW FG_X4_23 lb_79 c4_79_2 dX4_condition_5 ?_
      have baa := hG.f c4_79_2 rF_79_2 (by decide)
      refine q_aload_n hM dX4_condition_8 (lv_at hl 0 rfl) ?_
      refine w_get (v := .int en) hM hW FG_X4_19 lb_79 ((hW.2.2.1 79 1 (by omega)).trans h_en) dX4_condition_9 ?_
      refine q_icmp_gt (tgt := 114) hM dX4_condition_12 (by decide) (rfl : aa.toInt = aa.toInt) (rfl : en.toInt = en.toInt) (fun h12 => ?_) (fun h12 => ?_)
      · refine q_aload_n hM dX4_condition_114 (lv_at hl 0 rfl) ?_
        refine q_iconst (v := (1 : Int32)) hM dX4_condition_115 (by decide) ?_
        refine q_callV (As := [.int (1 : Int32)]) (rest := []) hM hW.1 hR hC myX4_wrong (kAW (v_2_6 (List.mem_of_getElem? (i := 8) rfl)) rfl) (rfl : vwCl[4]? = some (RX4, TX4, 5)) rfl lb_79.1 (shO hW.2.1 lb_79) (a_X4_wrong _ _ cA ad g9 (1 : Int32) hW.2.1 hG) ⟨by decide, by decide⟩ rfl rfl hl.1 (Nat.le_of_ble_eq_true rfl) dX4_condition_116 (fun v g3880 H locs hp hW1 => ?_)
        obtain ⟨r3879, rfl, hs1, hG, hf1, hr3879⟩ := hp
        have f3881 : fld g3880 79 2 = .int aa := (hf1.1 79 2 (by omega)).trans c4_79_2
        have hW : WS ad cA (fun i k => (i = 79 ∧ (k = 2 ∨ k = 3)) ∨ (i = lw ∧ (k = 7)) ∨ i = (lw + 4) ∨ i = (lw + 5)) g0 K g3880 H locs := ⟨hW1, hs1, hW.2.2.tr hf1 (fun i k h => (Or.inl (by omega)))⟩
        exact hE _ _ _ _ _ _ hW.1 (nz_or (by omega)) ⟨aa, _, rfl, hW.2.1, hG, hW.2.2, f3881, (by omega), (by omega), (by omega)⟩ dX4_condition_119
      · refine q_aload_n hM dX4_condition_15 (lv_at hl 0 rfl) ?_
        refine q_iload_n hM dX4_condition_16 (lv_at hl 1 rfl) ?_
        refine q_callV (As := [.int op]) (rest := []) hM hW.1 hR hC myX4_test (kAW (v_2_8 (List.mem_of_getElem? (i := 6) rfl)) rfl) (rfl : vwCl[4]? = some (RX4, TX4, 5)) rfl lb_79.1 (shO hW.2.1 lb_79) (a_X4_test_2 _ _ cA ad g9 op en aa lw hW.2.1 hG hlw ((hW.2.2.1 79 1 (by omega)).trans h_en) c4_79_2 ((hW.2.2.1 79 4 (by omega)).trans h_r4) (by  omega) (by  omega) (by  omega) (by  omega)) ⟨by decide, by decide⟩ rfl rfl hl.1 (Nat.le_of_ble_eq_true rfl) dX4_condition_17 (fun v g3888 H locs hp hW1 => ?_)
        obtain ⟨v3883, r3884, rfl, hs1, hG, hf1, q3885, e3886, e3887, hr3884⟩ := hp
        have hW : WS ad cA (fun i k => (i = 79 ∧ (k = 2 ∨ k = 3)) ∨ (i = lw ∧ (k = 7)) ∨ i = (lw + 4) ∨ i = (lw + 5)) g0 K g3888 H locs := ⟨hW1, hs1, hW.2.2.tr hf1 (fun i k h => h.elim (fun h => (Or.inl h)) (fun h => h.elim (fun h => (Or.inr (Or.inl h))) (fun h => h.elim (fun h => (Or.inr (Or.inr (Or.inl h)))) (fun h => (Or.inr (Or.inr (Or.inr h)))))))⟩
        refine q_if_ne (tgt := 25) hM dX4_condition_20 (by decide) (rfl : r3884.toInt = r3884.toInt) (fun h20 => ?_) (fun h20 => ?_)
        · refine q_aload_n hM dX4_condition_25 (lv_at hl 0 rfl) ?_
          refine q_callV (As := []) (rest := []) hM hW.1 hR hC myX4_sign (kAW (v_2_0 (List.mem_of_getElem? (i := 12) rfl)) rfl) (rfl : vwCl[4]? = some (RX4, TX4, 5)) rfl lb_79.1 (shO hW.2.1 lb_79) (a_X4_sign _ _ cA ad g3888 en v3883 hW.2.1 hG ((hW.2.2.1 79 1 (by omega)).trans h_en) q3885 (by  omega) (by  omega) (by  omega)) ⟨by decide, by decide⟩ rfl rfl hl.1 (Nat.le_of_ble_eq_true rfl) dX4_condition_26 (fun v g3891 H locs hp hW1 => ?_)
          obtain ⟨r3890, rfl, hr3890, rfl⟩ := hp
          have hW : WS ad cA (fun i k => (i = 79 ∧ (k = 2 ∨ k = 3)) ∨ (i = lw ∧ (k = 7)) ∨ i = (lw + 4) ∨ i = (lw + 5)) g0 K g3888 H locs := ⟨hW1, hW.2.1, hW.2.2⟩
          refine q_istore (lv9 := [(4, .int r3890), (0, .ref (ad 79)), (1, .int op), (2, .int w4_2), (3, .int w4_3)]) hM dX4_condition_29 hl (by decide) rfl (fun ls hl => ?_)
          refine q_aload_n hM dX4_condition_31 (lv_at hl 1 rfl) ?_
          refine w_get (v := .ref (ad lw)) hM hW FG_X4_15 lb_79 ((hW.2.2.1 79 4 (by omega)).trans h_r4) dX4_condition_32 ?_
          refine w_getI hM hW FG_X4_35 (lo_Lw hlw) (by decide) (by decide) dX4_condition_35 (fun x3892 fx3892 => ?_)
          have bx3892 := hG.f fx3892 (rF_Lw_7 hlw) (by decide)
          refine q_istore (lv9 := [(5, .int x3892), (4, .int r3890), (0, .ref (ad 79)), (1, .int op), (2, .int w4_2), (3, .int w4_3)]) hM dX4_condition_38 hl (by decide) rfl (fun ls hl => ?_)
          have L101 : ∀ (n101 : Int32) (o101 : Int32) (g9 : Nat → va_E) (H : Heap) (locs : List Loc) (ls : Array Slot), (Rng g9) → (-1 ≤ n101.toInt) → (n101.toInt ≤ 256) → (-1 ≤ o101.toInt) → (o101.toInt ≤ 256) → (0 ≤ r3890.toInt) → (fld g9 79 2 = .int v3883) → lv_has ls 6 [(0, .ref (ad 79)), (1, .int op), (2, .int n101), (3, .int o101), (4, .int r3890), (5, .int x3892)] → WS ad cA (fun i k => (i = 79 ∧ (k = 2 ∨ k = 3)) ∨ (i = lw ∧ (k = 7)) ∨ i = (lw + 4) ∨ i = (lw + 5)) g0 K g9 H locs → XX K 0 0 H locs 101 ls [] := by
            intro n101 o101 g9 H locs ls i101_0 i101_1 i101_2 i101_3 i101_4 i101_5 c101_79_2 hl hW
            have hG := i101_0
            refine q_aload_n hM dX4_condition_101 (lv_at hl 0 rfl) ?_
            refine q_dup hM dX4_condition_102 rfl ?_
            refine w_get (v := .int v3883) hM hW FG_X4_23 lb_79 c101_79_2 dX4_condition_103 ?_
            have bv3883 := hG.f c101_79_2 rF_79_2 (by decide)
            refine q_iconst (v := (1 : Int32)) hM dX4_condition_106 (by decide) ?_
            refine q_iadd hM dX4_condition_107 (fun z3894 hz3894 => ?_)
            first | have tz3894 := i_addT hz3894 (rfl : v3883.toInt = v3883.toInt) (kc_1 : (1 : Int32).toInt = 1) (by omega) (by omega) | skip
            refine w_put hM hW FP_X4_23 lb_79 (by omega) (Or.inl ⟨_, rfl⟩) rfl rfl dX4_condition_108 (fun g3895 H locs hW e1 e2 => ?_)
            have f3896 : fld g3895 79 2 = .int z3894 := e1
            have hG := hG.put e1 e2 rF_79_2 (by decide) (by have := i_rng z3894; omega) (by have := i_rng z3894; omega)
            refine q_goto (tgt := 4) hM dX4_condition_111 (by decide) ?_
            exact ih4 n101 o101 z3894 _ _ _ _ (by omega) hG (by omega) (by omega) (by omega) (by omega) (by omega) (by omega) f3896 (lv_sub hl [0, 1, 2, 3] rfl) hW
          refine q_iload hM dX4_condition_40 (lv_at hl 1 rfl) ?_
          refine q_bipush (v := (38 : Int32)) hM dX4_condition_42 (by decide) ?_
          refine q_icmp_ne (tgt := 62) hM dX4_condition_44 (by decide) (rfl : r3890.toInt = r3890.toInt) (kc_38 : (38 : Int32).toInt = 38) (fun h44 => ?_) (fun h44 => ?_)
          · refine q_aload_n hM dX4_condition_62 (lv_at hl 2 rfl) ?_
            refine w_get (v := .ref (ad lw)) hM hW FG_X4_15 lb_79 ((hW.2.2.1 79 4 (by omega)).trans h_r4) dX4_condition_63 ?_
            refine q_iload_n hM dX4_condition_66 (lv_at hl 4 rfl) ?_
            refine q_callV (As := [.int w4_2]) (rest := []) hM hW.1 hR hC myX3_land (kAW (v_2_8 (List.mem_of_getElem? (i := 10) rfl)) rfl) (rfl : vwCl[3]? = some (RX3, TX3, 8)) rfl (lo_Lw hlw).1 (shO hW.2.1 (lo_Lw hlw)) (a_X3_land _ _ cA ad g3888 lw w4_2 hW.2.1 hG hlw) ⟨by decide, by decide⟩ rfl rfl hl.1 (Nat.le_of_ble_eq_true rfl) dX4_condition_67 (fun v g3898 H locs hp hW1 => ?_)
            obtain ⟨rfl, hs1, hG, hf1⟩ := hp
            have f3899 : fld g3898 79 2 = .int v3883 := (hf1.1 79 2 (by omega)).trans q3885
            have f3900 : fld g3898 lw 7 = .int x3892 := (hf1.1 lw 7 (by omega)).trans fx3892
            have hW : WS ad cA (fun i k => (i = 79 ∧ (k = 2 ∨ k = 3)) ∨ (i = lw ∧ (k = 7)) ∨ i = (lw + 4) ∨ i = (lw + 5)) g0 K g3898 H locs := ⟨hW1, hs1, hW.2.2.tr hf1 (fun i k h => (Or.inr (Or.inr (Or.inr h))))⟩
            refine q_iconst (v := ((-1) : Int32)) hM dX4_condition_70 (by decide) ?_
            refine q_istore_n (lv9 := [(2, .int ((-1) : Int32)), (5, .int x3892), (4, .int r3890), (0, .ref (ad 79)), (1, .int op), (3, .int w4_3)]) hM dX4_condition_71 hl (by decide) rfl (fun ls hl => ?_)
            refine q_iload hM dX4_condition_72 (lv_at hl 2 rfl) ?_
            refine q_bipush (v := (124 : Int32)) hM dX4_condition_74 (by decide) ?_
            refine q_icmp_eq (tgt := 89) hM dX4_condition_76 (by decide) (rfl : r3890.toInt = r3890.toInt) (kc_124 : (124 : Int32).toInt = 124) (fun h76 => ?_) (fun h76 => ?_)
            · refine q_aload_n hM dX4_condition_89 (lv_at hl 3 rfl) ?_
              refine w_get (v := .ref (ad lw)) hM hW FG_X4_15 lb_79 ((hW.2.2.1 79 4 (by omega)).trans h_r4) dX4_condition_90 ?_
              refine q_iconst (v := (5 : Int32)) hM dX4_condition_93 (by decide) ?_
              refine q_iload_n hM dX4_condition_94 (lv_at hl 5 rfl) ?_
              refine q_callV (As := [.int (5 : Int32), .int w4_3]) (rest := []) hM hW.1 hR hC myX3_add (kAW (v_2_7 (List.mem_of_getElem? (i := 13) rfl)) rfl) (rfl : vwCl[3]? = some (RX3, TX3, 8)) rfl (lo_Lw hlw).1 (shO hW.2.1 (lo_Lw hlw)) (a_X3_add _ _ cA ad g3898 lw (5 : Int32) w4_3 hW.2.1 hG hlw (by have := kc_5; omega) (by have := kc_5; omega)) ⟨by decide, by decide⟩ rfl rfl hl.1 (Nat.le_of_ble_eq_true rfl) dX4_condition_95 (fun v g3902 H locs hp hW1 => ?_)
              obtain ⟨rfl, hs1, hG, hf1⟩ := hp
              have f3903 : fld g3902 79 2 = .int v3883 := (hf1.1 79 2 (by omega)).trans f3899
              have hW : WS ad cA (fun i k => (i = 79 ∧ (k = 2 ∨ k = 3)) ∨ (i = lw ∧ (k = 7)) ∨ i = (lw + 4) ∨ i = (lw + 5)) g0 K g3902 H locs := ⟨hW1, hs1, hW.2.2.tr hf1 (fun i k h => h.elim (fun h => (Or.inr (Or.inl h))) (fun h => h.elim (fun h => (Or.inr (Or.inr (Or.inl h)))) (fun h => (Or.inr (Or.inr (Or.inr h))))))⟩
              refine q_iload hM dX4_condition_98 (lv_at hl 1 rfl) ?_
              refine q_istore_n (lv9 := [(3, .int x3892), (2, .int ((-1) : Int32)), (5, .int x3892), (4, .int r3890), (0, .ref (ad 79)), (1, .int op)]) hM dX4_condition_100 hl (by decide) rfl (fun ls hl => ?_)
              have := kc_m1
              exact L101 ((-1) : Int32) x3892 _ _ _ _ hG (by omega) (by omega) (by omega) (by omega) (by omega) f3903 (lv_sub hl [4, 5, 1, 0, 3, 2] rfl) hW
            · refine q_aload_n hM dX4_condition_79 (lv_at hl 3 rfl) ?_
              refine w_get (v := .ref (ad lw)) hM hW FG_X4_15 lb_79 ((hW.2.2.1 79 4 (by omega)).trans h_r4) dX4_condition_80 ?_
              refine q_iload_n hM dX4_condition_83 (lv_at hl 5 rfl) ?_
              refine q_callV (As := [.int w4_3]) (rest := []) hM hW.1 hR hC myX3_land (kAW (v_2_8 (List.mem_of_getElem? (i := 10) rfl)) rfl) (rfl : vwCl[3]? = some (RX3, TX3, 8)) rfl (lo_Lw hlw).1 (shO hW.2.1 (lo_Lw hlw)) (a_X3_land _ _ cA ad g3898 lw w4_3 hW.2.1 hG hlw) ⟨by decide, by decide⟩ rfl rfl hl.1 (Nat.le_of_ble_eq_true rfl) dX4_condition_84 (fun v g3905 H locs hp hW1 => ?_)
              obtain ⟨rfl, hs1, hG, hf1⟩ := hp
              have f3906 : fld g3905 79 2 = .int v3883 := (hf1.1 79 2 (by omega)).trans f3899
              have f3907 : fld g3905 lw 7 = .int x3892 := (hf1.1 lw 7 (by omega)).trans f3900
              have hW : WS ad cA (fun i k => (i = 79 ∧ (k = 2 ∨ k = 3)) ∨ (i = lw ∧ (k = 7)) ∨ i = (lw + 4) ∨ i = (lw + 5)) g0 K g3905 H locs := ⟨hW1, hs1, hW.2.2.tr hf1 (fun i k h => (Or.inr (Or.inr (Or.inr h))))⟩
              refine q_iconst (v := (1 : Int32)) hM dX4_condition_87 (by decide) ?_
              exact hE _ _ _ _ _ _ hW.1 nz_1 ⟨v3883, _, rfl, hW.2.1, hG, hW.2.2, f3906, (by have := kc_1; omega), (by have := kc_1; omega), (by have := kc_1; omega)⟩ dX4_condition_88
          · refine q_aload_n hM dX4_condition_47 (lv_at hl 2 rfl) ?_
            refine w_get (v := .ref (ad lw)) hM hW FG_X4_15 lb_79 ((hW.2.2.1 79 4 (by omega)).trans h_r4) dX4_condition_48 ?_
            refine q_iconst (v := (4 : Int32)) hM dX4_condition_51 (by decide) ?_
            refine q_iload_n hM dX4_condition_52 (lv_at hl 4 rfl) ?_
            refine q_callV (As := [.int (4 : Int32), .int w4_2]) (rest := []) hM hW.1 hR hC myX3_add (kAW (v_2_7 (List.mem_of_getElem? (i := 13) rfl)) rfl) (rfl : vwCl[3]? = some (RX3, TX3, 8)) rfl (lo_Lw hlw).1 (shO hW.2.1 (lo_Lw hlw)) (a_X3_add _ _ cA ad g3888 lw (4 : Int32) w4_2 hW.2.1 hG hlw (by have := kc_4; omega) (by have := kc_4; omega)) ⟨by decide, by decide⟩ rfl rfl hl.1 (Nat.le_of_ble_eq_true rfl) dX4_condition_53 (fun v g3909 H locs hp hW1 => ?_)
            obtain ⟨rfl, hs1, hG, hf1⟩ := hp
            have f3910 : fld g3909 79 2 = .int v3883 := (hf1.1 79 2 (by omega)).trans q3885
            have hW : WS ad cA (fun i k => (i = 79 ∧ (k = 2 ∨ k = 3)) ∨ (i = lw ∧ (k = 7)) ∨ i = (lw + 4) ∨ i = (lw + 5)) g0 K g3909 H locs := ⟨hW1, hs1, hW.2.2.tr hf1 (fun i k h => h.elim (fun h => (Or.inr (Or.inl h))) (fun h => h.elim (fun h => (Or.inr (Or.inr (Or.inl h)))) (fun h => (Or.inr (Or.inr (Or.inr h))))))⟩
            refine q_iload hM dX4_condition_56 (lv_at hl 0 rfl) ?_
            refine q_istore_n (lv9 := [(2, .int x3892), (5, .int x3892), (4, .int r3890), (0, .ref (ad 79)), (1, .int op), (3, .int w4_3)]) hM dX4_condition_58 hl (by decide) rfl (fun ls hl => ?_)
            refine q_goto (tgt := 101) hM dX4_condition_59 (by decide) ?_
            exact L101 x3892 w4_3 _ _ _ _ hG (by omega) (by omega) (by omega) (by omega) (by omega) f3910 (lv_sub hl [3, 4, 0, 5, 2, 1] rfl) hW
        · refine q_iconst (v := (0 : Int32)) hM dX4_condition_23 (by decide) ?_
          exact hE _ _ _ _ _ _ hW.1 nz_0 ⟨v3883, _, rfl, hW.2.1, hG, hW.2.2, q3885, (by have := kc_0; omega), (by have := kc_0; omega), (by have := kc_0; omega)⟩ dX4_condition_24
  have := kc_m1
  have := kc_m1
  exact L4 _ ((-1) : Int32) ((-1) : Int32) a0 _ _ _ _ (Nat.lt_succ_self _) hG (by omega) (by omega) (by omega) (by omega) (by omega) (by omega) f3876 (lv_sub hl [2, 3, 1, 0] rfl) hW


set_option maxRecDepth 100000 in
set_option maxHeartbeats 4000000 in
theorem a_X4_factor_1 (l : Launch) (D : va_G) (cA : Nat → ClassId) (ad : Nat → Nat) (g0 : Nat → va_E) (op : Int32) (en : Int32) (a0 : Int32) (lw : Nat) (hSh : Shp ad cA g0) (hG : Rng g0) (hlw : isLw lw) (h_en : fld g0 79 1 = .int en) (h_a0 : fld g0 79 2 = .int a0) (h_r4 : fld g0 79 4 = .ref (ad lw)) (ah0 : 0 ≤ a0.toInt) (ah1 : a0.toInt ≤ en.toInt) (ah2 : en.toInt ≤ 240) (ok : op.toInt = 1) : CT l NN ad cA D yX4_factor cX4_factor 4 (some FieldType.boolean) (15, 347) [.ref (ad 79), .int op] g0 (fun v g' => ∃ (a9 : Int32) (r : Int32), v = some (.int r) ∧ Shp ad cA g' ∧ Rng g' ∧ FR (fun i k => (i = 79 ∧ (k = 2 ∨ k = 3)) ∨ (i = lw ∧ (k = 7)) ∨ i = (lw + 4) ∨ i = (lw + 5)) g0 g' ∧ fld g' 79 2 = .int a9 ∧ (a0.toInt ≤ a9.toInt) ∧ (a9.toInt ≤ en.toInt) ∧ (r.toInt = 0 ∨ r.toInt = 1)) := by
  refine q_enterZ (by decide) (Nat.le_of_ble_eq_true rfl) (fun K H locs ls _ _ hM hW0 hR hC hE hl => ?_)
  have hl : lv_has ls 4 [(0, .ref (ad 79)), (1, .int op)] := hl
  have hW : WS ad cA (fun i k => (i = 79 ∧ (k = 2 ∨ k = 3)) ∨ (i = lw ∧ (k = 7)) ∨ i = (lw + 4) ∨ i = (lw + 5)) g0 K g0 H locs := ⟨hW0, hSh, FR.rf⟩
  have ulw := hlw
  unfold isLw at ulw
  have b_en := hG.f h_en rF_79_1 (by decide)
  have b_a0 := hG.f h_a0 rF_79_2 (by decide)
  have f3912 : fld g0 79 2 = .int a0 := h_a0
  refine q_aload_n hM dX4_factor_0 (lv_at hl 0 rfl) ?_
  refine q_callV (As := []) (rest := []) hM hW.1 hR hC myX4_sign (kAW (v_2_0 (List.mem_of_getElem? (i := 12) rfl)) rfl) (rfl : vwCl[4]? = some (RX4, TX4, 5)) rfl lb_79.1 (shO hW.2.1 lb_79) (a_X4_sign _ _ cA ad g0 en a0 hW.2.1 hG ((hW.2.2.1 79 1 (by omega)).trans h_en) f3912 (by  omega) (by  omega) (by  omega)) ⟨by decide, by decide⟩ rfl rfl hl.1 (Nat.le_of_ble_eq_true rfl) dX4_factor_1 (fun v g3914 H locs hp hW1 => ?_)
  obtain ⟨r3913, rfl, hr3913, rfl⟩ := hp
  have hW : WS ad cA (fun i k => (i = 79 ∧ (k = 2 ∨ k = 3)) ∨ (i = lw ∧ (k = 7)) ∨ i = (lw + 4) ∨ i = (lw + 5)) g0 K g0 H locs := ⟨hW1, hW.2.1, hW.2.2⟩
  refine q_istore_n (lv9 := [(2, .int r3913), (0, .ref (ad 79)), (1, .int op)]) hM dX4_factor_4 hl (by decide) rfl (fun ls hl => ?_)
  refine q_iload_n hM dX4_factor_5 (lv_at hl 0 rfl) ?_
  refine q_bipush (v := (91 : Int32)) hM dX4_factor_6 (by decide) ?_
  refine q_icmp_ne (tgt := 58) hM dX4_factor_8 (by decide) (rfl : r3913.toInt = r3913.toInt) (kc_91 : (91 : Int32).toInt = 91) (fun h8 => ?_) (fun h8 => ?_)
  · refine q_iload_n hM dX4_factor_58 (lv_at hl 0 rfl) ?_
    refine q_bipush (v := (48 : Int32)) hM dX4_factor_59 (by decide) ?_
    refine q_bipush (v := (57 : Int32)) hM dX4_factor_61 (by decide) ?_
    refine q_callN (host := "ForgetSchool") (As := [.int r3913, .int (48 : Int32), .int (57 : Int32)]) (rest := []) hM hW.1 hR hC myX11_within (List.mem_of_getElem? (i := 2) rfl) (c_X11_within _ _ cA ad g0 r3913 (48 : Int32) (57 : Int32) hW.2.1) ⟨by decide, by decide⟩ rfl rfl hl.1 (Nat.le_of_ble_eq_true rfl) dX4_factor_63 (fun v g3917 H locs hp hW1 => ?_)
    obtain ⟨r3916, rfl, hr3916, rfl⟩ := hp
    have hW : WS ad cA (fun i k => (i = 79 ∧ (k = 2 ∨ k = 3)) ∨ (i = lw ∧ (k = 7)) ∨ i = (lw + 4) ∨ i = (lw + 5)) g0 K g0 H locs := ⟨hW1, hW.2.1, hW.2.2⟩
    have := kc_48
    have := kc_57
    refine q_if_eq (tgt := 102) hM dX4_factor_66 (by decide) (rfl : r3916.toInt = r3916.toInt) (fun h66 => ?_) (fun h66 => ?_)
    · refine q_ldcS1 hM hW.1 rfl dX4_factor_102 ?_
      refine q_iload_n hM dX4_factor_104 (lv_at hl 0 rfl) ?_
      refine q_callS (As := [.ref (ad 401), .int r3913]) (rest := []) hM hW.1 hR hC myX4_placeOf (kAW (v_2_1 (List.mem_of_getElem? (i := 1) rfl)) rfl) (a_X4_placeOf_1 _ _ cA ad g0 r3913 hW.2.1 hG) ⟨by decide, by decide⟩ rfl rfl hl.1 (Nat.le_of_ble_eq_true rfl) dX4_factor_105 (fun v g3920 H locs hp hW1 => ?_)
      obtain ⟨r3919, rfl, hr3919, rfl⟩ := hp
      have hW : WS ad cA (fun i k => (i = 79 ∧ (k = 2 ∨ k = 3)) ∨ (i = lw ∧ (k = 7)) ∨ i = (lw + 4) ∨ i = (lw + 5)) g0 K g0 H locs := ⟨hW1, hW.2.1, hW.2.2⟩
      refine q_istore_n (lv9 := [(3, .int r3919), (2, .int r3913), (0, .ref (ad 79)), (1, .int op)]) hM dX4_factor_108 hl (by decide) rfl (fun ls hl => ?_)
      refine q_iload_n hM dX4_factor_109 (lv_at hl 0 rfl) ?_
      refine q_if_ge (tgt := 119) hM dX4_factor_110 (by decide) (rfl : r3919.toInt = r3919.toInt) (fun h110 => ?_) (fun h110 => ?_)
      · refine q_aload_n hM dX4_factor_119 (lv_at hl 2 rfl) ?_
        refine w_get (v := .ref (ad lw)) hM hW FG_X4_15 lb_79 ((hW.2.2.1 79 4 (by omega)).trans h_r4) dX4_factor_120 ?_
        refine q_iconst (v := (2 : Int32)) hM dX4_factor_123 (by decide) ?_
        refine q_iload_n hM dX4_factor_124 (lv_at hl 0 rfl) ?_
        refine q_callV (As := [.int (2 : Int32), .int r3919]) (rest := []) hM hW.1 hR hC myX3_add (kAW (v_2_7 (List.mem_of_getElem? (i := 13) rfl)) rfl) (rfl : vwCl[3]? = some (RX3, TX3, 8)) rfl (lo_Lw hlw).1 (shO hW.2.1 (lo_Lw hlw)) (a_X3_add _ _ cA ad g0 lw (2 : Int32) r3919 hW.2.1 hG hlw (by have := kc_2; omega) (by have := kc_2; omega)) ⟨by decide, by decide⟩ rfl rfl hl.1 (Nat.le_of_ble_eq_true rfl) dX4_factor_125 (fun v g3922 H locs hp hW1 => ?_)
        obtain ⟨rfl, hs1, hG, hf1⟩ := hp
        have f3923 : fld g3922 79 2 = .int a0 := (hf1.1 79 2 (by omega)).trans f3912
        have hW : WS ad cA (fun i k => (i = 79 ∧ (k = 2 ∨ k = 3)) ∨ (i = lw ∧ (k = 7)) ∨ i = (lw + 4) ∨ i = (lw + 5)) g0 K g3922 H locs := ⟨hW1, hs1, hW.2.2.tr hf1 (fun i k h => h.elim (fun h => (Or.inr (Or.inl h))) (fun h => h.elim (fun h => (Or.inr (Or.inr (Or.inl h)))) (fun h => (Or.inr (Or.inr (Or.inr h))))))⟩
        refine q_aload_n hM dX4_factor_128 (lv_at hl 2 rfl) ?_
        refine q_dup hM dX4_factor_129 rfl ?_
        refine w_get (v := .int a0) hM hW FG_X4_23 lb_79 f3923 dX4_factor_130 ?_
        have ba0 := hG.f f3923 rF_79_2 (by decide)
        refine q_iconst (v := (1 : Int32)) hM dX4_factor_133 (by decide) ?_
        refine q_iadd hM dX4_factor_134 (fun z3924 hz3924 => ?_)
        first | have tz3924 := i_addT hz3924 (rfl : a0.toInt = a0.toInt) (kc_1 : (1 : Int32).toInt = 1) (by omega) (by omega) | skip
        refine w_put hM hW FP_X4_23 lb_79 (by omega) (Or.inl ⟨_, rfl⟩) rfl rfl dX4_factor_135 (fun g3925 H locs hW e1 e2 => ?_)
        have f3926 : fld g3925 79 2 = .int z3924 := e1
        have hG := hG.put e1 e2 rF_79_2 (by decide) (by have := i_rng z3924; omega) (by have := i_rng z3924; omega)
        refine q_iconst (v := (1 : Int32)) hM dX4_factor_138 (by decide) ?_
        exact hE _ _ _ _ _ _ hW.1 nz_1 ⟨z3924, _, rfl, hW.2.1, hG, hW.2.2, f3926, (by have := kc_1; omega), (by have := kc_1; omega), (by have := kc_1; omega)⟩ dX4_factor_139
      · refine q_aload_n hM dX4_factor_113 (lv_at hl 2 rfl) ?_
        refine q_iconst (v := (1 : Int32)) hM dX4_factor_114 (by decide) ?_
        refine q_callV (As := [.int (1 : Int32)]) (rest := []) hM hW.1 hR hC myX4_wrong (kAW (v_2_6 (List.mem_of_getElem? (i := 8) rfl)) rfl) (rfl : vwCl[4]? = some (RX4, TX4, 5)) rfl lb_79.1 (shO hW.2.1 lb_79) (a_X4_wrong _ _ cA ad g0 (1 : Int32) hW.2.1 hG) ⟨by decide, by decide⟩ rfl rfl hl.1 (Nat.le_of_ble_eq_true rfl) dX4_factor_115 (fun v g3929 H locs hp hW1 => ?_)
        obtain ⟨r3928, rfl, hs1, hG, hf1, hr3928⟩ := hp
        have f3930 : fld g3929 79 2 = .int a0 := (hf1.1 79 2 (by omega)).trans f3912
        have hW : WS ad cA (fun i k => (i = 79 ∧ (k = 2 ∨ k = 3)) ∨ (i = lw ∧ (k = 7)) ∨ i = (lw + 4) ∨ i = (lw + 5)) g0 K g3929 H locs := ⟨hW1, hs1, hW.2.2.tr hf1 (fun i k h => (Or.inl (by omega)))⟩
        exact hE _ _ _ _ _ _ hW.1 (nz_or (by omega)) ⟨a0, _, rfl, hW.2.1, hG, hW.2.2, f3930, (by omega), (by omega), (by omega)⟩ dX4_factor_118
    · refine q_aload_n hM dX4_factor_69 (lv_at hl 1 rfl) ?_
      refine q_callV (As := []) (rest := []) hM hW.1 hR hC myX4_number (kAW (v_2_7 (List.mem_of_getElem? (i := 9) rfl)) rfl) (rfl : vwCl[4]? = some (RX4, TX4, 5)) rfl lb_79.1 (shO hW.2.1 lb_79) (a_X4_number _ _ cA ad g0 en a0 hW.2.1 hG ((hW.2.2.1 79 1 (by omega)).trans h_en) f3912 (by  omega) (by  omega) (by  omega)) ⟨by decide, by decide⟩ rfl rfl hl.1 (Nat.le_of_ble_eq_true rfl) dX4_factor_70 (fun v g3937 H locs hp hW1 => ?_)
      obtain ⟨v3932, r3933, rfl, hs1, hG, hf1, q3934, e3935, e3936, hr3933⟩ := hp
      have hW : WS ad cA (fun i k => (i = 79 ∧ (k = 2 ∨ k = 3)) ∨ (i = lw ∧ (k = 7)) ∨ i = (lw + 4) ∨ i = (lw + 5)) g0 K g3937 H locs := ⟨hW1, hs1, hW.2.2.tr hf1 (fun i k h => (Or.inl (by omega)))⟩
      refine q_istore_n (lv9 := [(3, .int r3933), (2, .int r3913), (0, .ref (ad 79)), (1, .int op)]) hM dX4_factor_73 hl (by decide) rfl (fun ls hl => ?_)
      refine q_aload_n hM dX4_factor_74 (lv_at hl 2 rfl) ?_
      refine w_get (v := .ref (ad lw)) hM hW FG_X4_15 lb_79 ((hW.2.2.1 79 4 (by omega)).trans h_r4) dX4_factor_75 ?_
      refine q_iconst (v := (1 : Int32)) hM dX4_factor_78 (by decide) ?_
      refine q_iload_n hM dX4_factor_79 (lv_at hl 0 rfl) ?_
      refine q_callV (As := [.int (1 : Int32), .int r3933]) (rest := []) hM hW.1 hR hC myX3_add (kAW (v_2_7 (List.mem_of_getElem? (i := 13) rfl)) rfl) (rfl : vwCl[3]? = some (RX3, TX3, 8)) rfl (lo_Lw hlw).1 (shO hW.2.1 (lo_Lw hlw)) (a_X3_add _ _ cA ad g3937 lw (1 : Int32) r3933 hW.2.1 hG hlw (by have := kc_1; omega) (by have := kc_1; omega)) ⟨by decide, by decide⟩ rfl rfl hl.1 (Nat.le_of_ble_eq_true rfl) dX4_factor_80 (fun v g3938 H locs hp hW1 => ?_)
      obtain ⟨rfl, hs1, hG, hf1⟩ := hp
      have f3939 : fld g3938 79 2 = .int v3932 := (hf1.1 79 2 (by omega)).trans q3934
      have hW : WS ad cA (fun i k => (i = 79 ∧ (k = 2 ∨ k = 3)) ∨ (i = lw ∧ (k = 7)) ∨ i = (lw + 4) ∨ i = (lw + 5)) g0 K g3938 H locs := ⟨hW1, hs1, hW.2.2.tr hf1 (fun i k h => h.elim (fun h => (Or.inr (Or.inl h))) (fun h => h.elim (fun h => (Or.inr (Or.inr (Or.inl h)))) (fun h => (Or.inr (Or.inr (Or.inr h))))))⟩
      refine q_iload_n hM dX4_factor_83 (lv_at hl 0 rfl) ?_
      refine q_iconst (v := ((-1) : Int32)) hM dX4_factor_84 (by decide) ?_
      refine q_icmp_ne (tgt := 96) hM dX4_factor_85 (by decide) (rfl : r3933.toInt = r3933.toInt) (kc_m1 : ((-1) : Int32).toInt = (-1)) (fun h85 => ?_) (fun h85 => ?_)
      · refine q_iconst (v := (1 : Int32)) hM dX4_factor_96 (by decide) ?_
        refine q_goto (tgt := 101) hM dX4_factor_97 (by decide) ?_
        exact hE _ _ _ _ _ _ hW.1 nz_1 ⟨v3932, _, rfl, hW.2.1, hG, hW.2.2, f3939, (by have := kc_1; omega), (by have := kc_1; omega), (by have := kc_1; omega)⟩ dX4_factor_101
      · refine q_aload_n hM dX4_factor_88 (lv_at hl 2 rfl) ?_
        refine q_iconst (v := (2 : Int32)) hM dX4_factor_89 (by decide) ?_
        refine q_callV (As := [.int (2 : Int32)]) (rest := []) hM hW.1 hR hC myX4_wrong (kAW (v_2_6 (List.mem_of_getElem? (i := 8) rfl)) rfl) (rfl : vwCl[4]? = some (RX4, TX4, 5)) rfl lb_79.1 (shO hW.2.1 lb_79) (a_X4_wrong _ _ cA ad g3938 (2 : Int32) hW.2.1 hG) ⟨by decide, by decide⟩ rfl rfl hl.1 (Nat.le_of_ble_eq_true rfl) dX4_factor_90 (fun v g3943 H locs hp hW1 => ?_)
        obtain ⟨r3942, rfl, hs1, hG, hf1, hr3942⟩ := hp
        have f3944 : fld g3943 79 2 = .int v3932 := (hf1.1 79 2 (by omega)).trans f3939
        have hW : WS ad cA (fun i k => (i = 79 ∧ (k = 2 ∨ k = 3)) ∨ (i = lw ∧ (k = 7)) ∨ i = (lw + 4) ∨ i = (lw + 5)) g0 K g3943 H locs := ⟨hW1, hs1, hW.2.2.tr hf1 (fun i k h => (Or.inl (by omega)))⟩
        refine q_if_eq (tgt := 100) hM dX4_factor_93 (by decide) (rfl : r3942.toInt = r3942.toInt) (fun h93 => ?_) (fun h93 => ?_)
        · refine q_iconst (v := (0 : Int32)) hM dX4_factor_100 (by decide) ?_
          exact hE _ _ _ _ _ _ hW.1 nz_0 ⟨v3932, _, rfl, hW.2.1, hG, hW.2.2, f3944, (by have := kc_0; omega), (by have := kc_0; omega), (by have := kc_0; omega)⟩ dX4_factor_101
        · refine q_iconst (v := (1 : Int32)) hM dX4_factor_96 (by decide) ?_
          refine q_goto (tgt := 101) hM dX4_factor_97 (by decide) ?_
          exact hE _ _ _ _ _ _ hW.1 nz_1 ⟨v3932, _, rfl, hW.2.1, hG, hW.2.2, f3944, (by have := kc_1; omega), (by have := kc_1; omega), (by have := kc_1; omega)⟩ dX4_factor_101
  · refine q_iload_n hM dX4_factor_11 (lv_at hl 2 rfl) ?_
    refine q_bipush (v := (6 : Int32)) hM dX4_factor_12 (by decide) ?_
    refine q_icmp_lt (tgt := 23) hM dX4_factor_14 (by decide) (rfl : op.toInt = op.toInt) (kc_6 : (6 : Int32).toInt = 6) (fun h14 => ?_) (fun h14 => ?_)
    · refine q_aload_n hM dX4_factor_23 (lv_at hl 1 rfl) ?_
      refine q_dup hM dX4_factor_24 rfl ?_
      refine w_get (v := .int a0) hM hW FG_X4_23 lb_79 f3912 dX4_factor_25 ?_
      have ba0 := hG.f f3912 rF_79_2 (by decide)
      refine q_iconst (v := (1 : Int32)) hM dX4_factor_28 (by decide) ?_
      refine q_iadd hM dX4_factor_29 (fun z3949 hz3949 => ?_)
      first | have tz3949 := i_addT hz3949 (rfl : a0.toInt = a0.toInt) (kc_1 : (1 : Int32).toInt = 1) (by omega) (by omega) | skip
      refine w_put hM hW FP_X4_23 lb_79 (by omega) (Or.inl ⟨_, rfl⟩) rfl rfl dX4_factor_30 (fun g3950 H locs hW e1 e2 => ?_)
      have f3951 : fld g3950 79 2 = .int z3949 := e1
      have hG := hG.put e1 e2 rF_79_2 (by decide) (by have := i_rng z3949; omega) (by have := i_rng z3949; omega)
      refine q_aload_n hM dX4_factor_33 (lv_at hl 1 rfl) ?_
      refine q_iload_n hM dX4_factor_34 (lv_at hl 2 rfl) ?_
      refine q_iconst (v := (1 : Int32)) hM dX4_factor_35 (by decide) ?_
      refine q_iadd hM dX4_factor_36 (fun z3952 hz3952 => ?_)
      first | have tz3952 := i_addT hz3952 (rfl : op.toInt = op.toInt) (kc_1 : (1 : Int32).toInt = 1) (by omega) (by omega) | skip
      refine q_callV (As := [.int z3952]) (rest := []) hM hW.1 hR hC myX4_expression (kAW (v_2_6 (List.mem_of_getElem? (i := 12) rfl)) rfl) (rfl : vwCl[4]? = some (RX4, TX4, 5)) rfl lb_79.1 (shO hW.2.1 lb_79) (a_X4_expression_2 _ _ cA ad g3950 z3952 en z3949 lw hW.2.1 hG hlw ((hW.2.2.1 79 1 (by omega)).trans h_en) f3951 ((hW.2.2.1 79 4 (by omega)).trans h_r4) (by  omega) (by  omega) (by  omega) (by  omega)) ⟨by decide, by decide⟩ rfl rfl hl.1 (Nat.le_of_ble_eq_true rfl) dX4_factor_37 (fun v g3958 H locs hp hW1 => ?_)
      obtain ⟨v3953, r3954, rfl, hs1, hG, hf1, q3955, e3956, e3957, hr3954⟩ := hp
      have hW : WS ad cA (fun i k => (i = 79 ∧ (k = 2 ∨ k = 3)) ∨ (i = lw ∧ (k = 7)) ∨ i = (lw + 4) ∨ i = (lw + 5)) g0 K g3958 H locs := ⟨hW1, hs1, hW.2.2.tr hf1 (fun i k h => h.elim (fun h => (Or.inl h)) (fun h => h.elim (fun h => (Or.inr (Or.inl h))) (fun h => h.elim (fun h => (Or.inr (Or.inr (Or.inl h)))) (fun h => (Or.inr (Or.inr (Or.inr h)))))))⟩
      refine q_if_eq (tgt := 56) hM dX4_factor_40 (by decide) (rfl : r3954.toInt = r3954.toInt) (fun h40 => ?_) (fun h40 => ?_)
      · refine q_iconst (v := (0 : Int32)) hM dX4_factor_56 (by decide) ?_
        exact hE _ _ _ _ _ _ hW.1 nz_0 ⟨v3953, _, rfl, hW.2.1, hG, hW.2.2, q3955, (by have := kc_0; omega), (by have := kc_0; omega), (by have := kc_0; omega)⟩ dX4_factor_57
      · refine q_aload_n hM dX4_factor_43 (lv_at hl 1 rfl) ?_
        refine q_bipush (v := (93 : Int32)) hM dX4_factor_44 (by decide) ?_
        refine q_callV (As := [.int (93 : Int32)]) (rest := []) hM hW.1 hR hC myX4_passes (kAW (v_2_7 (List.mem_of_getElem? (i := 4) rfl)) rfl) (rfl : vwCl[4]? = some (RX4, TX4, 5)) rfl lb_79.1 (shO hW.2.1 lb_79) (a_X4_passes _ _ cA ad g3958 (93 : Int32) en v3953 hW.2.1 hG ((hW.2.2.1 79 1 (by omega)).trans h_en) q3955 (by have := kc_93; omega) (by have := kc_93; omega) (by have := kc_93; omega)) ⟨by decide, by decide⟩ rfl rfl hl.1 (Nat.le_of_ble_eq_true rfl) dX4_factor_46 (fun v g3966 H locs hp hW1 => ?_)
        obtain ⟨v3961, r3962, rfl, hs1, hG, hf1, q3963, e3964, e3965, hr3962⟩ := hp
        have hW : WS ad cA (fun i k => (i = 79 ∧ (k = 2 ∨ k = 3)) ∨ (i = lw ∧ (k = 7)) ∨ i = (lw + 4) ∨ i = (lw + 5)) g0 K g3966 H locs := ⟨hW1, hs1, hW.2.2.tr hf1 (fun i k h => (Or.inl h))⟩
        refine q_if_eq (tgt := 56) hM dX4_factor_49 (by decide) (rfl : r3962.toInt = r3962.toInt) (fun h49 => ?_) (fun h49 => ?_)
        · refine q_iconst (v := (0 : Int32)) hM dX4_factor_56 (by decide) ?_
          exact hE _ _ _ _ _ _ hW.1 nz_0 ⟨v3961, _, rfl, hW.2.1, hG, hW.2.2, q3963, (by have := kc_0; omega), (by have := kc_0; omega), (by have := kc_0; omega)⟩ dX4_factor_57
        · refine q_iconst (v := (1 : Int32)) hM dX4_factor_52 (by decide) ?_
          refine q_goto (tgt := 57) hM dX4_factor_53 (by decide) ?_
          exact hE _ _ _ _ _ _ hW.1 nz_1 ⟨v3961, _, rfl, hW.2.1, hG, hW.2.2, q3963, (by have := kc_1; omega), (by have := kc_1; omega), (by have := kc_1; omega)⟩ dX4_factor_57
    · omega


set_option maxRecDepth 100000 in
set_option maxHeartbeats 4000000 in
theorem a_X4_expression_1 (l : Launch) (D : va_G) (cA : Nat → ClassId) (ad : Nat → Nat) (g0 : Nat → va_E) (op : Int32) (en : Int32) (a0 : Int32) (lw : Nat) (hSh : Shp ad cA g0) (hG : Rng g0) (hlw : isLw lw) (h_en : fld g0 79 1 = .int en) (h_a0 : fld g0 79 2 = .int a0) (h_r4 : fld g0 79 4 = .ref (ad lw)) (ah0 : 0 ≤ a0.toInt) (ah1 : a0.toInt ≤ en.toInt) (ah2 : en.toInt ≤ 240) (ok : op.toInt = 1) : CT l NN ad cA D yX4_expression cX4_expression 5 (some FieldType.boolean) (16, 370) [.ref (ad 79), .int op] g0 (fun v g' => ∃ (a9 : Int32) (r : Int32), v = some (.int r) ∧ Shp ad cA g' ∧ Rng g' ∧ FR (fun i k => (i = 79 ∧ (k = 2 ∨ k = 3)) ∨ (i = lw ∧ (k = 7)) ∨ i = (lw + 4) ∨ i = (lw + 5)) g0 g' ∧ fld g' 79 2 = .int a9 ∧ (a0.toInt ≤ a9.toInt) ∧ (a9.toInt ≤ en.toInt) ∧ (r.toInt = 0 ∨ r.toInt = 1)) := by
  refine q_enterZ (by decide) (Nat.le_of_ble_eq_true rfl) (fun K H locs ls _ _ hM hW0 hR hC hE hl => ?_)
  have hl : lv_has ls 5 [(0, .ref (ad 79)), (1, .int op)] := hl
  have hW : WS ad cA (fun i k => (i = 79 ∧ (k = 2 ∨ k = 3)) ∨ (i = lw ∧ (k = 7)) ∨ i = (lw + 4) ∨ i = (lw + 5)) g0 K g0 H locs := ⟨hW0, hSh, FR.rf⟩
  have ulw := hlw
  unfold isLw at ulw
  have b_en := hG.f h_en rF_79_1 (by decide)
  have b_a0 := hG.f h_a0 rF_79_2 (by decide)
  have f3970 : fld g0 79 2 = .int a0 := h_a0
  refine q_iconst (v := ((-1) : Int32)) hM dX4_expression_0 (by decide) ?_
  refine q_istore_n (lv9 := [(2, .int ((-1) : Int32)), (0, .ref (ad 79)), (1, .int op)]) hM dX4_expression_1 hl (by decide) rfl (fun ls hl => ?_)
  refine q_iconst (v := ((-1) : Int32)) hM dX4_expression_2 (by decide) ?_
  refine q_istore_n (lv9 := [(3, .int ((-1) : Int32)), (2, .int ((-1) : Int32)), (0, .ref (ad 79)), (1, .int op)]) hM dX4_expression_3 hl (by decide) rfl (fun ls hl => ?_)
  have L4 : ∀ (fu4 : Nat) (w4_3 : Int32) (w4_2 : Int32) (aa : Int32) (g9 : Nat → va_E) (H : Heap) (locs : List Loc) (ls : Array Slot), (en.toInt - aa.toInt + 1).toNat < fu4 → (Rng g9) → (a0.toInt ≤ aa.toInt) → (aa.toInt ≤ en.toInt) → (fld g9 79 2 = .int aa) → lv_has ls 5 [(0, .ref (ad 79)), (1, .int op), (2, .int w4_2), (3, .int w4_3)] → WS ad cA (fun i k => (i = 79 ∧ (k = 2 ∨ k = 3)) ∨ (i = lw ∧ (k = 7)) ∨ i = (lw + 4) ∨ i = (lw + 5)) g0 K g9 H locs → XX K 0 0 H locs 4 ls [] := by
    intro fu4
    induction fu4 with
    | zero => intro w4_3 w4_2 aa g9 H locs ls h0; omega
    | succ fu4 ih4 =>
      intro w4_3 w4_2 aa g9 H locs ls hm4 i4_0 i4_1 i4_2 c4_79_2 hl hW
      have hG := i4_0
      refine q_aload_n hM dX4_expression_4 (lv_at hl 0 rfl) ?_
      refine w_get (v := .int aa) hM hW FG_X4_23 lb_79 c4_79_2 dX4_expression_5 ?_
      have baa := hG.f c4_79_2 rF_79_2 (by decide)
      refine q_aload_n hM dX4_expression_8 (lv_at hl 0 rfl) ?_
      refine w_get (v := .int en) hM hW FG_X4_19 lb_79 ((hW.2.2.1 79 1 (by omega)).trans h_en) dX4_expression_9 ?_
      refine q_icmp_gt (tgt := 133) hM dX4_expression_12 (by decide) (rfl : aa.toInt = aa.toInt) (rfl : en.toInt = en.toInt) (fun h12 => ?_) (fun h12 => ?_)
      · refine q_aload_n hM dX4_expression_133 (lv_at hl 0 rfl) ?_
        refine q_iconst (v := (1 : Int32)) hM dX4_expression_134 (by decide) ?_
        refine q_callV (As := [.int (1 : Int32)]) (rest := []) hM hW.1 hR hC myX4_wrong (kAW (v_2_6 (List.mem_of_getElem? (i := 8) rfl)) rfl) (rfl : vwCl[4]? = some (RX4, TX4, 5)) rfl lb_79.1 (shO hW.2.1 lb_79) (a_X4_wrong _ _ cA ad g9 (1 : Int32) hW.2.1 hG) ⟨by decide, by decide⟩ rfl rfl hl.1 (Nat.le_of_ble_eq_true rfl) dX4_expression_135 (fun v g3974 H locs hp hW1 => ?_)
        obtain ⟨r3973, rfl, hs1, hG, hf1, hr3973⟩ := hp
        have f3975 : fld g3974 79 2 = .int aa := (hf1.1 79 2 (by omega)).trans c4_79_2
        have hW : WS ad cA (fun i k => (i = 79 ∧ (k = 2 ∨ k = 3)) ∨ (i = lw ∧ (k = 7)) ∨ i = (lw + 4) ∨ i = (lw + 5)) g0 K g3974 H locs := ⟨hW1, hs1, hW.2.2.tr hf1 (fun i k h => (Or.inl (by omega)))⟩
        exact hE _ _ _ _ _ _ hW.1 (nz_or (by omega)) ⟨aa, _, rfl, hW.2.1, hG, hW.2.2, f3975, (by omega), (by omega), (by omega)⟩ dX4_expression_138
      · refine q_aload_n hM dX4_expression_15 (lv_at hl 0 rfl) ?_
        refine q_iload_n hM dX4_expression_16 (lv_at hl 1 rfl) ?_
        refine q_callV (As := [.int op]) (rest := []) hM hW.1 hR hC myX4_factor (kAW (v_2_7 (List.mem_of_getElem? (i := 0) rfl)) rfl) (rfl : vwCl[4]? = some (RX4, TX4, 5)) rfl lb_79.1 (shO hW.2.1 lb_79) (a_X4_factor_1 _ _ cA ad g9 op en aa lw hW.2.1 hG hlw ((hW.2.2.1 79 1 (by omega)).trans h_en) c4_79_2 ((hW.2.2.1 79 4 (by omega)).trans h_r4) (by  omega) (by  omega) (by  omega) (by  omega)) ⟨by decide, by decide⟩ rfl rfl hl.1 (Nat.le_of_ble_eq_true rfl) dX4_expression_17 (fun v g3982 H locs hp hW1 => ?_)
        obtain ⟨v3977, r3978, rfl, hs1, hG, hf1, q3979, e3980, e3981, hr3978⟩ := hp
        have hW : WS ad cA (fun i k => (i = 79 ∧ (k = 2 ∨ k = 3)) ∨ (i = lw ∧ (k = 7)) ∨ i = (lw + 4) ∨ i = (lw + 5)) g0 K g3982 H locs := ⟨hW1, hs1, hW.2.2.tr hf1 (fun i k h => h.elim (fun h => (Or.inl h)) (fun h => h.elim (fun h => (Or.inr (Or.inl h))) (fun h => h.elim (fun h => (Or.inr (Or.inr (Or.inl h)))) (fun h => (Or.inr (Or.inr (Or.inr h)))))))⟩
        refine q_if_ne (tgt := 25) hM dX4_expression_20 (by decide) (rfl : r3978.toInt = r3978.toInt) (fun h20 => ?_) (fun h20 => ?_)
        · have L39 : ∀ (g9 : Nat → va_E) (H : Heap) (locs : List Loc) (ls : Array Slot), (Rng g9) → (fld g9 79 2 = .int v3977) → lv_has ls 5 [(0, .ref (ad 79)), (1, .int op), (2, .int w4_2), (3, .int w4_3)] → WS ad cA (fun i k => (i = 79 ∧ (k = 2 ∨ k = 3)) ∨ (i = lw ∧ (k = 7)) ∨ i = (lw + 4) ∨ i = (lw + 5)) g0 K g9 H locs → XX K 0 0 H locs 39 ls [] := by
            intro g9 H locs ls i39_0 c39_79_2 hl hW
            have hG := i39_0
            refine q_aload_n hM dX4_expression_39 (lv_at hl 0 rfl) ?_
            refine q_callV (As := []) (rest := []) hM hW.1 hR hC myX4_sign (kAW (v_2_0 (List.mem_of_getElem? (i := 12) rfl)) rfl) (rfl : vwCl[4]? = some (RX4, TX4, 5)) rfl lb_79.1 (shO hW.2.1 lb_79) (a_X4_sign _ _ cA ad g9 en v3977 hW.2.1 hG ((hW.2.2.1 79 1 (by omega)).trans h_en) c39_79_2 (by  omega) (by  omega) (by  omega)) ⟨by decide, by decide⟩ rfl rfl hl.1 (Nat.le_of_ble_eq_true rfl) dX4_expression_40 (fun v g3986 H locs hp hW1 => ?_)
            obtain ⟨r3985, rfl, hr3985, rfl⟩ := hp
            have hW : WS ad cA (fun i k => (i = 79 ∧ (k = 2 ∨ k = 3)) ∨ (i = lw ∧ (k = 7)) ∨ i = (lw + 4) ∨ i = (lw + 5)) g0 K g9 H locs := ⟨hW1, hW.2.1, hW.2.2⟩
            refine q_istore (lv9 := [(4, .int r3985), (0, .ref (ad 79)), (1, .int op), (2, .int w4_2), (3, .int w4_3)]) hM dX4_expression_43 hl (by decide) rfl (fun ls hl => ?_)
            have L73 : ∀ (p73 : Int32) (g9 : Nat → va_E) (H : Heap) (locs : List Loc) (ls : Array Slot), (Rng g9) → (p73.toInt = -1 ∨ 0 ≤ r3985.toInt) → (fld g9 79 2 = .int v3977) → lv_has ls 5 [(0, .ref (ad 79)), (1, .int op), (2, .int w4_2), (3, .int p73), (4, .int r3985)] → WS ad cA (fun i k => (i = 79 ∧ (k = 2 ∨ k = 3)) ∨ (i = lw ∧ (k = 7)) ∨ i = (lw + 4) ∨ i = (lw + 5)) g0 K g9 H locs → XX K 0 0 H locs 73 ls [] := by
              intro p73 g9 H locs ls i73_0 i73_1 c73_79_2 hl hW
              have hG := i73_0
              refine q_iload_n hM dX4_expression_73 (lv_at hl 3 rfl) ?_
              refine q_iconst (v := ((-1) : Int32)) hM dX4_expression_74 (by decide) ?_
              refine q_icmp_ne (tgt := 120) hM dX4_expression_75 (by decide) (rfl : p73.toInt = p73.toInt) (kc_m1 : ((-1) : Int32).toInt = (-1)) (fun h75 => ?_) (fun h75 => ?_)
              · refine q_aload_n hM dX4_expression_120 (lv_at hl 0 rfl) ?_
                refine q_dup hM dX4_expression_121 rfl ?_
                refine w_get (v := .int v3977) hM hW FG_X4_23 lb_79 c73_79_2 dX4_expression_122 ?_
                have bv3977 := hG.f c73_79_2 rF_79_2 (by decide)
                refine q_iconst (v := (1 : Int32)) hM dX4_expression_125 (by decide) ?_
                refine q_iadd hM dX4_expression_126 (fun z3989 hz3989 => ?_)
                first | have tz3989 := i_addT hz3989 (rfl : v3977.toInt = v3977.toInt) (kc_1 : (1 : Int32).toInt = 1) (by omega) (by omega) | skip
                refine w_put hM hW FP_X4_23 lb_79 (by omega) (Or.inl ⟨_, rfl⟩) rfl rfl dX4_expression_127 (fun g3990 H locs hW e1 e2 => ?_)
                have f3991 : fld g3990 79 2 = .int z3989 := e1
                have hG := hG.put e1 e2 rF_79_2 (by decide) (by have := i_rng z3989; omega) (by have := i_rng z3989; omega)
                refine q_goto (tgt := 4) hM dX4_expression_130 (by decide) ?_
                exact ih4 p73 w4_2 z3989 _ _ _ _ (by omega) hG (by omega) (by omega) f3991 (lv_sub hl [0, 1, 2, 3] rfl) hW
              · have L92 : ∀ (g9 : Nat → va_E) (H : Heap) (locs : List Loc) (ls : Array Slot), (Rng g9) → (fld g9 79 2 = .int v3977) → lv_has ls 5 [(0, .ref (ad 79)), (1, .int op), (2, .int w4_2), (3, .int p73), (4, .int r3985)] → WS ad cA (fun i k => (i = 79 ∧ (k = 2 ∨ k = 3)) ∨ (i = lw ∧ (k = 7)) ∨ i = (lw + 4) ∨ i = (lw + 5)) g0 K g9 H locs → XX K 0 0 H locs 92 ls [] := by
                  intro g9 H locs ls i92_0 c92_79_2 hl hW
                  have hG := i92_0
                  refine q_iload hM dX4_expression_92 (lv_at hl 4 rfl) ?_
                  refine q_bipush (v := (43 : Int32)) hM dX4_expression_94 (by decide) ?_
                  refine q_icmp_eq (tgt := 106) hM dX4_expression_96 (by decide) (rfl : r3985.toInt = r3985.toInt) (kc_43 : (43 : Int32).toInt = 43) (fun h96 => ?_) (fun h96 => ?_)
                  · refine q_iload hM dX4_expression_106 (lv_at hl 4 rfl) ?_
                    refine q_goto (tgt := 112) hM dX4_expression_108 (by decide) ?_
                    refine q_istore_n (lv9 := [(2, .int r3985), (0, .ref (ad 79)), (1, .int op), (3, .int p73), (4, .int r3985)]) hM dX4_expression_112 hl (by decide) rfl (fun ls hl => ?_)
                    refine q_iload_n hM dX4_expression_113 (lv_at hl 0 rfl) ?_
                    refine q_iconst (v := ((-1) : Int32)) hM dX4_expression_114 (by decide) ?_
                    refine q_icmp_ne (tgt := 120) hM dX4_expression_115 (by decide) (rfl : r3985.toInt = r3985.toInt) (kc_m1 : ((-1) : Int32).toInt = (-1)) (fun h115 => ?_) (fun h115 => ?_)
                    · refine q_aload_n hM dX4_expression_120 (lv_at hl 1 rfl) ?_
                      refine q_dup hM dX4_expression_121 rfl ?_
                      refine w_get (v := .int v3977) hM hW FG_X4_23 lb_79 c92_79_2 dX4_expression_122 ?_
                      have bv3977 := hG.f c92_79_2 rF_79_2 (by decide)
                      refine q_iconst (v := (1 : Int32)) hM dX4_expression_125 (by decide) ?_
                      refine q_iadd hM dX4_expression_126 (fun z3996 hz3996 => ?_)
                      first | have tz3996 := i_addT hz3996 (rfl : v3977.toInt = v3977.toInt) (kc_1 : (1 : Int32).toInt = 1) (by omega) (by omega) | skip
                      refine w_put hM hW FP_X4_23 lb_79 (by omega) (Or.inl ⟨_, rfl⟩) rfl rfl dX4_expression_127 (fun g3997 H locs hW e1 e2 => ?_)
                      have f3998 : fld g3997 79 2 = .int z3996 := e1
                      have hG := hG.put e1 e2 rF_79_2 (by decide) (by have := i_rng z3996; omega) (by have := i_rng z3996; omega)
                      refine q_goto (tgt := 4) hM dX4_expression_130 (by decide) ?_
                      exact ih4 p73 r3985 z3996 _ _ _ _ (by omega) hG (by omega) (by omega) f3998 (lv_sub hl [1, 2, 0, 3] rfl) hW
                    · refine q_iconst (v := (1 : Int32)) hM dX4_expression_118 (by decide) ?_
                      exact hE _ _ _ _ _ _ hW.1 nz_1 ⟨v3977, _, rfl, hW.2.1, hG, hW.2.2, c92_79_2, (by have := kc_1; omega), (by have := kc_1; omega), (by have := kc_1; omega)⟩ dX4_expression_119
                  · refine q_iload hM dX4_expression_99 (lv_at hl 4 rfl) ?_
                    refine q_bipush (v := (45 : Int32)) hM dX4_expression_101 (by decide) ?_
                    refine q_icmp_ne (tgt := 111) hM dX4_expression_103 (by decide) (rfl : r3985.toInt = r3985.toInt) (kc_45 : (45 : Int32).toInt = 45) (fun h103 => ?_) (fun h103 => ?_)
                    · refine q_iconst (v := ((-1) : Int32)) hM dX4_expression_111 (by decide) ?_
                      refine q_istore_n (lv9 := [(2, .int ((-1) : Int32)), (0, .ref (ad 79)), (1, .int op), (3, .int p73), (4, .int r3985)]) hM dX4_expression_112 hl (by decide) rfl (fun ls hl => ?_)
                      refine q_iload_n hM dX4_expression_113 (lv_at hl 0 rfl) ?_
                      refine q_iconst (v := ((-1) : Int32)) hM dX4_expression_114 (by decide) ?_
                      refine q_icmp_ne (tgt := 120) hM dX4_expression_115 (by decide) (kc_m1 : ((-1) : Int32).toInt = (-1)) (kc_m1 : ((-1) : Int32).toInt = (-1)) (fun h115 => ?_) (fun h115 => ?_)
                      · omega
                      · refine q_iconst (v := (1 : Int32)) hM dX4_expression_118 (by decide) ?_
                        exact hE _ _ _ _ _ _ hW.1 nz_1 ⟨v3977, _, rfl, hW.2.1, hG, hW.2.2, c92_79_2, (by have := kc_1; omega), (by have := kc_1; omega), (by have := kc_1; omega)⟩ dX4_expression_119
                    · refine q_iload hM dX4_expression_106 (lv_at hl 4 rfl) ?_
                      refine q_goto (tgt := 112) hM dX4_expression_108 (by decide) ?_
                      refine q_istore_n (lv9 := [(2, .int r3985), (0, .ref (ad 79)), (1, .int op), (3, .int p73), (4, .int r3985)]) hM dX4_expression_112 hl (by decide) rfl (fun ls hl => ?_)
                      refine q_iload_n hM dX4_expression_113 (lv_at hl 0 rfl) ?_
                      refine q_iconst (v := ((-1) : Int32)) hM dX4_expression_114 (by decide) ?_
                      refine q_icmp_ne (tgt := 120) hM dX4_expression_115 (by decide) (rfl : r3985.toInt = r3985.toInt) (kc_m1 : ((-1) : Int32).toInt = (-1)) (fun h115 => ?_) (fun h115 => ?_)
                      · refine q_aload_n hM dX4_expression_120 (lv_at hl 1 rfl) ?_
                        refine q_dup hM dX4_expression_121 rfl ?_
                        refine w_get (v := .int v3977) hM hW FG_X4_23 lb_79 c92_79_2 dX4_expression_122 ?_
                        have bv3977 := hG.f c92_79_2 rF_79_2 (by decide)
                        refine q_iconst (v := (1 : Int32)) hM dX4_expression_125 (by decide) ?_
                        refine q_iadd hM dX4_expression_126 (fun z4006 hz4006 => ?_)
                        first | have tz4006 := i_addT hz4006 (rfl : v3977.toInt = v3977.toInt) (kc_1 : (1 : Int32).toInt = 1) (by omega) (by omega) | skip
                        refine w_put hM hW FP_X4_23 lb_79 (by omega) (Or.inl ⟨_, rfl⟩) rfl rfl dX4_expression_127 (fun g4007 H locs hW e1 e2 => ?_)
                        have f4008 : fld g4007 79 2 = .int z4006 := e1
                        have hG := hG.put e1 e2 rF_79_2 (by decide) (by have := i_rng z4006; omega) (by have := i_rng z4006; omega)
                        refine q_goto (tgt := 4) hM dX4_expression_130 (by decide) ?_
                        exact ih4 p73 r3985 z4006 _ _ _ _ (by omega) hG (by omega) (by omega) f4008 (lv_sub hl [1, 2, 0, 3] rfl) hW
                      · refine q_iconst (v := (1 : Int32)) hM dX4_expression_118 (by decide) ?_
                        exact hE _ _ _ _ _ _ hW.1 nz_1 ⟨v3977, _, rfl, hW.2.1, hG, hW.2.2, c92_79_2, (by have := kc_1; omega), (by have := kc_1; omega), (by have := kc_1; omega)⟩ dX4_expression_119
                refine q_iload_n hM dX4_expression_78 (lv_at hl 2 rfl) ?_
                refine q_iconst (v := ((-1) : Int32)) hM dX4_expression_79 (by decide) ?_
                refine q_icmp_eq (tgt := 92) hM dX4_expression_80 (by decide) (rfl : w4_2.toInt = w4_2.toInt) (kc_m1 : ((-1) : Int32).toInt = (-1)) (fun h80 => ?_) (fun h80 => ?_)
                · exact L92  _ _ _ _ hG c73_79_2 (lv_sub hl [0, 1, 2, 3, 4] rfl) hW
                · refine q_aload_n hM dX4_expression_83 (lv_at hl 0 rfl) ?_
                  refine w_get (v := .ref (ad lw)) hM hW FG_X4_15 lb_79 ((hW.2.2.1 79 4 (by omega)).trans h_r4) dX4_expression_84 ?_
                  refine q_iload_n hM dX4_expression_87 (lv_at hl 2 rfl) ?_
                  refine q_iconst (v := (0 : Int32)) hM dX4_expression_88 (by decide) ?_
                  refine q_callV (As := [.int w4_2, .int (0 : Int32)]) (rest := []) hM hW.1 hR hC myX3_add (kAW (v_2_7 (List.mem_of_getElem? (i := 13) rfl)) rfl) (rfl : vwCl[3]? = some (RX3, TX3, 8)) rfl (lo_Lw hlw).1 (shO hW.2.1 (lo_Lw hlw)) (a_X3_add _ _ cA ad g9 lw w4_2 (0 : Int32) hW.2.1 hG hlw (by have := kc_0; omega) (by have := kc_0; omega)) ⟨by decide, by decide⟩ rfl rfl hl.1 (Nat.le_of_ble_eq_true rfl) dX4_expression_89 (fun v g4012 H locs hp hW1 => ?_)
                  obtain ⟨rfl, hs1, hG, hf1⟩ := hp
                  have f4013 : fld g4012 79 2 = .int v3977 := (hf1.1 79 2 (by omega)).trans c73_79_2
                  have hW : WS ad cA (fun i k => (i = 79 ∧ (k = 2 ∨ k = 3)) ∨ (i = lw ∧ (k = 7)) ∨ i = (lw + 4) ∨ i = (lw + 5)) g0 K g4012 H locs := ⟨hW1, hs1, hW.2.2.tr hf1 (fun i k h => h.elim (fun h => (Or.inr (Or.inl h))) (fun h => h.elim (fun h => (Or.inr (Or.inr (Or.inl h)))) (fun h => (Or.inr (Or.inr (Or.inr h))))))⟩
                  exact L92  _ _ _ _ hG f4013 (lv_sub hl [0, 1, 2, 3, 4] rfl) hW
            refine q_iload hM dX4_expression_45 (lv_at hl 0 rfl) ?_
            refine q_bipush (v := (42 : Int32)) hM dX4_expression_47 (by decide) ?_
            refine q_icmp_eq (tgt := 66) hM dX4_expression_49 (by decide) (rfl : r3985.toInt = r3985.toInt) (kc_42 : (42 : Int32).toInt = 42) (fun h49 => ?_) (fun h49 => ?_)
            · refine q_iload hM dX4_expression_66 (lv_at hl 0 rfl) ?_
              refine q_goto (tgt := 72) hM dX4_expression_68 (by decide) ?_
              refine q_istore_n (lv9 := [(3, .int r3985), (4, .int r3985), (0, .ref (ad 79)), (1, .int op), (2, .int w4_2)]) hM dX4_expression_72 hl (by decide) rfl (fun ls hl => ?_)
              exact L73 r3985 _ _ _ _ hG (by omega) c39_79_2 (lv_sub hl [2, 3, 4, 0, 1] rfl) hW
            · refine q_iload hM dX4_expression_52 (lv_at hl 0 rfl) ?_
              refine q_bipush (v := (47 : Int32)) hM dX4_expression_54 (by decide) ?_
              refine q_icmp_eq (tgt := 66) hM dX4_expression_56 (by decide) (rfl : r3985.toInt = r3985.toInt) (kc_47 : (47 : Int32).toInt = 47) (fun h56 => ?_) (fun h56 => ?_)
              · refine q_iload hM dX4_expression_66 (lv_at hl 0 rfl) ?_
                refine q_goto (tgt := 72) hM dX4_expression_68 (by decide) ?_
                refine q_istore_n (lv9 := [(3, .int r3985), (4, .int r3985), (0, .ref (ad 79)), (1, .int op), (2, .int w4_2)]) hM dX4_expression_72 hl (by decide) rfl (fun ls hl => ?_)
                exact L73 r3985 _ _ _ _ hG (by omega) c39_79_2 (lv_sub hl [2, 3, 4, 0, 1] rfl) hW
              · refine q_iload hM dX4_expression_59 (lv_at hl 0 rfl) ?_
                refine q_bipush (v := (37 : Int32)) hM dX4_expression_61 (by decide) ?_
                refine q_icmp_ne (tgt := 71) hM dX4_expression_63 (by decide) (rfl : r3985.toInt = r3985.toInt) (kc_37 : (37 : Int32).toInt = 37) (fun h63 => ?_) (fun h63 => ?_)
                · refine q_iconst (v := ((-1) : Int32)) hM dX4_expression_71 (by decide) ?_
                  refine q_istore_n (lv9 := [(3, .int ((-1) : Int32)), (4, .int r3985), (0, .ref (ad 79)), (1, .int op), (2, .int w4_2)]) hM dX4_expression_72 hl (by decide) rfl (fun ls hl => ?_)
                  have := kc_m1
                  exact L73 ((-1) : Int32) _ _ _ _ hG (by omega) c39_79_2 (lv_sub hl [2, 3, 4, 0, 1] rfl) hW
                · refine q_iload hM dX4_expression_66 (lv_at hl 0 rfl) ?_
                  refine q_goto (tgt := 72) hM dX4_expression_68 (by decide) ?_
                  refine q_istore_n (lv9 := [(3, .int r3985), (4, .int r3985), (0, .ref (ad 79)), (1, .int op), (2, .int w4_2)]) hM dX4_expression_72 hl (by decide) rfl (fun ls hl => ?_)
                  exact L73 r3985 _ _ _ _ hG (by omega) c39_79_2 (lv_sub hl [2, 3, 4, 0, 1] rfl) hW
          refine q_iload_n hM dX4_expression_25 (lv_at hl 3 rfl) ?_
          refine q_iconst (v := ((-1) : Int32)) hM dX4_expression_26 (by decide) ?_
          refine q_icmp_eq (tgt := 39) hM dX4_expression_27 (by decide) (rfl : w4_3.toInt = w4_3.toInt) (kc_m1 : ((-1) : Int32).toInt = (-1)) (fun h27 => ?_) (fun h27 => ?_)
          · exact L39  _ _ _ _ hG q3979 (lv_sub hl [0, 1, 2, 3] rfl) hW
          · refine q_aload_n hM dX4_expression_30 (lv_at hl 0 rfl) ?_
            refine w_get (v := .ref (ad lw)) hM hW FG_X4_15 lb_79 ((hW.2.2.1 79 4 (by omega)).trans h_r4) dX4_expression_31 ?_
            refine q_iload_n hM dX4_expression_34 (lv_at hl 3 rfl) ?_
            refine q_iconst (v := (0 : Int32)) hM dX4_expression_35 (by decide) ?_
            refine q_callV (As := [.int w4_3, .int (0 : Int32)]) (rest := []) hM hW.1 hR hC myX3_add (kAW (v_2_7 (List.mem_of_getElem? (i := 13) rfl)) rfl) (rfl : vwCl[3]? = some (RX3, TX3, 8)) rfl (lo_Lw hlw).1 (shO hW.2.1 (lo_Lw hlw)) (a_X3_add _ _ cA ad g3982 lw w4_3 (0 : Int32) hW.2.1 hG hlw (by have := kc_0; omega) (by have := kc_0; omega)) ⟨by decide, by decide⟩ rfl rfl hl.1 (Nat.le_of_ble_eq_true rfl) dX4_expression_36 (fun v g4022 H locs hp hW1 => ?_)
            obtain ⟨rfl, hs1, hG, hf1⟩ := hp
            have f4023 : fld g4022 79 2 = .int v3977 := (hf1.1 79 2 (by omega)).trans q3979
            have hW : WS ad cA (fun i k => (i = 79 ∧ (k = 2 ∨ k = 3)) ∨ (i = lw ∧ (k = 7)) ∨ i = (lw + 4) ∨ i = (lw + 5)) g0 K g4022 H locs := ⟨hW1, hs1, hW.2.2.tr hf1 (fun i k h => h.elim (fun h => (Or.inr (Or.inl h))) (fun h => h.elim (fun h => (Or.inr (Or.inr (Or.inl h)))) (fun h => (Or.inr (Or.inr (Or.inr h))))))⟩
            exact L39  _ _ _ _ hG f4023 (lv_sub hl [0, 1, 2, 3] rfl) hW
        · refine q_iconst (v := (0 : Int32)) hM dX4_expression_23 (by decide) ?_
          exact hE _ _ _ _ _ _ hW.1 nz_0 ⟨v3977, _, rfl, hW.2.1, hG, hW.2.2, q3979, (by have := kc_0; omega), (by have := kc_0; omega), (by have := kc_0; omega)⟩ dX4_expression_24
  have := kc_m1
  have := kc_m1
  exact L4 _ ((-1) : Int32) ((-1) : Int32) a0 _ _ _ _ (Nat.lt_succ_self _) hG (by omega) (by omega) f3970 (lv_sub hl [2, 3, 1, 0] rfl) hW


set_option maxRecDepth 100000 in
set_option maxHeartbeats 4000000 in
theorem a_X4_test_1 (l : Launch) (D : va_G) (cA : Nat → ClassId) (ad : Nat → Nat) (g0 : Nat → va_E) (op : Int32) (en : Int32) (a0 : Int32) (lw : Nat) (hSh : Shp ad cA g0) (hG : Rng g0) (hlw : isLw lw) (h_en : fld g0 79 1 = .int en) (h_a0 : fld g0 79 2 = .int a0) (h_r4 : fld g0 79 4 = .ref (ad lw)) (ah0 : 0 ≤ a0.toInt) (ah1 : a0.toInt ≤ en.toInt) (ah2 : en.toInt ≤ 240) (ok : op.toInt = 1) : CT l NN ad cA D yX4_test cX4_test 3 (some FieldType.boolean) (17, 394) [.ref (ad 79), .int op] g0 (fun v g' => ∃ (a9 : Int32) (r : Int32), v = some (.int r) ∧ Shp ad cA g' ∧ Rng g' ∧ FR (fun i k => (i = 79 ∧ (k = 2 ∨ k = 3)) ∨ (i = lw ∧ (k = 7)) ∨ i = (lw + 4) ∨ i = (lw + 5)) g0 g' ∧ fld g' 79 2 = .int a9 ∧ (a0.toInt ≤ a9.toInt) ∧ (a9.toInt ≤ en.toInt) ∧ (r.toInt = 0 ∨ r.toInt = 1)) := by
  refine q_enterZ (by decide) (Nat.le_of_ble_eq_true rfl) (fun K H locs ls _ _ hM hW0 hR hC hE hl => ?_)
  have hl : lv_has ls 3 [(0, .ref (ad 79)), (1, .int op)] := hl
  have hW : WS ad cA (fun i k => (i = 79 ∧ (k = 2 ∨ k = 3)) ∨ (i = lw ∧ (k = 7)) ∨ i = (lw + 4) ∨ i = (lw + 5)) g0 K g0 H locs := ⟨hW0, hSh, FR.rf⟩
  have ulw := hlw
  unfold isLw at ulw
  have b_en := hG.f h_en rF_79_1 (by decide)
  have b_a0 := hG.f h_a0 rF_79_2 (by decide)
  have f4025 : fld g0 79 2 = .int a0 := h_a0
  refine q_aload_n hM dX4_test_0 (lv_at hl 0 rfl) ?_
  refine q_callV (As := []) (rest := []) hM hW.1 hR hC myX4_sign (kAW (v_2_0 (List.mem_of_getElem? (i := 12) rfl)) rfl) (rfl : vwCl[4]? = some (RX4, TX4, 5)) rfl lb_79.1 (shO hW.2.1 lb_79) (a_X4_sign _ _ cA ad g0 en a0 hW.2.1 hG ((hW.2.2.1 79 1 (by omega)).trans h_en) f4025 (by  omega) (by  omega) (by  omega)) ⟨by decide, by decide⟩ rfl rfl hl.1 (Nat.le_of_ble_eq_true rfl) dX4_test_1 (fun v g4027 H locs hp hW1 => ?_)
  obtain ⟨r4026, rfl, hr4026, rfl⟩ := hp
  have hW : WS ad cA (fun i k => (i = 79 ∧ (k = 2 ∨ k = 3)) ∨ (i = lw ∧ (k = 7)) ∨ i = (lw + 4) ∨ i = (lw + 5)) g0 K g0 H locs := ⟨hW1, hW.2.1, hW.2.2⟩
  refine q_istore_n (lv9 := [(2, .int r4026), (0, .ref (ad 79)), (1, .int op)]) hM dX4_test_4 hl (by decide) rfl (fun ls hl => ?_)
  have L17 : ∀ (g9 : Nat → va_E) (H : Heap) (locs : List Loc) (ls : Array Slot), (Rng g9) → (r4026.toInt = 33 ∨ r4026.toInt = 40) → (fld g9 79 2 = .int a0) → lv_has ls 3 [(0, .ref (ad 79)), (1, .int op), (2, .int r4026)] → WS ad cA (fun i k => (i = 79 ∧ (k = 2 ∨ k = 3)) ∨ (i = lw ∧ (k = 7)) ∨ i = (lw + 4) ∨ i = (lw + 5)) g0 K g9 H locs → XX K 0 0 H locs 17 ls [] := by
    intro g9 H locs ls i17_0 i17_1 c17_79_2 hl hW
    have hG := i17_0
    refine q_iload_n hM dX4_test_17 (lv_at hl 1 rfl) ?_
    refine q_bipush (v := (6 : Int32)) hM dX4_test_18 (by decide) ?_
    refine q_icmp_lt (tgt := 29) hM dX4_test_20 (by decide) (rfl : op.toInt = op.toInt) (kc_6 : (6 : Int32).toInt = 6) (fun h20 => ?_) (fun h20 => ?_)
    · refine q_aload_n hM dX4_test_29 (lv_at hl 0 rfl) ?_
      refine q_dup hM dX4_test_30 rfl ?_
      refine w_get (v := .int a0) hM hW FG_X4_23 lb_79 c17_79_2 dX4_test_31 ?_
      have ba0 := hG.f c17_79_2 rF_79_2 (by decide)
      refine q_iconst (v := (1 : Int32)) hM dX4_test_34 (by decide) ?_
      refine q_iadd hM dX4_test_35 (fun z4030 hz4030 => ?_)
      first | have tz4030 := i_addT hz4030 (rfl : a0.toInt = a0.toInt) (kc_1 : (1 : Int32).toInt = 1) (by omega) (by omega) | skip
      refine w_put hM hW FP_X4_23 lb_79 (by omega) (Or.inl ⟨_, rfl⟩) rfl rfl dX4_test_36 (fun g4031 H locs hW e1 e2 => ?_)
      have f4032 : fld g4031 79 2 = .int z4030 := e1
      have hG := hG.put e1 e2 rF_79_2 (by decide) (by have := i_rng z4030; omega) (by have := i_rng z4030; omega)
      refine q_iload_n hM dX4_test_39 (lv_at hl 2 rfl) ?_
      refine q_bipush (v := (40 : Int32)) hM dX4_test_40 (by decide) ?_
      refine q_icmp_ne (tgt := 70) hM dX4_test_42 (by decide) (rfl : r4026.toInt = r4026.toInt) (kc_40 : (40 : Int32).toInt = 40) (fun h42 => ?_) (fun h42 => ?_)
      · refine q_aload_n hM dX4_test_70 (lv_at hl 0 rfl) ?_
        refine q_iload_n hM dX4_test_71 (lv_at hl 1 rfl) ?_
        refine q_iconst (v := (1 : Int32)) hM dX4_test_72 (by decide) ?_
        refine q_iadd hM dX4_test_73 (fun z4034 hz4034 => ?_)
        first | have tz4034 := i_addT hz4034 (rfl : op.toInt = op.toInt) (kc_1 : (1 : Int32).toInt = 1) (by omega) (by omega) | skip
        refine q_callV (As := [.int z4034]) (rest := []) hM hW.1 hR hC myX4_test (kAW (v_2_8 (List.mem_of_getElem? (i := 6) rfl)) rfl) (rfl : vwCl[4]? = some (RX4, TX4, 5)) rfl lb_79.1 (shO hW.2.1 lb_79) (a_X4_test_2 _ _ cA ad g4031 z4034 en z4030 lw hW.2.1 hG hlw ((hW.2.2.1 79 1 (by omega)).trans h_en) f4032 ((hW.2.2.1 79 4 (by omega)).trans h_r4) (by  omega) (by  omega) (by  omega) (by  omega)) ⟨by decide, by decide⟩ rfl rfl hl.1 (Nat.le_of_ble_eq_true rfl) dX4_test_74 (fun v g4040 H locs hp hW1 => ?_)
        obtain ⟨v4035, r4036, rfl, hs1, hG, hf1, q4037, e4038, e4039, hr4036⟩ := hp
        have hW : WS ad cA (fun i k => (i = 79 ∧ (k = 2 ∨ k = 3)) ∨ (i = lw ∧ (k = 7)) ∨ i = (lw + 4) ∨ i = (lw + 5)) g0 K g4040 H locs := ⟨hW1, hs1, hW.2.2.tr hf1 (fun i k h => h.elim (fun h => (Or.inl h)) (fun h => h.elim (fun h => (Or.inr (Or.inl h))) (fun h => h.elim (fun h => (Or.inr (Or.inr (Or.inl h)))) (fun h => (Or.inr (Or.inr (Or.inr h)))))))⟩
        refine q_if_ne (tgt := 82) hM dX4_test_77 (by decide) (rfl : r4036.toInt = r4036.toInt) (fun h77 => ?_) (fun h77 => ?_)
        · refine q_aload_n hM dX4_test_82 (lv_at hl 0 rfl) ?_
          refine w_get (v := .ref (ad lw)) hM hW FG_X4_15 lb_79 ((hW.2.2.1 79 4 (by omega)).trans h_r4) dX4_test_83 ?_
          refine q_iconst (v := (3 : Int32)) hM dX4_test_86 (by decide) ?_
          refine q_iconst (v := (0 : Int32)) hM dX4_test_87 (by decide) ?_
          refine q_callV (As := [.int (3 : Int32), .int (0 : Int32)]) (rest := []) hM hW.1 hR hC myX3_add (kAW (v_2_7 (List.mem_of_getElem? (i := 13) rfl)) rfl) (rfl : vwCl[3]? = some (RX3, TX3, 8)) rfl (lo_Lw hlw).1 (shO hW.2.1 (lo_Lw hlw)) (a_X3_add _ _ cA ad g4040 lw (3 : Int32) (0 : Int32) hW.2.1 hG hlw (by have := kc_3; have := kc_0; omega) (by have := kc_3; have := kc_0; omega)) ⟨by decide, by decide⟩ rfl rfl hl.1 (Nat.le_of_ble_eq_true rfl) dX4_test_88 (fun v g4042 H locs hp hW1 => ?_)
          obtain ⟨rfl, hs1, hG, hf1⟩ := hp
          have f4043 : fld g4042 79 2 = .int v4035 := (hf1.1 79 2 (by omega)).trans q4037
          have hW : WS ad cA (fun i k => (i = 79 ∧ (k = 2 ∨ k = 3)) ∨ (i = lw ∧ (k = 7)) ∨ i = (lw + 4) ∨ i = (lw + 5)) g0 K g4042 H locs := ⟨hW1, hs1, hW.2.2.tr hf1 (fun i k h => h.elim (fun h => (Or.inr (Or.inl h))) (fun h => h.elim (fun h => (Or.inr (Or.inr (Or.inl h)))) (fun h => (Or.inr (Or.inr (Or.inr h))))))⟩
          refine q_iconst (v := (1 : Int32)) hM dX4_test_91 (by decide) ?_
          exact hE _ _ _ _ _ _ hW.1 nz_1 ⟨v4035, _, rfl, hW.2.1, hG, hW.2.2, f4043, (by have := kc_1; omega), (by have := kc_1; omega), (by have := kc_1; omega)⟩ dX4_test_92
        · refine q_iconst (v := (0 : Int32)) hM dX4_test_80 (by decide) ?_
          exact hE _ _ _ _ _ _ hW.1 nz_0 ⟨v4035, _, rfl, hW.2.1, hG, hW.2.2, q4037, (by have := kc_0; omega), (by have := kc_0; omega), (by have := kc_0; omega)⟩ dX4_test_81
      · refine q_aload_n hM dX4_test_45 (lv_at hl 0 rfl) ?_
        refine q_iload_n hM dX4_test_46 (lv_at hl 1 rfl) ?_
        refine q_iconst (v := (1 : Int32)) hM dX4_test_47 (by decide) ?_
        refine q_iadd hM dX4_test_48 (fun z4046 hz4046 => ?_)
        first | have tz4046 := i_addT hz4046 (rfl : op.toInt = op.toInt) (kc_1 : (1 : Int32).toInt = 1) (by omega) (by omega) | skip
        refine q_callV (As := [.int z4046]) (rest := []) hM hW.1 hR hC myX4_condition (kAW (v_2_8 (List.mem_of_getElem? (i := 2) rfl)) rfl) (rfl : vwCl[4]? = some (RX4, TX4, 5)) rfl lb_79.1 (shO hW.2.1 lb_79) (a_X4_condition_2 _ _ cA ad g4031 z4046 en z4030 lw hW.2.1 hG hlw ((hW.2.2.1 79 1 (by omega)).trans h_en) f4032 ((hW.2.2.1 79 4 (by omega)).trans h_r4) (by  omega) (by  omega) (by  omega) (by  omega)) ⟨by decide, by decide⟩ rfl rfl hl.1 (Nat.le_of_ble_eq_true rfl) dX4_test_49 (fun v g4052 H locs hp hW1 => ?_)
        obtain ⟨v4047, r4048, rfl, hs1, hG, hf1, q4049, e4050, e4051, hr4048⟩ := hp
        have hW : WS ad cA (fun i k => (i = 79 ∧ (k = 2 ∨ k = 3)) ∨ (i = lw ∧ (k = 7)) ∨ i = (lw + 4) ∨ i = (lw + 5)) g0 K g4052 H locs := ⟨hW1, hs1, hW.2.2.tr hf1 (fun i k h => h.elim (fun h => (Or.inl h)) (fun h => h.elim (fun h => (Or.inr (Or.inl h))) (fun h => h.elim (fun h => (Or.inr (Or.inr (Or.inl h)))) (fun h => (Or.inr (Or.inr (Or.inr h)))))))⟩
        refine q_if_eq (tgt := 68) hM dX4_test_52 (by decide) (rfl : r4048.toInt = r4048.toInt) (fun h52 => ?_) (fun h52 => ?_)
        · refine q_iconst (v := (0 : Int32)) hM dX4_test_68 (by decide) ?_
          exact hE _ _ _ _ _ _ hW.1 nz_0 ⟨v4047, _, rfl, hW.2.1, hG, hW.2.2, q4049, (by have := kc_0; omega), (by have := kc_0; omega), (by have := kc_0; omega)⟩ dX4_test_69
        · refine q_aload_n hM dX4_test_55 (lv_at hl 0 rfl) ?_
          refine q_bipush (v := (41 : Int32)) hM dX4_test_56 (by decide) ?_
          refine q_callV (As := [.int (41 : Int32)]) (rest := []) hM hW.1 hR hC myX4_passes (kAW (v_2_7 (List.mem_of_getElem? (i := 4) rfl)) rfl) (rfl : vwCl[4]? = some (RX4, TX4, 5)) rfl lb_79.1 (shO hW.2.1 lb_79) (a_X4_passes _ _ cA ad g4052 (41 : Int32) en v4047 hW.2.1 hG ((hW.2.2.1 79 1 (by omega)).trans h_en) q4049 (by have := kc_41; omega) (by have := kc_41; omega) (by have := kc_41; omega)) ⟨by decide, by decide⟩ rfl rfl hl.1 (Nat.le_of_ble_eq_true rfl) dX4_test_58 (fun v g4060 H locs hp hW1 => ?_)
          obtain ⟨v4055, r4056, rfl, hs1, hG, hf1, q4057, e4058, e4059, hr4056⟩ := hp
          have hW : WS ad cA (fun i k => (i = 79 ∧ (k = 2 ∨ k = 3)) ∨ (i = lw ∧ (k = 7)) ∨ i = (lw + 4) ∨ i = (lw + 5)) g0 K g4060 H locs := ⟨hW1, hs1, hW.2.2.tr hf1 (fun i k h => (Or.inl h))⟩
          refine q_if_eq (tgt := 68) hM dX4_test_61 (by decide) (rfl : r4056.toInt = r4056.toInt) (fun h61 => ?_) (fun h61 => ?_)
          · refine q_iconst (v := (0 : Int32)) hM dX4_test_68 (by decide) ?_
            exact hE _ _ _ _ _ _ hW.1 nz_0 ⟨v4055, _, rfl, hW.2.1, hG, hW.2.2, q4057, (by have := kc_0; omega), (by have := kc_0; omega), (by have := kc_0; omega)⟩ dX4_test_69
          · refine q_iconst (v := (1 : Int32)) hM dX4_test_64 (by decide) ?_
            refine q_goto (tgt := 69) hM dX4_test_65 (by decide) ?_
            exact hE _ _ _ _ _ _ hW.1 nz_1 ⟨v4055, _, rfl, hW.2.1, hG, hW.2.2, q4057, (by have := kc_1; omega), (by have := kc_1; omega), (by have := kc_1; omega)⟩ dX4_test_69
    · omega
  refine q_iload_n hM dX4_test_5 (lv_at hl 0 rfl) ?_
  refine q_bipush (v := (33 : Int32)) hM dX4_test_6 (by decide) ?_
  refine q_icmp_eq (tgt := 17) hM dX4_test_8 (by decide) (rfl : r4026.toInt = r4026.toInt) (kc_33 : (33 : Int32).toInt = 33) (fun h8 => ?_) (fun h8 => ?_)
  · exact L17  _ _ _ _ hG (by omega) f4025 (lv_sub hl [1, 2, 0] rfl) hW
  · refine q_iload_n hM dX4_test_11 (lv_at hl 0 rfl) ?_
    refine q_bipush (v := (40 : Int32)) hM dX4_test_12 (by decide) ?_
    refine q_icmp_ne (tgt := 93) hM dX4_test_14 (by decide) (rfl : r4026.toInt = r4026.toInt) (kc_40 : (40 : Int32).toInt = 40) (fun h14 => ?_) (fun h14 => ?_)
    · refine q_aload_n hM dX4_test_93 (lv_at hl 1 rfl) ?_
      refine q_iload_n hM dX4_test_94 (lv_at hl 2 rfl) ?_
      refine q_callV (As := [.int op]) (rest := []) hM hW.1 hR hC myX4_expression (kAW (v_2_6 (List.mem_of_getElem? (i := 12) rfl)) rfl) (rfl : vwCl[4]? = some (RX4, TX4, 5)) rfl lb_79.1 (shO hW.2.1 lb_79) (a_X4_expression_1 _ _ cA ad g0 op en a0 lw hW.2.1 hG hlw ((hW.2.2.1 79 1 (by omega)).trans h_en) f4025 ((hW.2.2.1 79 4 (by omega)).trans h_r4) (by  omega) (by  omega) (by  omega) (by  omega)) ⟨by decide, by decide⟩ rfl rfl hl.1 (Nat.le_of_ble_eq_true rfl) dX4_test_95 (fun v g4072 H locs hp hW1 => ?_)
      obtain ⟨v4067, r4068, rfl, hs1, hG, hf1, q4069, e4070, e4071, hr4068⟩ := hp
      have hW : WS ad cA (fun i k => (i = 79 ∧ (k = 2 ∨ k = 3)) ∨ (i = lw ∧ (k = 7)) ∨ i = (lw + 4) ∨ i = (lw + 5)) g0 K g4072 H locs := ⟨hW1, hs1, hW.2.2.tr hf1 (fun i k h => h.elim (fun h => (Or.inl h)) (fun h => h.elim (fun h => (Or.inr (Or.inl h))) (fun h => h.elim (fun h => (Or.inr (Or.inr (Or.inl h)))) (fun h => (Or.inr (Or.inr (Or.inr h)))))))⟩
      refine q_if_ne (tgt := 103) hM dX4_test_98 (by decide) (rfl : r4068.toInt = r4068.toInt) (fun h98 => ?_) (fun h98 => ?_)
      · refine q_aload_n hM dX4_test_103 (lv_at hl 1 rfl) ?_
        refine q_callV (As := []) (rest := []) hM hW.1 hR hC myX4_sign (kAW (v_2_0 (List.mem_of_getElem? (i := 12) rfl)) rfl) (rfl : vwCl[4]? = some (RX4, TX4, 5)) rfl lb_79.1 (shO hW.2.1 lb_79) (a_X4_sign _ _ cA ad g4072 en v4067 hW.2.1 hG ((hW.2.2.1 79 1 (by omega)).trans h_en) q4069 (by  omega) (by  omega) (by  omega)) ⟨by decide, by decide⟩ rfl rfl hl.1 (Nat.le_of_ble_eq_true rfl) dX4_test_104 (fun v g4075 H locs hp hW1 => ?_)
        obtain ⟨r4074, rfl, hr4074, rfl⟩ := hp
        have hW : WS ad cA (fun i k => (i = 79 ∧ (k = 2 ∨ k = 3)) ∨ (i = lw ∧ (k = 7)) ∨ i = (lw + 4) ∨ i = (lw + 5)) g0 K g4072 H locs := ⟨hW1, hW.2.1, hW.2.2⟩
        refine q_istore_n (lv9 := [(2, .int r4074), (0, .ref (ad 79)), (1, .int op)]) hM dX4_test_107 hl (by decide) rfl (fun ls hl => ?_)
        have L132 : ∀ (g9 : Nat → va_E) (H : Heap) (locs : List Loc) (ls : Array Slot), (Rng g9) → (0 ≤ r4074.toInt) → (fld g9 79 2 = .int v4067) → lv_has ls 3 [(0, .ref (ad 79)), (1, .int op), (2, .int r4074)] → WS ad cA (fun i k => (i = 79 ∧ (k = 2 ∨ k = 3)) ∨ (i = lw ∧ (k = 7)) ∨ i = (lw + 4) ∨ i = (lw + 5)) g0 K g9 H locs → XX K 0 0 H locs 132 ls [] := by
          intro g9 H locs ls i132_0 i132_1 c132_79_2 hl hW
          have hG := i132_0
          refine q_aload_n hM dX4_test_132 (lv_at hl 0 rfl) ?_
          refine q_dup hM dX4_test_133 rfl ?_
          refine w_get (v := .int v4067) hM hW FG_X4_23 lb_79 c132_79_2 dX4_test_134 ?_
          have bv4067 := hG.f c132_79_2 rF_79_2 (by decide)
          refine q_iconst (v := (1 : Int32)) hM dX4_test_137 (by decide) ?_
          refine q_iadd hM dX4_test_138 (fun z4077 hz4077 => ?_)
          first | have tz4077 := i_addT hz4077 (rfl : v4067.toInt = v4067.toInt) (kc_1 : (1 : Int32).toInt = 1) (by omega) (by omega) | skip
          refine w_put hM hW FP_X4_23 lb_79 (by omega) (Or.inl ⟨_, rfl⟩) rfl rfl dX4_test_139 (fun g4078 H locs hW e1 e2 => ?_)
          have f4079 : fld g4078 79 2 = .int z4077 := e1
          have hG := hG.put e1 e2 rF_79_2 (by decide) (by have := i_rng z4077; omega) (by have := i_rng z4077; omega)
          refine q_aload_n hM dX4_test_142 (lv_at hl 0 rfl) ?_
          refine q_iload_n hM dX4_test_143 (lv_at hl 1 rfl) ?_
          refine q_callV (As := [.int op]) (rest := []) hM hW.1 hR hC myX4_expression (kAW (v_2_6 (List.mem_of_getElem? (i := 12) rfl)) rfl) (rfl : vwCl[4]? = some (RX4, TX4, 5)) rfl lb_79.1 (shO hW.2.1 lb_79) (a_X4_expression_1 _ _ cA ad g4078 op en z4077 lw hW.2.1 hG hlw ((hW.2.2.1 79 1 (by omega)).trans h_en) f4079 ((hW.2.2.1 79 4 (by omega)).trans h_r4) (by  omega) (by  omega) (by  omega) (by  omega)) ⟨by decide, by decide⟩ rfl rfl hl.1 (Nat.le_of_ble_eq_true rfl) dX4_test_144 (fun v g4085 H locs hp hW1 => ?_)
          obtain ⟨v4080, r4081, rfl, hs1, hG, hf1, q4082, e4083, e4084, hr4081⟩ := hp
          have hW : WS ad cA (fun i k => (i = 79 ∧ (k = 2 ∨ k = 3)) ∨ (i = lw ∧ (k = 7)) ∨ i = (lw + 4) ∨ i = (lw + 5)) g0 K g4085 H locs := ⟨hW1, hs1, hW.2.2.tr hf1 (fun i k h => h.elim (fun h => (Or.inl h)) (fun h => h.elim (fun h => (Or.inr (Or.inl h))) (fun h => h.elim (fun h => (Or.inr (Or.inr (Or.inl h)))) (fun h => (Or.inr (Or.inr (Or.inr h)))))))⟩
          refine q_if_ne (tgt := 152) hM dX4_test_147 (by decide) (rfl : r4081.toInt = r4081.toInt) (fun h147 => ?_) (fun h147 => ?_)
          · refine q_aload_n hM dX4_test_152 (lv_at hl 0 rfl) ?_
            refine w_get (v := .ref (ad lw)) hM hW FG_X4_15 lb_79 ((hW.2.2.1 79 4 (by omega)).trans h_r4) dX4_test_153 ?_
            refine q_iload_n hM dX4_test_156 (lv_at hl 2 rfl) ?_
            refine q_iconst (v := (0 : Int32)) hM dX4_test_157 (by decide) ?_
            refine q_callV (As := [.int r4074, .int (0 : Int32)]) (rest := []) hM hW.1 hR hC myX3_add (kAW (v_2_7 (List.mem_of_getElem? (i := 13) rfl)) rfl) (rfl : vwCl[3]? = some (RX3, TX3, 8)) rfl (lo_Lw hlw).1 (shO hW.2.1 (lo_Lw hlw)) (a_X3_add _ _ cA ad g4085 lw r4074 (0 : Int32) hW.2.1 hG hlw (by have := kc_0; omega) (by have := kc_0; omega)) ⟨by decide, by decide⟩ rfl rfl hl.1 (Nat.le_of_ble_eq_true rfl) dX4_test_158 (fun v g4087 H locs hp hW1 => ?_)
            obtain ⟨rfl, hs1, hG, hf1⟩ := hp
            have f4088 : fld g4087 79 2 = .int v4080 := (hf1.1 79 2 (by omega)).trans q4082
            have hW : WS ad cA (fun i k => (i = 79 ∧ (k = 2 ∨ k = 3)) ∨ (i = lw ∧ (k = 7)) ∨ i = (lw + 4) ∨ i = (lw + 5)) g0 K g4087 H locs := ⟨hW1, hs1, hW.2.2.tr hf1 (fun i k h => h.elim (fun h => (Or.inr (Or.inl h))) (fun h => h.elim (fun h => (Or.inr (Or.inr (Or.inl h)))) (fun h => (Or.inr (Or.inr (Or.inr h))))))⟩
            refine q_iconst (v := (1 : Int32)) hM dX4_test_161 (by decide) ?_
            exact hE _ _ _ _ _ _ hW.1 nz_1 ⟨v4080, _, rfl, hW.2.1, hG, hW.2.2, f4088, (by have := kc_1; omega), (by have := kc_1; omega), (by have := kc_1; omega)⟩ dX4_test_162
          · refine q_iconst (v := (0 : Int32)) hM dX4_test_150 (by decide) ?_
            exact hE _ _ _ _ _ _ hW.1 nz_0 ⟨v4080, _, rfl, hW.2.1, hG, hW.2.2, q4082, (by have := kc_0; omega), (by have := kc_0; omega), (by have := kc_0; omega)⟩ dX4_test_151
        refine q_iload_n hM dX4_test_108 (lv_at hl 0 rfl) ?_
        refine q_bipush (v := (60 : Int32)) hM dX4_test_109 (by decide) ?_
        refine q_icmp_eq (tgt := 132) hM dX4_test_111 (by decide) (rfl : r4074.toInt = r4074.toInt) (kc_60 : (60 : Int32).toInt = 60) (fun h111 => ?_) (fun h111 => ?_)
        · exact L132  _ _ _ _ hG (by omega) q4069 (lv_sub hl [1, 2, 0] rfl) hW
        · refine q_iload_n hM dX4_test_114 (lv_at hl 0 rfl) ?_
          refine q_bipush (v := (62 : Int32)) hM dX4_test_115 (by decide) ?_
          refine q_icmp_eq (tgt := 132) hM dX4_test_117 (by decide) (rfl : r4074.toInt = r4074.toInt) (kc_62 : (62 : Int32).toInt = 62) (fun h117 => ?_) (fun h117 => ?_)
          · exact L132  _ _ _ _ hG (by omega) q4069 (lv_sub hl [1, 2, 0] rfl) hW
          · refine q_iload_n hM dX4_test_120 (lv_at hl 0 rfl) ?_
            refine q_bipush (v := (61 : Int32)) hM dX4_test_121 (by decide) ?_
            refine q_icmp_eq (tgt := 132) hM dX4_test_123 (by decide) (rfl : r4074.toInt = r4074.toInt) (kc_61 : (61 : Int32).toInt = 61) (fun h123 => ?_) (fun h123 => ?_)
            · exact L132  _ _ _ _ hG (by omega) q4069 (lv_sub hl [1, 2, 0] rfl) hW
            · refine q_aload_n hM dX4_test_126 (lv_at hl 1 rfl) ?_
              refine q_iconst (v := (1 : Int32)) hM dX4_test_127 (by decide) ?_
              refine q_callV (As := [.int (1 : Int32)]) (rest := []) hM hW.1 hR hC myX4_wrong (kAW (v_2_6 (List.mem_of_getElem? (i := 8) rfl)) rfl) (rfl : vwCl[4]? = some (RX4, TX4, 5)) rfl lb_79.1 (shO hW.2.1 lb_79) (a_X4_wrong _ _ cA ad g4072 (1 : Int32) hW.2.1 hG) ⟨by decide, by decide⟩ rfl rfl hl.1 (Nat.le_of_ble_eq_true rfl) dX4_test_128 (fun v g4097 H locs hp hW1 => ?_)
              obtain ⟨r4096, rfl, hs1, hG, hf1, hr4096⟩ := hp
              have f4098 : fld g4097 79 2 = .int v4067 := (hf1.1 79 2 (by omega)).trans q4069
              have hW : WS ad cA (fun i k => (i = 79 ∧ (k = 2 ∨ k = 3)) ∨ (i = lw ∧ (k = 7)) ∨ i = (lw + 4) ∨ i = (lw + 5)) g0 K g4097 H locs := ⟨hW1, hs1, hW.2.2.tr hf1 (fun i k h => (Or.inl (by omega)))⟩
              exact hE _ _ _ _ _ _ hW.1 (nz_or (by omega)) ⟨v4067, _, rfl, hW.2.1, hG, hW.2.2, f4098, (by omega), (by omega), (by omega)⟩ dX4_test_131
      · refine q_iconst (v := (0 : Int32)) hM dX4_test_101 (by decide) ?_
        exact hE _ _ _ _ _ _ hW.1 nz_0 ⟨v4067, _, rfl, hW.2.1, hG, hW.2.2, q4069, (by have := kc_0; omega), (by have := kc_0; omega), (by have := kc_0; omega)⟩ dX4_test_102
    · exact L17  _ _ _ _ hG (by omega) f4025 (lv_sub hl [1, 2, 0] rfl) hW


set_option maxRecDepth 100000 in
set_option maxHeartbeats 4000000 in
theorem a_X4_condition_1 (l : Launch) (D : va_G) (cA : Nat → ClassId) (ad : Nat → Nat) (g0 : Nat → va_E) (op : Int32) (en : Int32) (a0 : Int32) (lw : Nat) (hSh : Shp ad cA g0) (hG : Rng g0) (hlw : isLw lw) (h_en : fld g0 79 1 = .int en) (h_a0 : fld g0 79 2 = .int a0) (h_r4 : fld g0 79 4 = .ref (ad lw)) (ah0 : 0 ≤ a0.toInt) (ah1 : a0.toInt ≤ en.toInt) (ah2 : en.toInt ≤ 240) (ok : op.toInt = 1) : CT l NN ad cA D yX4_condition cX4_condition 6 (some FieldType.boolean) (18, 416) [.ref (ad 79), .int op] g0 (fun v g' => ∃ (a9 : Int32) (r : Int32), v = some (.int r) ∧ Shp ad cA g' ∧ Rng g' ∧ FR (fun i k => (i = 79 ∧ (k = 2 ∨ k = 3)) ∨ (i = lw ∧ (k = 7)) ∨ i = (lw + 4) ∨ i = (lw + 5)) g0 g' ∧ fld g' 79 2 = .int a9 ∧ (a0.toInt ≤ a9.toInt) ∧ (a9.toInt ≤ en.toInt) ∧ (r.toInt = 0 ∨ r.toInt = 1)) := by
  refine q_enterZ (by decide) (Nat.le_of_ble_eq_true rfl) (fun K H locs ls _ _ hM hW0 hR hC hE hl => ?_)
  have hl : lv_has ls 6 [(0, .ref (ad 79)), (1, .int op)] := hl
  have hW : WS ad cA (fun i k => (i = 79 ∧ (k = 2 ∨ k = 3)) ∨ (i = lw ∧ (k = 7)) ∨ i = (lw + 4) ∨ i = (lw + 5)) g0 K g0 H locs := ⟨hW0, hSh, FR.rf⟩
  have ulw := hlw
  unfold isLw at ulw
  have b_en := hG.f h_en rF_79_1 (by decide)
  have b_a0 := hG.f h_a0 rF_79_2 (by decide)
  have f4101 : fld g0 79 2 = .int a0 := h_a0
  refine q_iconst (v := ((-1) : Int32)) hM dX4_condition_0 (by decide) ?_
  refine q_istore_n (lv9 := [(2, .int ((-1) : Int32)), (0, .ref (ad 79)), (1, .int op)]) hM dX4_condition_1 hl (by decide) rfl (fun ls hl => ?_)
  refine q_iconst (v := ((-1) : Int32)) hM dX4_condition_2 (by decide) ?_
  refine q_istore_n (lv9 := [(3, .int ((-1) : Int32)), (2, .int ((-1) : Int32)), (0, .ref (ad 79)), (1, .int op)]) hM dX4_condition_3 hl (by decide) rfl (fun ls hl => ?_)
  have L4 : ∀ (fu4 : Nat) (w4_2 : Int32) (w4_3 : Int32) (aa : Int32) (g9 : Nat → va_E) (H : Heap) (locs : List Loc) (ls : Array Slot), (en.toInt - aa.toInt + 1).toNat < fu4 → (Rng g9) → (a0.toInt ≤ aa.toInt) → (aa.toInt ≤ en.toInt) → (-1 ≤ w4_2.toInt) → (w4_2.toInt ≤ 256) → (-1 ≤ w4_3.toInt) → (w4_3.toInt ≤ 256) → (fld g9 79 2 = .int aa) → lv_has ls 6 [(0, .ref (ad 79)), (1, .int op), (2, .int w4_2), (3, .int w4_3)] → WS ad cA (fun i k => (i = 79 ∧ (k = 2 ∨ k = 3)) ∨ (i = lw ∧ (k = 7)) ∨ i = (lw + 4) ∨ i = (lw + 5)) g0 K g9 H locs → XX K 0 0 H locs 4 ls [] := by
    intro fu4
    induction fu4 with
    | zero => intro w4_2 w4_3 aa g9 H locs ls h0; omega
    | succ fu4 ih4 =>
      intro w4_2 w4_3 aa g9 H locs ls hm4 i4_0 i4_1 i4_2 i4_3 i4_4 i4_5 i4_6 c4_79_2 hl hW
      have hG := i4_0
      refine q_aload_n hM dX4_condition_4 (lv_at hl 0 rfl) ?_
      refine w_get (v := .int aa) hM hW FG_X4_23 lb_79 c4_79_2 dX4_condition_5 ?_
      have baa := hG.f c4_79_2 rF_79_2 (by decide)
      refine q_aload_n hM dX4_condition_8 (lv_at hl 0 rfl) ?_
      refine w_get (v := .int en) hM hW FG_X4_19 lb_79 ((hW.2.2.1 79 1 (by omega)).trans h_en) dX4_condition_9 ?_
      refine q_icmp_gt (tgt := 114) hM dX4_condition_12 (by decide) (rfl : aa.toInt = aa.toInt) (rfl : en.toInt = en.toInt) (fun h12 => ?_) (fun h12 => ?_)
      · refine q_aload_n hM dX4_condition_114 (lv_at hl 0 rfl) ?_
        refine q_iconst (v := (1 : Int32)) hM dX4_condition_115 (by decide) ?_
        refine q_callV (As := [.int (1 : Int32)]) (rest := []) hM hW.1 hR hC myX4_wrong (kAW (v_2_6 (List.mem_of_getElem? (i := 8) rfl)) rfl) (rfl : vwCl[4]? = some (RX4, TX4, 5)) rfl lb_79.1 (shO hW.2.1 lb_79) (a_X4_wrong _ _ cA ad g9 (1 : Int32) hW.2.1 hG) ⟨by decide, by decide⟩ rfl rfl hl.1 (Nat.le_of_ble_eq_true rfl) dX4_condition_116 (fun v g4105 H locs hp hW1 => ?_)
        obtain ⟨r4104, rfl, hs1, hG, hf1, hr4104⟩ := hp
        have f4106 : fld g4105 79 2 = .int aa := (hf1.1 79 2 (by omega)).trans c4_79_2
        have hW : WS ad cA (fun i k => (i = 79 ∧ (k = 2 ∨ k = 3)) ∨ (i = lw ∧ (k = 7)) ∨ i = (lw + 4) ∨ i = (lw + 5)) g0 K g4105 H locs := ⟨hW1, hs1, hW.2.2.tr hf1 (fun i k h => (Or.inl (by omega)))⟩
        exact hE _ _ _ _ _ _ hW.1 (nz_or (by omega)) ⟨aa, _, rfl, hW.2.1, hG, hW.2.2, f4106, (by omega), (by omega), (by omega)⟩ dX4_condition_119
      · refine q_aload_n hM dX4_condition_15 (lv_at hl 0 rfl) ?_
        refine q_iload_n hM dX4_condition_16 (lv_at hl 1 rfl) ?_
        refine q_callV (As := [.int op]) (rest := []) hM hW.1 hR hC myX4_test (kAW (v_2_8 (List.mem_of_getElem? (i := 6) rfl)) rfl) (rfl : vwCl[4]? = some (RX4, TX4, 5)) rfl lb_79.1 (shO hW.2.1 lb_79) (a_X4_test_1 _ _ cA ad g9 op en aa lw hW.2.1 hG hlw ((hW.2.2.1 79 1 (by omega)).trans h_en) c4_79_2 ((hW.2.2.1 79 4 (by omega)).trans h_r4) (by  omega) (by  omega) (by  omega) (by  omega)) ⟨by decide, by decide⟩ rfl rfl hl.1 (Nat.le_of_ble_eq_true rfl) dX4_condition_17 (fun v g4113 H locs hp hW1 => ?_)
        obtain ⟨v4108, r4109, rfl, hs1, hG, hf1, q4110, e4111, e4112, hr4109⟩ := hp
        have hW : WS ad cA (fun i k => (i = 79 ∧ (k = 2 ∨ k = 3)) ∨ (i = lw ∧ (k = 7)) ∨ i = (lw + 4) ∨ i = (lw + 5)) g0 K g4113 H locs := ⟨hW1, hs1, hW.2.2.tr hf1 (fun i k h => h.elim (fun h => (Or.inl h)) (fun h => h.elim (fun h => (Or.inr (Or.inl h))) (fun h => h.elim (fun h => (Or.inr (Or.inr (Or.inl h)))) (fun h => (Or.inr (Or.inr (Or.inr h)))))))⟩
        refine q_if_ne (tgt := 25) hM dX4_condition_20 (by decide) (rfl : r4109.toInt = r4109.toInt) (fun h20 => ?_) (fun h20 => ?_)
        · refine q_aload_n hM dX4_condition_25 (lv_at hl 0 rfl) ?_
          refine q_callV (As := []) (rest := []) hM hW.1 hR hC myX4_sign (kAW (v_2_0 (List.mem_of_getElem? (i := 12) rfl)) rfl) (rfl : vwCl[4]? = some (RX4, TX4, 5)) rfl lb_79.1 (shO hW.2.1 lb_79) (a_X4_sign _ _ cA ad g4113 en v4108 hW.2.1 hG ((hW.2.2.1 79 1 (by omega)).trans h_en) q4110 (by  omega) (by  omega) (by  omega)) ⟨by decide, by decide⟩ rfl rfl hl.1 (Nat.le_of_ble_eq_true rfl) dX4_condition_26 (fun v g4116 H locs hp hW1 => ?_)
          obtain ⟨r4115, rfl, hr4115, rfl⟩ := hp
          have hW : WS ad cA (fun i k => (i = 79 ∧ (k = 2 ∨ k = 3)) ∨ (i = lw ∧ (k = 7)) ∨ i = (lw + 4) ∨ i = (lw + 5)) g0 K g4113 H locs := ⟨hW1, hW.2.1, hW.2.2⟩
          refine q_istore (lv9 := [(4, .int r4115), (0, .ref (ad 79)), (1, .int op), (2, .int w4_2), (3, .int w4_3)]) hM dX4_condition_29 hl (by decide) rfl (fun ls hl => ?_)
          refine q_aload_n hM dX4_condition_31 (lv_at hl 1 rfl) ?_
          refine w_get (v := .ref (ad lw)) hM hW FG_X4_15 lb_79 ((hW.2.2.1 79 4 (by omega)).trans h_r4) dX4_condition_32 ?_
          refine w_getI hM hW FG_X4_35 (lo_Lw hlw) (by decide) (by decide) dX4_condition_35 (fun x4117 fx4117 => ?_)
          have bx4117 := hG.f fx4117 (rF_Lw_7 hlw) (by decide)
          refine q_istore (lv9 := [(5, .int x4117), (4, .int r4115), (0, .ref (ad 79)), (1, .int op), (2, .int w4_2), (3, .int w4_3)]) hM dX4_condition_38 hl (by decide) rfl (fun ls hl => ?_)
          have L101 : ∀ (n101 : Int32) (o101 : Int32) (g9 : Nat → va_E) (H : Heap) (locs : List Loc) (ls : Array Slot), (Rng g9) → (-1 ≤ n101.toInt) → (n101.toInt ≤ 256) → (-1 ≤ o101.toInt) → (o101.toInt ≤ 256) → (0 ≤ r4115.toInt) → (fld g9 79 2 = .int v4108) → lv_has ls 6 [(0, .ref (ad 79)), (1, .int op), (2, .int n101), (3, .int o101), (4, .int r4115), (5, .int x4117)] → WS ad cA (fun i k => (i = 79 ∧ (k = 2 ∨ k = 3)) ∨ (i = lw ∧ (k = 7)) ∨ i = (lw + 4) ∨ i = (lw + 5)) g0 K g9 H locs → XX K 0 0 H locs 101 ls [] := by
            intro n101 o101 g9 H locs ls i101_0 i101_1 i101_2 i101_3 i101_4 i101_5 c101_79_2 hl hW
            have hG := i101_0
            refine q_aload_n hM dX4_condition_101 (lv_at hl 0 rfl) ?_
            refine q_dup hM dX4_condition_102 rfl ?_
            refine w_get (v := .int v4108) hM hW FG_X4_23 lb_79 c101_79_2 dX4_condition_103 ?_
            have bv4108 := hG.f c101_79_2 rF_79_2 (by decide)
            refine q_iconst (v := (1 : Int32)) hM dX4_condition_106 (by decide) ?_
            refine q_iadd hM dX4_condition_107 (fun z4119 hz4119 => ?_)
            first | have tz4119 := i_addT hz4119 (rfl : v4108.toInt = v4108.toInt) (kc_1 : (1 : Int32).toInt = 1) (by omega) (by omega) | skip
            refine w_put hM hW FP_X4_23 lb_79 (by omega) (Or.inl ⟨_, rfl⟩) rfl rfl dX4_condition_108 (fun g4120 H locs hW e1 e2 => ?_)
            have f4121 : fld g4120 79 2 = .int z4119 := e1
            have hG := hG.put e1 e2 rF_79_2 (by decide) (by have := i_rng z4119; omega) (by have := i_rng z4119; omega)
            refine q_goto (tgt := 4) hM dX4_condition_111 (by decide) ?_
            exact ih4 n101 o101 z4119 _ _ _ _ (by omega) hG (by omega) (by omega) (by omega) (by omega) (by omega) (by omega) f4121 (lv_sub hl [0, 1, 2, 3] rfl) hW
          refine q_iload hM dX4_condition_40 (lv_at hl 1 rfl) ?_
          refine q_bipush (v := (38 : Int32)) hM dX4_condition_42 (by decide) ?_
          refine q_icmp_ne (tgt := 62) hM dX4_condition_44 (by decide) (rfl : r4115.toInt = r4115.toInt) (kc_38 : (38 : Int32).toInt = 38) (fun h44 => ?_) (fun h44 => ?_)
          · refine q_aload_n hM dX4_condition_62 (lv_at hl 2 rfl) ?_
            refine w_get (v := .ref (ad lw)) hM hW FG_X4_15 lb_79 ((hW.2.2.1 79 4 (by omega)).trans h_r4) dX4_condition_63 ?_
            refine q_iload_n hM dX4_condition_66 (lv_at hl 4 rfl) ?_
            refine q_callV (As := [.int w4_2]) (rest := []) hM hW.1 hR hC myX3_land (kAW (v_2_8 (List.mem_of_getElem? (i := 10) rfl)) rfl) (rfl : vwCl[3]? = some (RX3, TX3, 8)) rfl (lo_Lw hlw).1 (shO hW.2.1 (lo_Lw hlw)) (a_X3_land _ _ cA ad g4113 lw w4_2 hW.2.1 hG hlw) ⟨by decide, by decide⟩ rfl rfl hl.1 (Nat.le_of_ble_eq_true rfl) dX4_condition_67 (fun v g4123 H locs hp hW1 => ?_)
            obtain ⟨rfl, hs1, hG, hf1⟩ := hp
            have f4124 : fld g4123 79 2 = .int v4108 := (hf1.1 79 2 (by omega)).trans q4110
            have f4125 : fld g4123 lw 7 = .int x4117 := (hf1.1 lw 7 (by omega)).trans fx4117
            have hW : WS ad cA (fun i k => (i = 79 ∧ (k = 2 ∨ k = 3)) ∨ (i = lw ∧ (k = 7)) ∨ i = (lw + 4) ∨ i = (lw + 5)) g0 K g4123 H locs := ⟨hW1, hs1, hW.2.2.tr hf1 (fun i k h => (Or.inr (Or.inr (Or.inr h))))⟩
            refine q_iconst (v := ((-1) : Int32)) hM dX4_condition_70 (by decide) ?_
            refine q_istore_n (lv9 := [(2, .int ((-1) : Int32)), (5, .int x4117), (4, .int r4115), (0, .ref (ad 79)), (1, .int op), (3, .int w4_3)]) hM dX4_condition_71 hl (by decide) rfl (fun ls hl => ?_)
            refine q_iload hM dX4_condition_72 (lv_at hl 2 rfl) ?_
            refine q_bipush (v := (124 : Int32)) hM dX4_condition_74 (by decide) ?_
            refine q_icmp_eq (tgt := 89) hM dX4_condition_76 (by decide) (rfl : r4115.toInt = r4115.toInt) (kc_124 : (124 : Int32).toInt = 124) (fun h76 => ?_) (fun h76 => ?_)
            · refine q_aload_n hM dX4_condition_89 (lv_at hl 3 rfl) ?_
              refine w_get (v := .ref (ad lw)) hM hW FG_X4_15 lb_79 ((hW.2.2.1 79 4 (by omega)).trans h_r4) dX4_condition_90 ?_
              refine q_iconst (v := (5 : Int32)) hM dX4_condition_93 (by decide) ?_
              refine q_iload_n hM dX4_condition_94 (lv_at hl 5 rfl) ?_
              refine q_callV (As := [.int (5 : Int32), .int w4_3]) (rest := []) hM hW.1 hR hC myX3_add (kAW (v_2_7 (List.mem_of_getElem? (i := 13) rfl)) rfl) (rfl : vwCl[3]? = some (RX3, TX3, 8)) rfl (lo_Lw hlw).1 (shO hW.2.1 (lo_Lw hlw)) (a_X3_add _ _ cA ad g4123 lw (5 : Int32) w4_3 hW.2.1 hG hlw (by have := kc_5; omega) (by have := kc_5; omega)) ⟨by decide, by decide⟩ rfl rfl hl.1 (Nat.le_of_ble_eq_true rfl) dX4_condition_95 (fun v g4127 H locs hp hW1 => ?_)
              obtain ⟨rfl, hs1, hG, hf1⟩ := hp
              have f4128 : fld g4127 79 2 = .int v4108 := (hf1.1 79 2 (by omega)).trans f4124
              have hW : WS ad cA (fun i k => (i = 79 ∧ (k = 2 ∨ k = 3)) ∨ (i = lw ∧ (k = 7)) ∨ i = (lw + 4) ∨ i = (lw + 5)) g0 K g4127 H locs := ⟨hW1, hs1, hW.2.2.tr hf1 (fun i k h => h.elim (fun h => (Or.inr (Or.inl h))) (fun h => h.elim (fun h => (Or.inr (Or.inr (Or.inl h)))) (fun h => (Or.inr (Or.inr (Or.inr h))))))⟩
              refine q_iload hM dX4_condition_98 (lv_at hl 1 rfl) ?_
              refine q_istore_n (lv9 := [(3, .int x4117), (2, .int ((-1) : Int32)), (5, .int x4117), (4, .int r4115), (0, .ref (ad 79)), (1, .int op)]) hM dX4_condition_100 hl (by decide) rfl (fun ls hl => ?_)
              have := kc_m1
              exact L101 ((-1) : Int32) x4117 _ _ _ _ hG (by omega) (by omega) (by omega) (by omega) (by omega) f4128 (lv_sub hl [4, 5, 1, 0, 3, 2] rfl) hW
            · refine q_aload_n hM dX4_condition_79 (lv_at hl 3 rfl) ?_
              refine w_get (v := .ref (ad lw)) hM hW FG_X4_15 lb_79 ((hW.2.2.1 79 4 (by omega)).trans h_r4) dX4_condition_80 ?_
              refine q_iload_n hM dX4_condition_83 (lv_at hl 5 rfl) ?_
              refine q_callV (As := [.int w4_3]) (rest := []) hM hW.1 hR hC myX3_land (kAW (v_2_8 (List.mem_of_getElem? (i := 10) rfl)) rfl) (rfl : vwCl[3]? = some (RX3, TX3, 8)) rfl (lo_Lw hlw).1 (shO hW.2.1 (lo_Lw hlw)) (a_X3_land _ _ cA ad g4123 lw w4_3 hW.2.1 hG hlw) ⟨by decide, by decide⟩ rfl rfl hl.1 (Nat.le_of_ble_eq_true rfl) dX4_condition_84 (fun v g4130 H locs hp hW1 => ?_)
              obtain ⟨rfl, hs1, hG, hf1⟩ := hp
              have f4131 : fld g4130 79 2 = .int v4108 := (hf1.1 79 2 (by omega)).trans f4124
              have f4132 : fld g4130 lw 7 = .int x4117 := (hf1.1 lw 7 (by omega)).trans f4125
              have hW : WS ad cA (fun i k => (i = 79 ∧ (k = 2 ∨ k = 3)) ∨ (i = lw ∧ (k = 7)) ∨ i = (lw + 4) ∨ i = (lw + 5)) g0 K g4130 H locs := ⟨hW1, hs1, hW.2.2.tr hf1 (fun i k h => (Or.inr (Or.inr (Or.inr h))))⟩
              refine q_iconst (v := (1 : Int32)) hM dX4_condition_87 (by decide) ?_
              exact hE _ _ _ _ _ _ hW.1 nz_1 ⟨v4108, _, rfl, hW.2.1, hG, hW.2.2, f4131, (by have := kc_1; omega), (by have := kc_1; omega), (by have := kc_1; omega)⟩ dX4_condition_88
          · refine q_aload_n hM dX4_condition_47 (lv_at hl 2 rfl) ?_
            refine w_get (v := .ref (ad lw)) hM hW FG_X4_15 lb_79 ((hW.2.2.1 79 4 (by omega)).trans h_r4) dX4_condition_48 ?_
            refine q_iconst (v := (4 : Int32)) hM dX4_condition_51 (by decide) ?_
            refine q_iload_n hM dX4_condition_52 (lv_at hl 4 rfl) ?_
            refine q_callV (As := [.int (4 : Int32), .int w4_2]) (rest := []) hM hW.1 hR hC myX3_add (kAW (v_2_7 (List.mem_of_getElem? (i := 13) rfl)) rfl) (rfl : vwCl[3]? = some (RX3, TX3, 8)) rfl (lo_Lw hlw).1 (shO hW.2.1 (lo_Lw hlw)) (a_X3_add _ _ cA ad g4113 lw (4 : Int32) w4_2 hW.2.1 hG hlw (by have := kc_4; omega) (by have := kc_4; omega)) ⟨by decide, by decide⟩ rfl rfl hl.1 (Nat.le_of_ble_eq_true rfl) dX4_condition_53 (fun v g4134 H locs hp hW1 => ?_)
            obtain ⟨rfl, hs1, hG, hf1⟩ := hp
            have f4135 : fld g4134 79 2 = .int v4108 := (hf1.1 79 2 (by omega)).trans q4110
            have hW : WS ad cA (fun i k => (i = 79 ∧ (k = 2 ∨ k = 3)) ∨ (i = lw ∧ (k = 7)) ∨ i = (lw + 4) ∨ i = (lw + 5)) g0 K g4134 H locs := ⟨hW1, hs1, hW.2.2.tr hf1 (fun i k h => h.elim (fun h => (Or.inr (Or.inl h))) (fun h => h.elim (fun h => (Or.inr (Or.inr (Or.inl h)))) (fun h => (Or.inr (Or.inr (Or.inr h))))))⟩
            refine q_iload hM dX4_condition_56 (lv_at hl 0 rfl) ?_
            refine q_istore_n (lv9 := [(2, .int x4117), (5, .int x4117), (4, .int r4115), (0, .ref (ad 79)), (1, .int op), (3, .int w4_3)]) hM dX4_condition_58 hl (by decide) rfl (fun ls hl => ?_)
            refine q_goto (tgt := 101) hM dX4_condition_59 (by decide) ?_
            exact L101 x4117 w4_3 _ _ _ _ hG (by omega) (by omega) (by omega) (by omega) (by omega) f4135 (lv_sub hl [3, 4, 0, 5, 2, 1] rfl) hW
        · refine q_iconst (v := (0 : Int32)) hM dX4_condition_23 (by decide) ?_
          exact hE _ _ _ _ _ _ hW.1 nz_0 ⟨v4108, _, rfl, hW.2.1, hG, hW.2.2, q4110, (by have := kc_0; omega), (by have := kc_0; omega), (by have := kc_0; omega)⟩ dX4_condition_24
  have := kc_m1
  have := kc_m1
  exact L4 _ ((-1) : Int32) ((-1) : Int32) a0 _ _ _ _ (Nat.lt_succ_self _) hG (by omega) (by omega) (by omega) (by omega) (by omega) (by omega) f4101 (lv_sub hl [2, 3, 1, 0] rfl) hW


set_option maxRecDepth 100000 in
set_option maxHeartbeats 4000000 in
theorem a_X4_factor_0 (l : Launch) (D : va_G) (cA : Nat → ClassId) (ad : Nat → Nat) (g0 : Nat → va_E) (op : Int32) (en : Int32) (a0 : Int32) (lw : Nat) (hSh : Shp ad cA g0) (hG : Rng g0) (hlw : isLw lw) (h_en : fld g0 79 1 = .int en) (h_a0 : fld g0 79 2 = .int a0) (h_r4 : fld g0 79 4 = .ref (ad lw)) (ah0 : 0 ≤ a0.toInt) (ah1 : a0.toInt ≤ en.toInt) (ah2 : en.toInt ≤ 240) (ok : op.toInt = 0) : CT l NN ad cA D yX4_factor cX4_factor 4 (some FieldType.boolean) (17, 394) [.ref (ad 79), .int op] g0 (fun v g' => ∃ (a9 : Int32) (r : Int32), v = some (.int r) ∧ Shp ad cA g' ∧ Rng g' ∧ FR (fun i k => (i = 79 ∧ (k = 2 ∨ k = 3)) ∨ (i = lw ∧ (k = 7)) ∨ i = (lw + 4) ∨ i = (lw + 5)) g0 g' ∧ fld g' 79 2 = .int a9 ∧ (a0.toInt ≤ a9.toInt) ∧ (a9.toInt ≤ en.toInt) ∧ (r.toInt = 0 ∨ r.toInt = 1)) := by
  refine q_enterZ (by decide) (Nat.le_of_ble_eq_true rfl) (fun K H locs ls _ _ hM hW0 hR hC hE hl => ?_)
  have hl : lv_has ls 4 [(0, .ref (ad 79)), (1, .int op)] := hl
  have hW : WS ad cA (fun i k => (i = 79 ∧ (k = 2 ∨ k = 3)) ∨ (i = lw ∧ (k = 7)) ∨ i = (lw + 4) ∨ i = (lw + 5)) g0 K g0 H locs := ⟨hW0, hSh, FR.rf⟩
  have ulw := hlw
  unfold isLw at ulw
  have b_en := hG.f h_en rF_79_1 (by decide)
  have b_a0 := hG.f h_a0 rF_79_2 (by decide)
  have f4137 : fld g0 79 2 = .int a0 := h_a0
  refine q_aload_n hM dX4_factor_0 (lv_at hl 0 rfl) ?_
  refine q_callV (As := []) (rest := []) hM hW.1 hR hC myX4_sign (kAW (v_2_0 (List.mem_of_getElem? (i := 12) rfl)) rfl) (rfl : vwCl[4]? = some (RX4, TX4, 5)) rfl lb_79.1 (shO hW.2.1 lb_79) (a_X4_sign _ _ cA ad g0 en a0 hW.2.1 hG ((hW.2.2.1 79 1 (by omega)).trans h_en) f4137 (by  omega) (by  omega) (by  omega)) ⟨by decide, by decide⟩ rfl rfl hl.1 (Nat.le_of_ble_eq_true rfl) dX4_factor_1 (fun v g4139 H locs hp hW1 => ?_)
  obtain ⟨r4138, rfl, hr4138, rfl⟩ := hp
  have hW : WS ad cA (fun i k => (i = 79 ∧ (k = 2 ∨ k = 3)) ∨ (i = lw ∧ (k = 7)) ∨ i = (lw + 4) ∨ i = (lw + 5)) g0 K g0 H locs := ⟨hW1, hW.2.1, hW.2.2⟩
  refine q_istore_n (lv9 := [(2, .int r4138), (0, .ref (ad 79)), (1, .int op)]) hM dX4_factor_4 hl (by decide) rfl (fun ls hl => ?_)
  refine q_iload_n hM dX4_factor_5 (lv_at hl 0 rfl) ?_
  refine q_bipush (v := (91 : Int32)) hM dX4_factor_6 (by decide) ?_
  refine q_icmp_ne (tgt := 58) hM dX4_factor_8 (by decide) (rfl : r4138.toInt = r4138.toInt) (kc_91 : (91 : Int32).toInt = 91) (fun h8 => ?_) (fun h8 => ?_)
  · refine q_iload_n hM dX4_factor_58 (lv_at hl 0 rfl) ?_
    refine q_bipush (v := (48 : Int32)) hM dX4_factor_59 (by decide) ?_
    refine q_bipush (v := (57 : Int32)) hM dX4_factor_61 (by decide) ?_
    refine q_callN (host := "ForgetSchool") (As := [.int r4138, .int (48 : Int32), .int (57 : Int32)]) (rest := []) hM hW.1 hR hC myX11_within (List.mem_of_getElem? (i := 2) rfl) (c_X11_within _ _ cA ad g0 r4138 (48 : Int32) (57 : Int32) hW.2.1) ⟨by decide, by decide⟩ rfl rfl hl.1 (Nat.le_of_ble_eq_true rfl) dX4_factor_63 (fun v g4142 H locs hp hW1 => ?_)
    obtain ⟨r4141, rfl, hr4141, rfl⟩ := hp
    have hW : WS ad cA (fun i k => (i = 79 ∧ (k = 2 ∨ k = 3)) ∨ (i = lw ∧ (k = 7)) ∨ i = (lw + 4) ∨ i = (lw + 5)) g0 K g0 H locs := ⟨hW1, hW.2.1, hW.2.2⟩
    have := kc_48
    have := kc_57
    refine q_if_eq (tgt := 102) hM dX4_factor_66 (by decide) (rfl : r4141.toInt = r4141.toInt) (fun h66 => ?_) (fun h66 => ?_)
    · refine q_ldcS1 hM hW.1 rfl dX4_factor_102 ?_
      refine q_iload_n hM dX4_factor_104 (lv_at hl 0 rfl) ?_
      refine q_callS (As := [.ref (ad 401), .int r4138]) (rest := []) hM hW.1 hR hC myX4_placeOf (kAW (v_2_1 (List.mem_of_getElem? (i := 1) rfl)) rfl) (a_X4_placeOf_1 _ _ cA ad g0 r4138 hW.2.1 hG) ⟨by decide, by decide⟩ rfl rfl hl.1 (Nat.le_of_ble_eq_true rfl) dX4_factor_105 (fun v g4145 H locs hp hW1 => ?_)
      obtain ⟨r4144, rfl, hr4144, rfl⟩ := hp
      have hW : WS ad cA (fun i k => (i = 79 ∧ (k = 2 ∨ k = 3)) ∨ (i = lw ∧ (k = 7)) ∨ i = (lw + 4) ∨ i = (lw + 5)) g0 K g0 H locs := ⟨hW1, hW.2.1, hW.2.2⟩
      refine q_istore_n (lv9 := [(3, .int r4144), (2, .int r4138), (0, .ref (ad 79)), (1, .int op)]) hM dX4_factor_108 hl (by decide) rfl (fun ls hl => ?_)
      refine q_iload_n hM dX4_factor_109 (lv_at hl 0 rfl) ?_
      refine q_if_ge (tgt := 119) hM dX4_factor_110 (by decide) (rfl : r4144.toInt = r4144.toInt) (fun h110 => ?_) (fun h110 => ?_)
      · refine q_aload_n hM dX4_factor_119 (lv_at hl 2 rfl) ?_
        refine w_get (v := .ref (ad lw)) hM hW FG_X4_15 lb_79 ((hW.2.2.1 79 4 (by omega)).trans h_r4) dX4_factor_120 ?_
        refine q_iconst (v := (2 : Int32)) hM dX4_factor_123 (by decide) ?_
        refine q_iload_n hM dX4_factor_124 (lv_at hl 0 rfl) ?_
        refine q_callV (As := [.int (2 : Int32), .int r4144]) (rest := []) hM hW.1 hR hC myX3_add (kAW (v_2_7 (List.mem_of_getElem? (i := 13) rfl)) rfl) (rfl : vwCl[3]? = some (RX3, TX3, 8)) rfl (lo_Lw hlw).1 (shO hW.2.1 (lo_Lw hlw)) (a_X3_add _ _ cA ad g0 lw (2 : Int32) r4144 hW.2.1 hG hlw (by have := kc_2; omega) (by have := kc_2; omega)) ⟨by decide, by decide⟩ rfl rfl hl.1 (Nat.le_of_ble_eq_true rfl) dX4_factor_125 (fun v g4147 H locs hp hW1 => ?_)
        obtain ⟨rfl, hs1, hG, hf1⟩ := hp
        have f4148 : fld g4147 79 2 = .int a0 := (hf1.1 79 2 (by omega)).trans f4137
        have hW : WS ad cA (fun i k => (i = 79 ∧ (k = 2 ∨ k = 3)) ∨ (i = lw ∧ (k = 7)) ∨ i = (lw + 4) ∨ i = (lw + 5)) g0 K g4147 H locs := ⟨hW1, hs1, hW.2.2.tr hf1 (fun i k h => h.elim (fun h => (Or.inr (Or.inl h))) (fun h => h.elim (fun h => (Or.inr (Or.inr (Or.inl h)))) (fun h => (Or.inr (Or.inr (Or.inr h))))))⟩
        refine q_aload_n hM dX4_factor_128 (lv_at hl 2 rfl) ?_
        refine q_dup hM dX4_factor_129 rfl ?_
        refine w_get (v := .int a0) hM hW FG_X4_23 lb_79 f4148 dX4_factor_130 ?_
        have ba0 := hG.f f4148 rF_79_2 (by decide)
        refine q_iconst (v := (1 : Int32)) hM dX4_factor_133 (by decide) ?_
        refine q_iadd hM dX4_factor_134 (fun z4149 hz4149 => ?_)
        first | have tz4149 := i_addT hz4149 (rfl : a0.toInt = a0.toInt) (kc_1 : (1 : Int32).toInt = 1) (by omega) (by omega) | skip
        refine w_put hM hW FP_X4_23 lb_79 (by omega) (Or.inl ⟨_, rfl⟩) rfl rfl dX4_factor_135 (fun g4150 H locs hW e1 e2 => ?_)
        have f4151 : fld g4150 79 2 = .int z4149 := e1
        have hG := hG.put e1 e2 rF_79_2 (by decide) (by have := i_rng z4149; omega) (by have := i_rng z4149; omega)
        refine q_iconst (v := (1 : Int32)) hM dX4_factor_138 (by decide) ?_
        exact hE _ _ _ _ _ _ hW.1 nz_1 ⟨z4149, _, rfl, hW.2.1, hG, hW.2.2, f4151, (by have := kc_1; omega), (by have := kc_1; omega), (by have := kc_1; omega)⟩ dX4_factor_139
      · refine q_aload_n hM dX4_factor_113 (lv_at hl 2 rfl) ?_
        refine q_iconst (v := (1 : Int32)) hM dX4_factor_114 (by decide) ?_
        refine q_callV (As := [.int (1 : Int32)]) (rest := []) hM hW.1 hR hC myX4_wrong (kAW (v_2_6 (List.mem_of_getElem? (i := 8) rfl)) rfl) (rfl : vwCl[4]? = some (RX4, TX4, 5)) rfl lb_79.1 (shO hW.2.1 lb_79) (a_X4_wrong _ _ cA ad g0 (1 : Int32) hW.2.1 hG) ⟨by decide, by decide⟩ rfl rfl hl.1 (Nat.le_of_ble_eq_true rfl) dX4_factor_115 (fun v g4154 H locs hp hW1 => ?_)
        obtain ⟨r4153, rfl, hs1, hG, hf1, hr4153⟩ := hp
        have f4155 : fld g4154 79 2 = .int a0 := (hf1.1 79 2 (by omega)).trans f4137
        have hW : WS ad cA (fun i k => (i = 79 ∧ (k = 2 ∨ k = 3)) ∨ (i = lw ∧ (k = 7)) ∨ i = (lw + 4) ∨ i = (lw + 5)) g0 K g4154 H locs := ⟨hW1, hs1, hW.2.2.tr hf1 (fun i k h => (Or.inl (by omega)))⟩
        exact hE _ _ _ _ _ _ hW.1 (nz_or (by omega)) ⟨a0, _, rfl, hW.2.1, hG, hW.2.2, f4155, (by omega), (by omega), (by omega)⟩ dX4_factor_118
    · refine q_aload_n hM dX4_factor_69 (lv_at hl 1 rfl) ?_
      refine q_callV (As := []) (rest := []) hM hW.1 hR hC myX4_number (kAW (v_2_7 (List.mem_of_getElem? (i := 9) rfl)) rfl) (rfl : vwCl[4]? = some (RX4, TX4, 5)) rfl lb_79.1 (shO hW.2.1 lb_79) (a_X4_number _ _ cA ad g0 en a0 hW.2.1 hG ((hW.2.2.1 79 1 (by omega)).trans h_en) f4137 (by  omega) (by  omega) (by  omega)) ⟨by decide, by decide⟩ rfl rfl hl.1 (Nat.le_of_ble_eq_true rfl) dX4_factor_70 (fun v g4162 H locs hp hW1 => ?_)
      obtain ⟨v4157, r4158, rfl, hs1, hG, hf1, q4159, e4160, e4161, hr4158⟩ := hp
      have hW : WS ad cA (fun i k => (i = 79 ∧ (k = 2 ∨ k = 3)) ∨ (i = lw ∧ (k = 7)) ∨ i = (lw + 4) ∨ i = (lw + 5)) g0 K g4162 H locs := ⟨hW1, hs1, hW.2.2.tr hf1 (fun i k h => (Or.inl (by omega)))⟩
      refine q_istore_n (lv9 := [(3, .int r4158), (2, .int r4138), (0, .ref (ad 79)), (1, .int op)]) hM dX4_factor_73 hl (by decide) rfl (fun ls hl => ?_)
      refine q_aload_n hM dX4_factor_74 (lv_at hl 2 rfl) ?_
      refine w_get (v := .ref (ad lw)) hM hW FG_X4_15 lb_79 ((hW.2.2.1 79 4 (by omega)).trans h_r4) dX4_factor_75 ?_
      refine q_iconst (v := (1 : Int32)) hM dX4_factor_78 (by decide) ?_
      refine q_iload_n hM dX4_factor_79 (lv_at hl 0 rfl) ?_
      refine q_callV (As := [.int (1 : Int32), .int r4158]) (rest := []) hM hW.1 hR hC myX3_add (kAW (v_2_7 (List.mem_of_getElem? (i := 13) rfl)) rfl) (rfl : vwCl[3]? = some (RX3, TX3, 8)) rfl (lo_Lw hlw).1 (shO hW.2.1 (lo_Lw hlw)) (a_X3_add _ _ cA ad g4162 lw (1 : Int32) r4158 hW.2.1 hG hlw (by have := kc_1; omega) (by have := kc_1; omega)) ⟨by decide, by decide⟩ rfl rfl hl.1 (Nat.le_of_ble_eq_true rfl) dX4_factor_80 (fun v g4163 H locs hp hW1 => ?_)
      obtain ⟨rfl, hs1, hG, hf1⟩ := hp
      have f4164 : fld g4163 79 2 = .int v4157 := (hf1.1 79 2 (by omega)).trans q4159
      have hW : WS ad cA (fun i k => (i = 79 ∧ (k = 2 ∨ k = 3)) ∨ (i = lw ∧ (k = 7)) ∨ i = (lw + 4) ∨ i = (lw + 5)) g0 K g4163 H locs := ⟨hW1, hs1, hW.2.2.tr hf1 (fun i k h => h.elim (fun h => (Or.inr (Or.inl h))) (fun h => h.elim (fun h => (Or.inr (Or.inr (Or.inl h)))) (fun h => (Or.inr (Or.inr (Or.inr h))))))⟩
      refine q_iload_n hM dX4_factor_83 (lv_at hl 0 rfl) ?_
      refine q_iconst (v := ((-1) : Int32)) hM dX4_factor_84 (by decide) ?_
      refine q_icmp_ne (tgt := 96) hM dX4_factor_85 (by decide) (rfl : r4158.toInt = r4158.toInt) (kc_m1 : ((-1) : Int32).toInt = (-1)) (fun h85 => ?_) (fun h85 => ?_)
      · refine q_iconst (v := (1 : Int32)) hM dX4_factor_96 (by decide) ?_
        refine q_goto (tgt := 101) hM dX4_factor_97 (by decide) ?_
        exact hE _ _ _ _ _ _ hW.1 nz_1 ⟨v4157, _, rfl, hW.2.1, hG, hW.2.2, f4164, (by have := kc_1; omega), (by have := kc_1; omega), (by have := kc_1; omega)⟩ dX4_factor_101
      · refine q_aload_n hM dX4_factor_88 (lv_at hl 2 rfl) ?_
        refine q_iconst (v := (2 : Int32)) hM dX4_factor_89 (by decide) ?_
        refine q_callV (As := [.int (2 : Int32)]) (rest := []) hM hW.1 hR hC myX4_wrong (kAW (v_2_6 (List.mem_of_getElem? (i := 8) rfl)) rfl) (rfl : vwCl[4]? = some (RX4, TX4, 5)) rfl lb_79.1 (shO hW.2.1 lb_79) (a_X4_wrong _ _ cA ad g4163 (2 : Int32) hW.2.1 hG) ⟨by decide, by decide⟩ rfl rfl hl.1 (Nat.le_of_ble_eq_true rfl) dX4_factor_90 (fun v g4168 H locs hp hW1 => ?_)
        obtain ⟨r4167, rfl, hs1, hG, hf1, hr4167⟩ := hp
        have f4169 : fld g4168 79 2 = .int v4157 := (hf1.1 79 2 (by omega)).trans f4164
        have hW : WS ad cA (fun i k => (i = 79 ∧ (k = 2 ∨ k = 3)) ∨ (i = lw ∧ (k = 7)) ∨ i = (lw + 4) ∨ i = (lw + 5)) g0 K g4168 H locs := ⟨hW1, hs1, hW.2.2.tr hf1 (fun i k h => (Or.inl (by omega)))⟩
        refine q_if_eq (tgt := 100) hM dX4_factor_93 (by decide) (rfl : r4167.toInt = r4167.toInt) (fun h93 => ?_) (fun h93 => ?_)
        · refine q_iconst (v := (0 : Int32)) hM dX4_factor_100 (by decide) ?_
          exact hE _ _ _ _ _ _ hW.1 nz_0 ⟨v4157, _, rfl, hW.2.1, hG, hW.2.2, f4169, (by have := kc_0; omega), (by have := kc_0; omega), (by have := kc_0; omega)⟩ dX4_factor_101
        · refine q_iconst (v := (1 : Int32)) hM dX4_factor_96 (by decide) ?_
          refine q_goto (tgt := 101) hM dX4_factor_97 (by decide) ?_
          exact hE _ _ _ _ _ _ hW.1 nz_1 ⟨v4157, _, rfl, hW.2.1, hG, hW.2.2, f4169, (by have := kc_1; omega), (by have := kc_1; omega), (by have := kc_1; omega)⟩ dX4_factor_101
  · refine q_iload_n hM dX4_factor_11 (lv_at hl 2 rfl) ?_
    refine q_bipush (v := (6 : Int32)) hM dX4_factor_12 (by decide) ?_
    refine q_icmp_lt (tgt := 23) hM dX4_factor_14 (by decide) (rfl : op.toInt = op.toInt) (kc_6 : (6 : Int32).toInt = 6) (fun h14 => ?_) (fun h14 => ?_)
    · refine q_aload_n hM dX4_factor_23 (lv_at hl 1 rfl) ?_
      refine q_dup hM dX4_factor_24 rfl ?_
      refine w_get (v := .int a0) hM hW FG_X4_23 lb_79 f4137 dX4_factor_25 ?_
      have ba0 := hG.f f4137 rF_79_2 (by decide)
      refine q_iconst (v := (1 : Int32)) hM dX4_factor_28 (by decide) ?_
      refine q_iadd hM dX4_factor_29 (fun z4174 hz4174 => ?_)
      first | have tz4174 := i_addT hz4174 (rfl : a0.toInt = a0.toInt) (kc_1 : (1 : Int32).toInt = 1) (by omega) (by omega) | skip
      refine w_put hM hW FP_X4_23 lb_79 (by omega) (Or.inl ⟨_, rfl⟩) rfl rfl dX4_factor_30 (fun g4175 H locs hW e1 e2 => ?_)
      have f4176 : fld g4175 79 2 = .int z4174 := e1
      have hG := hG.put e1 e2 rF_79_2 (by decide) (by have := i_rng z4174; omega) (by have := i_rng z4174; omega)
      refine q_aload_n hM dX4_factor_33 (lv_at hl 1 rfl) ?_
      refine q_iload_n hM dX4_factor_34 (lv_at hl 2 rfl) ?_
      refine q_iconst (v := (1 : Int32)) hM dX4_factor_35 (by decide) ?_
      refine q_iadd hM dX4_factor_36 (fun z4177 hz4177 => ?_)
      first | have tz4177 := i_addT hz4177 (rfl : op.toInt = op.toInt) (kc_1 : (1 : Int32).toInt = 1) (by omega) (by omega) | skip
      refine q_callV (As := [.int z4177]) (rest := []) hM hW.1 hR hC myX4_expression (kAW (v_2_6 (List.mem_of_getElem? (i := 12) rfl)) rfl) (rfl : vwCl[4]? = some (RX4, TX4, 5)) rfl lb_79.1 (shO hW.2.1 lb_79) (a_X4_expression_1 _ _ cA ad g4175 z4177 en z4174 lw hW.2.1 hG hlw ((hW.2.2.1 79 1 (by omega)).trans h_en) f4176 ((hW.2.2.1 79 4 (by omega)).trans h_r4) (by  omega) (by  omega) (by  omega) (by  omega)) ⟨by decide, by decide⟩ rfl rfl hl.1 (Nat.le_of_ble_eq_true rfl) dX4_factor_37 (fun v g4183 H locs hp hW1 => ?_)
      obtain ⟨v4178, r4179, rfl, hs1, hG, hf1, q4180, e4181, e4182, hr4179⟩ := hp
      have hW : WS ad cA (fun i k => (i = 79 ∧ (k = 2 ∨ k = 3)) ∨ (i = lw ∧ (k = 7)) ∨ i = (lw + 4) ∨ i = (lw + 5)) g0 K g4183 H locs := ⟨hW1, hs1, hW.2.2.tr hf1 (fun i k h => h.elim (fun h => (Or.inl h)) (fun h => h.elim (fun h => (Or.inr (Or.inl h))) (fun h => h.elim (fun h => (Or.inr (Or.inr (Or.inl h)))) (fun h => (Or.inr (Or.inr (Or.inr h)))))))⟩
      refine q_if_eq (tgt := 56) hM dX4_factor_40 (by decide) (rfl : r4179.toInt = r4179.toInt) (fun h40 => ?_) (fun h40 => ?_)
      · refine q_iconst (v := (0 : Int32)) hM dX4_factor_56 (by decide) ?_
        exact hE _ _ _ _ _ _ hW.1 nz_0 ⟨v4178, _, rfl, hW.2.1, hG, hW.2.2, q4180, (by have := kc_0; omega), (by have := kc_0; omega), (by have := kc_0; omega)⟩ dX4_factor_57
      · refine q_aload_n hM dX4_factor_43 (lv_at hl 1 rfl) ?_
        refine q_bipush (v := (93 : Int32)) hM dX4_factor_44 (by decide) ?_
        refine q_callV (As := [.int (93 : Int32)]) (rest := []) hM hW.1 hR hC myX4_passes (kAW (v_2_7 (List.mem_of_getElem? (i := 4) rfl)) rfl) (rfl : vwCl[4]? = some (RX4, TX4, 5)) rfl lb_79.1 (shO hW.2.1 lb_79) (a_X4_passes _ _ cA ad g4183 (93 : Int32) en v4178 hW.2.1 hG ((hW.2.2.1 79 1 (by omega)).trans h_en) q4180 (by have := kc_93; omega) (by have := kc_93; omega) (by have := kc_93; omega)) ⟨by decide, by decide⟩ rfl rfl hl.1 (Nat.le_of_ble_eq_true rfl) dX4_factor_46 (fun v g4191 H locs hp hW1 => ?_)
        obtain ⟨v4186, r4187, rfl, hs1, hG, hf1, q4188, e4189, e4190, hr4187⟩ := hp
        have hW : WS ad cA (fun i k => (i = 79 ∧ (k = 2 ∨ k = 3)) ∨ (i = lw ∧ (k = 7)) ∨ i = (lw + 4) ∨ i = (lw + 5)) g0 K g4191 H locs := ⟨hW1, hs1, hW.2.2.tr hf1 (fun i k h => (Or.inl h))⟩
        refine q_if_eq (tgt := 56) hM dX4_factor_49 (by decide) (rfl : r4187.toInt = r4187.toInt) (fun h49 => ?_) (fun h49 => ?_)
        · refine q_iconst (v := (0 : Int32)) hM dX4_factor_56 (by decide) ?_
          exact hE _ _ _ _ _ _ hW.1 nz_0 ⟨v4186, _, rfl, hW.2.1, hG, hW.2.2, q4188, (by have := kc_0; omega), (by have := kc_0; omega), (by have := kc_0; omega)⟩ dX4_factor_57
        · refine q_iconst (v := (1 : Int32)) hM dX4_factor_52 (by decide) ?_
          refine q_goto (tgt := 57) hM dX4_factor_53 (by decide) ?_
          exact hE _ _ _ _ _ _ hW.1 nz_1 ⟨v4186, _, rfl, hW.2.1, hG, hW.2.2, q4188, (by have := kc_1; omega), (by have := kc_1; omega), (by have := kc_1; omega)⟩ dX4_factor_57
    · omega


set_option maxRecDepth 100000 in
set_option maxHeartbeats 4000000 in
theorem a_X4_expression_0 (l : Launch) (D : va_G) (cA : Nat → ClassId) (ad : Nat → Nat) (g0 : Nat → va_E) (op : Int32) (en : Int32) (a0 : Int32) (lw : Nat) (hSh : Shp ad cA g0) (hG : Rng g0) (hlw : isLw lw) (h_en : fld g0 79 1 = .int en) (h_a0 : fld g0 79 2 = .int a0) (h_r4 : fld g0 79 4 = .ref (ad lw)) (ah0 : 0 ≤ a0.toInt) (ah1 : a0.toInt ≤ en.toInt) (ah2 : en.toInt ≤ 240) (ok : op.toInt = 0) : CT l NN ad cA D yX4_expression cX4_expression 5 (some FieldType.boolean) (18, 417) [.ref (ad 79), .int op] g0 (fun v g' => ∃ (a9 : Int32) (r : Int32), v = some (.int r) ∧ Shp ad cA g' ∧ Rng g' ∧ FR (fun i k => (i = 79 ∧ (k = 2 ∨ k = 3)) ∨ (i = lw ∧ (k = 7)) ∨ i = (lw + 4) ∨ i = (lw + 5)) g0 g' ∧ fld g' 79 2 = .int a9 ∧ (a0.toInt ≤ a9.toInt) ∧ (a9.toInt ≤ en.toInt) ∧ (r.toInt = 0 ∨ r.toInt = 1)) := by
  refine q_enterZ (by decide) (Nat.le_of_ble_eq_true rfl) (fun K H locs ls _ _ hM hW0 hR hC hE hl => ?_)
  have hl : lv_has ls 5 [(0, .ref (ad 79)), (1, .int op)] := hl
  have hW : WS ad cA (fun i k => (i = 79 ∧ (k = 2 ∨ k = 3)) ∨ (i = lw ∧ (k = 7)) ∨ i = (lw + 4) ∨ i = (lw + 5)) g0 K g0 H locs := ⟨hW0, hSh, FR.rf⟩
  have ulw := hlw
  unfold isLw at ulw
  have b_en := hG.f h_en rF_79_1 (by decide)
  have b_a0 := hG.f h_a0 rF_79_2 (by decide)
  have f4195 : fld g0 79 2 = .int a0 := h_a0
  refine q_iconst (v := ((-1) : Int32)) hM dX4_expression_0 (by decide) ?_
  refine q_istore_n (lv9 := [(2, .int ((-1) : Int32)), (0, .ref (ad 79)), (1, .int op)]) hM dX4_expression_1 hl (by decide) rfl (fun ls hl => ?_)
  refine q_iconst (v := ((-1) : Int32)) hM dX4_expression_2 (by decide) ?_
  refine q_istore_n (lv9 := [(3, .int ((-1) : Int32)), (2, .int ((-1) : Int32)), (0, .ref (ad 79)), (1, .int op)]) hM dX4_expression_3 hl (by decide) rfl (fun ls hl => ?_)
  have L4 : ∀ (fu4 : Nat) (w4_3 : Int32) (w4_2 : Int32) (aa : Int32) (g9 : Nat → va_E) (H : Heap) (locs : List Loc) (ls : Array Slot), (en.toInt - aa.toInt + 1).toNat < fu4 → (Rng g9) → (a0.toInt ≤ aa.toInt) → (aa.toInt ≤ en.toInt) → (fld g9 79 2 = .int aa) → lv_has ls 5 [(0, .ref (ad 79)), (1, .int op), (2, .int w4_2), (3, .int w4_3)] → WS ad cA (fun i k => (i = 79 ∧ (k = 2 ∨ k = 3)) ∨ (i = lw ∧ (k = 7)) ∨ i = (lw + 4) ∨ i = (lw + 5)) g0 K g9 H locs → XX K 0 0 H locs 4 ls [] := by
    intro fu4
    induction fu4 with
    | zero => intro w4_3 w4_2 aa g9 H locs ls h0; omega
    | succ fu4 ih4 =>
      intro w4_3 w4_2 aa g9 H locs ls hm4 i4_0 i4_1 i4_2 c4_79_2 hl hW
      have hG := i4_0
      refine q_aload_n hM dX4_expression_4 (lv_at hl 0 rfl) ?_
      refine w_get (v := .int aa) hM hW FG_X4_23 lb_79 c4_79_2 dX4_expression_5 ?_
      have baa := hG.f c4_79_2 rF_79_2 (by decide)
      refine q_aload_n hM dX4_expression_8 (lv_at hl 0 rfl) ?_
      refine w_get (v := .int en) hM hW FG_X4_19 lb_79 ((hW.2.2.1 79 1 (by omega)).trans h_en) dX4_expression_9 ?_
      refine q_icmp_gt (tgt := 133) hM dX4_expression_12 (by decide) (rfl : aa.toInt = aa.toInt) (rfl : en.toInt = en.toInt) (fun h12 => ?_) (fun h12 => ?_)
      · refine q_aload_n hM dX4_expression_133 (lv_at hl 0 rfl) ?_
        refine q_iconst (v := (1 : Int32)) hM dX4_expression_134 (by decide) ?_
        refine q_callV (As := [.int (1 : Int32)]) (rest := []) hM hW.1 hR hC myX4_wrong (kAW (v_2_6 (List.mem_of_getElem? (i := 8) rfl)) rfl) (rfl : vwCl[4]? = some (RX4, TX4, 5)) rfl lb_79.1 (shO hW.2.1 lb_79) (a_X4_wrong _ _ cA ad g9 (1 : Int32) hW.2.1 hG) ⟨by decide, by decide⟩ rfl rfl hl.1 (Nat.le_of_ble_eq_true rfl) dX4_expression_135 (fun v g4199 H locs hp hW1 => ?_)
        obtain ⟨r4198, rfl, hs1, hG, hf1, hr4198⟩ := hp
        have f4200 : fld g4199 79 2 = .int aa := (hf1.1 79 2 (by omega)).trans c4_79_2
        have hW : WS ad cA (fun i k => (i = 79 ∧ (k = 2 ∨ k = 3)) ∨ (i = lw ∧ (k = 7)) ∨ i = (lw + 4) ∨ i = (lw + 5)) g0 K g4199 H locs := ⟨hW1, hs1, hW.2.2.tr hf1 (fun i k h => (Or.inl (by omega)))⟩
        exact hE _ _ _ _ _ _ hW.1 (nz_or (by omega)) ⟨aa, _, rfl, hW.2.1, hG, hW.2.2, f4200, (by omega), (by omega), (by omega)⟩ dX4_expression_138
      · refine q_aload_n hM dX4_expression_15 (lv_at hl 0 rfl) ?_
        refine q_iload_n hM dX4_expression_16 (lv_at hl 1 rfl) ?_
        refine q_callV (As := [.int op]) (rest := []) hM hW.1 hR hC myX4_factor (kAW (v_2_7 (List.mem_of_getElem? (i := 0) rfl)) rfl) (rfl : vwCl[4]? = some (RX4, TX4, 5)) rfl lb_79.1 (shO hW.2.1 lb_79) (a_X4_factor_0 _ _ cA ad g9 op en aa lw hW.2.1 hG hlw ((hW.2.2.1 79 1 (by omega)).trans h_en) c4_79_2 ((hW.2.2.1 79 4 (by omega)).trans h_r4) (by  omega) (by  omega) (by  omega) (by  omega)) ⟨by decide, by decide⟩ rfl rfl hl.1 (Nat.le_of_ble_eq_true rfl) dX4_expression_17 (fun v g4207 H locs hp hW1 => ?_)
        obtain ⟨v4202, r4203, rfl, hs1, hG, hf1, q4204, e4205, e4206, hr4203⟩ := hp
        have hW : WS ad cA (fun i k => (i = 79 ∧ (k = 2 ∨ k = 3)) ∨ (i = lw ∧ (k = 7)) ∨ i = (lw + 4) ∨ i = (lw + 5)) g0 K g4207 H locs := ⟨hW1, hs1, hW.2.2.tr hf1 (fun i k h => h.elim (fun h => (Or.inl h)) (fun h => h.elim (fun h => (Or.inr (Or.inl h))) (fun h => h.elim (fun h => (Or.inr (Or.inr (Or.inl h)))) (fun h => (Or.inr (Or.inr (Or.inr h)))))))⟩
        refine q_if_ne (tgt := 25) hM dX4_expression_20 (by decide) (rfl : r4203.toInt = r4203.toInt) (fun h20 => ?_) (fun h20 => ?_)
        · have L39 : ∀ (g9 : Nat → va_E) (H : Heap) (locs : List Loc) (ls : Array Slot), (Rng g9) → (fld g9 79 2 = .int v4202) → lv_has ls 5 [(0, .ref (ad 79)), (1, .int op), (2, .int w4_2), (3, .int w4_3)] → WS ad cA (fun i k => (i = 79 ∧ (k = 2 ∨ k = 3)) ∨ (i = lw ∧ (k = 7)) ∨ i = (lw + 4) ∨ i = (lw + 5)) g0 K g9 H locs → XX K 0 0 H locs 39 ls [] := by
            intro g9 H locs ls i39_0 c39_79_2 hl hW
            have hG := i39_0
            refine q_aload_n hM dX4_expression_39 (lv_at hl 0 rfl) ?_
            refine q_callV (As := []) (rest := []) hM hW.1 hR hC myX4_sign (kAW (v_2_0 (List.mem_of_getElem? (i := 12) rfl)) rfl) (rfl : vwCl[4]? = some (RX4, TX4, 5)) rfl lb_79.1 (shO hW.2.1 lb_79) (a_X4_sign _ _ cA ad g9 en v4202 hW.2.1 hG ((hW.2.2.1 79 1 (by omega)).trans h_en) c39_79_2 (by  omega) (by  omega) (by  omega)) ⟨by decide, by decide⟩ rfl rfl hl.1 (Nat.le_of_ble_eq_true rfl) dX4_expression_40 (fun v g4211 H locs hp hW1 => ?_)
            obtain ⟨r4210, rfl, hr4210, rfl⟩ := hp
            have hW : WS ad cA (fun i k => (i = 79 ∧ (k = 2 ∨ k = 3)) ∨ (i = lw ∧ (k = 7)) ∨ i = (lw + 4) ∨ i = (lw + 5)) g0 K g9 H locs := ⟨hW1, hW.2.1, hW.2.2⟩
            refine q_istore (lv9 := [(4, .int r4210), (0, .ref (ad 79)), (1, .int op), (2, .int w4_2), (3, .int w4_3)]) hM dX4_expression_43 hl (by decide) rfl (fun ls hl => ?_)
            have L73 : ∀ (p73 : Int32) (g9 : Nat → va_E) (H : Heap) (locs : List Loc) (ls : Array Slot), (Rng g9) → (p73.toInt = -1 ∨ 0 ≤ r4210.toInt) → (fld g9 79 2 = .int v4202) → lv_has ls 5 [(0, .ref (ad 79)), (1, .int op), (2, .int w4_2), (3, .int p73), (4, .int r4210)] → WS ad cA (fun i k => (i = 79 ∧ (k = 2 ∨ k = 3)) ∨ (i = lw ∧ (k = 7)) ∨ i = (lw + 4) ∨ i = (lw + 5)) g0 K g9 H locs → XX K 0 0 H locs 73 ls [] := by
              intro p73 g9 H locs ls i73_0 i73_1 c73_79_2 hl hW
              have hG := i73_0
              refine q_iload_n hM dX4_expression_73 (lv_at hl 3 rfl) ?_
              refine q_iconst (v := ((-1) : Int32)) hM dX4_expression_74 (by decide) ?_
              refine q_icmp_ne (tgt := 120) hM dX4_expression_75 (by decide) (rfl : p73.toInt = p73.toInt) (kc_m1 : ((-1) : Int32).toInt = (-1)) (fun h75 => ?_) (fun h75 => ?_)
              · refine q_aload_n hM dX4_expression_120 (lv_at hl 0 rfl) ?_
                refine q_dup hM dX4_expression_121 rfl ?_
                refine w_get (v := .int v4202) hM hW FG_X4_23 lb_79 c73_79_2 dX4_expression_122 ?_
                have bv4202 := hG.f c73_79_2 rF_79_2 (by decide)
                refine q_iconst (v := (1 : Int32)) hM dX4_expression_125 (by decide) ?_
                refine q_iadd hM dX4_expression_126 (fun z4214 hz4214 => ?_)
                first | have tz4214 := i_addT hz4214 (rfl : v4202.toInt = v4202.toInt) (kc_1 : (1 : Int32).toInt = 1) (by omega) (by omega) | skip
                refine w_put hM hW FP_X4_23 lb_79 (by omega) (Or.inl ⟨_, rfl⟩) rfl rfl dX4_expression_127 (fun g4215 H locs hW e1 e2 => ?_)
                have f4216 : fld g4215 79 2 = .int z4214 := e1
                have hG := hG.put e1 e2 rF_79_2 (by decide) (by have := i_rng z4214; omega) (by have := i_rng z4214; omega)
                refine q_goto (tgt := 4) hM dX4_expression_130 (by decide) ?_
                exact ih4 p73 w4_2 z4214 _ _ _ _ (by omega) hG (by omega) (by omega) f4216 (lv_sub hl [0, 1, 2, 3] rfl) hW
              · have L92 : ∀ (g9 : Nat → va_E) (H : Heap) (locs : List Loc) (ls : Array Slot), (Rng g9) → (fld g9 79 2 = .int v4202) → lv_has ls 5 [(0, .ref (ad 79)), (1, .int op), (2, .int w4_2), (3, .int p73), (4, .int r4210)] → WS ad cA (fun i k => (i = 79 ∧ (k = 2 ∨ k = 3)) ∨ (i = lw ∧ (k = 7)) ∨ i = (lw + 4) ∨ i = (lw + 5)) g0 K g9 H locs → XX K 0 0 H locs 92 ls [] := by
                  intro g9 H locs ls i92_0 c92_79_2 hl hW
                  have hG := i92_0
                  refine q_iload hM dX4_expression_92 (lv_at hl 4 rfl) ?_
                  refine q_bipush (v := (43 : Int32)) hM dX4_expression_94 (by decide) ?_
                  refine q_icmp_eq (tgt := 106) hM dX4_expression_96 (by decide) (rfl : r4210.toInt = r4210.toInt) (kc_43 : (43 : Int32).toInt = 43) (fun h96 => ?_) (fun h96 => ?_)
                  · refine q_iload hM dX4_expression_106 (lv_at hl 4 rfl) ?_
                    refine q_goto (tgt := 112) hM dX4_expression_108 (by decide) ?_
                    refine q_istore_n (lv9 := [(2, .int r4210), (0, .ref (ad 79)), (1, .int op), (3, .int p73), (4, .int r4210)]) hM dX4_expression_112 hl (by decide) rfl (fun ls hl => ?_)
                    refine q_iload_n hM dX4_expression_113 (lv_at hl 0 rfl) ?_
                    refine q_iconst (v := ((-1) : Int32)) hM dX4_expression_114 (by decide) ?_
                    refine q_icmp_ne (tgt := 120) hM dX4_expression_115 (by decide) (rfl : r4210.toInt = r4210.toInt) (kc_m1 : ((-1) : Int32).toInt = (-1)) (fun h115 => ?_) (fun h115 => ?_)
                    · refine q_aload_n hM dX4_expression_120 (lv_at hl 1 rfl) ?_
                      refine q_dup hM dX4_expression_121 rfl ?_
                      refine w_get (v := .int v4202) hM hW FG_X4_23 lb_79 c92_79_2 dX4_expression_122 ?_
                      have bv4202 := hG.f c92_79_2 rF_79_2 (by decide)
                      refine q_iconst (v := (1 : Int32)) hM dX4_expression_125 (by decide) ?_
                      refine q_iadd hM dX4_expression_126 (fun z4221 hz4221 => ?_)
                      first | have tz4221 := i_addT hz4221 (rfl : v4202.toInt = v4202.toInt) (kc_1 : (1 : Int32).toInt = 1) (by omega) (by omega) | skip
                      refine w_put hM hW FP_X4_23 lb_79 (by omega) (Or.inl ⟨_, rfl⟩) rfl rfl dX4_expression_127 (fun g4222 H locs hW e1 e2 => ?_)
                      have f4223 : fld g4222 79 2 = .int z4221 := e1
                      have hG := hG.put e1 e2 rF_79_2 (by decide) (by have := i_rng z4221; omega) (by have := i_rng z4221; omega)
                      refine q_goto (tgt := 4) hM dX4_expression_130 (by decide) ?_
                      exact ih4 p73 r4210 z4221 _ _ _ _ (by omega) hG (by omega) (by omega) f4223 (lv_sub hl [1, 2, 0, 3] rfl) hW
                    · refine q_iconst (v := (1 : Int32)) hM dX4_expression_118 (by decide) ?_
                      exact hE _ _ _ _ _ _ hW.1 nz_1 ⟨v4202, _, rfl, hW.2.1, hG, hW.2.2, c92_79_2, (by have := kc_1; omega), (by have := kc_1; omega), (by have := kc_1; omega)⟩ dX4_expression_119
                  · refine q_iload hM dX4_expression_99 (lv_at hl 4 rfl) ?_
                    refine q_bipush (v := (45 : Int32)) hM dX4_expression_101 (by decide) ?_
                    refine q_icmp_ne (tgt := 111) hM dX4_expression_103 (by decide) (rfl : r4210.toInt = r4210.toInt) (kc_45 : (45 : Int32).toInt = 45) (fun h103 => ?_) (fun h103 => ?_)
                    · refine q_iconst (v := ((-1) : Int32)) hM dX4_expression_111 (by decide) ?_
                      refine q_istore_n (lv9 := [(2, .int ((-1) : Int32)), (0, .ref (ad 79)), (1, .int op), (3, .int p73), (4, .int r4210)]) hM dX4_expression_112 hl (by decide) rfl (fun ls hl => ?_)
                      refine q_iload_n hM dX4_expression_113 (lv_at hl 0 rfl) ?_
                      refine q_iconst (v := ((-1) : Int32)) hM dX4_expression_114 (by decide) ?_
                      refine q_icmp_ne (tgt := 120) hM dX4_expression_115 (by decide) (kc_m1 : ((-1) : Int32).toInt = (-1)) (kc_m1 : ((-1) : Int32).toInt = (-1)) (fun h115 => ?_) (fun h115 => ?_)
                      · omega
                      · refine q_iconst (v := (1 : Int32)) hM dX4_expression_118 (by decide) ?_
                        exact hE _ _ _ _ _ _ hW.1 nz_1 ⟨v4202, _, rfl, hW.2.1, hG, hW.2.2, c92_79_2, (by have := kc_1; omega), (by have := kc_1; omega), (by have := kc_1; omega)⟩ dX4_expression_119
                    · refine q_iload hM dX4_expression_106 (lv_at hl 4 rfl) ?_
                      refine q_goto (tgt := 112) hM dX4_expression_108 (by decide) ?_
                      refine q_istore_n (lv9 := [(2, .int r4210), (0, .ref (ad 79)), (1, .int op), (3, .int p73), (4, .int r4210)]) hM dX4_expression_112 hl (by decide) rfl (fun ls hl => ?_)
                      refine q_iload_n hM dX4_expression_113 (lv_at hl 0 rfl) ?_
                      refine q_iconst (v := ((-1) : Int32)) hM dX4_expression_114 (by decide) ?_
                      refine q_icmp_ne (tgt := 120) hM dX4_expression_115 (by decide) (rfl : r4210.toInt = r4210.toInt) (kc_m1 : ((-1) : Int32).toInt = (-1)) (fun h115 => ?_) (fun h115 => ?_)
                      · refine q_aload_n hM dX4_expression_120 (lv_at hl 1 rfl) ?_
                        refine q_dup hM dX4_expression_121 rfl ?_
                        refine w_get (v := .int v4202) hM hW FG_X4_23 lb_79 c92_79_2 dX4_expression_122 ?_
                        have bv4202 := hG.f c92_79_2 rF_79_2 (by decide)
                        refine q_iconst (v := (1 : Int32)) hM dX4_expression_125 (by decide) ?_
                        refine q_iadd hM dX4_expression_126 (fun z4231 hz4231 => ?_)
                        first | have tz4231 := i_addT hz4231 (rfl : v4202.toInt = v4202.toInt) (kc_1 : (1 : Int32).toInt = 1) (by omega) (by omega) | skip
                        refine w_put hM hW FP_X4_23 lb_79 (by omega) (Or.inl ⟨_, rfl⟩) rfl rfl dX4_expression_127 (fun g4232 H locs hW e1 e2 => ?_)
                        have f4233 : fld g4232 79 2 = .int z4231 := e1
                        have hG := hG.put e1 e2 rF_79_2 (by decide) (by have := i_rng z4231; omega) (by have := i_rng z4231; omega)
                        refine q_goto (tgt := 4) hM dX4_expression_130 (by decide) ?_
                        exact ih4 p73 r4210 z4231 _ _ _ _ (by omega) hG (by omega) (by omega) f4233 (lv_sub hl [1, 2, 0, 3] rfl) hW
                      · refine q_iconst (v := (1 : Int32)) hM dX4_expression_118 (by decide) ?_
                        exact hE _ _ _ _ _ _ hW.1 nz_1 ⟨v4202, _, rfl, hW.2.1, hG, hW.2.2, c92_79_2, (by have := kc_1; omega), (by have := kc_1; omega), (by have := kc_1; omega)⟩ dX4_expression_119
                refine q_iload_n hM dX4_expression_78 (lv_at hl 2 rfl) ?_
                refine q_iconst (v := ((-1) : Int32)) hM dX4_expression_79 (by decide) ?_
                refine q_icmp_eq (tgt := 92) hM dX4_expression_80 (by decide) (rfl : w4_2.toInt = w4_2.toInt) (kc_m1 : ((-1) : Int32).toInt = (-1)) (fun h80 => ?_) (fun h80 => ?_)
                · exact L92  _ _ _ _ hG c73_79_2 (lv_sub hl [0, 1, 2, 3, 4] rfl) hW
                · refine q_aload_n hM dX4_expression_83 (lv_at hl 0 rfl) ?_
                  refine w_get (v := .ref (ad lw)) hM hW FG_X4_15 lb_79 ((hW.2.2.1 79 4 (by omega)).trans h_r4) dX4_expression_84 ?_
                  refine q_iload_n hM dX4_expression_87 (lv_at hl 2 rfl) ?_
                  refine q_iconst (v := (0 : Int32)) hM dX4_expression_88 (by decide) ?_
                  refine q_callV (As := [.int w4_2, .int (0 : Int32)]) (rest := []) hM hW.1 hR hC myX3_add (kAW (v_2_7 (List.mem_of_getElem? (i := 13) rfl)) rfl) (rfl : vwCl[3]? = some (RX3, TX3, 8)) rfl (lo_Lw hlw).1 (shO hW.2.1 (lo_Lw hlw)) (a_X3_add _ _ cA ad g9 lw w4_2 (0 : Int32) hW.2.1 hG hlw (by have := kc_0; omega) (by have := kc_0; omega)) ⟨by decide, by decide⟩ rfl rfl hl.1 (Nat.le_of_ble_eq_true rfl) dX4_expression_89 (fun v g4237 H locs hp hW1 => ?_)
                  obtain ⟨rfl, hs1, hG, hf1⟩ := hp
                  have f4238 : fld g4237 79 2 = .int v4202 := (hf1.1 79 2 (by omega)).trans c73_79_2
                  have hW : WS ad cA (fun i k => (i = 79 ∧ (k = 2 ∨ k = 3)) ∨ (i = lw ∧ (k = 7)) ∨ i = (lw + 4) ∨ i = (lw + 5)) g0 K g4237 H locs := ⟨hW1, hs1, hW.2.2.tr hf1 (fun i k h => h.elim (fun h => (Or.inr (Or.inl h))) (fun h => h.elim (fun h => (Or.inr (Or.inr (Or.inl h)))) (fun h => (Or.inr (Or.inr (Or.inr h))))))⟩
                  exact L92  _ _ _ _ hG f4238 (lv_sub hl [0, 1, 2, 3, 4] rfl) hW
            refine q_iload hM dX4_expression_45 (lv_at hl 0 rfl) ?_
            refine q_bipush (v := (42 : Int32)) hM dX4_expression_47 (by decide) ?_
            refine q_icmp_eq (tgt := 66) hM dX4_expression_49 (by decide) (rfl : r4210.toInt = r4210.toInt) (kc_42 : (42 : Int32).toInt = 42) (fun h49 => ?_) (fun h49 => ?_)
            · refine q_iload hM dX4_expression_66 (lv_at hl 0 rfl) ?_
              refine q_goto (tgt := 72) hM dX4_expression_68 (by decide) ?_
              refine q_istore_n (lv9 := [(3, .int r4210), (4, .int r4210), (0, .ref (ad 79)), (1, .int op), (2, .int w4_2)]) hM dX4_expression_72 hl (by decide) rfl (fun ls hl => ?_)
              exact L73 r4210 _ _ _ _ hG (by omega) c39_79_2 (lv_sub hl [2, 3, 4, 0, 1] rfl) hW
            · refine q_iload hM dX4_expression_52 (lv_at hl 0 rfl) ?_
              refine q_bipush (v := (47 : Int32)) hM dX4_expression_54 (by decide) ?_
              refine q_icmp_eq (tgt := 66) hM dX4_expression_56 (by decide) (rfl : r4210.toInt = r4210.toInt) (kc_47 : (47 : Int32).toInt = 47) (fun h56 => ?_) (fun h56 => ?_)
              · refine q_iload hM dX4_expression_66 (lv_at hl 0 rfl) ?_
                refine q_goto (tgt := 72) hM dX4_expression_68 (by decide) ?_
                refine q_istore_n (lv9 := [(3, .int r4210), (4, .int r4210), (0, .ref (ad 79)), (1, .int op), (2, .int w4_2)]) hM dX4_expression_72 hl (by decide) rfl (fun ls hl => ?_)
                exact L73 r4210 _ _ _ _ hG (by omega) c39_79_2 (lv_sub hl [2, 3, 4, 0, 1] rfl) hW
              · refine q_iload hM dX4_expression_59 (lv_at hl 0 rfl) ?_
                refine q_bipush (v := (37 : Int32)) hM dX4_expression_61 (by decide) ?_
                refine q_icmp_ne (tgt := 71) hM dX4_expression_63 (by decide) (rfl : r4210.toInt = r4210.toInt) (kc_37 : (37 : Int32).toInt = 37) (fun h63 => ?_) (fun h63 => ?_)
                · refine q_iconst (v := ((-1) : Int32)) hM dX4_expression_71 (by decide) ?_
                  refine q_istore_n (lv9 := [(3, .int ((-1) : Int32)), (4, .int r4210), (0, .ref (ad 79)), (1, .int op), (2, .int w4_2)]) hM dX4_expression_72 hl (by decide) rfl (fun ls hl => ?_)
                  have := kc_m1
                  exact L73 ((-1) : Int32) _ _ _ _ hG (by omega) c39_79_2 (lv_sub hl [2, 3, 4, 0, 1] rfl) hW
                · refine q_iload hM dX4_expression_66 (lv_at hl 0 rfl) ?_
                  refine q_goto (tgt := 72) hM dX4_expression_68 (by decide) ?_
                  refine q_istore_n (lv9 := [(3, .int r4210), (4, .int r4210), (0, .ref (ad 79)), (1, .int op), (2, .int w4_2)]) hM dX4_expression_72 hl (by decide) rfl (fun ls hl => ?_)
                  exact L73 r4210 _ _ _ _ hG (by omega) c39_79_2 (lv_sub hl [2, 3, 4, 0, 1] rfl) hW
          refine q_iload_n hM dX4_expression_25 (lv_at hl 3 rfl) ?_
          refine q_iconst (v := ((-1) : Int32)) hM dX4_expression_26 (by decide) ?_
          refine q_icmp_eq (tgt := 39) hM dX4_expression_27 (by decide) (rfl : w4_3.toInt = w4_3.toInt) (kc_m1 : ((-1) : Int32).toInt = (-1)) (fun h27 => ?_) (fun h27 => ?_)
          · exact L39  _ _ _ _ hG q4204 (lv_sub hl [0, 1, 2, 3] rfl) hW
          · refine q_aload_n hM dX4_expression_30 (lv_at hl 0 rfl) ?_
            refine w_get (v := .ref (ad lw)) hM hW FG_X4_15 lb_79 ((hW.2.2.1 79 4 (by omega)).trans h_r4) dX4_expression_31 ?_
            refine q_iload_n hM dX4_expression_34 (lv_at hl 3 rfl) ?_
            refine q_iconst (v := (0 : Int32)) hM dX4_expression_35 (by decide) ?_
            refine q_callV (As := [.int w4_3, .int (0 : Int32)]) (rest := []) hM hW.1 hR hC myX3_add (kAW (v_2_7 (List.mem_of_getElem? (i := 13) rfl)) rfl) (rfl : vwCl[3]? = some (RX3, TX3, 8)) rfl (lo_Lw hlw).1 (shO hW.2.1 (lo_Lw hlw)) (a_X3_add _ _ cA ad g4207 lw w4_3 (0 : Int32) hW.2.1 hG hlw (by have := kc_0; omega) (by have := kc_0; omega)) ⟨by decide, by decide⟩ rfl rfl hl.1 (Nat.le_of_ble_eq_true rfl) dX4_expression_36 (fun v g4247 H locs hp hW1 => ?_)
            obtain ⟨rfl, hs1, hG, hf1⟩ := hp
            have f4248 : fld g4247 79 2 = .int v4202 := (hf1.1 79 2 (by omega)).trans q4204
            have hW : WS ad cA (fun i k => (i = 79 ∧ (k = 2 ∨ k = 3)) ∨ (i = lw ∧ (k = 7)) ∨ i = (lw + 4) ∨ i = (lw + 5)) g0 K g4247 H locs := ⟨hW1, hs1, hW.2.2.tr hf1 (fun i k h => h.elim (fun h => (Or.inr (Or.inl h))) (fun h => h.elim (fun h => (Or.inr (Or.inr (Or.inl h)))) (fun h => (Or.inr (Or.inr (Or.inr h))))))⟩
            exact L39  _ _ _ _ hG f4248 (lv_sub hl [0, 1, 2, 3] rfl) hW
        · refine q_iconst (v := (0 : Int32)) hM dX4_expression_23 (by decide) ?_
          exact hE _ _ _ _ _ _ hW.1 nz_0 ⟨v4202, _, rfl, hW.2.1, hG, hW.2.2, q4204, (by have := kc_0; omega), (by have := kc_0; omega), (by have := kc_0; omega)⟩ dX4_expression_24
  have := kc_m1
  have := kc_m1
  exact L4 _ ((-1) : Int32) ((-1) : Int32) a0 _ _ _ _ (Nat.lt_succ_self _) hG (by omega) (by omega) f4195 (lv_sub hl [2, 3, 1, 0] rfl) hW


set_option maxRecDepth 100000 in
set_option maxHeartbeats 4000000 in
theorem a_X4_test_0 (l : Launch) (D : va_G) (cA : Nat → ClassId) (ad : Nat → Nat) (g0 : Nat → va_E) (op : Int32) (en : Int32) (a0 : Int32) (lw : Nat) (hSh : Shp ad cA g0) (hG : Rng g0) (hlw : isLw lw) (h_en : fld g0 79 1 = .int en) (h_a0 : fld g0 79 2 = .int a0) (h_r4 : fld g0 79 4 = .ref (ad lw)) (ah0 : 0 ≤ a0.toInt) (ah1 : a0.toInt ≤ en.toInt) (ah2 : en.toInt ≤ 240) (ok : op.toInt = 0) : CT l NN ad cA D yX4_test cX4_test 3 (some FieldType.boolean) (19, 441) [.ref (ad 79), .int op] g0 (fun v g' => ∃ (a9 : Int32) (r : Int32), v = some (.int r) ∧ Shp ad cA g' ∧ Rng g' ∧ FR (fun i k => (i = 79 ∧ (k = 2 ∨ k = 3)) ∨ (i = lw ∧ (k = 7)) ∨ i = (lw + 4) ∨ i = (lw + 5)) g0 g' ∧ fld g' 79 2 = .int a9 ∧ (a0.toInt ≤ a9.toInt) ∧ (a9.toInt ≤ en.toInt) ∧ (r.toInt = 0 ∨ r.toInt = 1)) := by
  refine q_enterZ (by decide) (Nat.le_of_ble_eq_true rfl) (fun K H locs ls _ _ hM hW0 hR hC hE hl => ?_)
  have hl : lv_has ls 3 [(0, .ref (ad 79)), (1, .int op)] := hl
  have hW : WS ad cA (fun i k => (i = 79 ∧ (k = 2 ∨ k = 3)) ∨ (i = lw ∧ (k = 7)) ∨ i = (lw + 4) ∨ i = (lw + 5)) g0 K g0 H locs := ⟨hW0, hSh, FR.rf⟩
  have ulw := hlw
  unfold isLw at ulw
  have b_en := hG.f h_en rF_79_1 (by decide)
  have b_a0 := hG.f h_a0 rF_79_2 (by decide)
  have f4250 : fld g0 79 2 = .int a0 := h_a0
  refine q_aload_n hM dX4_test_0 (lv_at hl 0 rfl) ?_
  refine q_callV (As := []) (rest := []) hM hW.1 hR hC myX4_sign (kAW (v_2_0 (List.mem_of_getElem? (i := 12) rfl)) rfl) (rfl : vwCl[4]? = some (RX4, TX4, 5)) rfl lb_79.1 (shO hW.2.1 lb_79) (a_X4_sign _ _ cA ad g0 en a0 hW.2.1 hG ((hW.2.2.1 79 1 (by omega)).trans h_en) f4250 (by  omega) (by  omega) (by  omega)) ⟨by decide, by decide⟩ rfl rfl hl.1 (Nat.le_of_ble_eq_true rfl) dX4_test_1 (fun v g4252 H locs hp hW1 => ?_)
  obtain ⟨r4251, rfl, hr4251, rfl⟩ := hp
  have hW : WS ad cA (fun i k => (i = 79 ∧ (k = 2 ∨ k = 3)) ∨ (i = lw ∧ (k = 7)) ∨ i = (lw + 4) ∨ i = (lw + 5)) g0 K g0 H locs := ⟨hW1, hW.2.1, hW.2.2⟩
  refine q_istore_n (lv9 := [(2, .int r4251), (0, .ref (ad 79)), (1, .int op)]) hM dX4_test_4 hl (by decide) rfl (fun ls hl => ?_)
  have L17 : ∀ (g9 : Nat → va_E) (H : Heap) (locs : List Loc) (ls : Array Slot), (Rng g9) → (r4251.toInt = 33 ∨ r4251.toInt = 40) → (fld g9 79 2 = .int a0) → lv_has ls 3 [(0, .ref (ad 79)), (1, .int op), (2, .int r4251)] → WS ad cA (fun i k => (i = 79 ∧ (k = 2 ∨ k = 3)) ∨ (i = lw ∧ (k = 7)) ∨ i = (lw + 4) ∨ i = (lw + 5)) g0 K g9 H locs → XX K 0 0 H locs 17 ls [] := by
    intro g9 H locs ls i17_0 i17_1 c17_79_2 hl hW
    have hG := i17_0
    refine q_iload_n hM dX4_test_17 (lv_at hl 1 rfl) ?_
    refine q_bipush (v := (6 : Int32)) hM dX4_test_18 (by decide) ?_
    refine q_icmp_lt (tgt := 29) hM dX4_test_20 (by decide) (rfl : op.toInt = op.toInt) (kc_6 : (6 : Int32).toInt = 6) (fun h20 => ?_) (fun h20 => ?_)
    · refine q_aload_n hM dX4_test_29 (lv_at hl 0 rfl) ?_
      refine q_dup hM dX4_test_30 rfl ?_
      refine w_get (v := .int a0) hM hW FG_X4_23 lb_79 c17_79_2 dX4_test_31 ?_
      have ba0 := hG.f c17_79_2 rF_79_2 (by decide)
      refine q_iconst (v := (1 : Int32)) hM dX4_test_34 (by decide) ?_
      refine q_iadd hM dX4_test_35 (fun z4255 hz4255 => ?_)
      first | have tz4255 := i_addT hz4255 (rfl : a0.toInt = a0.toInt) (kc_1 : (1 : Int32).toInt = 1) (by omega) (by omega) | skip
      refine w_put hM hW FP_X4_23 lb_79 (by omega) (Or.inl ⟨_, rfl⟩) rfl rfl dX4_test_36 (fun g4256 H locs hW e1 e2 => ?_)
      have f4257 : fld g4256 79 2 = .int z4255 := e1
      have hG := hG.put e1 e2 rF_79_2 (by decide) (by have := i_rng z4255; omega) (by have := i_rng z4255; omega)
      refine q_iload_n hM dX4_test_39 (lv_at hl 2 rfl) ?_
      refine q_bipush (v := (40 : Int32)) hM dX4_test_40 (by decide) ?_
      refine q_icmp_ne (tgt := 70) hM dX4_test_42 (by decide) (rfl : r4251.toInt = r4251.toInt) (kc_40 : (40 : Int32).toInt = 40) (fun h42 => ?_) (fun h42 => ?_)
      · refine q_aload_n hM dX4_test_70 (lv_at hl 0 rfl) ?_
        refine q_iload_n hM dX4_test_71 (lv_at hl 1 rfl) ?_
        refine q_iconst (v := (1 : Int32)) hM dX4_test_72 (by decide) ?_
        refine q_iadd hM dX4_test_73 (fun z4259 hz4259 => ?_)
        first | have tz4259 := i_addT hz4259 (rfl : op.toInt = op.toInt) (kc_1 : (1 : Int32).toInt = 1) (by omega) (by omega) | skip
        refine q_callV (As := [.int z4259]) (rest := []) hM hW.1 hR hC myX4_test (kAW (v_2_8 (List.mem_of_getElem? (i := 6) rfl)) rfl) (rfl : vwCl[4]? = some (RX4, TX4, 5)) rfl lb_79.1 (shO hW.2.1 lb_79) (a_X4_test_1 _ _ cA ad g4256 z4259 en z4255 lw hW.2.1 hG hlw ((hW.2.2.1 79 1 (by omega)).trans h_en) f4257 ((hW.2.2.1 79 4 (by omega)).trans h_r4) (by  omega) (by  omega) (by  omega) (by  omega)) ⟨by decide, by decide⟩ rfl rfl hl.1 (Nat.le_of_ble_eq_true rfl) dX4_test_74 (fun v g4265 H locs hp hW1 => ?_)
        obtain ⟨v4260, r4261, rfl, hs1, hG, hf1, q4262, e4263, e4264, hr4261⟩ := hp
        have hW : WS ad cA (fun i k => (i = 79 ∧ (k = 2 ∨ k = 3)) ∨ (i = lw ∧ (k = 7)) ∨ i = (lw + 4) ∨ i = (lw + 5)) g0 K g4265 H locs := ⟨hW1, hs1, hW.2.2.tr hf1 (fun i k h => h.elim (fun h => (Or.inl h)) (fun h => h.elim (fun h => (Or.inr (Or.inl h))) (fun h => h.elim (fun h => (Or.inr (Or.inr (Or.inl h)))) (fun h => (Or.inr (Or.inr (Or.inr h)))))))⟩
        refine q_if_ne (tgt := 82) hM dX4_test_77 (by decide) (rfl : r4261.toInt = r4261.toInt) (fun h77 => ?_) (fun h77 => ?_)
        · refine q_aload_n hM dX4_test_82 (lv_at hl 0 rfl) ?_
          refine w_get (v := .ref (ad lw)) hM hW FG_X4_15 lb_79 ((hW.2.2.1 79 4 (by omega)).trans h_r4) dX4_test_83 ?_
          refine q_iconst (v := (3 : Int32)) hM dX4_test_86 (by decide) ?_
          refine q_iconst (v := (0 : Int32)) hM dX4_test_87 (by decide) ?_
          refine q_callV (As := [.int (3 : Int32), .int (0 : Int32)]) (rest := []) hM hW.1 hR hC myX3_add (kAW (v_2_7 (List.mem_of_getElem? (i := 13) rfl)) rfl) (rfl : vwCl[3]? = some (RX3, TX3, 8)) rfl (lo_Lw hlw).1 (shO hW.2.1 (lo_Lw hlw)) (a_X3_add _ _ cA ad g4265 lw (3 : Int32) (0 : Int32) hW.2.1 hG hlw (by have := kc_3; have := kc_0; omega) (by have := kc_3; have := kc_0; omega)) ⟨by decide, by decide⟩ rfl rfl hl.1 (Nat.le_of_ble_eq_true rfl) dX4_test_88 (fun v g4267 H locs hp hW1 => ?_)
          obtain ⟨rfl, hs1, hG, hf1⟩ := hp
          have f4268 : fld g4267 79 2 = .int v4260 := (hf1.1 79 2 (by omega)).trans q4262
          have hW : WS ad cA (fun i k => (i = 79 ∧ (k = 2 ∨ k = 3)) ∨ (i = lw ∧ (k = 7)) ∨ i = (lw + 4) ∨ i = (lw + 5)) g0 K g4267 H locs := ⟨hW1, hs1, hW.2.2.tr hf1 (fun i k h => h.elim (fun h => (Or.inr (Or.inl h))) (fun h => h.elim (fun h => (Or.inr (Or.inr (Or.inl h)))) (fun h => (Or.inr (Or.inr (Or.inr h))))))⟩
          refine q_iconst (v := (1 : Int32)) hM dX4_test_91 (by decide) ?_
          exact hE _ _ _ _ _ _ hW.1 nz_1 ⟨v4260, _, rfl, hW.2.1, hG, hW.2.2, f4268, (by have := kc_1; omega), (by have := kc_1; omega), (by have := kc_1; omega)⟩ dX4_test_92
        · refine q_iconst (v := (0 : Int32)) hM dX4_test_80 (by decide) ?_
          exact hE _ _ _ _ _ _ hW.1 nz_0 ⟨v4260, _, rfl, hW.2.1, hG, hW.2.2, q4262, (by have := kc_0; omega), (by have := kc_0; omega), (by have := kc_0; omega)⟩ dX4_test_81
      · refine q_aload_n hM dX4_test_45 (lv_at hl 0 rfl) ?_
        refine q_iload_n hM dX4_test_46 (lv_at hl 1 rfl) ?_
        refine q_iconst (v := (1 : Int32)) hM dX4_test_47 (by decide) ?_
        refine q_iadd hM dX4_test_48 (fun z4271 hz4271 => ?_)
        first | have tz4271 := i_addT hz4271 (rfl : op.toInt = op.toInt) (kc_1 : (1 : Int32).toInt = 1) (by omega) (by omega) | skip
        refine q_callV (As := [.int z4271]) (rest := []) hM hW.1 hR hC myX4_condition (kAW (v_2_8 (List.mem_of_getElem? (i := 2) rfl)) rfl) (rfl : vwCl[4]? = some (RX4, TX4, 5)) rfl lb_79.1 (shO hW.2.1 lb_79) (a_X4_condition_1 _ _ cA ad g4256 z4271 en z4255 lw hW.2.1 hG hlw ((hW.2.2.1 79 1 (by omega)).trans h_en) f4257 ((hW.2.2.1 79 4 (by omega)).trans h_r4) (by  omega) (by  omega) (by  omega) (by  omega)) ⟨by decide, by decide⟩ rfl rfl hl.1 (Nat.le_of_ble_eq_true rfl) dX4_test_49 (fun v g4277 H locs hp hW1 => ?_)
        obtain ⟨v4272, r4273, rfl, hs1, hG, hf1, q4274, e4275, e4276, hr4273⟩ := hp
        have hW : WS ad cA (fun i k => (i = 79 ∧ (k = 2 ∨ k = 3)) ∨ (i = lw ∧ (k = 7)) ∨ i = (lw + 4) ∨ i = (lw + 5)) g0 K g4277 H locs := ⟨hW1, hs1, hW.2.2.tr hf1 (fun i k h => h.elim (fun h => (Or.inl h)) (fun h => h.elim (fun h => (Or.inr (Or.inl h))) (fun h => h.elim (fun h => (Or.inr (Or.inr (Or.inl h)))) (fun h => (Or.inr (Or.inr (Or.inr h)))))))⟩
        refine q_if_eq (tgt := 68) hM dX4_test_52 (by decide) (rfl : r4273.toInt = r4273.toInt) (fun h52 => ?_) (fun h52 => ?_)
        · refine q_iconst (v := (0 : Int32)) hM dX4_test_68 (by decide) ?_
          exact hE _ _ _ _ _ _ hW.1 nz_0 ⟨v4272, _, rfl, hW.2.1, hG, hW.2.2, q4274, (by have := kc_0; omega), (by have := kc_0; omega), (by have := kc_0; omega)⟩ dX4_test_69
        · refine q_aload_n hM dX4_test_55 (lv_at hl 0 rfl) ?_
          refine q_bipush (v := (41 : Int32)) hM dX4_test_56 (by decide) ?_
          refine q_callV (As := [.int (41 : Int32)]) (rest := []) hM hW.1 hR hC myX4_passes (kAW (v_2_7 (List.mem_of_getElem? (i := 4) rfl)) rfl) (rfl : vwCl[4]? = some (RX4, TX4, 5)) rfl lb_79.1 (shO hW.2.1 lb_79) (a_X4_passes _ _ cA ad g4277 (41 : Int32) en v4272 hW.2.1 hG ((hW.2.2.1 79 1 (by omega)).trans h_en) q4274 (by have := kc_41; omega) (by have := kc_41; omega) (by have := kc_41; omega)) ⟨by decide, by decide⟩ rfl rfl hl.1 (Nat.le_of_ble_eq_true rfl) dX4_test_58 (fun v g4285 H locs hp hW1 => ?_)
          obtain ⟨v4280, r4281, rfl, hs1, hG, hf1, q4282, e4283, e4284, hr4281⟩ := hp
          have hW : WS ad cA (fun i k => (i = 79 ∧ (k = 2 ∨ k = 3)) ∨ (i = lw ∧ (k = 7)) ∨ i = (lw + 4) ∨ i = (lw + 5)) g0 K g4285 H locs := ⟨hW1, hs1, hW.2.2.tr hf1 (fun i k h => (Or.inl h))⟩
          refine q_if_eq (tgt := 68) hM dX4_test_61 (by decide) (rfl : r4281.toInt = r4281.toInt) (fun h61 => ?_) (fun h61 => ?_)
          · refine q_iconst (v := (0 : Int32)) hM dX4_test_68 (by decide) ?_
            exact hE _ _ _ _ _ _ hW.1 nz_0 ⟨v4280, _, rfl, hW.2.1, hG, hW.2.2, q4282, (by have := kc_0; omega), (by have := kc_0; omega), (by have := kc_0; omega)⟩ dX4_test_69
          · refine q_iconst (v := (1 : Int32)) hM dX4_test_64 (by decide) ?_
            refine q_goto (tgt := 69) hM dX4_test_65 (by decide) ?_
            exact hE _ _ _ _ _ _ hW.1 nz_1 ⟨v4280, _, rfl, hW.2.1, hG, hW.2.2, q4282, (by have := kc_1; omega), (by have := kc_1; omega), (by have := kc_1; omega)⟩ dX4_test_69
    · omega
  refine q_iload_n hM dX4_test_5 (lv_at hl 0 rfl) ?_
  refine q_bipush (v := (33 : Int32)) hM dX4_test_6 (by decide) ?_
  refine q_icmp_eq (tgt := 17) hM dX4_test_8 (by decide) (rfl : r4251.toInt = r4251.toInt) (kc_33 : (33 : Int32).toInt = 33) (fun h8 => ?_) (fun h8 => ?_)
  · exact L17  _ _ _ _ hG (by omega) f4250 (lv_sub hl [1, 2, 0] rfl) hW
  · refine q_iload_n hM dX4_test_11 (lv_at hl 0 rfl) ?_
    refine q_bipush (v := (40 : Int32)) hM dX4_test_12 (by decide) ?_
    refine q_icmp_ne (tgt := 93) hM dX4_test_14 (by decide) (rfl : r4251.toInt = r4251.toInt) (kc_40 : (40 : Int32).toInt = 40) (fun h14 => ?_) (fun h14 => ?_)
    · refine q_aload_n hM dX4_test_93 (lv_at hl 1 rfl) ?_
      refine q_iload_n hM dX4_test_94 (lv_at hl 2 rfl) ?_
      refine q_callV (As := [.int op]) (rest := []) hM hW.1 hR hC myX4_expression (kAW (v_2_6 (List.mem_of_getElem? (i := 12) rfl)) rfl) (rfl : vwCl[4]? = some (RX4, TX4, 5)) rfl lb_79.1 (shO hW.2.1 lb_79) (a_X4_expression_0 _ _ cA ad g0 op en a0 lw hW.2.1 hG hlw ((hW.2.2.1 79 1 (by omega)).trans h_en) f4250 ((hW.2.2.1 79 4 (by omega)).trans h_r4) (by  omega) (by  omega) (by  omega) (by  omega)) ⟨by decide, by decide⟩ rfl rfl hl.1 (Nat.le_of_ble_eq_true rfl) dX4_test_95 (fun v g4297 H locs hp hW1 => ?_)
      obtain ⟨v4292, r4293, rfl, hs1, hG, hf1, q4294, e4295, e4296, hr4293⟩ := hp
      have hW : WS ad cA (fun i k => (i = 79 ∧ (k = 2 ∨ k = 3)) ∨ (i = lw ∧ (k = 7)) ∨ i = (lw + 4) ∨ i = (lw + 5)) g0 K g4297 H locs := ⟨hW1, hs1, hW.2.2.tr hf1 (fun i k h => h.elim (fun h => (Or.inl h)) (fun h => h.elim (fun h => (Or.inr (Or.inl h))) (fun h => h.elim (fun h => (Or.inr (Or.inr (Or.inl h)))) (fun h => (Or.inr (Or.inr (Or.inr h)))))))⟩
      refine q_if_ne (tgt := 103) hM dX4_test_98 (by decide) (rfl : r4293.toInt = r4293.toInt) (fun h98 => ?_) (fun h98 => ?_)
      · refine q_aload_n hM dX4_test_103 (lv_at hl 1 rfl) ?_
        refine q_callV (As := []) (rest := []) hM hW.1 hR hC myX4_sign (kAW (v_2_0 (List.mem_of_getElem? (i := 12) rfl)) rfl) (rfl : vwCl[4]? = some (RX4, TX4, 5)) rfl lb_79.1 (shO hW.2.1 lb_79) (a_X4_sign _ _ cA ad g4297 en v4292 hW.2.1 hG ((hW.2.2.1 79 1 (by omega)).trans h_en) q4294 (by  omega) (by  omega) (by  omega)) ⟨by decide, by decide⟩ rfl rfl hl.1 (Nat.le_of_ble_eq_true rfl) dX4_test_104 (fun v g4300 H locs hp hW1 => ?_)
        obtain ⟨r4299, rfl, hr4299, rfl⟩ := hp
        have hW : WS ad cA (fun i k => (i = 79 ∧ (k = 2 ∨ k = 3)) ∨ (i = lw ∧ (k = 7)) ∨ i = (lw + 4) ∨ i = (lw + 5)) g0 K g4297 H locs := ⟨hW1, hW.2.1, hW.2.2⟩
        refine q_istore_n (lv9 := [(2, .int r4299), (0, .ref (ad 79)), (1, .int op)]) hM dX4_test_107 hl (by decide) rfl (fun ls hl => ?_)
        have L132 : ∀ (g9 : Nat → va_E) (H : Heap) (locs : List Loc) (ls : Array Slot), (Rng g9) → (0 ≤ r4299.toInt) → (fld g9 79 2 = .int v4292) → lv_has ls 3 [(0, .ref (ad 79)), (1, .int op), (2, .int r4299)] → WS ad cA (fun i k => (i = 79 ∧ (k = 2 ∨ k = 3)) ∨ (i = lw ∧ (k = 7)) ∨ i = (lw + 4) ∨ i = (lw + 5)) g0 K g9 H locs → XX K 0 0 H locs 132 ls [] := by
          intro g9 H locs ls i132_0 i132_1 c132_79_2 hl hW
          have hG := i132_0
          refine q_aload_n hM dX4_test_132 (lv_at hl 0 rfl) ?_
          refine q_dup hM dX4_test_133 rfl ?_
          refine w_get (v := .int v4292) hM hW FG_X4_23 lb_79 c132_79_2 dX4_test_134 ?_
          have bv4292 := hG.f c132_79_2 rF_79_2 (by decide)
          refine q_iconst (v := (1 : Int32)) hM dX4_test_137 (by decide) ?_
          refine q_iadd hM dX4_test_138 (fun z4302 hz4302 => ?_)
          first | have tz4302 := i_addT hz4302 (rfl : v4292.toInt = v4292.toInt) (kc_1 : (1 : Int32).toInt = 1) (by omega) (by omega) | skip
          refine w_put hM hW FP_X4_23 lb_79 (by omega) (Or.inl ⟨_, rfl⟩) rfl rfl dX4_test_139 (fun g4303 H locs hW e1 e2 => ?_)
          have f4304 : fld g4303 79 2 = .int z4302 := e1
          have hG := hG.put e1 e2 rF_79_2 (by decide) (by have := i_rng z4302; omega) (by have := i_rng z4302; omega)
          refine q_aload_n hM dX4_test_142 (lv_at hl 0 rfl) ?_
          refine q_iload_n hM dX4_test_143 (lv_at hl 1 rfl) ?_
          refine q_callV (As := [.int op]) (rest := []) hM hW.1 hR hC myX4_expression (kAW (v_2_6 (List.mem_of_getElem? (i := 12) rfl)) rfl) (rfl : vwCl[4]? = some (RX4, TX4, 5)) rfl lb_79.1 (shO hW.2.1 lb_79) (a_X4_expression_0 _ _ cA ad g4303 op en z4302 lw hW.2.1 hG hlw ((hW.2.2.1 79 1 (by omega)).trans h_en) f4304 ((hW.2.2.1 79 4 (by omega)).trans h_r4) (by  omega) (by  omega) (by  omega) (by  omega)) ⟨by decide, by decide⟩ rfl rfl hl.1 (Nat.le_of_ble_eq_true rfl) dX4_test_144 (fun v g4310 H locs hp hW1 => ?_)
          obtain ⟨v4305, r4306, rfl, hs1, hG, hf1, q4307, e4308, e4309, hr4306⟩ := hp
          have hW : WS ad cA (fun i k => (i = 79 ∧ (k = 2 ∨ k = 3)) ∨ (i = lw ∧ (k = 7)) ∨ i = (lw + 4) ∨ i = (lw + 5)) g0 K g4310 H locs := ⟨hW1, hs1, hW.2.2.tr hf1 (fun i k h => h.elim (fun h => (Or.inl h)) (fun h => h.elim (fun h => (Or.inr (Or.inl h))) (fun h => h.elim (fun h => (Or.inr (Or.inr (Or.inl h)))) (fun h => (Or.inr (Or.inr (Or.inr h)))))))⟩
          refine q_if_ne (tgt := 152) hM dX4_test_147 (by decide) (rfl : r4306.toInt = r4306.toInt) (fun h147 => ?_) (fun h147 => ?_)
          · refine q_aload_n hM dX4_test_152 (lv_at hl 0 rfl) ?_
            refine w_get (v := .ref (ad lw)) hM hW FG_X4_15 lb_79 ((hW.2.2.1 79 4 (by omega)).trans h_r4) dX4_test_153 ?_
            refine q_iload_n hM dX4_test_156 (lv_at hl 2 rfl) ?_
            refine q_iconst (v := (0 : Int32)) hM dX4_test_157 (by decide) ?_
            refine q_callV (As := [.int r4299, .int (0 : Int32)]) (rest := []) hM hW.1 hR hC myX3_add (kAW (v_2_7 (List.mem_of_getElem? (i := 13) rfl)) rfl) (rfl : vwCl[3]? = some (RX3, TX3, 8)) rfl (lo_Lw hlw).1 (shO hW.2.1 (lo_Lw hlw)) (a_X3_add _ _ cA ad g4310 lw r4299 (0 : Int32) hW.2.1 hG hlw (by have := kc_0; omega) (by have := kc_0; omega)) ⟨by decide, by decide⟩ rfl rfl hl.1 (Nat.le_of_ble_eq_true rfl) dX4_test_158 (fun v g4312 H locs hp hW1 => ?_)
            obtain ⟨rfl, hs1, hG, hf1⟩ := hp
            have f4313 : fld g4312 79 2 = .int v4305 := (hf1.1 79 2 (by omega)).trans q4307
            have hW : WS ad cA (fun i k => (i = 79 ∧ (k = 2 ∨ k = 3)) ∨ (i = lw ∧ (k = 7)) ∨ i = (lw + 4) ∨ i = (lw + 5)) g0 K g4312 H locs := ⟨hW1, hs1, hW.2.2.tr hf1 (fun i k h => h.elim (fun h => (Or.inr (Or.inl h))) (fun h => h.elim (fun h => (Or.inr (Or.inr (Or.inl h)))) (fun h => (Or.inr (Or.inr (Or.inr h))))))⟩
            refine q_iconst (v := (1 : Int32)) hM dX4_test_161 (by decide) ?_
            exact hE _ _ _ _ _ _ hW.1 nz_1 ⟨v4305, _, rfl, hW.2.1, hG, hW.2.2, f4313, (by have := kc_1; omega), (by have := kc_1; omega), (by have := kc_1; omega)⟩ dX4_test_162
          · refine q_iconst (v := (0 : Int32)) hM dX4_test_150 (by decide) ?_
            exact hE _ _ _ _ _ _ hW.1 nz_0 ⟨v4305, _, rfl, hW.2.1, hG, hW.2.2, q4307, (by have := kc_0; omega), (by have := kc_0; omega), (by have := kc_0; omega)⟩ dX4_test_151
        refine q_iload_n hM dX4_test_108 (lv_at hl 0 rfl) ?_
        refine q_bipush (v := (60 : Int32)) hM dX4_test_109 (by decide) ?_
        refine q_icmp_eq (tgt := 132) hM dX4_test_111 (by decide) (rfl : r4299.toInt = r4299.toInt) (kc_60 : (60 : Int32).toInt = 60) (fun h111 => ?_) (fun h111 => ?_)
        · exact L132  _ _ _ _ hG (by omega) q4294 (lv_sub hl [1, 2, 0] rfl) hW
        · refine q_iload_n hM dX4_test_114 (lv_at hl 0 rfl) ?_
          refine q_bipush (v := (62 : Int32)) hM dX4_test_115 (by decide) ?_
          refine q_icmp_eq (tgt := 132) hM dX4_test_117 (by decide) (rfl : r4299.toInt = r4299.toInt) (kc_62 : (62 : Int32).toInt = 62) (fun h117 => ?_) (fun h117 => ?_)
          · exact L132  _ _ _ _ hG (by omega) q4294 (lv_sub hl [1, 2, 0] rfl) hW
          · refine q_iload_n hM dX4_test_120 (lv_at hl 0 rfl) ?_
            refine q_bipush (v := (61 : Int32)) hM dX4_test_121 (by decide) ?_
            refine q_icmp_eq (tgt := 132) hM dX4_test_123 (by decide) (rfl : r4299.toInt = r4299.toInt) (kc_61 : (61 : Int32).toInt = 61) (fun h123 => ?_) (fun h123 => ?_)
            · exact L132  _ _ _ _ hG (by omega) q4294 (lv_sub hl [1, 2, 0] rfl) hW
            · refine q_aload_n hM dX4_test_126 (lv_at hl 1 rfl) ?_
              refine q_iconst (v := (1 : Int32)) hM dX4_test_127 (by decide) ?_
              refine q_callV (As := [.int (1 : Int32)]) (rest := []) hM hW.1 hR hC myX4_wrong (kAW (v_2_6 (List.mem_of_getElem? (i := 8) rfl)) rfl) (rfl : vwCl[4]? = some (RX4, TX4, 5)) rfl lb_79.1 (shO hW.2.1 lb_79) (a_X4_wrong _ _ cA ad g4297 (1 : Int32) hW.2.1 hG) ⟨by decide, by decide⟩ rfl rfl hl.1 (Nat.le_of_ble_eq_true rfl) dX4_test_128 (fun v g4322 H locs hp hW1 => ?_)
              obtain ⟨r4321, rfl, hs1, hG, hf1, hr4321⟩ := hp
              have f4323 : fld g4322 79 2 = .int v4292 := (hf1.1 79 2 (by omega)).trans q4294
              have hW : WS ad cA (fun i k => (i = 79 ∧ (k = 2 ∨ k = 3)) ∨ (i = lw ∧ (k = 7)) ∨ i = (lw + 4) ∨ i = (lw + 5)) g0 K g4322 H locs := ⟨hW1, hs1, hW.2.2.tr hf1 (fun i k h => (Or.inl (by omega)))⟩
              exact hE _ _ _ _ _ _ hW.1 (nz_or (by omega)) ⟨v4292, _, rfl, hW.2.1, hG, hW.2.2, f4323, (by omega), (by omega), (by omega)⟩ dX4_test_131
      · refine q_iconst (v := (0 : Int32)) hM dX4_test_101 (by decide) ?_
        exact hE _ _ _ _ _ _ hW.1 nz_0 ⟨v4292, _, rfl, hW.2.1, hG, hW.2.2, q4294, (by have := kc_0; omega), (by have := kc_0; omega), (by have := kc_0; omega)⟩ dX4_test_102
    · exact L17  _ _ _ _ hG (by omega) f4250 (lv_sub hl [1, 2, 0] rfl) hW

theorem dX4_clause_0 : decode cX4_clause 0 = .ok (.aload_n 0, 1) := by decide +kernel
theorem dX4_clause_1 : decode cX4_clause 1 = .ok (.invokevirtual 56, 3) := by decide +kernel
theorem dX4_clause_4 : decode cX4_clause 4 = .ok (.istore_n 2, 1) := by decide +kernel
theorem dX4_clause_5 : decode cX4_clause 5 = .ok (.ldc 60, 2) := by decide +kernel
theorem dX4_clause_7 : decode cX4_clause 7 = .ok (.iload_n 2, 1) := by decide +kernel
theorem dX4_clause_8 : decode cX4_clause 8 = .ok (.invokestatic 62, 3) := by decide +kernel
theorem dX4_clause_11 : decode cX4_clause 11 = .ok (.ifCond .ge 9, 3) := by decide +kernel
theorem dX4_clause_14 : decode cX4_clause 14 = .ok (.aload_n 0, 1) := by decide +kernel
theorem dX4_clause_15 : decode cX4_clause 15 = .ok (.iconst 1, 1) := by decide +kernel
theorem dX4_clause_16 : decode cX4_clause 16 = .ok (.invokevirtual 47, 3) := by decide +kernel
theorem dX4_clause_19 : decode cX4_clause 19 = .ok (.ireturn, 1) := by decide +kernel
theorem dX4_clause_20 : decode cX4_clause 20 = .ok (.iload_n 1, 1) := by decide +kernel
theorem dX4_clause_21 : decode cX4_clause 21 = .ok (.bipush 16, 2) := by decide +kernel
theorem dX4_clause_23 : decode cX4_clause 23 = .ok (.if_icmp .lt 9, 3) := by decide +kernel
theorem dX4_clause_26 : decode cX4_clause 26 = .ok (.aload_n 0, 1) := by decide +kernel
theorem dX4_clause_27 : decode cX4_clause 27 = .ok (.iconst 4, 1) := by decide +kernel
theorem dX4_clause_28 : decode cX4_clause 28 = .ok (.invokevirtual 47, 3) := by decide +kernel
theorem dX4_clause_31 : decode cX4_clause 31 = .ok (.ireturn, 1) := by decide +kernel
theorem dX4_clause_32 : decode cX4_clause 32 = .ok (.aload_n 0, 1) := by decide +kernel
theorem dX4_clause_33 : decode cX4_clause 33 = .ok (.dup, 1) := by decide +kernel
theorem dX4_clause_34 : decode cX4_clause 34 = .ok (.getfield 23, 3) := by decide +kernel
theorem dX4_clause_37 : decode cX4_clause 37 = .ok (.iconst 1, 1) := by decide +kernel
theorem dX4_clause_38 : decode cX4_clause 38 = .ok (.iadd, 1) := by decide +kernel
theorem dX4_clause_39 : decode cX4_clause 39 = .ok (.putfield 23, 3) := by decide +kernel
theorem dX4_clause_42 : decode cX4_clause 42 = .ok (.aload_n 0, 1) := by decide +kernel
theorem dX4_clause_43 : decode cX4_clause 43 = .ok (.getfield 15, 3) := by decide +kernel
theorem dX4_clause_46 : decode cX4_clause 46 = .ok (.getfield 66, 3) := by decide +kernel
theorem dX4_clause_49 : decode cX4_clause 49 = .ok (.iload_n 1, 1) := by decide +kernel
theorem dX4_clause_50 : decode cX4_clause 50 = .ok (.iload_n 2, 1) := by decide +kernel
theorem dX4_clause_51 : decode cX4_clause 51 = .ok (.iastore, 1) := by decide +kernel
theorem dX4_clause_52 : decode cX4_clause 52 = .ok (.aload_n 0, 1) := by decide +kernel
theorem dX4_clause_53 : decode cX4_clause 53 = .ok (.getfield 15, 3) := by decide +kernel
theorem dX4_clause_56 : decode cX4_clause 56 = .ok (.getfield 69, 3) := by decide +kernel
theorem dX4_clause_59 : decode cX4_clause 59 = .ok (.iload_n 1, 1) := by decide +kernel
theorem dX4_clause_60 : decode cX4_clause 60 = .ok (.aload_n 0, 1) := by decide +kernel
theorem dX4_clause_61 : decode cX4_clause 61 = .ok (.getfield 15, 3) := by decide +kernel
theorem dX4_clause_64 : decode cX4_clause 64 = .ok (.getfield 35, 3) := by decide +kernel
theorem dX4_clause_67 : decode cX4_clause 67 = .ok (.iastore, 1) := by decide +kernel
theorem dX4_clause_68 : decode cX4_clause 68 = .ok (.iload_n 2, 1) := by decide +kernel
theorem dX4_clause_69 : decode cX4_clause 69 = .ok (.bipush 120, 2) := by decide +kernel
theorem dX4_clause_71 : decode cX4_clause 71 = .ok (.if_icmp .eq 13, 3) := by decide +kernel
theorem dX4_clause_74 : decode cX4_clause 74 = .ok (.aload_n 0, 1) := by decide +kernel
theorem dX4_clause_75 : decode cX4_clause 75 = .ok (.iconst 0, 1) := by decide +kernel
theorem dX4_clause_76 : decode cX4_clause 76 = .ok (.invokevirtual 72, 3) := by decide +kernel
theorem dX4_clause_79 : decode cX4_clause 79 = .ok (.ifCond .ne 5, 3) := by decide +kernel
theorem dX4_clause_82 : decode cX4_clause 82 = .ok (.iconst 0, 1) := by decide +kernel
theorem dX4_clause_83 : decode cX4_clause 83 = .ok (.ireturn, 1) := by decide +kernel
theorem dX4_clause_84 : decode cX4_clause 84 = .ok (.aload_n 0, 1) := by decide +kernel
theorem dX4_clause_85 : decode cX4_clause 85 = .ok (.getfield 15, 3) := by decide +kernel
theorem dX4_clause_88 : decode cX4_clause 88 = .ok (.iconst 0, 1) := by decide +kernel
theorem dX4_clause_89 : decode cX4_clause 89 = .ok (.iconst 0, 1) := by decide +kernel
theorem dX4_clause_90 : decode cX4_clause 90 = .ok (.invokevirtual 75, 3) := by decide +kernel
theorem dX4_clause_93 : decode cX4_clause 93 = .ok (.aload_n 0, 1) := by decide +kernel
theorem dX4_clause_94 : decode cX4_clause 94 = .ok (.getfield 15, 3) := by decide +kernel
theorem dX4_clause_97 : decode cX4_clause 97 = .ok (.getfield 79, 3) := by decide +kernel
theorem dX4_clause_100 : decode cX4_clause 100 = .ok (.iload_n 1, 1) := by decide +kernel
theorem dX4_clause_101 : decode cX4_clause 101 = .ok (.aload_n 0, 1) := by decide +kernel
theorem dX4_clause_102 : decode cX4_clause 102 = .ok (.getfield 15, 3) := by decide +kernel
theorem dX4_clause_105 : decode cX4_clause 105 = .ok (.getfield 35, 3) := by decide +kernel
theorem dX4_clause_108 : decode cX4_clause 108 = .ok (.iastore, 1) := by decide +kernel
theorem dX4_clause_109 : decode cX4_clause 109 = .ok (.aload_n 0, 1) := by decide +kernel
theorem dX4_clause_110 : decode cX4_clause 110 = .ok (.invokevirtual 56, 3) := by decide +kernel
theorem dX4_clause_113 : decode cX4_clause 113 = .ok (.bipush 40, 2) := by decide +kernel
theorem dX4_clause_115 : decode cX4_clause 115 = .ok (.if_icmp .eq 9, 3) := by decide +kernel
theorem dX4_clause_118 : decode cX4_clause 118 = .ok (.aload_n 0, 1) := by decide +kernel
theorem dX4_clause_119 : decode cX4_clause 119 = .ok (.iconst 1, 1) := by decide +kernel
theorem dX4_clause_120 : decode cX4_clause 120 = .ok (.invokevirtual 47, 3) := by decide +kernel
theorem dX4_clause_123 : decode cX4_clause 123 = .ok (.ireturn, 1) := by decide +kernel
theorem dX4_clause_124 : decode cX4_clause 124 = .ok (.aload_n 0, 1) := by decide +kernel
theorem dX4_clause_125 : decode cX4_clause 125 = .ok (.dup, 1) := by decide +kernel
theorem dX4_clause_126 : decode cX4_clause 126 = .ok (.getfield 23, 3) := by decide +kernel
theorem dX4_clause_129 : decode cX4_clause 129 = .ok (.iconst 1, 1) := by decide +kernel
theorem dX4_clause_130 : decode cX4_clause 130 = .ok (.iadd, 1) := by decide +kernel
theorem dX4_clause_131 : decode cX4_clause 131 = .ok (.putfield 23, 3) := by decide +kernel
theorem dX4_clause_134 : decode cX4_clause 134 = .ok (.aload_n 0, 1) := by decide +kernel
theorem dX4_clause_135 : decode cX4_clause 135 = .ok (.iconst 1, 1) := by decide +kernel
theorem dX4_clause_136 : decode cX4_clause 136 = .ok (.invokevirtual 82, 3) := by decide +kernel
theorem dX4_clause_139 : decode cX4_clause 139 = .ok (.ifCond .ne 5, 3) := by decide +kernel
theorem dX4_clause_142 : decode cX4_clause 142 = .ok (.iconst 0, 1) := by decide +kernel
theorem dX4_clause_143 : decode cX4_clause 143 = .ok (.ireturn, 1) := by decide +kernel
theorem dX4_clause_144 : decode cX4_clause 144 = .ok (.aload_n 0, 1) := by decide +kernel
theorem dX4_clause_145 : decode cX4_clause 145 = .ok (.getfield 15, 3) := by decide +kernel
theorem dX4_clause_148 : decode cX4_clause 148 = .ok (.iconst 0, 1) := by decide +kernel
theorem dX4_clause_149 : decode cX4_clause 149 = .ok (.iconst 0, 1) := by decide +kernel
theorem dX4_clause_150 : decode cX4_clause 150 = .ok (.invokevirtual 75, 3) := by decide +kernel
theorem dX4_clause_153 : decode cX4_clause 153 = .ok (.aload_n 0, 1) := by decide +kernel
theorem dX4_clause_154 : decode cX4_clause 154 = .ok (.bipush 41, 2) := by decide +kernel
theorem dX4_clause_156 : decode cX4_clause 156 = .ok (.invokevirtual 85, 3) := by decide +kernel
theorem dX4_clause_159 : decode cX4_clause 159 = .ok (.ireturn, 1) := by decide +kernel
theorem FG_X4_66 : FG RX4 66 3 8 0 := ⟨RX3, TX3, rfl, wX3, by decide, kAW (v_0_7 (List.mem_of_getElem? (i := 11) rfl)) rfl, rfl⟩
theorem FG_X4_69 : FG RX4 69 3 8 1 := ⟨RX3, TX3, rfl, wX3, by decide, kAW (v_0_7 (List.mem_of_getElem? (i := 13) rfl)) rfl, rfl⟩
theorem FG_X4_79 : FG RX4 79 3 8 2 := ⟨RX3, TX3, rfl, wX3, by decide, kAW (v_0_7 (List.mem_of_getElem? (i := 15) rfl)) rfl, rfl⟩
set_option maxRecDepth 100000 in
set_option maxHeartbeats 4000000 in
theorem a_X4_clause (l : Launch) (D : va_G) (cA : Nat → ClassId) (ad : Nat → Nat) (g0 : Nat → va_E) (c : Int32) (en : Int32) (a0 : Int32) (lw : Nat) (hSh : Shp ad cA g0) (hG : Rng g0) (hlw : isLw lw) (h_en : fld g0 79 1 = .int en) (h_a0 : fld g0 79 2 = .int a0) (h_r4 : fld g0 79 4 = .ref (ad lw)) (ah0 : 0 ≤ a0.toInt) (ah1 : a0.toInt ≤ en.toInt) (ah2 : en.toInt ≤ 240) (cc0 : 0 ≤ c.toInt) (cc1 : c.toInt ≤ 16) : CT l NN ad cA D yX4_clause cX4_clause 3 (some FieldType.boolean) (19, 441) [.ref (ad 79), .int c] g0 (fun v g' => ∃ (a9 : Int32) (r : Int32), v = some (.int r) ∧ Shp ad cA g' ∧ Rng g' ∧ FR (fun i k => (i = 79 ∧ (k = 2 ∨ k = 3)) ∨ (i = lw ∧ (k = 7)) ∨ i = (lw + 4) ∨ i = (lw + 5) ∨ i = (lw + 1) ∨ i = (lw + 2) ∨ i = (lw + 3)) g0 g' ∧ fld g' 79 2 = .int a9 ∧ (a0.toInt ≤ a9.toInt) ∧ (a9.toInt ≤ en.toInt) ∧ (r.toInt = 0 ∨ (r.toInt = 1 ∧ c.toInt < 16))) := by
  refine q_enterZ (by decide) (Nat.le_of_ble_eq_true rfl) (fun K H locs ls _ _ hM hW0 hR hC hE hl => ?_)
  have hl : lv_has ls 3 [(0, .ref (ad 79)), (1, .int c)] := hl
  have hW : WS ad cA (fun i k => (i = 79 ∧ (k = 2 ∨ k = 3)) ∨ (i = lw ∧ (k = 7)) ∨ i = (lw + 4) ∨ i = (lw + 5) ∨ i = (lw + 1) ∨ i = (lw + 2) ∨ i = (lw + 3)) g0 K g0 H locs := ⟨hW0, hSh, FR.rf⟩
  have ulw := hlw
  unfold isLw at ulw
  have b_en := hG.f h_en rF_79_1 (by decide)
  have b_a0 := hG.f h_a0 rF_79_2 (by decide)
  have f4326 : fld g0 79 2 = .int a0 := h_a0
  refine q_aload_n hM dX4_clause_0 (lv_at hl 0 rfl) ?_
  refine q_callV (As := []) (rest := []) hM hW.1 hR hC myX4_sign (kAW (v_2_0 (List.mem_of_getElem? (i := 12) rfl)) rfl) (rfl : vwCl[4]? = some (RX4, TX4, 5)) rfl lb_79.1 (shO hW.2.1 lb_79) (a_X4_sign _ _ cA ad g0 en a0 hW.2.1 hG ((hW.2.2.1 79 1 (by omega)).trans h_en) f4326 (by  omega) (by  omega) (by  omega)) ⟨by decide, by decide⟩ rfl rfl hl.1 (Nat.le_of_ble_eq_true rfl) dX4_clause_1 (fun v g4328 H locs hp hW1 => ?_)
  obtain ⟨r4327, rfl, hr4327, rfl⟩ := hp
  have hW : WS ad cA (fun i k => (i = 79 ∧ (k = 2 ∨ k = 3)) ∨ (i = lw ∧ (k = 7)) ∨ i = (lw + 4) ∨ i = (lw + 5) ∨ i = (lw + 1) ∨ i = (lw + 2) ∨ i = (lw + 3)) g0 K g0 H locs := ⟨hW1, hW.2.1, hW.2.2⟩
  refine q_istore_n (lv9 := [(2, .int r4327), (0, .ref (ad 79)), (1, .int c)]) hM dX4_clause_4 hl (by decide) rfl (fun ls hl => ?_)
  refine q_ldcS0 hM hW.1 rfl dX4_clause_5 ?_
  refine q_iload_n hM dX4_clause_7 (lv_at hl 0 rfl) ?_
  refine q_callS (As := [.ref (ad 400), .int r4327]) (rest := []) hM hW.1 hR hC myX4_placeOf (kAW (v_2_1 (List.mem_of_getElem? (i := 1) rfl)) rfl) (a_X4_placeOf_0 _ _ cA ad g0 r4327 hW.2.1 hG) ⟨by decide, by decide⟩ rfl rfl hl.1 (Nat.le_of_ble_eq_true rfl) dX4_clause_8 (fun v g4330 H locs hp hW1 => ?_)
  obtain ⟨r4329, rfl, hr4329, rfl⟩ := hp
  have hW : WS ad cA (fun i k => (i = 79 ∧ (k = 2 ∨ k = 3)) ∨ (i = lw ∧ (k = 7)) ∨ i = (lw + 4) ∨ i = (lw + 5) ∨ i = (lw + 1) ∨ i = (lw + 2) ∨ i = (lw + 3)) g0 K g0 H locs := ⟨hW1, hW.2.1, hW.2.2⟩
  refine q_if_ge (tgt := 20) hM dX4_clause_11 (by decide) (rfl : r4329.toInt = r4329.toInt) (fun h11 => ?_) (fun h11 => ?_)
  · refine q_iload_n hM dX4_clause_20 (lv_at hl 2 rfl) ?_
    refine q_bipush (v := (16 : Int32)) hM dX4_clause_21 (by decide) ?_
    refine q_icmp_lt (tgt := 32) hM dX4_clause_23 (by decide) (rfl : c.toInt = c.toInt) (kc_16 : (16 : Int32).toInt = 16) (fun h23 => ?_) (fun h23 => ?_)
    · refine q_aload_n hM dX4_clause_32 (lv_at hl 1 rfl) ?_
      refine q_dup hM dX4_clause_33 rfl ?_
      refine w_get (v := .int a0) hM hW FG_X4_23 lb_79 f4326 dX4_clause_34 ?_
      have ba0 := hG.f f4326 rF_79_2 (by decide)
      refine q_iconst (v := (1 : Int32)) hM dX4_clause_37 (by decide) ?_
      refine q_iadd hM dX4_clause_38 (fun z4333 hz4333 => ?_)
      first | have tz4333 := i_addT hz4333 (rfl : a0.toInt = a0.toInt) (kc_1 : (1 : Int32).toInt = 1) (by omega) (by omega) | skip
      refine w_put hM hW FP_X4_23 lb_79 (by omega) (Or.inl ⟨_, rfl⟩) rfl rfl dX4_clause_39 (fun g4334 H locs hW e1 e2 => ?_)
      have f4335 : fld g4334 79 2 = .int z4333 := e1
      have hG := hG.put e1 e2 rF_79_2 (by decide) (by have := i_rng z4333; omega) (by have := i_rng z4333; omega)
      refine q_aload_n hM dX4_clause_42 (lv_at hl 1 rfl) ?_
      refine w_get (v := .ref (ad lw)) hM hW FG_X4_15 lb_79 ((hW.2.2.1 79 4 (by omega)).trans h_r4) dX4_clause_43 ?_
      refine w_get (v := .ref (ad (lw + 1))) hM hW FG_X4_66 (lo_Lw hlw) (rf_Lw_0 hlw hW.2.1) dX4_clause_46 ?_
      refine q_iload_n hM dX4_clause_49 (lv_at hl 2 rfl) ?_
      refine q_iload_n hM dX4_clause_50 (lv_at hl 0 rfl) ?_
      refine w_iast hM hW (la_Lw_0 hlw) (by omega) (i_in (by omega) (by omega)) dX4_clause_51 (fun g4336 H locs hW e1 e2 => ?_)
      have f4337 : fld g4336 79 2 = .int z4333 := (e2.1 79 2 (by unfold Only; omega)).trans f4335
      have hG := hG.st e1 e2 (rA_Lw_0 hlw) (by have := i_rng r4327; omega) (by have := i_rng r4327; omega)
      refine q_aload_n hM dX4_clause_52 (lv_at hl 1 rfl) ?_
      refine w_get (v := .ref (ad lw)) hM hW FG_X4_15 lb_79 ((hW.2.2.1 79 4 (by omega)).trans h_r4) dX4_clause_53 ?_
      refine w_get (v := .ref (ad (lw + 2))) hM hW FG_X4_69 (lo_Lw hlw) (rf_Lw_1 hlw hW.2.1) dX4_clause_56 ?_
      refine q_iload_n hM dX4_clause_59 (lv_at hl 2 rfl) ?_
      refine q_aload_n hM dX4_clause_60 (lv_at hl 1 rfl) ?_
      refine w_get (v := .ref (ad lw)) hM hW FG_X4_15 lb_79 ((hW.2.2.1 79 4 (by omega)).trans h_r4) dX4_clause_61 ?_
      refine w_getI hM hW FG_X4_35 (lo_Lw hlw) (by decide) (by decide) dX4_clause_64 (fun x4338 fx4338 => ?_)
      have bx4338 := hG.f fx4338 (rF_Lw_7 hlw) (by decide)
      refine w_iast hM hW (la_Lw_1 hlw) (by omega) (i_in (by omega) (by omega)) dX4_clause_67 (fun g4339 H locs hW e1 e2 => ?_)
      have f4340 : fld g4339 79 2 = .int z4333 := (e2.1 79 2 (by unfold Only; omega)).trans f4337
      have f4341 : fld g4339 lw 7 = .int x4338 := (e2.1 lw 7 (by unfold Only; omega)).trans fx4338
      have hG := hG.st e1 e2 (rA_Lw_1 hlw) (by have := i_rng x4338; omega) (by have := i_rng x4338; omega)
      refine q_iload_n hM dX4_clause_68 (lv_at hl 0 rfl) ?_
      refine q_bipush (v := (120 : Int32)) hM dX4_clause_69 (by decide) ?_
      refine q_icmp_eq (tgt := 84) hM dX4_clause_71 (by decide) (rfl : r4327.toInt = r4327.toInt) (kc_120 : (120 : Int32).toInt = 120) (fun h71 => ?_) (fun h71 => ?_)
      · refine q_aload_n hM dX4_clause_84 (lv_at hl 1 rfl) ?_
        refine w_get (v := .ref (ad lw)) hM hW FG_X4_15 lb_79 ((hW.2.2.1 79 4 (by omega)).trans h_r4) dX4_clause_85 ?_
        refine q_iconst (v := (0 : Int32)) hM dX4_clause_88 (by decide) ?_
        refine q_iconst (v := (0 : Int32)) hM dX4_clause_89 (by decide) ?_
        refine q_callV (As := [.int (0 : Int32), .int (0 : Int32)]) (rest := []) hM hW.1 hR hC myX3_add (kAW (v_2_7 (List.mem_of_getElem? (i := 13) rfl)) rfl) (rfl : vwCl[3]? = some (RX3, TX3, 8)) rfl (lo_Lw hlw).1 (shO hW.2.1 (lo_Lw hlw)) (a_X3_add _ _ cA ad g4339 lw (0 : Int32) (0 : Int32) hW.2.1 hG hlw (by have := kc_0; have := kc_0; omega) (by have := kc_0; have := kc_0; omega)) ⟨by decide, by decide⟩ rfl rfl hl.1 (Nat.le_of_ble_eq_true rfl) dX4_clause_90 (fun v g4343 H locs hp hW1 => ?_)
        obtain ⟨rfl, hs1, hG, hf1⟩ := hp
        have f4344 : fld g4343 79 2 = .int z4333 := (hf1.1 79 2 (by omega)).trans f4340
        have hW : WS ad cA (fun i k => (i = 79 ∧ (k = 2 ∨ k = 3)) ∨ (i = lw ∧ (k = 7)) ∨ i = (lw + 4) ∨ i = (lw + 5) ∨ i = (lw + 1) ∨ i = (lw + 2) ∨ i = (lw + 3)) g0 K g4343 H locs := ⟨hW1, hs1, hW.2.2.tr hf1 (fun i k h => h.elim (fun h => (Or.inr (Or.inl h))) (fun h => h.elim (fun h => (Or.inr (Or.inr (Or.inl h)))) (fun h => (Or.inr (Or.inr (Or.inr (Or.inl h)))))))⟩
        refine q_aload_n hM dX4_clause_93 (lv_at hl 1 rfl) ?_
        refine w_get (v := .ref (ad lw)) hM hW FG_X4_15 lb_79 ((hW.2.2.1 79 4 (by omega)).trans h_r4) dX4_clause_94 ?_
        refine w_get (v := .ref (ad (lw + 3))) hM hW FG_X4_79 (lo_Lw hlw) (rf_Lw_2 hlw hW.2.1) dX4_clause_97 ?_
        refine q_iload_n hM dX4_clause_100 (lv_at hl 2 rfl) ?_
        refine q_aload_n hM dX4_clause_101 (lv_at hl 1 rfl) ?_
        refine w_get (v := .ref (ad lw)) hM hW FG_X4_15 lb_79 ((hW.2.2.1 79 4 (by omega)).trans h_r4) dX4_clause_102 ?_
        refine w_getI hM hW FG_X4_35 (lo_Lw hlw) (by decide) (by decide) dX4_clause_105 (fun x4345 fx4345 => ?_)
        have bx4345 := hG.f fx4345 (rF_Lw_7 hlw) (by decide)
        refine w_iast hM hW (la_Lw_2 hlw) (by omega) (i_in (by omega) (by omega)) dX4_clause_108 (fun g4346 H locs hW e1 e2 => ?_)
        have f4347 : fld g4346 79 2 = .int z4333 := (e2.1 79 2 (by unfold Only; omega)).trans f4344
        have f4348 : fld g4346 lw 7 = .int x4345 := (e2.1 lw 7 (by unfold Only; omega)).trans fx4345
        have hG := hG.st e1 e2 (rA_Lw_2 hlw) (by have := i_rng x4345; omega) (by have := i_rng x4345; omega)
        refine q_aload_n hM dX4_clause_109 (lv_at hl 1 rfl) ?_
        refine q_callV (As := []) (rest := []) hM hW.1 hR hC myX4_sign (kAW (v_2_0 (List.mem_of_getElem? (i := 12) rfl)) rfl) (rfl : vwCl[4]? = some (RX4, TX4, 5)) rfl lb_79.1 (shO hW.2.1 lb_79) (a_X4_sign _ _ cA ad g4346 en z4333 hW.2.1 hG ((hW.2.2.1 79 1 (by omega)).trans h_en) f4347 (by  omega) (by  omega) (by  omega)) ⟨by decide, by decide⟩ rfl rfl hl.1 (Nat.le_of_ble_eq_true rfl) dX4_clause_110 (fun v g4350 H locs hp hW1 => ?_)
        obtain ⟨r4349, rfl, hr4349, rfl⟩ := hp
        have hW : WS ad cA (fun i k => (i = 79 ∧ (k = 2 ∨ k = 3)) ∨ (i = lw ∧ (k = 7)) ∨ i = (lw + 4) ∨ i = (lw + 5) ∨ i = (lw + 1) ∨ i = (lw + 2) ∨ i = (lw + 3)) g0 K g4346 H locs := ⟨hW1, hW.2.1, hW.2.2⟩
        refine q_bipush (v := (40 : Int32)) hM dX4_clause_113 (by decide) ?_
        refine q_icmp_eq (tgt := 124) hM dX4_clause_115 (by decide) (rfl : r4349.toInt = r4349.toInt) (kc_40 : (40 : Int32).toInt = 40) (fun h115 => ?_) (fun h115 => ?_)
        · refine q_aload_n hM dX4_clause_124 (lv_at hl 1 rfl) ?_
          refine q_dup hM dX4_clause_125 rfl ?_
          refine w_get (v := .int z4333) hM hW FG_X4_23 lb_79 f4347 dX4_clause_126 ?_
          have bz4333 := hG.f f4347 rF_79_2 (by decide)
          refine q_iconst (v := (1 : Int32)) hM dX4_clause_129 (by decide) ?_
          refine q_iadd hM dX4_clause_130 (fun z4352 hz4352 => ?_)
          first | have tz4352 := i_addT hz4352 (rfl : z4333.toInt = z4333.toInt) (kc_1 : (1 : Int32).toInt = 1) (by omega) (by omega) | skip
          refine w_put hM hW FP_X4_23 lb_79 (by omega) (Or.inl ⟨_, rfl⟩) rfl rfl dX4_clause_131 (fun g4353 H locs hW e1 e2 => ?_)
          have f4354 : fld g4353 lw 7 = .int x4345 := (e2.1 lw 7 (by unfold Only; omega)).trans f4348
          have f4355 : fld g4353 79 2 = .int z4352 := e1
          have hG := hG.put e1 e2 rF_79_2 (by decide) (by have := i_rng z4352; omega) (by have := i_rng z4352; omega)
          refine q_aload_n hM dX4_clause_134 (lv_at hl 1 rfl) ?_
          refine q_iconst (v := (1 : Int32)) hM dX4_clause_135 (by decide) ?_
          refine q_callV (As := [.int (1 : Int32)]) (rest := []) hM hW.1 hR hC myX4_condition (kAW (v_2_8 (List.mem_of_getElem? (i := 2) rfl)) rfl) (rfl : vwCl[4]? = some (RX4, TX4, 5)) rfl lb_79.1 (shO hW.2.1 lb_79) (a_X4_condition_1 _ _ cA ad g4353 (1 : Int32) en z4352 lw hW.2.1 hG hlw ((hW.2.2.1 79 1 (by omega)).trans h_en) f4355 ((hW.2.2.1 79 4 (by omega)).trans h_r4) (by have := kc_1; omega) (by have := kc_1; omega) (by have := kc_1; omega) (by have := kc_1; omega)) ⟨by decide, by decide⟩ rfl rfl hl.1 (Nat.le_of_ble_eq_true rfl) dX4_clause_136 (fun v g4361 H locs hp hW1 => ?_)
          obtain ⟨v4356, r4357, rfl, hs1, hG, hf1, q4358, e4359, e4360, hr4357⟩ := hp
          have hW : WS ad cA (fun i k => (i = 79 ∧ (k = 2 ∨ k = 3)) ∨ (i = lw ∧ (k = 7)) ∨ i = (lw + 4) ∨ i = (lw + 5) ∨ i = (lw + 1) ∨ i = (lw + 2) ∨ i = (lw + 3)) g0 K g4361 H locs := ⟨hW1, hs1, hW.2.2.tr hf1 (fun i k h => h.elim (fun h => (Or.inl h)) (fun h => h.elim (fun h => (Or.inr (Or.inl h))) (fun h => h.elim (fun h => (Or.inr (Or.inr (Or.inl h)))) (fun h => (Or.inr (Or.inr (Or.inr (Or.inl h))))))))⟩
          refine q_if_ne (tgt := 144) hM dX4_clause_139 (by decide) (rfl : r4357.toInt = r4357.toInt) (fun h139 => ?_) (fun h139 => ?_)
          · refine q_aload_n hM dX4_clause_144 (lv_at hl 1 rfl) ?_
            refine w_get (v := .ref (ad lw)) hM hW FG_X4_15 lb_79 ((hW.2.2.1 79 4 (by omega)).trans h_r4) dX4_clause_145 ?_
            refine q_iconst (v := (0 : Int32)) hM dX4_clause_148 (by decide) ?_
            refine q_iconst (v := (0 : Int32)) hM dX4_clause_149 (by decide) ?_
            refine q_callV (As := [.int (0 : Int32), .int (0 : Int32)]) (rest := []) hM hW.1 hR hC myX3_add (kAW (v_2_7 (List.mem_of_getElem? (i := 13) rfl)) rfl) (rfl : vwCl[3]? = some (RX3, TX3, 8)) rfl (lo_Lw hlw).1 (shO hW.2.1 (lo_Lw hlw)) (a_X3_add _ _ cA ad g4361 lw (0 : Int32) (0 : Int32) hW.2.1 hG hlw (by have := kc_0; have := kc_0; omega) (by have := kc_0; have := kc_0; omega)) ⟨by decide, by decide⟩ rfl rfl hl.1 (Nat.le_of_ble_eq_true rfl) dX4_clause_150 (fun v g4363 H locs hp hW1 => ?_)
            obtain ⟨rfl, hs1, hG, hf1⟩ := hp
            have f4364 : fld g4363 79 2 = .int v4356 := (hf1.1 79 2 (by omega)).trans q4358
            have hW : WS ad cA (fun i k => (i = 79 ∧ (k = 2 ∨ k = 3)) ∨ (i = lw ∧ (k = 7)) ∨ i = (lw + 4) ∨ i = (lw + 5) ∨ i = (lw + 1) ∨ i = (lw + 2) ∨ i = (lw + 3)) g0 K g4363 H locs := ⟨hW1, hs1, hW.2.2.tr hf1 (fun i k h => h.elim (fun h => (Or.inr (Or.inl h))) (fun h => h.elim (fun h => (Or.inr (Or.inr (Or.inl h)))) (fun h => (Or.inr (Or.inr (Or.inr (Or.inl h)))))))⟩
            refine q_aload_n hM dX4_clause_153 (lv_at hl 1 rfl) ?_
            refine q_bipush (v := (41 : Int32)) hM dX4_clause_154 (by decide) ?_
            refine q_callV (As := [.int (41 : Int32)]) (rest := []) hM hW.1 hR hC myX4_passes (kAW (v_2_7 (List.mem_of_getElem? (i := 4) rfl)) rfl) (rfl : vwCl[4]? = some (RX4, TX4, 5)) rfl lb_79.1 (shO hW.2.1 lb_79) (a_X4_passes _ _ cA ad g4363 (41 : Int32) en v4356 hW.2.1 hG ((hW.2.2.1 79 1 (by omega)).trans h_en) f4364 (by have := kc_41; omega) (by have := kc_41; omega) (by have := kc_41; omega)) ⟨by decide, by decide⟩ rfl rfl hl.1 (Nat.le_of_ble_eq_true rfl) dX4_clause_156 (fun v g4370 H locs hp hW1 => ?_)
            obtain ⟨v4365, r4366, rfl, hs1, hG, hf1, q4367, e4368, e4369, hr4366⟩ := hp
            have hW : WS ad cA (fun i k => (i = 79 ∧ (k = 2 ∨ k = 3)) ∨ (i = lw ∧ (k = 7)) ∨ i = (lw + 4) ∨ i = (lw + 5) ∨ i = (lw + 1) ∨ i = (lw + 2) ∨ i = (lw + 3)) g0 K g4370 H locs := ⟨hW1, hs1, hW.2.2.tr hf1 (fun i k h => (Or.inl h))⟩
            exact hE _ _ _ _ _ _ hW.1 (nz_or (by omega)) ⟨v4365, _, rfl, hW.2.1, hG, hW.2.2, q4367, (by omega), (by omega), (by omega)⟩ dX4_clause_159
          · refine q_iconst (v := (0 : Int32)) hM dX4_clause_142 (by decide) ?_
            exact hE _ _ _ _ _ _ hW.1 nz_0 ⟨v4356, _, rfl, hW.2.1, hG, hW.2.2, q4358, (by have := kc_0; omega), (by have := kc_0; omega), (by have := kc_0; omega)⟩ dX4_clause_143
        · refine q_aload_n hM dX4_clause_118 (lv_at hl 1 rfl) ?_
          refine q_iconst (v := (1 : Int32)) hM dX4_clause_119 (by decide) ?_
          refine q_callV (As := [.int (1 : Int32)]) (rest := []) hM hW.1 hR hC myX4_wrong (kAW (v_2_6 (List.mem_of_getElem? (i := 8) rfl)) rfl) (rfl : vwCl[4]? = some (RX4, TX4, 5)) rfl lb_79.1 (shO hW.2.1 lb_79) (a_X4_wrong _ _ cA ad g4346 (1 : Int32) hW.2.1 hG) ⟨by decide, by decide⟩ rfl rfl hl.1 (Nat.le_of_ble_eq_true rfl) dX4_clause_120 (fun v g4374 H locs hp hW1 => ?_)
          obtain ⟨r4373, rfl, hs1, hG, hf1, hr4373⟩ := hp
          have f4375 : fld g4374 79 2 = .int z4333 := (hf1.1 79 2 (by omega)).trans f4347
          have f4376 : fld g4374 lw 7 = .int x4345 := (hf1.1 lw 7 (by omega)).trans f4348
          have hW : WS ad cA (fun i k => (i = 79 ∧ (k = 2 ∨ k = 3)) ∨ (i = lw ∧ (k = 7)) ∨ i = (lw + 4) ∨ i = (lw + 5) ∨ i = (lw + 1) ∨ i = (lw + 2) ∨ i = (lw + 3)) g0 K g4374 H locs := ⟨hW1, hs1, hW.2.2.tr hf1 (fun i k h => (Or.inl (by omega)))⟩
          exact hE _ _ _ _ _ _ hW.1 (nz_or (by omega)) ⟨z4333, _, rfl, hW.2.1, hG, hW.2.2, f4375, (by omega), (by omega), (by omega)⟩ dX4_clause_123
      · refine q_aload_n hM dX4_clause_74 (lv_at hl 1 rfl) ?_
        refine q_iconst (v := (0 : Int32)) hM dX4_clause_75 (by decide) ?_
        refine q_callV (As := [.int (0 : Int32)]) (rest := []) hM hW.1 hR hC myX4_expression (kAW (v_2_6 (List.mem_of_getElem? (i := 12) rfl)) rfl) (rfl : vwCl[4]? = some (RX4, TX4, 5)) rfl lb_79.1 (shO hW.2.1 lb_79) (a_X4_expression_0 _ _ cA ad g4339 (0 : Int32) en z4333 lw hW.2.1 hG hlw ((hW.2.2.1 79 1 (by omega)).trans h_en) f4340 ((hW.2.2.1 79 4 (by omega)).trans h_r4) (by have := kc_0; omega) (by have := kc_0; omega) (by have := kc_0; omega) (by have := kc_0; omega)) ⟨by decide, by decide⟩ rfl rfl hl.1 (Nat.le_of_ble_eq_true rfl) dX4_clause_76 (fun v g4383 H locs hp hW1 => ?_)
        obtain ⟨v4378, r4379, rfl, hs1, hG, hf1, q4380, e4381, e4382, hr4379⟩ := hp
        have hW : WS ad cA (fun i k => (i = 79 ∧ (k = 2 ∨ k = 3)) ∨ (i = lw ∧ (k = 7)) ∨ i = (lw + 4) ∨ i = (lw + 5) ∨ i = (lw + 1) ∨ i = (lw + 2) ∨ i = (lw + 3)) g0 K g4383 H locs := ⟨hW1, hs1, hW.2.2.tr hf1 (fun i k h => h.elim (fun h => (Or.inl h)) (fun h => h.elim (fun h => (Or.inr (Or.inl h))) (fun h => h.elim (fun h => (Or.inr (Or.inr (Or.inl h)))) (fun h => (Or.inr (Or.inr (Or.inr (Or.inl h))))))))⟩
        refine q_if_ne (tgt := 84) hM dX4_clause_79 (by decide) (rfl : r4379.toInt = r4379.toInt) (fun h79 => ?_) (fun h79 => ?_)
        · refine q_aload_n hM dX4_clause_84 (lv_at hl 1 rfl) ?_
          refine w_get (v := .ref (ad lw)) hM hW FG_X4_15 lb_79 ((hW.2.2.1 79 4 (by omega)).trans h_r4) dX4_clause_85 ?_
          refine q_iconst (v := (0 : Int32)) hM dX4_clause_88 (by decide) ?_
          refine q_iconst (v := (0 : Int32)) hM dX4_clause_89 (by decide) ?_
          refine q_callV (As := [.int (0 : Int32), .int (0 : Int32)]) (rest := []) hM hW.1 hR hC myX3_add (kAW (v_2_7 (List.mem_of_getElem? (i := 13) rfl)) rfl) (rfl : vwCl[3]? = some (RX3, TX3, 8)) rfl (lo_Lw hlw).1 (shO hW.2.1 (lo_Lw hlw)) (a_X3_add _ _ cA ad g4383 lw (0 : Int32) (0 : Int32) hW.2.1 hG hlw (by have := kc_0; have := kc_0; omega) (by have := kc_0; have := kc_0; omega)) ⟨by decide, by decide⟩ rfl rfl hl.1 (Nat.le_of_ble_eq_true rfl) dX4_clause_90 (fun v g4385 H locs hp hW1 => ?_)
          obtain ⟨rfl, hs1, hG, hf1⟩ := hp
          have f4386 : fld g4385 79 2 = .int v4378 := (hf1.1 79 2 (by omega)).trans q4380
          have hW : WS ad cA (fun i k => (i = 79 ∧ (k = 2 ∨ k = 3)) ∨ (i = lw ∧ (k = 7)) ∨ i = (lw + 4) ∨ i = (lw + 5) ∨ i = (lw + 1) ∨ i = (lw + 2) ∨ i = (lw + 3)) g0 K g4385 H locs := ⟨hW1, hs1, hW.2.2.tr hf1 (fun i k h => h.elim (fun h => (Or.inr (Or.inl h))) (fun h => h.elim (fun h => (Or.inr (Or.inr (Or.inl h)))) (fun h => (Or.inr (Or.inr (Or.inr (Or.inl h)))))))⟩
          refine q_aload_n hM dX4_clause_93 (lv_at hl 1 rfl) ?_
          refine w_get (v := .ref (ad lw)) hM hW FG_X4_15 lb_79 ((hW.2.2.1 79 4 (by omega)).trans h_r4) dX4_clause_94 ?_
          refine w_get (v := .ref (ad (lw + 3))) hM hW FG_X4_79 (lo_Lw hlw) (rf_Lw_2 hlw hW.2.1) dX4_clause_97 ?_
          refine q_iload_n hM dX4_clause_100 (lv_at hl 2 rfl) ?_
          refine q_aload_n hM dX4_clause_101 (lv_at hl 1 rfl) ?_
          refine w_get (v := .ref (ad lw)) hM hW FG_X4_15 lb_79 ((hW.2.2.1 79 4 (by omega)).trans h_r4) dX4_clause_102 ?_
          refine w_getI hM hW FG_X4_35 (lo_Lw hlw) (by decide) (by decide) dX4_clause_105 (fun x4387 fx4387 => ?_)
          have bx4387 := hG.f fx4387 (rF_Lw_7 hlw) (by decide)
          refine w_iast hM hW (la_Lw_2 hlw) (by omega) (i_in (by omega) (by omega)) dX4_clause_108 (fun g4388 H locs hW e1 e2 => ?_)
          have f4389 : fld g4388 79 2 = .int v4378 := (e2.1 79 2 (by unfold Only; omega)).trans f4386
          have f4390 : fld g4388 lw 7 = .int x4387 := (e2.1 lw 7 (by unfold Only; omega)).trans fx4387
          have hG := hG.st e1 e2 (rA_Lw_2 hlw) (by have := i_rng x4387; omega) (by have := i_rng x4387; omega)
          refine q_aload_n hM dX4_clause_109 (lv_at hl 1 rfl) ?_
          refine q_callV (As := []) (rest := []) hM hW.1 hR hC myX4_sign (kAW (v_2_0 (List.mem_of_getElem? (i := 12) rfl)) rfl) (rfl : vwCl[4]? = some (RX4, TX4, 5)) rfl lb_79.1 (shO hW.2.1 lb_79) (a_X4_sign _ _ cA ad g4388 en v4378 hW.2.1 hG ((hW.2.2.1 79 1 (by omega)).trans h_en) f4389 (by  omega) (by  omega) (by  omega)) ⟨by decide, by decide⟩ rfl rfl hl.1 (Nat.le_of_ble_eq_true rfl) dX4_clause_110 (fun v g4392 H locs hp hW1 => ?_)
          obtain ⟨r4391, rfl, hr4391, rfl⟩ := hp
          have hW : WS ad cA (fun i k => (i = 79 ∧ (k = 2 ∨ k = 3)) ∨ (i = lw ∧ (k = 7)) ∨ i = (lw + 4) ∨ i = (lw + 5) ∨ i = (lw + 1) ∨ i = (lw + 2) ∨ i = (lw + 3)) g0 K g4388 H locs := ⟨hW1, hW.2.1, hW.2.2⟩
          refine q_bipush (v := (40 : Int32)) hM dX4_clause_113 (by decide) ?_
          refine q_icmp_eq (tgt := 124) hM dX4_clause_115 (by decide) (rfl : r4391.toInt = r4391.toInt) (kc_40 : (40 : Int32).toInt = 40) (fun h115 => ?_) (fun h115 => ?_)
          · refine q_aload_n hM dX4_clause_124 (lv_at hl 1 rfl) ?_
            refine q_dup hM dX4_clause_125 rfl ?_
            refine w_get (v := .int v4378) hM hW FG_X4_23 lb_79 f4389 dX4_clause_126 ?_
            have bv4378 := hG.f f4389 rF_79_2 (by decide)
            refine q_iconst (v := (1 : Int32)) hM dX4_clause_129 (by decide) ?_
            refine q_iadd hM dX4_clause_130 (fun z4394 hz4394 => ?_)
            first | have tz4394 := i_addT hz4394 (rfl : v4378.toInt = v4378.toInt) (kc_1 : (1 : Int32).toInt = 1) (by omega) (by omega) | skip
            refine w_put hM hW FP_X4_23 lb_79 (by omega) (Or.inl ⟨_, rfl⟩) rfl rfl dX4_clause_131 (fun g4395 H locs hW e1 e2 => ?_)
            have f4396 : fld g4395 lw 7 = .int x4387 := (e2.1 lw 7 (by unfold Only; omega)).trans f4390
            have f4397 : fld g4395 79 2 = .int z4394 := e1
            have hG := hG.put e1 e2 rF_79_2 (by decide) (by have := i_rng z4394; omega) (by have := i_rng z4394; omega)
            refine q_aload_n hM dX4_clause_134 (lv_at hl 1 rfl) ?_
            refine q_iconst (v := (1 : Int32)) hM dX4_clause_135 (by decide) ?_
            refine q_callV (As := [.int (1 : Int32)]) (rest := []) hM hW.1 hR hC myX4_condition (kAW (v_2_8 (List.mem_of_getElem? (i := 2) rfl)) rfl) (rfl : vwCl[4]? = some (RX4, TX4, 5)) rfl lb_79.1 (shO hW.2.1 lb_79) (a_X4_condition_1 _ _ cA ad g4395 (1 : Int32) en z4394 lw hW.2.1 hG hlw ((hW.2.2.1 79 1 (by omega)).trans h_en) f4397 ((hW.2.2.1 79 4 (by omega)).trans h_r4) (by have := kc_1; omega) (by have := kc_1; omega) (by have := kc_1; omega) (by have := kc_1; omega)) ⟨by decide, by decide⟩ rfl rfl hl.1 (Nat.le_of_ble_eq_true rfl) dX4_clause_136 (fun v g4403 H locs hp hW1 => ?_)
            obtain ⟨v4398, r4399, rfl, hs1, hG, hf1, q4400, e4401, e4402, hr4399⟩ := hp
            have hW : WS ad cA (fun i k => (i = 79 ∧ (k = 2 ∨ k = 3)) ∨ (i = lw ∧ (k = 7)) ∨ i = (lw + 4) ∨ i = (lw + 5) ∨ i = (lw + 1) ∨ i = (lw + 2) ∨ i = (lw + 3)) g0 K g4403 H locs := ⟨hW1, hs1, hW.2.2.tr hf1 (fun i k h => h.elim (fun h => (Or.inl h)) (fun h => h.elim (fun h => (Or.inr (Or.inl h))) (fun h => h.elim (fun h => (Or.inr (Or.inr (Or.inl h)))) (fun h => (Or.inr (Or.inr (Or.inr (Or.inl h))))))))⟩
            refine q_if_ne (tgt := 144) hM dX4_clause_139 (by decide) (rfl : r4399.toInt = r4399.toInt) (fun h139 => ?_) (fun h139 => ?_)
            · refine q_aload_n hM dX4_clause_144 (lv_at hl 1 rfl) ?_
              refine w_get (v := .ref (ad lw)) hM hW FG_X4_15 lb_79 ((hW.2.2.1 79 4 (by omega)).trans h_r4) dX4_clause_145 ?_
              refine q_iconst (v := (0 : Int32)) hM dX4_clause_148 (by decide) ?_
              refine q_iconst (v := (0 : Int32)) hM dX4_clause_149 (by decide) ?_
              refine q_callV (As := [.int (0 : Int32), .int (0 : Int32)]) (rest := []) hM hW.1 hR hC myX3_add (kAW (v_2_7 (List.mem_of_getElem? (i := 13) rfl)) rfl) (rfl : vwCl[3]? = some (RX3, TX3, 8)) rfl (lo_Lw hlw).1 (shO hW.2.1 (lo_Lw hlw)) (a_X3_add _ _ cA ad g4403 lw (0 : Int32) (0 : Int32) hW.2.1 hG hlw (by have := kc_0; have := kc_0; omega) (by have := kc_0; have := kc_0; omega)) ⟨by decide, by decide⟩ rfl rfl hl.1 (Nat.le_of_ble_eq_true rfl) dX4_clause_150 (fun v g4405 H locs hp hW1 => ?_)
              obtain ⟨rfl, hs1, hG, hf1⟩ := hp
              have f4406 : fld g4405 79 2 = .int v4398 := (hf1.1 79 2 (by omega)).trans q4400
              have hW : WS ad cA (fun i k => (i = 79 ∧ (k = 2 ∨ k = 3)) ∨ (i = lw ∧ (k = 7)) ∨ i = (lw + 4) ∨ i = (lw + 5) ∨ i = (lw + 1) ∨ i = (lw + 2) ∨ i = (lw + 3)) g0 K g4405 H locs := ⟨hW1, hs1, hW.2.2.tr hf1 (fun i k h => h.elim (fun h => (Or.inr (Or.inl h))) (fun h => h.elim (fun h => (Or.inr (Or.inr (Or.inl h)))) (fun h => (Or.inr (Or.inr (Or.inr (Or.inl h)))))))⟩
              refine q_aload_n hM dX4_clause_153 (lv_at hl 1 rfl) ?_
              refine q_bipush (v := (41 : Int32)) hM dX4_clause_154 (by decide) ?_
              refine q_callV (As := [.int (41 : Int32)]) (rest := []) hM hW.1 hR hC myX4_passes (kAW (v_2_7 (List.mem_of_getElem? (i := 4) rfl)) rfl) (rfl : vwCl[4]? = some (RX4, TX4, 5)) rfl lb_79.1 (shO hW.2.1 lb_79) (a_X4_passes _ _ cA ad g4405 (41 : Int32) en v4398 hW.2.1 hG ((hW.2.2.1 79 1 (by omega)).trans h_en) f4406 (by have := kc_41; omega) (by have := kc_41; omega) (by have := kc_41; omega)) ⟨by decide, by decide⟩ rfl rfl hl.1 (Nat.le_of_ble_eq_true rfl) dX4_clause_156 (fun v g4412 H locs hp hW1 => ?_)
              obtain ⟨v4407, r4408, rfl, hs1, hG, hf1, q4409, e4410, e4411, hr4408⟩ := hp
              have hW : WS ad cA (fun i k => (i = 79 ∧ (k = 2 ∨ k = 3)) ∨ (i = lw ∧ (k = 7)) ∨ i = (lw + 4) ∨ i = (lw + 5) ∨ i = (lw + 1) ∨ i = (lw + 2) ∨ i = (lw + 3)) g0 K g4412 H locs := ⟨hW1, hs1, hW.2.2.tr hf1 (fun i k h => (Or.inl h))⟩
              exact hE _ _ _ _ _ _ hW.1 (nz_or (by omega)) ⟨v4407, _, rfl, hW.2.1, hG, hW.2.2, q4409, (by omega), (by omega), (by omega)⟩ dX4_clause_159
            · refine q_iconst (v := (0 : Int32)) hM dX4_clause_142 (by decide) ?_
              exact hE _ _ _ _ _ _ hW.1 nz_0 ⟨v4398, _, rfl, hW.2.1, hG, hW.2.2, q4400, (by have := kc_0; omega), (by have := kc_0; omega), (by have := kc_0; omega)⟩ dX4_clause_143
          · refine q_aload_n hM dX4_clause_118 (lv_at hl 1 rfl) ?_
            refine q_iconst (v := (1 : Int32)) hM dX4_clause_119 (by decide) ?_
            refine q_callV (As := [.int (1 : Int32)]) (rest := []) hM hW.1 hR hC myX4_wrong (kAW (v_2_6 (List.mem_of_getElem? (i := 8) rfl)) rfl) (rfl : vwCl[4]? = some (RX4, TX4, 5)) rfl lb_79.1 (shO hW.2.1 lb_79) (a_X4_wrong _ _ cA ad g4388 (1 : Int32) hW.2.1 hG) ⟨by decide, by decide⟩ rfl rfl hl.1 (Nat.le_of_ble_eq_true rfl) dX4_clause_120 (fun v g4416 H locs hp hW1 => ?_)
            obtain ⟨r4415, rfl, hs1, hG, hf1, hr4415⟩ := hp
            have f4417 : fld g4416 79 2 = .int v4378 := (hf1.1 79 2 (by omega)).trans f4389
            have f4418 : fld g4416 lw 7 = .int x4387 := (hf1.1 lw 7 (by omega)).trans f4390
            have hW : WS ad cA (fun i k => (i = 79 ∧ (k = 2 ∨ k = 3)) ∨ (i = lw ∧ (k = 7)) ∨ i = (lw + 4) ∨ i = (lw + 5) ∨ i = (lw + 1) ∨ i = (lw + 2) ∨ i = (lw + 3)) g0 K g4416 H locs := ⟨hW1, hs1, hW.2.2.tr hf1 (fun i k h => (Or.inl (by omega)))⟩
            exact hE _ _ _ _ _ _ hW.1 (nz_or (by omega)) ⟨v4378, _, rfl, hW.2.1, hG, hW.2.2, f4417, (by omega), (by omega), (by omega)⟩ dX4_clause_123
        · refine q_iconst (v := (0 : Int32)) hM dX4_clause_82 (by decide) ?_
          exact hE _ _ _ _ _ _ hW.1 nz_0 ⟨v4378, _, rfl, hW.2.1, hG, hW.2.2, q4380, (by have := kc_0; omega), (by have := kc_0; omega), (by have := kc_0; omega)⟩ dX4_clause_83
    · refine q_aload_n hM dX4_clause_26 (lv_at hl 1 rfl) ?_
      refine q_iconst (v := (4 : Int32)) hM dX4_clause_27 (by decide) ?_
      refine q_callV (As := [.int (4 : Int32)]) (rest := []) hM hW.1 hR hC myX4_wrong (kAW (v_2_6 (List.mem_of_getElem? (i := 8) rfl)) rfl) (rfl : vwCl[4]? = some (RX4, TX4, 5)) rfl lb_79.1 (shO hW.2.1 lb_79) (a_X4_wrong _ _ cA ad g0 (4 : Int32) hW.2.1 hG) ⟨by decide, by decide⟩ rfl rfl hl.1 (Nat.le_of_ble_eq_true rfl) dX4_clause_28 (fun v g4422 H locs hp hW1 => ?_)
      obtain ⟨r4421, rfl, hs1, hG, hf1, hr4421⟩ := hp
      have f4423 : fld g4422 79 2 = .int a0 := (hf1.1 79 2 (by omega)).trans f4326
      have hW : WS ad cA (fun i k => (i = 79 ∧ (k = 2 ∨ k = 3)) ∨ (i = lw ∧ (k = 7)) ∨ i = (lw + 4) ∨ i = (lw + 5) ∨ i = (lw + 1) ∨ i = (lw + 2) ∨ i = (lw + 3)) g0 K g4422 H locs := ⟨hW1, hs1, hW.2.2.tr hf1 (fun i k h => (Or.inl (by omega)))⟩
      exact hE _ _ _ _ _ _ hW.1 (nz_or (by omega)) ⟨a0, _, rfl, hW.2.1, hG, hW.2.2, f4423, (by omega), (by omega), (by omega)⟩ dX4_clause_31
  · refine q_aload_n hM dX4_clause_14 (lv_at hl 1 rfl) ?_
    refine q_iconst (v := (1 : Int32)) hM dX4_clause_15 (by decide) ?_
    refine q_callV (As := [.int (1 : Int32)]) (rest := []) hM hW.1 hR hC myX4_wrong (kAW (v_2_6 (List.mem_of_getElem? (i := 8) rfl)) rfl) (rfl : vwCl[4]? = some (RX4, TX4, 5)) rfl lb_79.1 (shO hW.2.1 lb_79) (a_X4_wrong _ _ cA ad g0 (1 : Int32) hW.2.1 hG) ⟨by decide, by decide⟩ rfl rfl hl.1 (Nat.le_of_ble_eq_true rfl) dX4_clause_16 (fun v g4426 H locs hp hW1 => ?_)
    obtain ⟨r4425, rfl, hs1, hG, hf1, hr4425⟩ := hp
    have f4427 : fld g4426 79 2 = .int a0 := (hf1.1 79 2 (by omega)).trans f4326
    have hW : WS ad cA (fun i k => (i = 79 ∧ (k = 2 ∨ k = 3)) ∨ (i = lw ∧ (k = 7)) ∨ i = (lw + 4) ∨ i = (lw + 5) ∨ i = (lw + 1) ∨ i = (lw + 2) ∨ i = (lw + 3)) g0 K g4426 H locs := ⟨hW1, hs1, hW.2.2.tr hf1 (fun i k h => (Or.inl (by omega)))⟩
    exact hE _ _ _ _ _ _ hW.1 (nz_or (by omega)) ⟨a0, _, rfl, hW.2.1, hG, hW.2.2, f4427, (by omega), (by omega), (by omega)⟩ dX4_clause_19

theorem dX4_read_0 : decode cX4_read 0 = .ok (.aload_n 0, 1) := by decide +kernel
theorem dX4_read_1 : decode cX4_read 1 = .ok (.iload_n 1, 1) := by decide +kernel
theorem dX4_read_2 : decode cX4_read 2 = .ok (.aload_n 0, 1) := by decide +kernel
theorem dX4_read_3 : decode cX4_read 3 = .ok (.getfield 9, 3) := by decide +kernel
theorem dX4_read_6 : decode cX4_read 6 = .ok (.arraylength, 1) := by decide +kernel
theorem dX4_read_7 : decode cX4_read 7 = .ok (.invokestatic 29, 3) := by decide +kernel
theorem dX4_read_10 : decode cX4_read 10 = .ok (.putfield 19, 3) := by decide +kernel
theorem dX4_read_13 : decode cX4_read 13 = .ok (.aload_n 0, 1) := by decide +kernel
theorem dX4_read_14 : decode cX4_read 14 = .ok (.iconst 0, 1) := by decide +kernel
theorem dX4_read_15 : decode cX4_read 15 = .ok (.putfield 23, 3) := by decide +kernel
theorem dX4_read_18 : decode cX4_read 18 = .ok (.aload_n 0, 1) := by decide +kernel
theorem dX4_read_19 : decode cX4_read 19 = .ok (.aload_n 2, 1) := by decide +kernel
theorem dX4_read_20 : decode cX4_read 20 = .ok (.putfield 15, 3) := by decide +kernel
theorem dX4_read_23 : decode cX4_read 23 = .ok (.aload_n 0, 1) := by decide +kernel
theorem dX4_read_24 : decode cX4_read 24 = .ok (.getfield 15, 3) := by decide +kernel
theorem dX4_read_27 : decode cX4_read 27 = .ok (.iconst 0, 1) := by decide +kernel
theorem dX4_read_28 : decode cX4_read 28 = .ok (.putfield 35, 3) := by decide +kernel
theorem dX4_read_31 : decode cX4_read 31 = .ok (.aload_n 0, 1) := by decide +kernel
theorem dX4_read_32 : decode cX4_read 32 = .ok (.getfield 15, 3) := by decide +kernel
theorem dX4_read_35 : decode cX4_read 35 = .ok (.iconst 0, 1) := by decide +kernel
theorem dX4_read_36 : decode cX4_read 36 = .ok (.putfield 40, 3) := by decide +kernel
theorem dX4_read_39 : decode cX4_read 39 = .ok (.iconst 0, 1) := by decide +kernel
theorem dX4_read_40 : decode cX4_read 40 = .ok (.istore_n 3, 1) := by decide +kernel
theorem dX4_read_41 : decode cX4_read 41 = .ok (.iload_n 3, 1) := by decide +kernel
theorem dX4_read_42 : decode cX4_read 42 = .ok (.bipush 16, 2) := by decide +kernel
theorem dX4_read_44 : decode cX4_read 44 = .ok (.if_icmp .gt 86, 3) := by decide +kernel
theorem dX4_read_47 : decode cX4_read 47 = .ok (.aload_n 0, 1) := by decide +kernel
theorem dX4_read_48 : decode cX4_read 48 = .ok (.iload_n 3, 1) := by decide +kernel
theorem dX4_read_49 : decode cX4_read 49 = .ok (.invokevirtual 43, 3) := by decide +kernel
theorem dX4_read_52 : decode cX4_read 52 = .ok (.ifCond .ne 8, 3) := by decide +kernel
theorem dX4_read_55 : decode cX4_read 55 = .ok (.aload_n 0, 1) := by decide +kernel
theorem dX4_read_56 : decode cX4_read 56 = .ok (.getfield 26, 3) := by decide +kernel
theorem dX4_read_59 : decode cX4_read 59 = .ok (.ireturn, 1) := by decide +kernel
theorem dX4_read_60 : decode cX4_read 60 = .ok (.aload_n 0, 1) := by decide +kernel
theorem dX4_read_61 : decode cX4_read 61 = .ok (.getfield 15, 3) := by decide +kernel
theorem dX4_read_64 : decode cX4_read 64 = .ok (.iload_n 3, 1) := by decide +kernel
theorem dX4_read_65 : decode cX4_read 65 = .ok (.iconst 1, 1) := by decide +kernel
theorem dX4_read_66 : decode cX4_read 66 = .ok (.iadd, 1) := by decide +kernel
theorem dX4_read_67 : decode cX4_read 67 = .ok (.putfield 40, 3) := by decide +kernel
theorem dX4_read_70 : decode cX4_read 70 = .ok (.aload_n 0, 1) := by decide +kernel
theorem dX4_read_71 : decode cX4_read 71 = .ok (.getfield 23, 3) := by decide +kernel
theorem dX4_read_74 : decode cX4_read 74 = .ok (.aload_n 0, 1) := by decide +kernel
theorem dX4_read_75 : decode cX4_read 75 = .ok (.getfield 19, 3) := by decide +kernel
theorem dX4_read_78 : decode cX4_read 78 = .ok (.if_icmp .ne 11, 3) := by decide +kernel
theorem dX4_read_81 : decode cX4_read 81 = .ok (.aload_n 0, 1) := by decide +kernel
theorem dX4_read_82 : decode cX4_read 82 = .ok (.getfield 15, 3) := by decide +kernel
theorem dX4_read_85 : decode cX4_read 85 = .ok (.getfield 40, 3) := by decide +kernel
theorem dX4_read_88 : decode cX4_read 88 = .ok (.ireturn, 1) := by decide +kernel
theorem dX4_read_89 : decode cX4_read 89 = .ok (.aload_n 0, 1) := by decide +kernel
theorem dX4_read_90 : decode cX4_read 90 = .ok (.getfield 9, 3) := by decide +kernel
theorem dX4_read_93 : decode cX4_read 93 = .ok (.aload_n 0, 1) := by decide +kernel
theorem dX4_read_94 : decode cX4_read 94 = .ok (.getfield 23, 3) := by decide +kernel
theorem dX4_read_97 : decode cX4_read 97 = .ok (.iaload, 1) := by decide +kernel
theorem dX4_read_98 : decode cX4_read 98 = .ok (.bipush 59, 2) := by decide +kernel
theorem dX4_read_100 : decode cX4_read 100 = .ok (.if_icmp .eq 14, 3) := by decide +kernel
theorem dX4_read_103 : decode cX4_read 103 = .ok (.aload_n 0, 1) := by decide +kernel
theorem dX4_read_104 : decode cX4_read 104 = .ok (.iconst 1, 1) := by decide +kernel
theorem dX4_read_105 : decode cX4_read 105 = .ok (.invokevirtual 47, 3) := by decide +kernel
theorem dX4_read_108 : decode cX4_read 108 = .ok (.pop, 1) := by decide +kernel
theorem dX4_read_109 : decode cX4_read 109 = .ok (.aload_n 0, 1) := by decide +kernel
theorem dX4_read_110 : decode cX4_read 110 = .ok (.getfield 26, 3) := by decide +kernel
theorem dX4_read_113 : decode cX4_read 113 = .ok (.ireturn, 1) := by decide +kernel
theorem dX4_read_114 : decode cX4_read 114 = .ok (.aload_n 0, 1) := by decide +kernel
theorem dX4_read_115 : decode cX4_read 115 = .ok (.dup, 1) := by decide +kernel
theorem dX4_read_116 : decode cX4_read 116 = .ok (.getfield 23, 3) := by decide +kernel
theorem dX4_read_119 : decode cX4_read 119 = .ok (.iconst 1, 1) := by decide +kernel
theorem dX4_read_120 : decode cX4_read 120 = .ok (.iadd, 1) := by decide +kernel
theorem dX4_read_121 : decode cX4_read 121 = .ok (.putfield 23, 3) := by decide +kernel
theorem dX4_read_124 : decode cX4_read 124 = .ok (.iinc 3 1, 3) := by decide +kernel
theorem dX4_read_127 : decode cX4_read 127 = .ok (.goto (-86), 3) := by decide +kernel
theorem dX4_read_130 : decode cX4_read 130 = .ok (.aload_n 0, 1) := by decide +kernel
theorem dX4_read_131 : decode cX4_read 131 = .ok (.getfield 26, 3) := by decide +kernel
theorem dX4_read_134 : decode cX4_read 134 = .ok (.ireturn, 1) := by decide +kernel
theorem FP_X4_19 : FPX RX4 19 4 5 1 .int := ⟨⟨RX4, TX4, tyX4, rfl, wX4, by decide, kAW (v_0_12 (List.mem_of_getElem? (i := 11) rfl)) rfl, rfl, tyX4_ok, nmX4, by decide +kernel, rfl⟩, by decide +kernel⟩
theorem FP_X4_15 : FPX RX4 15 4 5 4 (.object "ForgetSchool$Law") := ⟨⟨RX4, TX4, tyX4, rfl, wX4, by decide, kAW (v_0_12 (List.mem_of_getElem? (i := 14) rfl)) rfl, rfl, tyX4_ok, nmX4, by decide +kernel, rfl⟩, by decide +kernel⟩
theorem FP_X4_35 : FPX RX4 35 3 8 7 .int := ⟨⟨RX3, TX3, tyX3, rfl, wX3, by decide, kAW (v_0_8 (List.mem_of_getElem? (i := 7) rfl)) rfl, rfl, tyX3_ok, nmX3, by decide +kernel, rfl⟩, by decide +kernel⟩
theorem FP_X4_40 : FPX RX4 40 3 8 6 .int := ⟨⟨RX3, TX3, tyX3, rfl, wX3, by decide, kAW (v_0_8 (List.mem_of_getElem? (i := 4) rfl)) rfl, rfl, tyX3_ok, nmX3, by decide +kernel, rfl⟩, by decide +kernel⟩
theorem FG_X4_26 : FG RX4 26 4 5 3 := ⟨RX4, TX4, rfl, wX4, by decide, kAW (v_0_12 (List.mem_of_getElem? (i := 13) rfl)) rfl, rfl⟩
theorem myX4_clause : MI yX4_clause cX4_clause 3 (some FieldType.boolean) 1 := ⟨kAW (v_2_0 (List.mem_of_getElem? (i := 11) rfl)) rfl, kAW (v_0_0 (List.mem_of_getElem? (i := 8) rfl)) rfl, kAW (v_2_0 (List.mem_of_getElem? (i := 10) rfl)) rfl, kAW (tp_t0 (List.mem_of_getElem? (i := 6) rfl)) rfl, by decide, by decide, by decide +kernel⟩
theorem FG_X4_40 : FG RX4 40 3 8 6 := ⟨RX3, TX3, rfl, wX3, by decide, kAW (v_0_8 (List.mem_of_getElem? (i := 4) rfl)) rfl, rfl⟩
set_option maxRecDepth 100000 in
set_option maxHeartbeats 4000000 in
theorem a_X4_read (l : Launch) (D : va_G) (cA : Nat → ClassId) (ad : Nat → Nat) (g0 : Nat → va_E) (n : Int32) (lw : Nat)   (hSh : Shp ad cA g0) (hG : Rng g0) (hlw : isLw lw) (n0 : 0 ≤ n.toInt) (n1 : n.toInt ≤ 240) : CT l NN ad cA D yX4_read cX4_read 4 (some FieldType.int) (20, 463) [.ref (ad 79), .int n, .ref (ad lw)] g0 (fun v g' => ∃ (r : Int32), v = some (.int r) ∧ Shp ad cA g' ∧ Rng g' ∧ FR (fun i k => (i = 79 ∧ (k = 1 ∨ k = 2 ∨ k = 3 ∨ k = 4)) ∨ (i = lw ∧ (k = 6 ∨ k = 7)) ∨ i = (lw + 1) ∨ i = (lw + 2) ∨ i = (lw + 3) ∨ i = (lw + 4) ∨ i = (lw + 5)) g0 g') := by
  refine q_enterI (by decide) (Nat.le_of_ble_eq_true rfl) rfl (fun K H locs ls _ _ hM hW0 hR hC hE hl => ?_)
  have hl : lv_has ls 4 [(0, .ref (ad 79)), (1, .int n), (2, .ref (ad lw))] := hl
  have hW : WS ad cA (fun i k => (i = 79 ∧ (k = 1 ∨ k = 2 ∨ k = 3 ∨ k = 4)) ∨ (i = lw ∧ (k = 6 ∨ k = 7)) ∨ i = (lw + 1) ∨ i = (lw + 2) ∨ i = (lw + 3) ∨ i = (lw + 4) ∨ i = (lw + 5)) g0 K g0 H locs := ⟨hW0, hSh, FR.rf⟩
  have ulw := hlw
  unfold isLw at ulw
  refine q_aload_n hM dX4_read_0 (lv_at hl 0 rfl) ?_
  refine q_iload_n hM dX4_read_1 (lv_at hl 1 rfl) ?_
  refine q_aload_n hM dX4_read_2 (lv_at hl 0 rfl) ?_
  refine w_get (v := .ref (ad 2)) hM hW FG_X4_9 lb_79 (rf_79_0 hW.2.1) dX4_read_3 ?_
  refine q_alen (v := (260 : Int32)) hM hW.1 lb_2.1 (shA hW.2.1 lb_2) (by decide) dX4_read_6 ?_
  refine q_mmin hM hR hC (kAW (v_2_0 (List.mem_of_getElem? (i := 7) rfl)) rfl) hl.1 (by decide) (Nat.le_of_ble_eq_true rfl) dX4_read_7 (fun r4428 hr4428 => ?_)
  have := kc_260
  refine w_put hM hW FP_X4_19 lb_79 (by omega) (Or.inl ⟨_, rfl⟩) rfl rfl dX4_read_10 (fun g4429 H locs hW e1 e2 => ?_)
  have f4430 : fld g4429 79 1 = .int r4428 := e1
  have hG := hG.put e1 e2 rF_79_1 (by decide) (by have := i_rng r4428; omega) (by have := i_rng r4428; omega)
  refine q_aload_n hM dX4_read_13 (lv_at hl 0 rfl) ?_
  refine q_iconst (v := (0 : Int32)) hM dX4_read_14 (by decide) ?_
  refine w_put hM hW FP_X4_23 lb_79 (by omega) (Or.inl ⟨_, rfl⟩) rfl rfl dX4_read_15 (fun g4431 H locs hW e1 e2 => ?_)
  have f4432 : fld g4431 79 1 = .int r4428 := (e2.1 79 1 (by unfold Only; omega)).trans f4430
  have f4433 : fld g4431 79 2 = .int (0 : Int32) := e1
  have hG := hG.put e1 e2 rF_79_2 (by decide) (by have := kc_0; have := i_rng (0 : Int32); omega) (by have := kc_0; have := i_rng (0 : Int32); omega)
  refine q_aload_n hM dX4_read_18 (lv_at hl 0 rfl) ?_
  refine q_aload_n hM dX4_read_19 (lv_at hl 2 rfl) ?_
  refine w_put hM hW FP_X4_15 lb_79 (by omega) (Or.inr (by decide)) rfl rfl dX4_read_20 (fun g4434 H locs hW e1 e2 => ?_)
  have f4435 : fld g4434 79 1 = .int r4428 := (e2.1 79 1 (by unfold Only; omega)).trans f4432
  have f4436 : fld g4434 79 2 = .int (0 : Int32) := (e2.1 79 2 (by unfold Only; omega)).trans f4433
  have f4437 : fld g4434 79 4 = .ref (ad lw) := e1
  have hG := hG.putR e1 e2 (rfl : rF 79 4 = (-2147483648, 2147483647)) (by decide)
  refine q_aload_n hM dX4_read_23 (lv_at hl 0 rfl) ?_
  refine w_get (v := .ref (ad lw)) hM hW FG_X4_15 lb_79 f4437 dX4_read_24 ?_
  refine q_iconst (v := (0 : Int32)) hM dX4_read_27 (by decide) ?_
  refine w_put hM hW FP_X4_35 (lo_Lw hlw) (by omega) (Or.inl ⟨_, rfl⟩) rfl rfl dX4_read_28 (fun g4438 H locs hW e1 e2 => ?_)
  have f4439 : fld g4438 79 1 = .int r4428 := (e2.1 79 1 (by unfold Only; omega)).trans f4435
  have f4440 : fld g4438 79 2 = .int (0 : Int32) := (e2.1 79 2 (by unfold Only; omega)).trans f4436
  have f4441 : fld g4438 79 4 = .ref (ad lw) := (e2.1 79 4 (by unfold Only; omega)).trans f4437
  have f4442 : fld g4438 lw 7 = .int (0 : Int32) := e1
  have hG := hG.put e1 e2 (rF_Lw_7 hlw) (by decide) (by have := kc_0; have := i_rng (0 : Int32); omega) (by have := kc_0; have := i_rng (0 : Int32); omega)
  refine q_aload_n hM dX4_read_31 (lv_at hl 0 rfl) ?_
  refine w_get (v := .ref (ad lw)) hM hW FG_X4_15 lb_79 f4441 dX4_read_32 ?_
  refine q_iconst (v := (0 : Int32)) hM dX4_read_35 (by decide) ?_
  refine w_put hM hW FP_X4_40 (lo_Lw hlw) (by omega) (Or.inl ⟨_, rfl⟩) rfl rfl dX4_read_36 (fun g4443 H locs hW e1 e2 => ?_)
  have f4444 : fld g4443 79 1 = .int r4428 := (e2.1 79 1 (by unfold Only; omega)).trans f4439
  have f4445 : fld g4443 79 2 = .int (0 : Int32) := (e2.1 79 2 (by unfold Only; omega)).trans f4440
  have f4446 : fld g4443 79 4 = .ref (ad lw) := (e2.1 79 4 (by unfold Only; omega)).trans f4441
  have f4447 : fld g4443 lw 7 = .int (0 : Int32) := (e2.1 lw 7 (by unfold Only; omega)).trans f4442
  have f4448 : fld g4443 lw 6 = .int (0 : Int32) := e1
  have hG := hG.put e1 e2 (rF_Lw_6 hlw) (by decide) (by have := kc_0; have := i_rng (0 : Int32); omega) (by have := kc_0; have := i_rng (0 : Int32); omega)
  refine q_iconst (v := (0 : Int32)) hM dX4_read_39 (by decide) ?_
  refine q_istore_n (lv9 := [(3, .int (0 : Int32)), (0, .ref (ad 79)), (1, .int n), (2, .ref (ad lw))]) hM dX4_read_40 hl (by decide) rfl (fun ls hl => ?_)
  have L41 : ∀ (fu41 : Nat) (w41_3 : Int32) (ee : Int32) (aa : Int32) (g9 : Nat → va_E) (H : Heap) (locs : List Loc) (ls : Array Slot), (17 - w41_3.toInt).toNat < fu41 → (Rng g9) → (0 ≤ w41_3.toInt) → (w41_3.toInt ≤ 17) → (0 ≤ aa.toInt) → (aa.toInt ≤ ee.toInt) → (ee.toInt ≤ 240) → (fld g9 79 1 = .int ee) → (fld g9 79 2 = .int aa) → (fld g9 79 4 = .ref (ad lw)) → lv_has ls 4 [(0, .ref (ad 79)), (1, .int n), (2, .ref (ad lw)), (3, .int w41_3)] → WS ad cA (fun i k => (i = 79 ∧ (k = 1 ∨ k = 2 ∨ k = 3 ∨ k = 4)) ∨ (i = lw ∧ (k = 6 ∨ k = 7)) ∨ i = (lw + 1) ∨ i = (lw + 2) ∨ i = (lw + 3) ∨ i = (lw + 4) ∨ i = (lw + 5)) g0 K g9 H locs → XX K 0 0 H locs 41 ls [] := by
    intro fu41
    induction fu41 with
    | zero => intro w41_3 ee aa g9 H locs ls h0; omega
    | succ fu41 ih41 =>
      intro w41_3 ee aa g9 H locs ls hm41 i41_0 i41_1 i41_2 i41_3 i41_4 i41_5 c41_79_1 c41_79_2 c41_79_4 hl hW
      have hG := i41_0
      refine q_iload_n hM dX4_read_41 (lv_at hl 3 rfl) ?_
      refine q_bipush (v := (16 : Int32)) hM dX4_read_42 (by decide) ?_
      refine q_icmp_gt (tgt := 130) hM dX4_read_44 (by decide) (rfl : w41_3.toInt = w41_3.toInt) (kc_16 : (16 : Int32).toInt = 16) (fun h44 => ?_) (fun h44 => ?_)
      · refine q_aload_n hM dX4_read_130 (lv_at hl 0 rfl) ?_
        refine w_getI hM hW FG_X4_26 lb_79 (by decide) (by decide) dX4_read_131 (fun x4451 fx4451 => ?_)
        exact hE _ _ _ _ _ _ hW.1 ⟨_, rfl, hW.2.1, hG, hW.2.2⟩ dX4_read_134
      · refine q_aload_n hM dX4_read_47 (lv_at hl 0 rfl) ?_
        refine q_iload_n hM dX4_read_48 (lv_at hl 3 rfl) ?_
        refine q_callV (As := [.int w41_3]) (rest := []) hM hW.1 hR hC myX4_clause (kAW (v_2_0 (List.mem_of_getElem? (i := 8) rfl)) rfl) (rfl : vwCl[4]? = some (RX4, TX4, 5)) rfl lb_79.1 (shO hW.2.1 lb_79) (a_X4_clause _ _ cA ad g9 w41_3 ee aa lw hW.2.1 hG hlw c41_79_1 c41_79_2 c41_79_4 (by  omega) (by  omega) (by  omega) (by  omega) (by  omega)) ⟨by decide, by decide⟩ rfl rfl hl.1 (Nat.le_of_ble_eq_true rfl) dX4_read_49 (fun v g4458 H locs hp hW1 => ?_)
        obtain ⟨v4453, r4454, rfl, hs1, hG, hf1, q4455, e4456, e4457, hr4454⟩ := hp
        have f4459 : fld g4458 79 1 = .int ee := (hf1.1 79 1 (by omega)).trans c41_79_1
        have f4460 : fld g4458 79 4 = .ref (ad lw) := (hf1.1 79 4 (by omega)).trans c41_79_4
        have hW : WS ad cA (fun i k => (i = 79 ∧ (k = 1 ∨ k = 2 ∨ k = 3 ∨ k = 4)) ∨ (i = lw ∧ (k = 6 ∨ k = 7)) ∨ i = (lw + 1) ∨ i = (lw + 2) ∨ i = (lw + 3) ∨ i = (lw + 4) ∨ i = (lw + 5)) g0 K g4458 H locs := ⟨hW1, hs1, hW.2.2.tr hf1 (fun i k h => h.elim (fun h => (Or.inl (by omega))) (fun h => h.elim (fun h => (Or.inr (Or.inl (by omega)))) (fun h => h.elim (fun h => (Or.inr (Or.inr (Or.inr (Or.inr (Or.inr (Or.inl h))))))) (fun h => h.elim (fun h => (Or.inr (Or.inr (Or.inr (Or.inr (Or.inr (Or.inr h))))))) (fun h => h.elim (fun h => (Or.inr (Or.inr (Or.inl h)))) (fun h => h.elim (fun h => (Or.inr (Or.inr (Or.inr (Or.inl h))))) (fun h => (Or.inr (Or.inr (Or.inr (Or.inr (Or.inl h))))))))))))⟩
        refine q_if_ne (tgt := 60) hM dX4_read_52 (by decide) (rfl : r4454.toInt = r4454.toInt) (fun h52 => ?_) (fun h52 => ?_)
        · refine q_aload_n hM dX4_read_60 (lv_at hl 0 rfl) ?_
          refine w_get (v := .ref (ad lw)) hM hW FG_X4_15 lb_79 f4460 dX4_read_61 ?_
          refine q_iload_n hM dX4_read_64 (lv_at hl 3 rfl) ?_
          refine q_iconst (v := (1 : Int32)) hM dX4_read_65 (by decide) ?_
          refine q_iadd hM dX4_read_66 (fun z4462 hz4462 => ?_)
          first | have tz4462 := i_addT hz4462 (rfl : w41_3.toInt = w41_3.toInt) (kc_1 : (1 : Int32).toInt = 1) (by omega) (by omega) | skip
          refine w_put hM hW FP_X4_40 (lo_Lw hlw) (by omega) (Or.inl ⟨_, rfl⟩) rfl rfl dX4_read_67 (fun g4463 H locs hW e1 e2 => ?_)
          have f4464 : fld g4463 79 1 = .int ee := (e2.1 79 1 (by unfold Only; omega)).trans f4459
          have f4465 : fld g4463 79 4 = .ref (ad lw) := (e2.1 79 4 (by unfold Only; omega)).trans f4460
          have f4466 : fld g4463 79 2 = .int v4453 := (e2.1 79 2 (by unfold Only; omega)).trans q4455
          have f4467 : fld g4463 lw 6 = .int z4462 := e1
          have hG := hG.put e1 e2 (rF_Lw_6 hlw) (by decide) (by have := i_rng z4462; omega) (by have := i_rng z4462; omega)
          refine q_aload_n hM dX4_read_70 (lv_at hl 0 rfl) ?_
          refine w_get (v := .int v4453) hM hW FG_X4_23 lb_79 f4466 dX4_read_71 ?_
          have bv4453 := hG.f f4466 rF_79_2 (by decide)
          refine q_aload_n hM dX4_read_74 (lv_at hl 0 rfl) ?_
          refine w_get (v := .int ee) hM hW FG_X4_19 lb_79 f4464 dX4_read_75 ?_
          have bee := hG.f f4464 rF_79_1 (by decide)
          refine q_icmp_ne (tgt := 89) hM dX4_read_78 (by decide) (rfl : v4453.toInt = v4453.toInt) (rfl : ee.toInt = ee.toInt) (fun h78 => ?_) (fun h78 => ?_)
          · refine q_aload_n hM dX4_read_89 (lv_at hl 0 rfl) ?_
            refine w_get (v := .ref (ad 2)) hM hW FG_X4_9 lb_79 (rf_79_0 hW.2.1) dX4_read_90 ?_
            refine q_aload_n hM dX4_read_93 (lv_at hl 0 rfl) ?_
            refine w_get (v := .int v4453) hM hW FG_X4_23 lb_79 f4466 dX4_read_94 ?_
            have bv4453 := hG.f f4466 rF_79_2 (by decide)
            refine w_iald hM hW lb_2 (i_in (by omega) (by omega)) dX4_read_97 ?_
            refine q_top (fun y4469 hy4469 => ?_)
            have by4469 := hG.a hy4469 rA_2
            have cy4469 := congrArg Int32.toInt hy4469
            refine q_bipush (v := (59 : Int32)) hM dX4_read_98 (by decide) ?_
            refine q_icmp_eq (tgt := 114) hM dX4_read_100 (by decide) (rfl : y4469.toInt = y4469.toInt) (kc_59 : (59 : Int32).toInt = 59) (fun h100 => ?_) (fun h100 => ?_)
            · refine q_aload_n hM dX4_read_114 (lv_at hl 0 rfl) ?_
              refine q_dup hM dX4_read_115 rfl ?_
              refine w_get (v := .int v4453) hM hW FG_X4_23 lb_79 f4466 dX4_read_116 ?_
              have bv4453 := hG.f f4466 rF_79_2 (by decide)
              refine q_iconst (v := (1 : Int32)) hM dX4_read_119 (by decide) ?_
              refine q_iadd hM dX4_read_120 (fun z4471 hz4471 => ?_)
              first | have tz4471 := i_addT hz4471 (rfl : v4453.toInt = v4453.toInt) (kc_1 : (1 : Int32).toInt = 1) (by omega) (by omega) | skip
              refine w_put hM hW FP_X4_23 lb_79 (by omega) (Or.inl ⟨_, rfl⟩) rfl rfl dX4_read_121 (fun g4472 H locs hW e1 e2 => ?_)
              have f4473 : fld g4472 79 1 = .int ee := (e2.1 79 1 (by unfold Only; omega)).trans f4464
              have f4474 : fld g4472 79 4 = .ref (ad lw) := (e2.1 79 4 (by unfold Only; omega)).trans f4465
              have f4475 : fld g4472 lw 6 = .int z4462 := (e2.1 lw 6 (by unfold Only; omega)).trans f4467
              have f4476 : fld g4472 79 2 = .int z4471 := e1
              have hG := hG.put e1 e2 rF_79_2 (by decide) (by have := i_rng z4471; omega) (by have := i_rng z4471; omega)
              refine q_iinc (lv9 := fun z4477 => [(3, .int z4477), (0, .ref (ad 79)), (1, .int n), (2, .ref (ad lw))]) hM dX4_read_124 hl (kq := 3) rfl (by decide) (fun _ => rfl) (fun z4477 ls hz4477 hl => ?_)
              first | have tz4477 := i_addT hz4477 (rfl : w41_3.toInt = w41_3.toInt) (kc_1 : (Int32.ofInt 1).toInt = 1) (by omega) (by omega) | skip
              refine q_goto (tgt := 41) hM dX4_read_127 (by decide) ?_
              exact ih41 z4477 ee z4471 _ _ _ _ (by omega) hG (by omega) (by omega) (by omega) (by omega) (by omega) f4473 f4476 f4474 (lv_sub hl [1, 2, 3, 0] rfl) hW
            · refine q_aload_n hM dX4_read_103 (lv_at hl 0 rfl) ?_
              refine q_iconst (v := (1 : Int32)) hM dX4_read_104 (by decide) ?_
              refine q_callV (As := [.int (1 : Int32)]) (rest := []) hM hW.1 hR hC myX4_wrong (kAW (v_2_6 (List.mem_of_getElem? (i := 8) rfl)) rfl) (rfl : vwCl[4]? = some (RX4, TX4, 5)) rfl lb_79.1 (shO hW.2.1 lb_79) (a_X4_wrong _ _ cA ad g4463 (1 : Int32) hW.2.1 hG) ⟨by decide, by decide⟩ rfl rfl hl.1 (Nat.le_of_ble_eq_true rfl) dX4_read_105 (fun v g4480 H locs hp hW1 => ?_)
              obtain ⟨r4479, rfl, hs1, hG, hf1, hr4479⟩ := hp
              have f4481 : fld g4480 79 1 = .int ee := (hf1.1 79 1 (by omega)).trans f4464
              have f4482 : fld g4480 79 4 = .ref (ad lw) := (hf1.1 79 4 (by omega)).trans f4465
              have f4483 : fld g4480 79 2 = .int v4453 := (hf1.1 79 2 (by omega)).trans f4466
              have f4484 : fld g4480 lw 6 = .int z4462 := (hf1.1 lw 6 (by omega)).trans f4467
              have hW : WS ad cA (fun i k => (i = 79 ∧ (k = 1 ∨ k = 2 ∨ k = 3 ∨ k = 4)) ∨ (i = lw ∧ (k = 6 ∨ k = 7)) ∨ i = (lw + 1) ∨ i = (lw + 2) ∨ i = (lw + 3) ∨ i = (lw + 4) ∨ i = (lw + 5)) g0 K g4480 H locs := ⟨hW1, hs1, hW.2.2.tr hf1 (fun i k h => (Or.inl (by omega)))⟩
              refine q_pop hM dX4_read_108 rfl ?_
              refine q_aload_n hM dX4_read_109 (lv_at hl 0 rfl) ?_
              refine w_getI hM hW FG_X4_26 lb_79 (by decide) (by decide) dX4_read_110 (fun x4485 fx4485 => ?_)
              exact hE _ _ _ _ _ _ hW.1 ⟨_, rfl, hW.2.1, hG, hW.2.2⟩ dX4_read_113
          · refine q_aload_n hM dX4_read_81 (lv_at hl 0 rfl) ?_
            refine w_get (v := .ref (ad lw)) hM hW FG_X4_15 lb_79 f4465 dX4_read_82 ?_
            refine w_get (v := .int z4462) hM hW FG_X4_40 (lo_Lw hlw) f4467 dX4_read_85 ?_
            have bz4462 := hG.f f4467 (rF_Lw_6 hlw) (by decide)
            exact hE _ _ _ _ _ _ hW.1 ⟨_, rfl, hW.2.1, hG, hW.2.2⟩ dX4_read_88
        · refine q_aload_n hM dX4_read_55 (lv_at hl 0 rfl) ?_
          refine w_getI hM hW FG_X4_26 lb_79 (by decide) (by decide) dX4_read_56 (fun x4488 fx4488 => ?_)
          exact hE _ _ _ _ _ _ hW.1 ⟨_, rfl, hW.2.1, hG, hW.2.2⟩ dX4_read_59
  have := kc_0
  have := kc_0
  exact L41 _ (0 : Int32) r4428 (0 : Int32) _ _ _ _ (Nat.lt_succ_self _) hG (by omega) (by omega) (by omega) (by omega) (by omega) f4444 f4445 f4446 (lv_sub hl [1, 2, 3, 0] rfl) hW
