
set_option maxRecDepth 100000 in
set_option maxHeartbeats 4000000 in
theorem a_X0_add2 (l : Launch) (D : va_G) (cA : Nat → ClassId) (ad : Nat → Nat) (g0 : Nat → va_E) (wy : Int32) (wh : Int32) (c0 : Int32)  (hSh : Shp ad cA g0) (hG : Rng g0) (h_c0 : fld g0 75 2 = .int c0) : CT l NN ad cA D yX0_add cX0_add 3 (some FieldType.boolean) (0, 0) [.ref (ad 75), .int wy, .int wh] g0 (fun v g' => ∃ (c9 : Int32) (r : Int32), v = some (.int r) ∧ Shp ad cA g' ∧ Rng g' ∧ FR (fun i k => (i = 75 ∧ (k = 2)) ∨ i = 76 ∨ i = 77) g0 g' ∧ fld g' 75 2 = .int c9 ∧ (c0.toInt ≤ c9.toInt) ∧ (r.toInt = 0 ∨ r.toInt = 1)) := by
  refine q_enterZ (by decide) (Nat.le_of_ble_eq_true rfl) (fun K H locs ls _ _ hM hW0 hR hC hE hl => ?_)
  have hl : lv_has ls 3 [(0, .ref (ad 75)), (1, .int wy), (2, .int wh)] := hl
  have hW : WS ad cA (fun i k => (i = 75 ∧ (k = 2)) ∨ i = 76 ∨ i = 77) g0 K g0 H locs := ⟨hW0, hSh, FR.rf⟩
  have b_c0 := hG.f h_c0 rF_75_2 (by decide)
  have f1693 : fld g0 75 2 = .int c0 := h_c0
  refine q_aload_n hM dX0_add_0 (lv_at hl 0 rfl) ?_
  refine w_get (v := .int c0) hM hW FG_X0_16 lb_75 f1693 dX0_add_1 ?_
  have bc0 := hG.f f1693 rF_75_2 (by decide)
  refine q_bipush (v := (48 : Int32)) hM dX0_add_4 (by decide) ?_
  refine q_icmp_lt (tgt := 11) hM dX0_add_6 (by decide) (rfl : c0.toInt = c0.toInt) (kc_48 : (48 : Int32).toInt = 48) (fun h6 => ?_) (fun h6 => ?_)
  · refine q_aload_n hM dX0_add_11 (lv_at hl 0 rfl) ?_
    refine w_get (v := .ref (ad 76)) hM hW FG_X0_9 lb_75 (rf_75_0 hW.2.1) dX0_add_12 ?_
    refine q_aload_n hM dX0_add_15 (lv_at hl 0 rfl) ?_
    refine w_get (v := .int c0) hM hW FG_X0_16 lb_75 f1693 dX0_add_16 ?_
    have bc0 := hG.f f1693 rF_75_2 (by decide)
    refine q_iload_n hM dX0_add_19 (lv_at hl 1 rfl) ?_
    refine w_iast hM hW lb_76 (by omega) (i_in (by omega) (by omega)) dX0_add_20 (fun g1695 H locs hW e1 e2 => ?_)
    have f1696 : fld g1695 75 2 = .int c0 := (e2.1 75 2 (by unfold Only; omega)).trans f1693
    have hG := hG.st e1 e2 (rfl : rA 76 = (-2147483648, 2147483647)) (by have := i_rng wy; omega) (by have := i_rng wy; omega)
    refine q_aload_n hM dX0_add_21 (lv_at hl 0 rfl) ?_
    refine w_get (v := .ref (ad 77)) hM hW FG_X0_13 lb_75 (rf_75_1 hW.2.1) dX0_add_22 ?_
    refine q_aload_n hM dX0_add_25 (lv_at hl 0 rfl) ?_
    refine w_get (v := .int c0) hM hW FG_X0_16 lb_75 f1696 dX0_add_26 ?_
    have bc0 := hG.f f1696 rF_75_2 (by decide)
    refine q_iload_n hM dX0_add_29 (lv_at hl 2 rfl) ?_
    refine w_iast hM hW lb_77 (by omega) (i_in (by omega) (by omega)) dX0_add_30 (fun g1697 H locs hW e1 e2 => ?_)
    have f1698 : fld g1697 75 2 = .int c0 := (e2.1 75 2 (by unfold Only; omega)).trans f1696
    have hG := hG.st e1 e2 (rfl : rA 77 = (-2147483648, 2147483647)) (by have := i_rng wh; omega) (by have := i_rng wh; omega)
    refine q_aload_n hM dX0_add_31 (lv_at hl 0 rfl) ?_
    refine q_dup hM dX0_add_32 rfl ?_
    refine w_get (v := .int c0) hM hW FG_X0_16 lb_75 f1698 dX0_add_33 ?_
    have bc0 := hG.f f1698 rF_75_2 (by decide)
    refine q_iconst (v := (1 : Int32)) hM dX0_add_36 (by decide) ?_
    refine q_iadd hM dX0_add_37 (fun z1699 hz1699 => ?_)
    first | have tz1699 := i_addT hz1699 (rfl : c0.toInt = c0.toInt) (kc_1 : (1 : Int32).toInt = 1) (by omega) (by omega) | skip
    refine w_put hM hW FP_X0_16 lb_75 (by omega) (Or.inl ⟨_, rfl⟩) rfl rfl dX0_add_38 (fun g1700 H locs hW e1 e2 => ?_)
    have f1701 : fld g1700 75 2 = .int z1699 := e1
    have hG := hG.put e1 e2 rF_75_2 (by decide) (by have := i_rng z1699; omega) (by have := i_rng z1699; omega)
    refine q_iconst (v := (1 : Int32)) hM dX0_add_41 (by decide) ?_
    exact hE _ _ _ _ _ _ hW.1 nz_1 ⟨z1699, _, rfl, hW.2.1, hG, hW.2.2, f1701, (by have := kc_1; omega), (by have := kc_1; omega)⟩ dX0_add_42
  · refine q_iconst (v := (0 : Int32)) hM dX0_add_9 (by decide) ?_
    exact hE _ _ _ _ _ _ hW.1 nz_0 ⟨c0, _, rfl, hW.2.1, hG, hW.2.2, f1693, (by have := kc_0; omega), (by have := kc_0; omega)⟩ dX0_add_10

theorem dX0_multiply_0 : decode cX0_multiply 0 = .ok (.aload_n 0, 1) := by decide +kernel
theorem dX0_multiply_1 : decode cX0_multiply 1 = .ok (.getfield 16, 3) := by decide +kernel
theorem dX0_multiply_4 : decode cX0_multiply 4 = .ok (.iload_n 1, 1) := by decide +kernel
theorem dX0_multiply_5 : decode cX0_multiply 5 = .ok (.isub, 1) := by decide +kernel
theorem dX0_multiply_6 : decode cX0_multiply 6 = .ok (.istore_n 3, 1) := by decide +kernel
theorem dX0_multiply_7 : decode cX0_multiply 7 = .ok (.iload_n 1, 1) := by decide +kernel
theorem dX0_multiply_8 : decode cX0_multiply 8 = .ok (.ifCond .lt 13, 3) := by decide +kernel
theorem dX0_multiply_11 : decode cX0_multiply 11 = .ok (.iload_n 1, 1) := by decide +kernel
theorem dX0_multiply_12 : decode cX0_multiply 12 = .ok (.iload_n 3, 1) := by decide +kernel
theorem dX0_multiply_13 : decode cX0_multiply 13 = .ok (.iload_n 2, 1) := by decide +kernel
theorem dX0_multiply_14 : decode cX0_multiply 14 = .ok (.imul, 1) := by decide +kernel
theorem dX0_multiply_15 : decode cX0_multiply 15 = .ok (.iadd, 1) := by decide +kernel
theorem dX0_multiply_16 : decode cX0_multiply 16 = .ok (.bipush 48, 2) := by decide +kernel
theorem dX0_multiply_18 : decode cX0_multiply 18 = .ok (.if_icmp .le 5, 3) := by decide +kernel
theorem dX0_multiply_21 : decode cX0_multiply 21 = .ok (.iconst 0, 1) := by decide +kernel
theorem dX0_multiply_22 : decode cX0_multiply 22 = .ok (.ireturn, 1) := by decide +kernel
theorem dX0_multiply_23 : decode cX0_multiply 23 = .ok (.iload_n 1, 1) := by decide +kernel
theorem dX0_multiply_24 : decode cX0_multiply 24 = .ok (.iload_n 3, 1) := by decide +kernel
theorem dX0_multiply_25 : decode cX0_multiply 25 = .ok (.iload_n 2, 1) := by decide +kernel
theorem dX0_multiply_26 : decode cX0_multiply 26 = .ok (.imul, 1) := by decide +kernel
theorem dX0_multiply_27 : decode cX0_multiply 27 = .ok (.iadd, 1) := by decide +kernel
theorem dX0_multiply_28 : decode cX0_multiply 28 = .ok (.istore 4, 2) := by decide +kernel
theorem dX0_multiply_30 : decode cX0_multiply 30 = .ok (.aload_n 0, 1) := by decide +kernel
theorem dX0_multiply_31 : decode cX0_multiply 31 = .ok (.getfield 16, 3) := by decide +kernel
theorem dX0_multiply_34 : decode cX0_multiply 34 = .ok (.istore 5, 2) := by decide +kernel
theorem dX0_multiply_36 : decode cX0_multiply 36 = .ok (.iload 5, 2) := by decide +kernel
theorem dX0_multiply_38 : decode cX0_multiply 38 = .ok (.iload 4, 2) := by decide +kernel
theorem dX0_multiply_40 : decode cX0_multiply 40 = .ok (.if_icmp .ge 41, 3) := by decide +kernel
theorem dX0_multiply_43 : decode cX0_multiply 43 = .ok (.aload_n 0, 1) := by decide +kernel
theorem dX0_multiply_44 : decode cX0_multiply 44 = .ok (.getfield 9, 3) := by decide +kernel
theorem dX0_multiply_47 : decode cX0_multiply 47 = .ok (.iload 5, 2) := by decide +kernel
theorem dX0_multiply_49 : decode cX0_multiply 49 = .ok (.aload_n 0, 1) := by decide +kernel
theorem dX0_multiply_50 : decode cX0_multiply 50 = .ok (.getfield 9, 3) := by decide +kernel
theorem dX0_multiply_53 : decode cX0_multiply 53 = .ok (.iload 5, 2) := by decide +kernel
theorem dX0_multiply_55 : decode cX0_multiply 55 = .ok (.iload_n 3, 1) := by decide +kernel
theorem dX0_multiply_56 : decode cX0_multiply 56 = .ok (.isub, 1) := by decide +kernel
theorem dX0_multiply_57 : decode cX0_multiply 57 = .ok (.iaload, 1) := by decide +kernel
theorem dX0_multiply_58 : decode cX0_multiply 58 = .ok (.iastore, 1) := by decide +kernel
theorem dX0_multiply_59 : decode cX0_multiply 59 = .ok (.aload_n 0, 1) := by decide +kernel
theorem dX0_multiply_60 : decode cX0_multiply 60 = .ok (.getfield 13, 3) := by decide +kernel
theorem dX0_multiply_63 : decode cX0_multiply 63 = .ok (.iload 5, 2) := by decide +kernel
theorem dX0_multiply_65 : decode cX0_multiply 65 = .ok (.aload_n 0, 1) := by decide +kernel
theorem dX0_multiply_66 : decode cX0_multiply 66 = .ok (.getfield 13, 3) := by decide +kernel
theorem dX0_multiply_69 : decode cX0_multiply 69 = .ok (.iload 5, 2) := by decide +kernel
theorem dX0_multiply_71 : decode cX0_multiply 71 = .ok (.iload_n 3, 1) := by decide +kernel
theorem dX0_multiply_72 : decode cX0_multiply 72 = .ok (.isub, 1) := by decide +kernel
theorem dX0_multiply_73 : decode cX0_multiply 73 = .ok (.iaload, 1) := by decide +kernel
theorem dX0_multiply_74 : decode cX0_multiply 74 = .ok (.iastore, 1) := by decide +kernel
theorem dX0_multiply_75 : decode cX0_multiply 75 = .ok (.iinc 5 1, 3) := by decide +kernel
theorem dX0_multiply_78 : decode cX0_multiply 78 = .ok (.goto (-42), 3) := by decide +kernel
theorem dX0_multiply_81 : decode cX0_multiply 81 = .ok (.aload_n 0, 1) := by decide +kernel
theorem dX0_multiply_82 : decode cX0_multiply 82 = .ok (.iload 4, 2) := by decide +kernel
theorem dX0_multiply_84 : decode cX0_multiply 84 = .ok (.putfield 16, 3) := by decide +kernel
theorem dX0_multiply_87 : decode cX0_multiply 87 = .ok (.iconst 1, 1) := by decide +kernel
theorem dX0_multiply_88 : decode cX0_multiply 88 = .ok (.ireturn, 1) := by decide +kernel
set_option maxRecDepth 100000 in
set_option maxHeartbeats 4000000 in
theorem a_X0_multiply (l : Launch) (D : va_G) (cA : Nat → ClassId) (ad : Nat → Nat) (g0 : Nat → va_E) (fr : Int32) (ti : Int32) (c0 : Int32)  (hSh : Shp ad cA g0) (hG : Rng g0) (h_c0 : fld g0 75 2 = .int c0) (fr0 : 0 ≤ fr.toInt) (fr1 : fr.toInt ≤ c0.toInt) (ti0 : 1 ≤ ti.toInt) (ti1 : ti.toInt ≤ 9) : CT l NN ad cA D yX0_multiply cX0_multiply 6 (some FieldType.boolean) (0, 0) [.ref (ad 75), .int fr, .int ti] g0 (fun v g' => ∃ (c9 : Int32) (r : Int32), v = some (.int r) ∧ Shp ad cA g' ∧ Rng g' ∧ FR (fun i k => (i = 75 ∧ (k = 2)) ∨ i = 76 ∨ i = 77) g0 g' ∧ fld g' 75 2 = .int c9 ∧ (fr.toInt ≤ c9.toInt) ∧ (r.toInt = 0 ∨ r.toInt = 1)) := by
  refine q_enterZ (by decide) (Nat.le_of_ble_eq_true rfl) (fun K H locs ls _ _ hM hW0 hR hC hE hl => ?_)
  have hl : lv_has ls 6 [(0, .ref (ad 75)), (1, .int fr), (2, .int ti)] := hl
  have hW : WS ad cA (fun i k => (i = 75 ∧ (k = 2)) ∨ i = 76 ∨ i = 77) g0 K g0 H locs := ⟨hW0, hSh, FR.rf⟩
  have b_c0 := hG.f h_c0 rF_75_2 (by decide)
  have f1703 : fld g0 75 2 = .int c0 := h_c0
  refine q_aload_n hM dX0_multiply_0 (lv_at hl 0 rfl) ?_
  refine w_get (v := .int c0) hM hW FG_X0_16 lb_75 f1703 dX0_multiply_1 ?_
  have bc0 := hG.f f1703 rF_75_2 (by decide)
  refine q_iload_n hM dX0_multiply_4 (lv_at hl 1 rfl) ?_
  refine q_isub hM dX0_multiply_5 (fun z1704 hz1704 => ?_)
  first | have tz1704 := i_subT hz1704 (rfl : c0.toInt = c0.toInt) (rfl : fr.toInt = fr.toInt) (by omega) (by omega) | skip
  refine q_istore_n (lv9 := [(3, .int z1704), (0, .ref (ad 75)), (1, .int fr), (2, .int ti)]) hM dX0_multiply_6 hl (by decide) rfl (fun ls hl => ?_)
  refine q_iload_n hM dX0_multiply_7 (lv_at hl 2 rfl) ?_
  refine q_if_lt (tgt := 21) hM dX0_multiply_8 (by decide) (rfl : fr.toInt = fr.toInt) (fun h8 => ?_) (fun h8 => ?_)
  · refine q_iconst (v := (0 : Int32)) hM dX0_multiply_21 (by decide) ?_
    exact hE _ _ _ _ _ _ hW.1 nz_0 ⟨c0, _, rfl, hW.2.1, hG, hW.2.2, f1703, (by have := kc_0; omega), (by have := kc_0; omega)⟩ dX0_multiply_22
  · refine q_iload_n hM dX0_multiply_11 (lv_at hl 2 rfl) ?_
    refine q_iload_n hM dX0_multiply_12 (lv_at hl 0 rfl) ?_
    refine q_iload_n hM dX0_multiply_13 (lv_at hl 3 rfl) ?_
    refine q_imul hM dX0_multiply_14 (fun z1707 hz1707 => ?_)
    first | have tz1707 := i_mulT hz1707 (rfl : z1704.toInt = z1704.toInt) (rfl : ti.toInt = ti.toInt) (by omega) (by omega) | skip
    have mbz1707 := i_mulB hz1707 48 9 (by omega) (by omega) (by omega) (by omega) (by decide)
    refine q_iadd hM dX0_multiply_15 (fun z1708 hz1708 => ?_)
    first | have tz1708 := i_addT hz1708 (rfl : fr.toInt = fr.toInt) (rfl : z1707.toInt = z1707.toInt) (by omega) (by omega) | skip
    refine q_bipush (v := (48 : Int32)) hM dX0_multiply_16 (by decide) ?_
    refine q_icmp_le (tgt := 23) hM dX0_multiply_18 (by decide) (rfl : z1708.toInt = z1708.toInt) (kc_48 : (48 : Int32).toInt = 48) (fun h18 => ?_) (fun h18 => ?_)
    · refine q_iload_n hM dX0_multiply_23 (lv_at hl 2 rfl) ?_
      refine q_iload_n hM dX0_multiply_24 (lv_at hl 0 rfl) ?_
      refine q_iload_n hM dX0_multiply_25 (lv_at hl 3 rfl) ?_
      refine q_imul hM dX0_multiply_26 (fun z1710 hz1710 => ?_)
      first | have tz1710 := i_mulT hz1710 (rfl : z1704.toInt = z1704.toInt) (rfl : ti.toInt = ti.toInt) (by omega) (by omega) | skip
      have ezz1710 : z1710.toInt = z1707.toInt := by rw [← hz1710, ← hz1707]
      refine q_iadd hM dX0_multiply_27 (fun z1711 hz1711 => ?_)
      first | have tz1711 := i_addT hz1711 (rfl : fr.toInt = fr.toInt) (rfl : z1710.toInt = z1710.toInt) (by omega) (by omega) | skip
      refine q_istore (lv9 := [(4, .int z1711), (3, .int z1704), (0, .ref (ad 75)), (1, .int fr), (2, .int ti)]) hM dX0_multiply_28 hl (by decide) rfl (fun ls hl => ?_)
      refine q_aload_n hM dX0_multiply_30 (lv_at hl 2 rfl) ?_
      refine w_get (v := .int c0) hM hW FG_X0_16 lb_75 f1703 dX0_multiply_31 ?_
      have bc0 := hG.f f1703 rF_75_2 (by decide)
      refine q_istore (lv9 := [(5, .int c0), (4, .int z1711), (3, .int z1704), (0, .ref (ad 75)), (1, .int fr), (2, .int ti)]) hM dX0_multiply_34 hl (by decide) rfl (fun ls hl => ?_)
      have L36 : ∀ (fu36 : Nat) (w36_5 : Int32) (g9 : Nat → va_E) (H : Heap) (locs : List Loc) (ls : Array Slot), (z1711.toInt - w36_5.toInt + 1).toNat < fu36 → (Rng g9) → (c0.toInt ≤ w36_5.toInt) → (c0.toInt ≤ w36_5.toInt) → lv_has ls 6 [(0, .ref (ad 75)), (1, .int fr), (2, .int ti), (3, .int z1704), (4, .int z1711), (5, .int w36_5)] → WS ad cA (fun i k => (i = 75 ∧ (k = 2)) ∨ i = 76 ∨ i = 77) g0 K g9 H locs → XX K 0 0 H locs 36 ls [] := by
        intro fu36
        induction fu36 with
        | zero => intro w36_5 g9 H locs ls h0; omega
        | succ fu36 ih36 =>
          intro w36_5 g9 H locs ls hm36 i36_0 i36_1 i36_2 hl hW
          have hG := i36_0
          have := i_rng z1711
          refine q_iload hM dX0_multiply_36 (lv_at hl 5 rfl) ?_
          refine q_iload hM dX0_multiply_38 (lv_at hl 4 rfl) ?_
          refine q_icmp_ge (tgt := 81) hM dX0_multiply_40 (by decide) (rfl : w36_5.toInt = w36_5.toInt) (rfl : z1711.toInt = z1711.toInt) (fun h40 => ?_) (fun h40 => ?_)
          · refine q_aload_n hM dX0_multiply_81 (lv_at hl 0 rfl) ?_
            refine q_iload hM dX0_multiply_82 (lv_at hl 4 rfl) ?_
            refine w_put hM hW FP_X0_16 lb_75 (by omega) (Or.inl ⟨_, rfl⟩) rfl rfl dX0_multiply_84 (fun g1714 H locs hW e1 e2 => ?_)
            have f1715 : fld g1714 75 2 = .int z1711 := e1
            have hG := hG.put e1 e2 rF_75_2 (by decide) (by have := i_rng z1711; omega) (by have := i_rng z1711; omega)
            refine q_iconst (v := (1 : Int32)) hM dX0_multiply_87 (by decide) ?_
            exact hE _ _ _ _ _ _ hW.1 nz_1 ⟨z1711, _, rfl, hW.2.1, hG, hW.2.2, f1715, (by have := kc_1; omega), (by have := kc_1; omega)⟩ dX0_multiply_88
          · refine q_aload_n hM dX0_multiply_43 (lv_at hl 0 rfl) ?_
            refine w_get (v := .ref (ad 76)) hM hW FG_X0_9 lb_75 (rf_75_0 hW.2.1) dX0_multiply_44 ?_
            refine q_iload hM dX0_multiply_47 (lv_at hl 5 rfl) ?_
            refine q_aload_n hM dX0_multiply_49 (lv_at hl 0 rfl) ?_
            refine w_get (v := .ref (ad 76)) hM hW FG_X0_9 lb_75 (rf_75_0 hW.2.1) dX0_multiply_50 ?_
            refine q_iload hM dX0_multiply_53 (lv_at hl 5 rfl) ?_
            refine q_iload_n hM dX0_multiply_55 (lv_at hl 3 rfl) ?_
            refine q_isub hM dX0_multiply_56 (fun z1717 hz1717 => ?_)
            first | have tz1717 := i_subT hz1717 (rfl : w36_5.toInt = w36_5.toInt) (rfl : z1704.toInt = z1704.toInt) (by omega) (by omega) | skip
            refine w_iald hM hW lb_76 (i_in (by omega) (by omega)) dX0_multiply_57 ?_
            refine q_top (fun y1718 hy1718 => ?_)
            refine w_iast hM hW lb_76 (by omega) (i_in (by omega) (by omega)) dX0_multiply_58 (fun g1719 H locs hW e1 e2 => ?_)
            have hG := hG.st e1 e2 (rfl : rA 76 = (-2147483648, 2147483647)) (by have := i_rng y1718; omega) (by have := i_rng y1718; omega)
            refine q_aload_n hM dX0_multiply_59 (lv_at hl 0 rfl) ?_
            refine w_get (v := .ref (ad 77)) hM hW FG_X0_13 lb_75 (rf_75_1 hW.2.1) dX0_multiply_60 ?_
            refine q_iload hM dX0_multiply_63 (lv_at hl 5 rfl) ?_
            refine q_aload_n hM dX0_multiply_65 (lv_at hl 0 rfl) ?_
            refine w_get (v := .ref (ad 77)) hM hW FG_X0_13 lb_75 (rf_75_1 hW.2.1) dX0_multiply_66 ?_
            refine q_iload hM dX0_multiply_69 (lv_at hl 5 rfl) ?_
            refine q_iload_n hM dX0_multiply_71 (lv_at hl 3 rfl) ?_
            refine q_isub hM dX0_multiply_72 (fun z1720 hz1720 => ?_)
            first | have tz1720 := i_subT hz1720 (rfl : w36_5.toInt = w36_5.toInt) (rfl : z1704.toInt = z1704.toInt) (by omega) (by omega) | skip
            refine w_iald hM hW lb_77 (i_in (by omega) (by omega)) dX0_multiply_73 ?_
            refine q_top (fun y1721 hy1721 => ?_)
            refine w_iast hM hW lb_77 (by omega) (i_in (by omega) (by omega)) dX0_multiply_74 (fun g1722 H locs hW e1 e2 => ?_)
            have hG := hG.st e1 e2 (rfl : rA 77 = (-2147483648, 2147483647)) (by have := i_rng y1721; omega) (by have := i_rng y1721; omega)
            refine q_iinc (lv9 := fun z1723 => [(5, .int z1723), (0, .ref (ad 75)), (1, .int fr), (2, .int ti), (3, .int z1704), (4, .int z1711)]) hM dX0_multiply_75 hl (kq := 5) rfl (by decide) (fun _ => rfl) (fun z1723 ls hz1723 hl => ?_)
            first | have tz1723 := i_addT hz1723 (rfl : w36_5.toInt = w36_5.toInt) (kc_1 : (Int32.ofInt 1).toInt = 1) (by omega) (by omega) | skip
            refine q_goto (tgt := 36) hM dX0_multiply_78 (by decide) ?_
            exact ih36 z1723 _ _ _ _ (by omega) hG (by omega) (by omega) (lv_sub hl [1, 2, 3, 4, 5, 0] rfl) hW
      exact L36 _ c0 _ _ _ _ (Nat.lt_succ_self _) hG (by omega) (by omega) (lv_sub hl [3, 4, 5, 2, 1, 0] rfl) hW
    · refine q_iconst (v := (0 : Int32)) hM dX0_multiply_21 (by decide) ?_
      exact hE _ _ _ _ _ _ hW.1 nz_0 ⟨c0, _, rfl, hW.2.1, hG, hW.2.2, f1703, (by have := kc_0; omega), (by have := kc_0; omega)⟩ dX0_multiply_22

theorem dX0_become_0 : decode cX0_become 0 = .ok (.iconst 0, 1) := by decide +kernel
theorem dX0_become_1 : decode cX0_become 1 = .ok (.istore_n 2, 1) := by decide +kernel
theorem dX0_become_2 : decode cX0_become 2 = .ok (.iload_n 2, 1) := by decide +kernel
theorem dX0_become_3 : decode cX0_become 3 = .ok (.bipush 48, 2) := by decide +kernel
theorem dX0_become_5 : decode cX0_become 5 = .ok (.if_icmp .ge 33, 3) := by decide +kernel
theorem dX0_become_8 : decode cX0_become 8 = .ok (.aload_n 0, 1) := by decide +kernel
theorem dX0_become_9 : decode cX0_become 9 = .ok (.getfield 9, 3) := by decide +kernel
theorem dX0_become_12 : decode cX0_become 12 = .ok (.iload_n 2, 1) := by decide +kernel
theorem dX0_become_13 : decode cX0_become 13 = .ok (.aload_n 1, 1) := by decide +kernel
theorem dX0_become_14 : decode cX0_become 14 = .ok (.getfield 9, 3) := by decide +kernel
theorem dX0_become_17 : decode cX0_become 17 = .ok (.iload_n 2, 1) := by decide +kernel
theorem dX0_become_18 : decode cX0_become 18 = .ok (.iaload, 1) := by decide +kernel
theorem dX0_become_19 : decode cX0_become 19 = .ok (.iastore, 1) := by decide +kernel
theorem dX0_become_20 : decode cX0_become 20 = .ok (.aload_n 0, 1) := by decide +kernel
theorem dX0_become_21 : decode cX0_become 21 = .ok (.getfield 13, 3) := by decide +kernel
theorem dX0_become_24 : decode cX0_become 24 = .ok (.iload_n 2, 1) := by decide +kernel
theorem dX0_become_25 : decode cX0_become 25 = .ok (.aload_n 1, 1) := by decide +kernel
theorem dX0_become_26 : decode cX0_become 26 = .ok (.getfield 13, 3) := by decide +kernel
theorem dX0_become_29 : decode cX0_become 29 = .ok (.iload_n 2, 1) := by decide +kernel
theorem dX0_become_30 : decode cX0_become 30 = .ok (.iaload, 1) := by decide +kernel
theorem dX0_become_31 : decode cX0_become 31 = .ok (.iastore, 1) := by decide +kernel
theorem dX0_become_32 : decode cX0_become 32 = .ok (.iinc 2 1, 3) := by decide +kernel
theorem dX0_become_35 : decode cX0_become 35 = .ok (.goto (-33), 3) := by decide +kernel
theorem dX0_become_38 : decode cX0_become 38 = .ok (.aload_n 0, 1) := by decide +kernel
theorem dX0_become_39 : decode cX0_become 39 = .ok (.aload_n 1, 1) := by decide +kernel
theorem dX0_become_40 : decode cX0_become 40 = .ok (.getfield 16, 3) := by decide +kernel
theorem dX0_become_43 : decode cX0_become 43 = .ok (.putfield 16, 3) := by decide +kernel
theorem dX0_become_46 : decode cX0_become 46 = .ok (.return_, 1) := by decide +kernel
set_option maxRecDepth 100000 in
set_option maxHeartbeats 4000000 in
theorem a_X0_become (l : Launch) (D : va_G) (cA : Nat → ClassId) (ad : Nat → Nat) (g0 : Nat → va_E) (ar : Nat)   (hSh : Shp ad cA g0) (hG : Rng g0) (har : isAt ar) : CT l NN ad cA D yX0_become cX0_become 3 none (0, 0) [.ref (ad ar), .ref (ad 75)] g0 (fun v g' => v = none ∧ Shp ad cA g' ∧ Rng g' ∧ FR (fun i k => (i = ar ∧ (k = 2)) ∨ i = (ar + 1) ∨ i = (ar + 2)) g0 g') := by
  refine q_enterV (by decide) (Nat.le_of_ble_eq_true rfl) (fun K H locs ls _ _ hM hW0 hR hC hE hl => ?_)
  have hl : lv_has ls 3 [(0, .ref (ad ar)), (1, .ref (ad 75))] := hl
  have hW : WS ad cA (fun i k => (i = ar ∧ (k = 2)) ∨ i = (ar + 1) ∨ i = (ar + 2)) g0 K g0 H locs := ⟨hW0, hSh, FR.rf⟩
  have uar := har
  unfold isAt at uar
  refine q_iconst (v := (0 : Int32)) hM dX0_become_0 (by decide) ?_
  refine q_istore_n (lv9 := [(2, .int (0 : Int32)), (0, .ref (ad ar)), (1, .ref (ad 75))]) hM dX0_become_1 hl (by decide) rfl (fun ls hl => ?_)
  have L2 : ∀ (fu2 : Nat) (w2_2 : Int32) (g9 : Nat → va_E) (H : Heap) (locs : List Loc) (ls : Array Slot), (48 - w2_2.toInt).toNat < fu2 → (Rng g9) → (0 ≤ w2_2.toInt) → (w2_2.toInt ≤ 48) → lv_has ls 3 [(0, .ref (ad ar)), (1, .ref (ad 75)), (2, .int w2_2)] → WS ad cA (fun i k => (i = ar ∧ (k = 2)) ∨ i = (ar + 1) ∨ i = (ar + 2)) g0 K g9 H locs → XX K 0 0 H locs 2 ls [] := by
    intro fu2
    induction fu2 with
    | zero => intro w2_2 g9 H locs ls h0; omega
    | succ fu2 ih2 =>
      intro w2_2 g9 H locs ls hm2 i2_0 i2_1 i2_2 hl hW
      have hG := i2_0
      refine q_iload_n hM dX0_become_2 (lv_at hl 2 rfl) ?_
      refine q_bipush (v := (48 : Int32)) hM dX0_become_3 (by decide) ?_
      refine q_icmp_ge (tgt := 38) hM dX0_become_5 (by decide) (rfl : w2_2.toInt = w2_2.toInt) (kc_48 : (48 : Int32).toInt = 48) (fun h5 => ?_) (fun h5 => ?_)
      · refine q_aload_n hM dX0_become_38 (lv_at hl 0 rfl) ?_
        refine q_aload_n hM dX0_become_39 (lv_at hl 1 rfl) ?_
        refine w_getI hM hW FG_X0_16 lb_75 (by decide) (by decide) dX0_become_40 (fun x1727 fx1727 => ?_)
        have bx1727 := hG.f fx1727 rF_75_2 (by decide)
        refine w_put hM hW FP_X0_16 (lo_At har) (by omega) (Or.inl ⟨_, rfl⟩) rfl rfl dX0_become_43 (fun g1728 H locs hW e1 e2 => ?_)
        have f1729 : fld g1728 ar 2 = .int x1727 := e1
        have hG := hG.put e1 e2 (rF_At_2 har) (by decide) (by have := i_rng x1727; omega) (by have := i_rng x1727; omega)
        exact hE _ _ _ _ _ hW.1 ⟨rfl, hW.2.1, hG, hW.2.2⟩ dX0_become_46
      · refine q_aload_n hM dX0_become_8 (lv_at hl 0 rfl) ?_
        refine w_get (v := .ref (ad (ar + 1))) hM hW FG_X0_9 (lo_At har) (rf_At_0 har hW.2.1) dX0_become_9 ?_
        refine q_iload_n hM dX0_become_12 (lv_at hl 2 rfl) ?_
        refine q_aload_n hM dX0_become_13 (lv_at hl 1 rfl) ?_
        refine w_get (v := .ref (ad 76)) hM hW FG_X0_9 lb_75 (rf_75_0 hW.2.1) dX0_become_14 ?_
        refine q_iload_n hM dX0_become_17 (lv_at hl 2 rfl) ?_
        refine w_iald hM hW lb_76 (i_in (by omega) (by omega)) dX0_become_18 ?_
        refine q_top (fun y1731 hy1731 => ?_)
        refine w_iast hM hW (la_At_0 har) (by omega) (i_in (by omega) (by omega)) dX0_become_19 (fun g1732 H locs hW e1 e2 => ?_)
        have hG := hG.st e1 e2 (rA_At_0 har) (by have := i_rng y1731; omega) (by have := i_rng y1731; omega)
        refine q_aload_n hM dX0_become_20 (lv_at hl 0 rfl) ?_
        refine w_get (v := .ref (ad (ar + 2))) hM hW FG_X0_13 (lo_At har) (rf_At_1 har hW.2.1) dX0_become_21 ?_
        refine q_iload_n hM dX0_become_24 (lv_at hl 2 rfl) ?_
        refine q_aload_n hM dX0_become_25 (lv_at hl 1 rfl) ?_
        refine w_get (v := .ref (ad 77)) hM hW FG_X0_13 lb_75 (rf_75_1 hW.2.1) dX0_become_26 ?_
        refine q_iload_n hM dX0_become_29 (lv_at hl 2 rfl) ?_
        refine w_iald hM hW lb_77 (i_in (by omega) (by omega)) dX0_become_30 ?_
        refine q_top (fun y1733 hy1733 => ?_)
        refine w_iast hM hW (la_At_1 har) (by omega) (i_in (by omega) (by omega)) dX0_become_31 (fun g1734 H locs hW e1 e2 => ?_)
        have hG := hG.st e1 e2 (rA_At_1 har) (by have := i_rng y1733; omega) (by have := i_rng y1733; omega)
        refine q_iinc (lv9 := fun z1735 => [(2, .int z1735), (0, .ref (ad ar)), (1, .ref (ad 75))]) hM dX0_become_32 hl (kq := 2) rfl (by decide) (fun _ => rfl) (fun z1735 ls hz1735 hl => ?_)
        first | have tz1735 := i_addT hz1735 (rfl : w2_2.toInt = w2_2.toInt) (kc_1 : (Int32.ofInt 1).toInt = 1) (by omega) (by omega) | skip
        refine q_goto (tgt := 2) hM dX0_become_35 (by decide) ?_
        exact ih2 z1735 _ _ _ _ (by omega) hG (by omega) (by omega) (lv_sub hl [1, 2, 0] rfl) hW
  have := kc_0
  exact L2 _ (0 : Int32) _ _ _ _ (Nat.lt_succ_self _) hG (by omega) (by omega) (lv_sub hl [1, 2, 0] rfl) hW

theorem dX1_sign_0 : decode cX1_sign 0 = .ok (.aload_n 0, 1) := by decide +kernel
theorem dX1_sign_1 : decode cX1_sign 1 = .ok (.getfield 23, 3) := by decide +kernel
theorem dX1_sign_4 : decode cX1_sign 4 = .ok (.aload_n 0, 1) := by decide +kernel
theorem dX1_sign_5 : decode cX1_sign 5 = .ok (.getfield 19, 3) := by decide +kernel
theorem dX1_sign_8 : decode cX1_sign 8 = .ok (.if_icmp .ge 15, 3) := by decide +kernel
theorem dX1_sign_11 : decode cX1_sign 11 = .ok (.aload_n 0, 1) := by decide +kernel
theorem dX1_sign_12 : decode cX1_sign 12 = .ok (.getfield 9, 3) := by decide +kernel
theorem dX1_sign_15 : decode cX1_sign 15 = .ok (.aload_n 0, 1) := by decide +kernel
theorem dX1_sign_16 : decode cX1_sign 16 = .ok (.getfield 23, 3) := by decide +kernel
theorem dX1_sign_19 : decode cX1_sign 19 = .ok (.iaload, 1) := by decide +kernel
theorem dX1_sign_20 : decode cX1_sign 20 = .ok (.goto 4, 3) := by decide +kernel
theorem dX1_sign_23 : decode cX1_sign 23 = .ok (.iconst (-1), 1) := by decide +kernel
theorem dX1_sign_24 : decode cX1_sign 24 = .ok (.ireturn, 1) := by decide +kernel
theorem FG_X1_23 : FG RX1 23 1 5 2 := ⟨RX1, TX1, rfl, wX1, by decide, kAW (v_0_11 (List.mem_of_getElem? (i := 6) rfl)) rfl, rfl⟩
theorem FG_X1_19 : FG RX1 19 1 5 1 := ⟨RX1, TX1, rfl, wX1, by decide, kAW (v_0_11 (List.mem_of_getElem? (i := 5) rfl)) rfl, rfl⟩
theorem FG_X1_9 : FG RX1 9 1 5 0 := ⟨RX1, TX1, rfl, wX1, by decide, kAW (v_0_11 (List.mem_of_getElem? (i := 4) rfl)) rfl, rfl⟩
set_option maxRecDepth 100000 in
set_option maxHeartbeats 4000000 in
theorem a_X1_sign (l : Launch) (D : va_G) (cA : Nat → ClassId) (ad : Nat → Nat) (g0 : Nat → va_E)  (en : Int32) (a0 : Int32) (hSh : Shp ad cA g0) (hG : Rng g0) (h_en : fld g0 78 1 = .int en) (h_a0 : fld g0 78 2 = .int a0) (ah0 : 0 ≤ a0.toInt) (ah1 : a0.toInt ≤ en.toInt) (ah2 : en.toInt ≤ 60) : CT l NN ad cA D yX1_sign cX1_sign 1 (some FieldType.int) (0, 0) [.ref (ad 78)] g0 (PU g0 (fun r => (r.toInt = -1 ∧ en.toInt ≤ a0.toInt) ∨ (a0.toInt < en.toInt ∧ 0 ≤ r.toInt ∧ r.toInt ≤ 255 ∧ r.toInt = (arI g0 2 a0.toNatClampNeg).toInt))) := by
  refine q_enterI (by decide) (Nat.le_of_ble_eq_true rfl) rfl (fun K H locs ls _ _ hM hW0 hR hC hE hl => ?_)
  have hl : lv_has ls 1 [(0, .ref (ad 78))] := hl
  have hW : WS ad cA (fun i k => False) g0 K g0 H locs := ⟨hW0, hSh, FR.rf⟩
  refine q_aload_n hM dX1_sign_0 (lv_at hl 0 rfl) ?_
  refine w_get (v := .int a0) hM hW FG_X1_23 lb_78 ((hW.2.2.1 78 2 (fun h => h)).trans h_a0) dX1_sign_1 ?_
  refine q_aload_n hM dX1_sign_4 (lv_at hl 0 rfl) ?_
  refine w_get (v := .int en) hM hW FG_X1_19 lb_78 ((hW.2.2.1 78 1 (fun h => h)).trans h_en) dX1_sign_5 ?_
  refine q_icmp_ge (tgt := 23) hM dX1_sign_8 (by decide) (rfl : a0.toInt = a0.toInt) (rfl : en.toInt = en.toInt) (fun h8 => ?_) (fun h8 => ?_)
  · refine q_iconst (v := ((-1) : Int32)) hM dX1_sign_23 (by decide) ?_
    exact hE _ _ _ _ _ _ hW.1 ⟨_, rfl, (by have := kc_m1; omega), rfl⟩ dX1_sign_24
  · refine q_aload_n hM dX1_sign_11 (lv_at hl 0 rfl) ?_
    refine w_get (v := .ref (ad 2)) hM hW FG_X1_9 lb_78 (rf_78_0 hW.2.1) dX1_sign_12 ?_
    refine q_aload_n hM dX1_sign_15 (lv_at hl 0 rfl) ?_
    refine w_get (v := .int a0) hM hW FG_X1_23 lb_78 ((hW.2.2.1 78 2 (fun h => h)).trans h_a0) dX1_sign_16 ?_
    refine w_iald hM hW lb_2 (i_in (by omega) (by omega)) dX1_sign_19 ?_
    refine q_top (fun y1738 hy1738 => ?_)
    have by1738 := hG.a hy1738 rA_2
    have cy1738 := congrArg Int32.toInt hy1738
    refine q_goto (tgt := 24) hM dX1_sign_20 (by decide) ?_
    exact hE _ _ _ _ _ _ hW.1 ⟨_, rfl, (by omega), rfl⟩ dX1_sign_24

theorem dX1_wrong_0 : decode cX1_wrong 0 = .ok (.aload_n 0, 1) := by decide +kernel
theorem dX1_wrong_1 : decode cX1_wrong 1 = .ok (.sipush (-1000), 3) := by decide +kernel
theorem dX1_wrong_4 : decode cX1_wrong 4 = .ok (.iload_n 1, 1) := by decide +kernel
theorem dX1_wrong_5 : decode cX1_wrong 5 = .ok (.imul, 1) := by decide +kernel
theorem dX1_wrong_6 : decode cX1_wrong 6 = .ok (.iload_n 2, 1) := by decide +kernel
theorem dX1_wrong_7 : decode cX1_wrong 7 = .ok (.isub, 1) := by decide +kernel
theorem dX1_wrong_8 : decode cX1_wrong 8 = .ok (.putfield 26, 3) := by decide +kernel
theorem dX1_wrong_11 : decode cX1_wrong 11 = .ok (.iconst 0, 1) := by decide +kernel
theorem dX1_wrong_12 : decode cX1_wrong 12 = .ok (.ireturn, 1) := by decide +kernel
theorem FP_X1_26 : FPX RX1 26 1 5 3 .int := ⟨⟨RX1, TX1, tyX1, rfl, wX1, by decide, kAW (v_0_11 (List.mem_of_getElem? (i := 7) rfl)) rfl, rfl, tyX1_ok, nmX1, by decide +kernel, rfl⟩, by decide +kernel⟩
set_option maxRecDepth 100000 in
set_option maxHeartbeats 4000000 in
theorem a_X1_wrong (l : Launch) (D : va_G) (cA : Nat → ClassId) (ad : Nat → Nat) (g0 : Nat → va_E) (nu : Int32) (pl : Int32)   (hSh : Shp ad cA g0) (hG : Rng g0) : CT l NN ad cA D yX1_wrong cX1_wrong 3 (some FieldType.boolean) (0, 0) [.ref (ad 78), .int nu, .int pl] g0 (fun v g' => ∃ (r : Int32), v = some (.int r) ∧ Shp ad cA g' ∧ Rng g' ∧ FR (fun i k => (i = 78 ∧ (k = 3))) g0 g' ∧ (r.toInt = 0)) := by
  refine q_enterZ (by decide) (Nat.le_of_ble_eq_true rfl) (fun K H locs ls _ _ hM hW0 hR hC hE hl => ?_)
  have hl : lv_has ls 3 [(0, .ref (ad 78)), (1, .int nu), (2, .int pl)] := hl
  have hW : WS ad cA (fun i k => (i = 78 ∧ (k = 3))) g0 K g0 H locs := ⟨hW0, hSh, FR.rf⟩
  refine q_aload_n hM dX1_wrong_0 (lv_at hl 0 rfl) ?_
  refine q_sipush (v := ((-1000) : Int32)) hM dX1_wrong_1 (by decide) ?_
  refine q_iload_n hM dX1_wrong_4 (lv_at hl 1 rfl) ?_
  refine q_imul hM dX1_wrong_5 (fun z1739 hz1739 => ?_)
  first | have tz1739 := i_mulT hz1739 (kc_m1000 : ((-1000) : Int32).toInt = (-1000)) (rfl : nu.toInt = nu.toInt) (by omega) (by omega) | skip
  refine q_iload_n hM dX1_wrong_6 (lv_at hl 2 rfl) ?_
  refine q_isub hM dX1_wrong_7 (fun z1740 hz1740 => ?_)
  first | have tz1740 := i_subT hz1740 (rfl : z1739.toInt = z1739.toInt) (rfl : pl.toInt = pl.toInt) (by omega) (by omega) | skip
  refine w_put hM hW FP_X1_26 lb_78 (by omega) (Or.inl ⟨_, rfl⟩) rfl rfl dX1_wrong_8 (fun g1741 H locs hW e1 e2 => ?_)
  have f1742 : fld g1741 78 3 = .int z1740 := e1
  have hG := hG.put e1 e2 (rfl : rF 78 3 = (-2147483648, 2147483647)) (by decide) (by have := i_rng z1740; omega) (by have := i_rng z1740; omega)
  refine q_iconst (v := (0 : Int32)) hM dX1_wrong_11 (by decide) ?_
  exact hE _ _ _ _ _ _ hW.1 nz_0 ⟨_, rfl, hW.2.1, hG, hW.2.2, (by have := kc_0; omega)⟩ dX1_wrong_12

theorem dX1_wayOf_0 : decode cX1_wayOf 0 = .ok (.iload_n 1, 1) := by decide +kernel
theorem dX1_wayOf_1 : decode cX1_wayOf 1 = .ok (.bipush 97, 2) := by decide +kernel
theorem dX1_wayOf_3 : decode cX1_wayOf 3 = .ok (.bipush 108, 2) := by decide +kernel
theorem dX1_wayOf_5 : decode cX1_wayOf 5 = .ok (.invokestatic 55, 3) := by decide +kernel
theorem dX1_wayOf_8 : decode cX1_wayOf 8 = .ok (.ifCond .eq 5, 3) := by decide +kernel
theorem dX1_wayOf_11 : decode cX1_wayOf 11 = .ok (.iconst 0, 1) := by decide +kernel
theorem dX1_wayOf_12 : decode cX1_wayOf 12 = .ok (.ireturn, 1) := by decide +kernel
theorem dX1_wayOf_13 : decode cX1_wayOf 13 = .ok (.iload_n 1, 1) := by decide +kernel
theorem dX1_wayOf_14 : decode cX1_wayOf 14 = .ok (.bipush 65, 2) := by decide +kernel
theorem dX1_wayOf_16 : decode cX1_wayOf 16 = .ok (.bipush 73, 2) := by decide +kernel
theorem dX1_wayOf_18 : decode cX1_wayOf 18 = .ok (.invokestatic 55, 3) := by decide +kernel
theorem dX1_wayOf_21 : decode cX1_wayOf 21 = .ok (.ifCond .eq 5, 3) := by decide +kernel
theorem dX1_wayOf_24 : decode cX1_wayOf 24 = .ok (.iconst 1, 1) := by decide +kernel
theorem dX1_wayOf_25 : decode cX1_wayOf 25 = .ok (.ireturn, 1) := by decide +kernel
theorem dX1_wayOf_26 : decode cX1_wayOf 26 = .ok (.iload_n 1, 1) := by decide +kernel
theorem dX1_wayOf_27 : decode cX1_wayOf 27 = .ok (.bipush 46, 2) := by decide +kernel
theorem dX1_wayOf_29 : decode cX1_wayOf 29 = .ok (.if_icmp .ne 5, 3) := by decide +kernel
theorem dX1_wayOf_32 : decode cX1_wayOf 32 = .ok (.iconst 2, 1) := by decide +kernel
theorem dX1_wayOf_33 : decode cX1_wayOf 33 = .ok (.ireturn, 1) := by decide +kernel
theorem dX1_wayOf_34 : decode cX1_wayOf 34 = .ok (.iload_n 1, 1) := by decide +kernel
theorem dX1_wayOf_35 : decode cX1_wayOf 35 = .ok (.bipush 43, 2) := by decide +kernel
theorem dX1_wayOf_37 : decode cX1_wayOf 37 = .ok (.if_icmp .ne 7, 3) := by decide +kernel
theorem dX1_wayOf_40 : decode cX1_wayOf 40 = .ok (.iconst 3, 1) := by decide +kernel
theorem dX1_wayOf_41 : decode cX1_wayOf 41 = .ok (.goto 4, 3) := by decide +kernel
theorem dX1_wayOf_44 : decode cX1_wayOf 44 = .ok (.iconst (-1), 1) := by decide +kernel
theorem dX1_wayOf_45 : decode cX1_wayOf 45 = .ok (.ireturn, 1) := by decide +kernel
theorem myX11_within : MS yX11_within cX11_within 3 (some FieldType.boolean) 3 := ⟨kAW (v_1_10 (List.mem_of_getElem? (i := 3) rfl)) rfl, kAW (v_0_0 (List.mem_of_getElem? (i := 1) rfl)) rfl, kAW (v_1_10 (List.mem_of_getElem? (i := 2) rfl)) rfl, by decide, by decide, by decide +kernel⟩
set_option maxRecDepth 100000 in
set_option maxHeartbeats 4000000 in
theorem a_X1_wayOf (l : Launch) (D : va_G) (cA : Nat → ClassId) (ad : Nat → Nat) (g0 : Nat → va_E) (si : Int32) (hSh : Shp ad cA g0) (hG : Rng g0) : CT l NN ad cA D yX1_wayOf cX1_wayOf 2 (some FieldType.int) (1, 22) [.ref (ad 78), .int si] g0 (PU g0 (fun r => (r.toInt = 0 ∧ 97 ≤ si.toInt ∧ si.toInt ≤ 108) ∨ (r.toInt = 1 ∧ 65 ≤ si.toInt ∧ si.toInt ≤ 73) ∨ (r.toInt = 2 ∧ si.toInt = 46) ∨ (r.toInt = 3 ∧ si.toInt = 43) ∨ r.toInt = -1)) := by
  refine q_enterI (by decide) (Nat.le_of_ble_eq_true rfl) rfl (fun K H locs ls _ _ hM hW0 hR hC hE hl => ?_)
  have hl : lv_has ls 2 [(0, .ref (ad 78)), (1, .int si)] := hl
  have hW : WS ad cA (fun i k => False) g0 K g0 H locs := ⟨hW0, hSh, FR.rf⟩
  refine q_iload_n hM dX1_wayOf_0 (lv_at hl 1 rfl) ?_
  refine q_bipush (v := (97 : Int32)) hM dX1_wayOf_1 (by decide) ?_
  refine q_bipush (v := (108 : Int32)) hM dX1_wayOf_3 (by decide) ?_
  refine q_callN (host := "ForgetSchool") (As := [.int si, .int (97 : Int32), .int (108 : Int32)]) (rest := []) hM hW.1 hR hC myX11_within (List.mem_of_getElem? (i := 1) rfl) (c_X11_within _ _ cA ad g0 si (97 : Int32) (108 : Int32) hW.2.1) ⟨by decide, by decide⟩ rfl rfl hl.1 (Nat.le_of_ble_eq_true rfl) dX1_wayOf_5 (fun v g1744 H locs hp hW1 => ?_)
  obtain ⟨r1743, rfl, hr1743, rfl⟩ := hp
  have hW : WS ad cA (fun i k => False) g0 K g0 H locs := ⟨hW1, hW.2.1, hW.2.2⟩
  have := kc_97
  have := kc_108
  refine q_if_eq (tgt := 13) hM dX1_wayOf_8 (by decide) (rfl : r1743.toInt = r1743.toInt) (fun h8 => ?_) (fun h8 => ?_)
  · refine q_iload_n hM dX1_wayOf_13 (lv_at hl 1 rfl) ?_
    refine q_bipush (v := (65 : Int32)) hM dX1_wayOf_14 (by decide) ?_
    refine q_bipush (v := (73 : Int32)) hM dX1_wayOf_16 (by decide) ?_
    refine q_callN (host := "ForgetSchool") (As := [.int si, .int (65 : Int32), .int (73 : Int32)]) (rest := []) hM hW.1 hR hC myX11_within (List.mem_of_getElem? (i := 1) rfl) (c_X11_within _ _ cA ad g0 si (65 : Int32) (73 : Int32) hW.2.1) ⟨by decide, by decide⟩ rfl rfl hl.1 (Nat.le_of_ble_eq_true rfl) dX1_wayOf_18 (fun v g1747 H locs hp hW1 => ?_)
    obtain ⟨r1746, rfl, hr1746, rfl⟩ := hp
    have hW : WS ad cA (fun i k => False) g0 K g0 H locs := ⟨hW1, hW.2.1, hW.2.2⟩
    have := kc_65
    have := kc_73
    refine q_if_eq (tgt := 26) hM dX1_wayOf_21 (by decide) (rfl : r1746.toInt = r1746.toInt) (fun h21 => ?_) (fun h21 => ?_)
    · refine q_iload_n hM dX1_wayOf_26 (lv_at hl 1 rfl) ?_
      refine q_bipush (v := (46 : Int32)) hM dX1_wayOf_27 (by decide) ?_
      refine q_icmp_ne (tgt := 34) hM dX1_wayOf_29 (by decide) (rfl : si.toInt = si.toInt) (kc_46 : (46 : Int32).toInt = 46) (fun h29 => ?_) (fun h29 => ?_)
      · refine q_iload_n hM dX1_wayOf_34 (lv_at hl 1 rfl) ?_
        refine q_bipush (v := (43 : Int32)) hM dX1_wayOf_35 (by decide) ?_
        refine q_icmp_ne (tgt := 44) hM dX1_wayOf_37 (by decide) (rfl : si.toInt = si.toInt) (kc_43 : (43 : Int32).toInt = 43) (fun h37 => ?_) (fun h37 => ?_)
        · refine q_iconst (v := ((-1) : Int32)) hM dX1_wayOf_44 (by decide) ?_
          exact hE _ _ _ _ _ _ hW.1 ⟨_, rfl, (by have := kc_m1; omega), rfl⟩ dX1_wayOf_45
        · refine q_iconst (v := (3 : Int32)) hM dX1_wayOf_40 (by decide) ?_
          refine q_goto (tgt := 45) hM dX1_wayOf_41 (by decide) ?_
          exact hE _ _ _ _ _ _ hW.1 ⟨_, rfl, (by have := kc_3; omega), rfl⟩ dX1_wayOf_45
      · refine q_iconst (v := (2 : Int32)) hM dX1_wayOf_32 (by decide) ?_
        exact hE _ _ _ _ _ _ hW.1 ⟨_, rfl, (by have := kc_2; omega), rfl⟩ dX1_wayOf_33
    · refine q_iconst (v := (1 : Int32)) hM dX1_wayOf_24 (by decide) ?_
      exact hE _ _ _ _ _ _ hW.1 ⟨_, rfl, (by have := kc_1; omega), rfl⟩ dX1_wayOf_25
  · refine q_iconst (v := (0 : Int32)) hM dX1_wayOf_11 (by decide) ?_
    exact hE _ _ _ _ _ _ hW.1 ⟨_, rfl, (by have := kc_0; omega), rfl⟩ dX1_wayOf_12

theorem dX1_step_0 : decode cX1_step 0 = .ok (.aload_n 0, 1) := by decide +kernel
theorem dX1_step_1 : decode cX1_step 1 = .ok (.aload_n 0, 1) := by decide +kernel
theorem dX1_step_2 : decode cX1_step 2 = .ok (.invokevirtual 51, 3) := by decide +kernel
theorem dX1_step_5 : decode cX1_step 5 = .ok (.invokevirtual 65, 3) := by decide +kernel
theorem dX1_step_8 : decode cX1_step 8 = .ok (.istore_n 2, 1) := by decide +kernel
theorem dX1_step_9 : decode cX1_step 9 = .ok (.iload_n 2, 1) := by decide +kernel
theorem dX1_step_10 : decode cX1_step 10 = .ok (.iconst 3, 1) := by decide +kernel
theorem dX1_step_11 : decode cX1_step 11 = .ok (.if_icmp .ne 13, 3) := by decide +kernel
theorem dX1_step_14 : decode cX1_step 14 = .ok (.aload_n 0, 1) := by decide +kernel
theorem dX1_step_15 : decode cX1_step 15 = .ok (.dup, 1) := by decide +kernel
theorem dX1_step_16 : decode cX1_step 16 = .ok (.getfield 23, 3) := by decide +kernel
theorem dX1_step_19 : decode cX1_step 19 = .ok (.iconst 1, 1) := by decide +kernel
theorem dX1_step_20 : decode cX1_step 20 = .ok (.iadd, 1) := by decide +kernel
theorem dX1_step_21 : decode cX1_step 21 = .ok (.putfield 23, 3) := by decide +kernel
theorem dX1_step_24 : decode cX1_step 24 = .ok (.aload_n 0, 1) := by decide +kernel
theorem dX1_step_25 : decode cX1_step 25 = .ok (.invokevirtual 51, 3) := by decide +kernel
theorem dX1_step_28 : decode cX1_step 28 = .ok (.istore_n 3, 1) := by decide +kernel
theorem dX1_step_29 : decode cX1_step 29 = .ok (.iload_n 2, 1) := by decide +kernel
theorem dX1_step_30 : decode cX1_step 30 = .ok (.iconst 1, 1) := by decide +kernel
theorem dX1_step_31 : decode cX1_step 31 = .ok (.if_icmp .ne 10, 3) := by decide +kernel
theorem dX1_step_34 : decode cX1_step 34 = .ok (.iload_n 3, 1) := by decide +kernel
theorem dX1_step_35 : decode cX1_step 35 = .ok (.bipush 65, 2) := by decide +kernel
theorem dX1_step_37 : decode cX1_step 37 = .ok (.isub, 1) := by decide +kernel
theorem dX1_step_38 : decode cX1_step 38 = .ok (.goto 16, 3) := by decide +kernel
theorem dX1_step_41 : decode cX1_step 41 = .ok (.iload_n 2, 1) := by decide +kernel
theorem dX1_step_42 : decode cX1_step 42 = .ok (.iconst 2, 1) := by decide +kernel
theorem dX1_step_43 : decode cX1_step 43 = .ok (.if_icmp .ne 7, 3) := by decide +kernel
theorem dX1_step_46 : decode cX1_step 46 = .ok (.iconst 0, 1) := by decide +kernel
theorem dX1_step_47 : decode cX1_step 47 = .ok (.goto 7, 3) := by decide +kernel
theorem dX1_step_50 : decode cX1_step 50 = .ok (.iload_n 3, 1) := by decide +kernel
theorem dX1_step_51 : decode cX1_step 51 = .ok (.bipush 97, 2) := by decide +kernel
theorem dX1_step_53 : decode cX1_step 53 = .ok (.isub, 1) := by decide +kernel
theorem dX1_step_54 : decode cX1_step 54 = .ok (.istore 4, 2) := by decide +kernel
theorem dX1_step_56 : decode cX1_step 56 = .ok (.iload_n 2, 1) := by decide +kernel
theorem dX1_step_57 : decode cX1_step 57 = .ok (.iconst 1, 1) := by decide +kernel
theorem dX1_step_58 : decode cX1_step 58 = .ok (.if_icmp .ne 8, 3) := by decide +kernel
theorem dX1_step_61 : decode cX1_step 61 = .ok (.bipush 8, 2) := by decide +kernel
theorem dX1_step_63 : decode cX1_step 63 = .ok (.goto 5, 3) := by decide +kernel
theorem dX1_step_66 : decode cX1_step 66 = .ok (.bipush 11, 2) := by decide +kernel
theorem dX1_step_68 : decode cX1_step 68 = .ok (.istore 5, 2) := by decide +kernel
theorem dX1_step_70 : decode cX1_step 70 = .ok (.iload_n 2, 1) := by decide +kernel
theorem dX1_step_71 : decode cX1_step 71 = .ok (.iconst (-1), 1) := by decide +kernel
theorem dX1_step_72 : decode cX1_step 72 = .ok (.if_icmp .eq 14, 3) := by decide +kernel
theorem dX1_step_75 : decode cX1_step 75 = .ok (.iload 4, 2) := by decide +kernel
theorem dX1_step_77 : decode cX1_step 77 = .ok (.iconst 0, 1) := by decide +kernel
theorem dX1_step_78 : decode cX1_step 78 = .ok (.iload 5, 2) := by decide +kernel
theorem dX1_step_80 : decode cX1_step 80 = .ok (.invokestatic 55, 3) := by decide +kernel
theorem dX1_step_83 : decode cX1_step 83 = .ok (.ifCond .ne 13, 3) := by decide +kernel
theorem dX1_step_86 : decode cX1_step 86 = .ok (.aload_n 0, 1) := by decide +kernel
theorem dX1_step_87 : decode cX1_step 87 = .ok (.iconst 1, 1) := by decide +kernel
theorem dX1_step_88 : decode cX1_step 88 = .ok (.aload_n 0, 1) := by decide +kernel
theorem dX1_step_89 : decode cX1_step 89 = .ok (.getfield 23, 3) := by decide +kernel
theorem dX1_step_92 : decode cX1_step 92 = .ok (.invokevirtual 44, 3) := by decide +kernel
theorem dX1_step_95 : decode cX1_step 95 = .ok (.ireturn, 1) := by decide +kernel
theorem dX1_step_96 : decode cX1_step 96 = .ok (.aload_n 0, 1) := by decide +kernel
theorem dX1_step_97 : decode cX1_step 97 = .ok (.dup, 1) := by decide +kernel
theorem dX1_step_98 : decode cX1_step 98 = .ok (.getfield 23, 3) := by decide +kernel
theorem dX1_step_101 : decode cX1_step 101 = .ok (.iconst 1, 1) := by decide +kernel
theorem dX1_step_102 : decode cX1_step 102 = .ok (.iadd, 1) := by decide +kernel
theorem dX1_step_103 : decode cX1_step 103 = .ok (.putfield 23, 3) := by decide +kernel
theorem dX1_step_106 : decode cX1_step 106 = .ok (.aload_n 0, 1) := by decide +kernel
theorem dX1_step_107 : decode cX1_step 107 = .ok (.getfield 15, 3) := by decide +kernel
theorem dX1_step_110 : decode cX1_step 110 = .ok (.iload_n 2, 1) := by decide +kernel
theorem dX1_step_111 : decode cX1_step 111 = .ok (.iload 4, 2) := by decide +kernel
theorem dX1_step_113 : decode cX1_step 113 = .ok (.invokevirtual 69, 3) := by decide +kernel
theorem dX1_step_116 : decode cX1_step 116 = .ok (.ifCond .ne 13, 3) := by decide +kernel
theorem dX1_step_119 : decode cX1_step 119 = .ok (.aload_n 0, 1) := by decide +kernel
theorem dX1_step_120 : decode cX1_step 120 = .ok (.bipush 6, 2) := by decide +kernel
theorem dX1_step_122 : decode cX1_step 122 = .ok (.iload_n 1, 1) := by decide +kernel
theorem dX1_step_123 : decode cX1_step 123 = .ok (.invokevirtual 44, 3) := by decide +kernel
theorem dX1_step_126 : decode cX1_step 126 = .ok (.ifCond .eq 7, 3) := by decide +kernel
theorem dX1_step_129 : decode cX1_step 129 = .ok (.iconst 1, 1) := by decide +kernel
theorem dX1_step_130 : decode cX1_step 130 = .ok (.goto 4, 3) := by decide +kernel
theorem dX1_step_133 : decode cX1_step 133 = .ok (.iconst 0, 1) := by decide +kernel
theorem dX1_step_134 : decode cX1_step 134 = .ok (.ireturn, 1) := by decide +kernel
theorem myX1_sign : MI yX1_sign cX1_sign 1 (some FieldType.int) 0 := ⟨kAW (v_1_13 (List.mem_of_getElem? (i := 5) rfl)) rfl, kAW (v_0_0 (List.mem_of_getElem? (i := 7) rfl)) rfl, kAW (v_1_13 (List.mem_of_getElem? (i := 4) rfl)) rfl, kAW (tp_t0 (List.mem_of_getElem? (i := 2) rfl)) rfl, by decide, by decide, by decide +kernel⟩
theorem myX1_wayOf : MI yX1_wayOf cX1_wayOf 2 (some FieldType.int) 1 := ⟨kAW (v_1_14 (List.mem_of_getElem? (i := 2) rfl)) rfl, kAW (v_0_0 (List.mem_of_getElem? (i := 7) rfl)) rfl, kAW (v_1_14 (List.mem_of_getElem? (i := 1) rfl)) rfl, kAW (tp_t0 (List.mem_of_getElem? (i := 5) rfl)) rfl, by decide, by decide, by decide +kernel⟩
theorem myX1_wrong : MI yX1_wrong cX1_wrong 3 (some FieldType.boolean) 2 := ⟨kAW (v_1_13 (List.mem_of_getElem? (i := 10) rfl)) rfl, kAW (v_0_0 (List.mem_of_getElem? (i := 7) rfl)) rfl, kAW (v_1_13 (List.mem_of_getElem? (i := 9) rfl)) rfl, kAW (tp_t0 (List.mem_of_getElem? (i := 3) rfl)) rfl, by decide, by decide, by decide +kernel⟩
theorem FP_X1_23 : FPX RX1 23 1 5 2 .int := ⟨⟨RX1, TX1, tyX1, rfl, wX1, by decide, kAW (v_0_11 (List.mem_of_getElem? (i := 6) rfl)) rfl, rfl, tyX1_ok, nmX1, by decide +kernel, rfl⟩, by decide +kernel⟩
theorem FG_X1_15 : FG RX1 15 1 5 4 := ⟨RX1, TX1, rfl, wX1, by decide, kAW (v_0_11 (List.mem_of_getElem? (i := 8) rfl)) rfl, rfl⟩
theorem myX0_add : MI yX0_add cX0_add 3 (some FieldType.boolean) 2 := ⟨kAW (v_1_14 (List.mem_of_getElem? (i := 6) rfl)) rfl, kAW (v_0_0 (List.mem_of_getElem? (i := 6) rfl)) rfl, kAW (v_1_14 (List.mem_of_getElem? (i := 4) rfl)) rfl, kAW (v_1_14 (List.mem_of_getElem? (i := 5) rfl)) rfl, by decide, by decide, by decide +kernel⟩
set_option maxRecDepth 100000 in
set_option maxHeartbeats 4000000 in
theorem a_X1_step (l : Launch) (D : va_G) (cA : Nat → ClassId) (ad : Nat → Nat) (g0 : Nat → va_E) (sa : Int32) (en : Int32) (a0 : Int32) (c0 : Int32)  (hSh : Shp ad cA g0) (hG : Rng g0) (h_en : fld g0 78 1 = .int en) (h_a0 : fld g0 78 2 = .int a0) (h_c0 : fld g0 75 2 = .int c0) (h_r4 : fld g0 78 4 = .ref (ad 75)) (ah0 : 0 ≤ a0.toInt) (ah1 : a0.toInt ≤ en.toInt) (ah2 : en.toInt ≤ 60) : CT l NN ad cA D yX1_step cX1_step 6 (some FieldType.boolean) (2, 43) [.ref (ad 78), .int sa] g0 (fun v g' => ∃ (a9 : Int32) (c9 : Int32) (r : Int32), v = some (.int r) ∧ Shp ad cA g' ∧ Rng g' ∧ FR (fun i k => (i = 78 ∧ (k = 2 ∨ k = 3)) ∨ (i = 75 ∧ (k = 2)) ∨ i = 76 ∨ i = 77) g0 g' ∧ fld g' 78 2 = .int a9 ∧ fld g' 75 2 = .int c9 ∧ (a0.toInt ≤ a9.toInt) ∧ (a9.toInt ≤ en.toInt) ∧ (c0.toInt ≤ c9.toInt) ∧ (r.toInt = 0 ∨ r.toInt = 1)) := by
  refine q_enterZ (by decide) (Nat.le_of_ble_eq_true rfl) (fun K H locs ls _ _ hM hW0 hR hC hE hl => ?_)
  have hl : lv_has ls 6 [(0, .ref (ad 78)), (1, .int sa)] := hl
  have hW : WS ad cA (fun i k => (i = 78 ∧ (k = 2 ∨ k = 3)) ∨ (i = 75 ∧ (k = 2)) ∨ i = 76 ∨ i = 77) g0 K g0 H locs := ⟨hW0, hSh, FR.rf⟩
  have b_en := hG.f h_en rF_78_1 (by decide)
  have b_a0 := hG.f h_a0 rF_78_2 (by decide)
  have b_c0 := hG.f h_c0 rF_75_2 (by decide)
  have f1755 : fld g0 78 2 = .int a0 := h_a0
  have f1756 : fld g0 75 2 = .int c0 := h_c0
  refine q_aload_n hM dX1_step_0 (lv_at hl 0 rfl) ?_
  refine q_aload_n hM dX1_step_1 (lv_at hl 0 rfl) ?_
  refine q_callV (As := []) (rest := [.ref (ad 78)]) hM hW.1 hR hC myX1_sign (kAW (v_1_13 (List.mem_of_getElem? (i := 2) rfl)) rfl) (rfl : vwCl[1]? = some (RX1, TX1, 5)) rfl lb_78.1 (shO hW.2.1 lb_78) (a_X1_sign _ _ cA ad g0 en a0 hW.2.1 hG ((hW.2.2.1 78 1 (by omega)).trans h_en) f1755 (by  omega) (by  omega) (by  omega)) ⟨by decide, by decide⟩ rfl rfl hl.1 (Nat.le_of_ble_eq_true rfl) dX1_step_2 (fun v g1758 H locs hp hW1 => ?_)
  obtain ⟨r1757, rfl, hr1757, rfl⟩ := hp
  have hW : WS ad cA (fun i k => (i = 78 ∧ (k = 2 ∨ k = 3)) ∨ (i = 75 ∧ (k = 2)) ∨ i = 76 ∨ i = 77) g0 K g0 H locs := ⟨hW1, hW.2.1, hW.2.2⟩
  refine q_callV (As := [.int r1757]) (rest := []) hM hW.1 hR hC myX1_wayOf (kAW (v_1_13 (List.mem_of_getElem? (i := 15) rfl)) rfl) (rfl : vwCl[1]? = some (RX1, TX1, 5)) rfl lb_78.1 (shO hW.2.1 lb_78) (a_X1_wayOf _ _ cA ad g0 r1757 hW.2.1 hG) ⟨by decide, by decide⟩ rfl rfl hl.1 (Nat.le_of_ble_eq_true rfl) dX1_step_5 (fun v g1760 H locs hp hW1 => ?_)
  obtain ⟨r1759, rfl, hr1759, rfl⟩ := hp
  have hW : WS ad cA (fun i k => (i = 78 ∧ (k = 2 ∨ k = 3)) ∨ (i = 75 ∧ (k = 2)) ∨ i = 76 ∨ i = 77) g0 K g0 H locs := ⟨hW1, hW.2.1, hW.2.2⟩
  refine q_istore_n (lv9 := [(2, .int r1759), (0, .ref (ad 78)), (1, .int sa)]) hM dX1_step_8 hl (by decide) rfl (fun ls hl => ?_)
  refine q_iload_n hM dX1_step_9 (lv_at hl 0 rfl) ?_
  refine q_iconst (v := (3 : Int32)) hM dX1_step_10 (by decide) ?_
  refine q_icmp_ne (tgt := 24) hM dX1_step_11 (by decide) (rfl : r1759.toInt = r1759.toInt) (kc_3 : (3 : Int32).toInt = 3) (fun h11 => ?_) (fun h11 => ?_)
  · refine q_aload_n hM dX1_step_24 (lv_at hl 1 rfl) ?_
    refine q_callV (As := []) (rest := []) hM hW.1 hR hC myX1_sign (kAW (v_1_13 (List.mem_of_getElem? (i := 2) rfl)) rfl) (rfl : vwCl[1]? = some (RX1, TX1, 5)) rfl lb_78.1 (shO hW.2.1 lb_78) (a_X1_sign _ _ cA ad g0 en a0 hW.2.1 hG ((hW.2.2.1 78 1 (by omega)).trans h_en) f1755 (by  omega) (by  omega) (by  omega)) ⟨by decide, by decide⟩ rfl rfl hl.1 (Nat.le_of_ble_eq_true rfl) dX1_step_25 (fun v g1763 H locs hp hW1 => ?_)
    obtain ⟨r1762, rfl, hr1762, rfl⟩ := hp
    have hW : WS ad cA (fun i k => (i = 78 ∧ (k = 2 ∨ k = 3)) ∨ (i = 75 ∧ (k = 2)) ∨ i = 76 ∨ i = 77) g0 K g0 H locs := ⟨hW1, hW.2.1, hW.2.2⟩
    refine q_istore_n (lv9 := [(3, .int r1762), (2, .int r1759), (0, .ref (ad 78)), (1, .int sa)]) hM dX1_step_28 hl (by decide) rfl (fun ls hl => ?_)
    refine q_iload_n hM dX1_step_29 (lv_at hl 1 rfl) ?_
    refine q_iconst (v := (1 : Int32)) hM dX1_step_30 (by decide) ?_
    refine q_icmp_ne (tgt := 41) hM dX1_step_31 (by decide) (rfl : r1759.toInt = r1759.toInt) (kc_1 : (1 : Int32).toInt = 1) (fun h31 => ?_) (fun h31 => ?_)
    · refine q_iload_n hM dX1_step_41 (lv_at hl 1 rfl) ?_
      refine q_iconst (v := (2 : Int32)) hM dX1_step_42 (by decide) ?_
      refine q_icmp_ne (tgt := 50) hM dX1_step_43 (by decide) (rfl : r1759.toInt = r1759.toInt) (kc_2 : (2 : Int32).toInt = 2) (fun h43 => ?_) (fun h43 => ?_)
      · refine q_iload_n hM dX1_step_50 (lv_at hl 0 rfl) ?_
        refine q_bipush (v := (97 : Int32)) hM dX1_step_51 (by decide) ?_
        refine q_isub hM dX1_step_53 (fun z1766 hz1766 => ?_)
        first | have tz1766 := i_subT hz1766 (rfl : r1762.toInt = r1762.toInt) (kc_97 : (97 : Int32).toInt = 97) (by omega) (by omega) | skip
        refine q_istore (lv9 := [(4, .int z1766), (3, .int r1762), (2, .int r1759), (0, .ref (ad 78)), (1, .int sa)]) hM dX1_step_54 hl (by decide) rfl (fun ls hl => ?_)
        refine q_iload_n hM dX1_step_56 (lv_at hl 2 rfl) ?_
        refine q_iconst (v := (1 : Int32)) hM dX1_step_57 (by decide) ?_
        refine q_icmp_ne (tgt := 66) hM dX1_step_58 (by decide) (rfl : r1759.toInt = r1759.toInt) (kc_1 : (1 : Int32).toInt = 1) (fun h58 => ?_) (fun h58 => ?_)
        · refine q_bipush (v := (11 : Int32)) hM dX1_step_66 (by decide) ?_
          refine q_istore (lv9 := [(5, .int (11 : Int32)), (4, .int z1766), (3, .int r1762), (2, .int r1759), (0, .ref (ad 78)), (1, .int sa)]) hM dX1_step_68 hl (by decide) rfl (fun ls hl => ?_)
          refine q_iload_n hM dX1_step_70 (lv_at hl 3 rfl) ?_
          refine q_iconst (v := ((-1) : Int32)) hM dX1_step_71 (by decide) ?_
          refine q_icmp_eq (tgt := 86) hM dX1_step_72 (by decide) (rfl : r1759.toInt = r1759.toInt) (kc_m1 : ((-1) : Int32).toInt = (-1)) (fun h72 => ?_) (fun h72 => ?_)
          · refine q_aload_n hM dX1_step_86 (lv_at hl 4 rfl) ?_
            refine q_iconst (v := (1 : Int32)) hM dX1_step_87 (by decide) ?_
            refine q_aload_n hM dX1_step_88 (lv_at hl 4 rfl) ?_
            refine w_get (v := .int a0) hM hW FG_X1_23 lb_78 f1755 dX1_step_89 ?_
            have ba0 := hG.f f1755 rF_78_2 (by decide)
            refine q_callV (As := [.int (1 : Int32), .int a0]) (rest := []) hM hW.1 hR hC myX1_wrong (kAW (v_1_13 (List.mem_of_getElem? (i := 7) rfl)) rfl) (rfl : vwCl[1]? = some (RX1, TX1, 5)) rfl lb_78.1 (shO hW.2.1 lb_78) (a_X1_wrong _ _ cA ad g0 (1 : Int32) a0 hW.2.1 hG) ⟨by decide, by decide⟩ rfl rfl hl.1 (Nat.le_of_ble_eq_true rfl) dX1_step_92 (fun v g1770 H locs hp hW1 => ?_)
            obtain ⟨r1769, rfl, hs1, hG, hf1, hr1769⟩ := hp
            have f1771 : fld g1770 78 2 = .int a0 := (hf1.1 78 2 (by omega)).trans f1755
            have f1772 : fld g1770 75 2 = .int c0 := (hf1.1 75 2 (by omega)).trans f1756
            have hW : WS ad cA (fun i k => (i = 78 ∧ (k = 2 ∨ k = 3)) ∨ (i = 75 ∧ (k = 2)) ∨ i = 76 ∨ i = 77) g0 K g1770 H locs := ⟨hW1, hs1, hW.2.2.tr hf1 (fun i k h => (Or.inl (by omega)))⟩
            exact hE _ _ _ _ _ _ hW.1 (nz_or (by omega)) ⟨a0, c0, _, rfl, hW.2.1, hG, hW.2.2, f1771, f1772, (by omega), (by omega), (by omega), (by omega)⟩ dX1_step_95
          · refine q_iload hM dX1_step_75 (lv_at hl 1 rfl) ?_
            refine q_iconst (v := (0 : Int32)) hM dX1_step_77 (by decide) ?_
            refine q_iload hM dX1_step_78 (lv_at hl 0 rfl) ?_
            refine q_callN (host := "ForgetSchool") (As := [.int z1766, .int (0 : Int32), .int (11 : Int32)]) (rest := []) hM hW.1 hR hC myX11_within (List.mem_of_getElem? (i := 1) rfl) (c_X11_within _ _ cA ad g0 z1766 (0 : Int32) (11 : Int32) hW.2.1) ⟨by decide, by decide⟩ rfl rfl hl.1 (Nat.le_of_ble_eq_true rfl) dX1_step_80 (fun v g1775 H locs hp hW1 => ?_)
            obtain ⟨r1774, rfl, hr1774, rfl⟩ := hp
            have hW : WS ad cA (fun i k => (i = 78 ∧ (k = 2 ∨ k = 3)) ∨ (i = 75 ∧ (k = 2)) ∨ i = 76 ∨ i = 77) g0 K g0 H locs := ⟨hW1, hW.2.1, hW.2.2⟩
            have := kc_0
            have := kc_11
            refine q_if_ne (tgt := 96) hM dX1_step_83 (by decide) (rfl : r1774.toInt = r1774.toInt) (fun h83 => ?_) (fun h83 => ?_)
            · refine q_aload_n hM dX1_step_96 (lv_at hl 4 rfl) ?_
              refine q_dup hM dX1_step_97 rfl ?_
              refine w_get (v := .int a0) hM hW FG_X1_23 lb_78 f1755 dX1_step_98 ?_
              have ba0 := hG.f f1755 rF_78_2 (by decide)
              refine q_iconst (v := (1 : Int32)) hM dX1_step_101 (by decide) ?_
              refine q_iadd hM dX1_step_102 (fun z1777 hz1777 => ?_)
              first | have tz1777 := i_addT hz1777 (rfl : a0.toInt = a0.toInt) (kc_1 : (1 : Int32).toInt = 1) (by omega) (by omega) | skip
              refine w_put hM hW FP_X1_23 lb_78 (by omega) (Or.inl ⟨_, rfl⟩) rfl rfl dX1_step_103 (fun g1778 H locs hW e1 e2 => ?_)
              have f1779 : fld g1778 75 2 = .int c0 := (e2.1 75 2 (by unfold Only; omega)).trans f1756
              have f1780 : fld g1778 78 2 = .int z1777 := e1
              have hG := hG.put e1 e2 rF_78_2 (by decide) (by have := i_rng z1777; omega) (by have := i_rng z1777; omega)
              refine q_aload_n hM dX1_step_106 (lv_at hl 4 rfl) ?_
              refine w_get (v := .ref (ad 75)) hM hW FG_X1_15 lb_78 ((hW.2.2.1 78 4 (by omega)).trans h_r4) dX1_step_107 ?_
              refine q_iload_n hM dX1_step_110 (lv_at hl 3 rfl) ?_
              refine q_iload hM dX1_step_111 (lv_at hl 1 rfl) ?_
              refine q_callV (As := [.int r1759, .int z1766]) (rest := []) hM hW.1 hR hC myX0_add (kAW (v_1_14 (List.mem_of_getElem? (i := 3) rfl)) rfl) (rfl : vwCl[0]? = some (RX0, TX0, 3)) rfl lb_75.1 (shO hW.2.1 lb_75) (a_X0_add2 _ _ cA ad g1778 r1759 z1766 c0 hW.2.1 hG f1779) ⟨by decide, by decide⟩ rfl rfl hl.1 (Nat.le_of_ble_eq_true rfl) dX1_step_113 (fun v g1785 H locs hp hW1 => ?_)
              obtain ⟨v1781, r1782, rfl, hs1, hG, hf1, q1783, e1784, hr1782⟩ := hp
              have f1786 : fld g1785 78 2 = .int z1777 := (hf1.1 78 2 (by omega)).trans f1780
              have hW : WS ad cA (fun i k => (i = 78 ∧ (k = 2 ∨ k = 3)) ∨ (i = 75 ∧ (k = 2)) ∨ i = 76 ∨ i = 77) g0 K g1785 H locs := ⟨hW1, hs1, hW.2.2.tr hf1 (fun i k h => h.elim (fun h => (Or.inr (Or.inl h))) (fun h => h.elim (fun h => (Or.inr (Or.inr (Or.inl h)))) (fun h => (Or.inr (Or.inr (Or.inr h))))))⟩
              refine q_if_ne (tgt := 129) hM dX1_step_116 (by decide) (rfl : r1782.toInt = r1782.toInt) (fun h116 => ?_) (fun h116 => ?_)
              · refine q_iconst (v := (1 : Int32)) hM dX1_step_129 (by decide) ?_
                refine q_goto (tgt := 134) hM dX1_step_130 (by decide) ?_
                exact hE _ _ _ _ _ _ hW.1 nz_1 ⟨z1777, v1781, _, rfl, hW.2.1, hG, hW.2.2, f1786, q1783, (by have := kc_1; omega), (by have := kc_1; omega), (by have := kc_1; omega), (by have := kc_1; omega)⟩ dX1_step_134
              · refine q_aload_n hM dX1_step_119 (lv_at hl 4 rfl) ?_
                refine q_bipush (v := (6 : Int32)) hM dX1_step_120 (by decide) ?_
                refine q_iload_n hM dX1_step_122 (lv_at hl 5 rfl) ?_
                refine q_callV (As := [.int (6 : Int32), .int sa]) (rest := []) hM hW.1 hR hC myX1_wrong (kAW (v_1_13 (List.mem_of_getElem? (i := 7) rfl)) rfl) (rfl : vwCl[1]? = some (RX1, TX1, 5)) rfl lb_78.1 (shO hW.2.1 lb_78) (a_X1_wrong _ _ cA ad g1785 (6 : Int32) sa hW.2.1 hG) ⟨by decide, by decide⟩ rfl rfl hl.1 (Nat.le_of_ble_eq_true rfl) dX1_step_123 (fun v g1790 H locs hp hW1 => ?_)
                obtain ⟨r1789, rfl, hs1, hG, hf1, hr1789⟩ := hp
                have f1791 : fld g1790 78 2 = .int z1777 := (hf1.1 78 2 (by omega)).trans f1786
                have f1792 : fld g1790 75 2 = .int v1781 := (hf1.1 75 2 (by omega)).trans q1783
                have hW : WS ad cA (fun i k => (i = 78 ∧ (k = 2 ∨ k = 3)) ∨ (i = 75 ∧ (k = 2)) ∨ i = 76 ∨ i = 77) g0 K g1790 H locs := ⟨hW1, hs1, hW.2.2.tr hf1 (fun i k h => (Or.inl (by omega)))⟩
                refine q_if_eq (tgt := 133) hM dX1_step_126 (by decide) (rfl : r1789.toInt = r1789.toInt) (fun h126 => ?_) (fun h126 => ?_)
                · refine q_iconst (v := (0 : Int32)) hM dX1_step_133 (by decide) ?_
                  exact hE _ _ _ _ _ _ hW.1 nz_0 ⟨z1777, v1781, _, rfl, hW.2.1, hG, hW.2.2, f1791, f1792, (by have := kc_0; omega), (by have := kc_0; omega), (by have := kc_0; omega), (by have := kc_0; omega)⟩ dX1_step_134
                · refine q_iconst (v := (1 : Int32)) hM dX1_step_129 (by decide) ?_
                  refine q_goto (tgt := 134) hM dX1_step_130 (by decide) ?_
                  exact hE _ _ _ _ _ _ hW.1 nz_1 ⟨z1777, v1781, _, rfl, hW.2.1, hG, hW.2.2, f1791, f1792, (by have := kc_1; omega), (by have := kc_1; omega), (by have := kc_1; omega), (by have := kc_1; omega)⟩ dX1_step_134
            · refine q_aload_n hM dX1_step_86 (lv_at hl 4 rfl) ?_
              refine q_iconst (v := (1 : Int32)) hM dX1_step_87 (by decide) ?_
              refine q_aload_n hM dX1_step_88 (lv_at hl 4 rfl) ?_
              refine w_get (v := .int a0) hM hW FG_X1_23 lb_78 f1755 dX1_step_89 ?_
              have ba0 := hG.f f1755 rF_78_2 (by decide)
              refine q_callV (As := [.int (1 : Int32), .int a0]) (rest := []) hM hW.1 hR hC myX1_wrong (kAW (v_1_13 (List.mem_of_getElem? (i := 7) rfl)) rfl) (rfl : vwCl[1]? = some (RX1, TX1, 5)) rfl lb_78.1 (shO hW.2.1 lb_78) (a_X1_wrong _ _ cA ad g0 (1 : Int32) a0 hW.2.1 hG) ⟨by decide, by decide⟩ rfl rfl hl.1 (Nat.le_of_ble_eq_true rfl) dX1_step_92 (fun v g1797 H locs hp hW1 => ?_)
              obtain ⟨r1796, rfl, hs1, hG, hf1, hr1796⟩ := hp
              have f1798 : fld g1797 78 2 = .int a0 := (hf1.1 78 2 (by omega)).trans f1755
              have f1799 : fld g1797 75 2 = .int c0 := (hf1.1 75 2 (by omega)).trans f1756
              have hW : WS ad cA (fun i k => (i = 78 ∧ (k = 2 ∨ k = 3)) ∨ (i = 75 ∧ (k = 2)) ∨ i = 76 ∨ i = 77) g0 K g1797 H locs := ⟨hW1, hs1, hW.2.2.tr hf1 (fun i k h => (Or.inl (by omega)))⟩
              exact hE _ _ _ _ _ _ hW.1 (nz_or (by omega)) ⟨a0, c0, _, rfl, hW.2.1, hG, hW.2.2, f1798, f1799, (by omega), (by omega), (by omega), (by omega)⟩ dX1_step_95
        · refine q_bipush (v := (8 : Int32)) hM dX1_step_61 (by decide) ?_
          refine q_goto (tgt := 68) hM dX1_step_63 (by decide) ?_
          refine q_istore (lv9 := [(5, .int (8 : Int32)), (4, .int z1766), (3, .int r1762), (2, .int r1759), (0, .ref (ad 78)), (1, .int sa)]) hM dX1_step_68 hl (by decide) rfl (fun ls hl => ?_)
          refine q_iload_n hM dX1_step_70 (lv_at hl 3 rfl) ?_
          refine q_iconst (v := ((-1) : Int32)) hM dX1_step_71 (by decide) ?_
          refine q_icmp_eq (tgt := 86) hM dX1_step_72 (by decide) (rfl : r1759.toInt = r1759.toInt) (kc_m1 : ((-1) : Int32).toInt = (-1)) (fun h72 => ?_) (fun h72 => ?_)
          · refine q_aload_n hM dX1_step_86 (lv_at hl 4 rfl) ?_
            refine q_iconst (v := (1 : Int32)) hM dX1_step_87 (by decide) ?_
            refine q_aload_n hM dX1_step_88 (lv_at hl 4 rfl) ?_
            refine w_get (v := .int a0) hM hW FG_X1_23 lb_78 f1755 dX1_step_89 ?_
            have ba0 := hG.f f1755 rF_78_2 (by decide)
            refine q_callV (As := [.int (1 : Int32), .int a0]) (rest := []) hM hW.1 hR hC myX1_wrong (kAW (v_1_13 (List.mem_of_getElem? (i := 7) rfl)) rfl) (rfl : vwCl[1]? = some (RX1, TX1, 5)) rfl lb_78.1 (shO hW.2.1 lb_78) (a_X1_wrong _ _ cA ad g0 (1 : Int32) a0 hW.2.1 hG) ⟨by decide, by decide⟩ rfl rfl hl.1 (Nat.le_of_ble_eq_true rfl) dX1_step_92 (fun v g1803 H locs hp hW1 => ?_)
            obtain ⟨r1802, rfl, hs1, hG, hf1, hr1802⟩ := hp
            have f1804 : fld g1803 78 2 = .int a0 := (hf1.1 78 2 (by omega)).trans f1755
            have f1805 : fld g1803 75 2 = .int c0 := (hf1.1 75 2 (by omega)).trans f1756
            have hW : WS ad cA (fun i k => (i = 78 ∧ (k = 2 ∨ k = 3)) ∨ (i = 75 ∧ (k = 2)) ∨ i = 76 ∨ i = 77) g0 K g1803 H locs := ⟨hW1, hs1, hW.2.2.tr hf1 (fun i k h => (Or.inl (by omega)))⟩
            exact hE _ _ _ _ _ _ hW.1 (nz_or (by omega)) ⟨a0, c0, _, rfl, hW.2.1, hG, hW.2.2, f1804, f1805, (by omega), (by omega), (by omega), (by omega)⟩ dX1_step_95
          · refine q_iload hM dX1_step_75 (lv_at hl 1 rfl) ?_
            refine q_iconst (v := (0 : Int32)) hM dX1_step_77 (by decide) ?_
            refine q_iload hM dX1_step_78 (lv_at hl 0 rfl) ?_
            refine q_callN (host := "ForgetSchool") (As := [.int z1766, .int (0 : Int32), .int (8 : Int32)]) (rest := []) hM hW.1 hR hC myX11_within (List.mem_of_getElem? (i := 1) rfl) (c_X11_within _ _ cA ad g0 z1766 (0 : Int32) (8 : Int32) hW.2.1) ⟨by decide, by decide⟩ rfl rfl hl.1 (Nat.le_of_ble_eq_true rfl) dX1_step_80 (fun v g1808 H locs hp hW1 => ?_)
            obtain ⟨r1807, rfl, hr1807, rfl⟩ := hp
            have hW : WS ad cA (fun i k => (i = 78 ∧ (k = 2 ∨ k = 3)) ∨ (i = 75 ∧ (k = 2)) ∨ i = 76 ∨ i = 77) g0 K g0 H locs := ⟨hW1, hW.2.1, hW.2.2⟩
            have := kc_0
            have := kc_8
            refine q_if_ne (tgt := 96) hM dX1_step_83 (by decide) (rfl : r1807.toInt = r1807.toInt) (fun h83 => ?_) (fun h83 => ?_)
            · refine q_aload_n hM dX1_step_96 (lv_at hl 4 rfl) ?_
              refine q_dup hM dX1_step_97 rfl ?_
              refine w_get (v := .int a0) hM hW FG_X1_23 lb_78 f1755 dX1_step_98 ?_
              have ba0 := hG.f f1755 rF_78_2 (by decide)
              refine q_iconst (v := (1 : Int32)) hM dX1_step_101 (by decide) ?_
              refine q_iadd hM dX1_step_102 (fun z1810 hz1810 => ?_)
              first | have tz1810 := i_addT hz1810 (rfl : a0.toInt = a0.toInt) (kc_1 : (1 : Int32).toInt = 1) (by omega) (by omega) | skip
              refine w_put hM hW FP_X1_23 lb_78 (by omega) (Or.inl ⟨_, rfl⟩) rfl rfl dX1_step_103 (fun g1811 H locs hW e1 e2 => ?_)
              have f1812 : fld g1811 75 2 = .int c0 := (e2.1 75 2 (by unfold Only; omega)).trans f1756
              have f1813 : fld g1811 78 2 = .int z1810 := e1
              have hG := hG.put e1 e2 rF_78_2 (by decide) (by have := i_rng z1810; omega) (by have := i_rng z1810; omega)
              refine q_aload_n hM dX1_step_106 (lv_at hl 4 rfl) ?_
              refine w_get (v := .ref (ad 75)) hM hW FG_X1_15 lb_78 ((hW.2.2.1 78 4 (by omega)).trans h_r4) dX1_step_107 ?_
              refine q_iload_n hM dX1_step_110 (lv_at hl 3 rfl) ?_
              refine q_iload hM dX1_step_111 (lv_at hl 1 rfl) ?_
              refine q_callV (As := [.int r1759, .int z1766]) (rest := []) hM hW.1 hR hC myX0_add (kAW (v_1_14 (List.mem_of_getElem? (i := 3) rfl)) rfl) (rfl : vwCl[0]? = some (RX0, TX0, 3)) rfl lb_75.1 (shO hW.2.1 lb_75) (a_X0_add2 _ _ cA ad g1811 r1759 z1766 c0 hW.2.1 hG f1812) ⟨by decide, by decide⟩ rfl rfl hl.1 (Nat.le_of_ble_eq_true rfl) dX1_step_113 (fun v g1818 H locs hp hW1 => ?_)
              obtain ⟨v1814, r1815, rfl, hs1, hG, hf1, q1816, e1817, hr1815⟩ := hp
              have f1819 : fld g1818 78 2 = .int z1810 := (hf1.1 78 2 (by omega)).trans f1813
              have hW : WS ad cA (fun i k => (i = 78 ∧ (k = 2 ∨ k = 3)) ∨ (i = 75 ∧ (k = 2)) ∨ i = 76 ∨ i = 77) g0 K g1818 H locs := ⟨hW1, hs1, hW.2.2.tr hf1 (fun i k h => h.elim (fun h => (Or.inr (Or.inl h))) (fun h => h.elim (fun h => (Or.inr (Or.inr (Or.inl h)))) (fun h => (Or.inr (Or.inr (Or.inr h))))))⟩
              refine q_if_ne (tgt := 129) hM dX1_step_116 (by decide) (rfl : r1815.toInt = r1815.toInt) (fun h116 => ?_) (fun h116 => ?_)
              · refine q_iconst (v := (1 : Int32)) hM dX1_step_129 (by decide) ?_
                refine q_goto (tgt := 134) hM dX1_step_130 (by decide) ?_
                exact hE _ _ _ _ _ _ hW.1 nz_1 ⟨z1810, v1814, _, rfl, hW.2.1, hG, hW.2.2, f1819, q1816, (by have := kc_1; omega), (by have := kc_1; omega), (by have := kc_1; omega), (by have := kc_1; omega)⟩ dX1_step_134
              · refine q_aload_n hM dX1_step_119 (lv_at hl 4 rfl) ?_
                refine q_bipush (v := (6 : Int32)) hM dX1_step_120 (by decide) ?_
                refine q_iload_n hM dX1_step_122 (lv_at hl 5 rfl) ?_
                refine q_callV (As := [.int (6 : Int32), .int sa]) (rest := []) hM hW.1 hR hC myX1_wrong (kAW (v_1_13 (List.mem_of_getElem? (i := 7) rfl)) rfl) (rfl : vwCl[1]? = some (RX1, TX1, 5)) rfl lb_78.1 (shO hW.2.1 lb_78) (a_X1_wrong _ _ cA ad g1818 (6 : Int32) sa hW.2.1 hG) ⟨by decide, by decide⟩ rfl rfl hl.1 (Nat.le_of_ble_eq_true rfl) dX1_step_123 (fun v g1823 H locs hp hW1 => ?_)
                obtain ⟨r1822, rfl, hs1, hG, hf1, hr1822⟩ := hp
                have f1824 : fld g1823 78 2 = .int z1810 := (hf1.1 78 2 (by omega)).trans f1819
                have f1825 : fld g1823 75 2 = .int v1814 := (hf1.1 75 2 (by omega)).trans q1816
                have hW : WS ad cA (fun i k => (i = 78 ∧ (k = 2 ∨ k = 3)) ∨ (i = 75 ∧ (k = 2)) ∨ i = 76 ∨ i = 77) g0 K g1823 H locs := ⟨hW1, hs1, hW.2.2.tr hf1 (fun i k h => (Or.inl (by omega)))⟩
                refine q_if_eq (tgt := 133) hM dX1_step_126 (by decide) (rfl : r1822.toInt = r1822.toInt) (fun h126 => ?_) (fun h126 => ?_)
                · refine q_iconst (v := (0 : Int32)) hM dX1_step_133 (by decide) ?_
                  exact hE _ _ _ _ _ _ hW.1 nz_0 ⟨z1810, v1814, _, rfl, hW.2.1, hG, hW.2.2, f1824, f1825, (by have := kc_0; omega), (by have := kc_0; omega), (by have := kc_0; omega), (by have := kc_0; omega)⟩ dX1_step_134
                · refine q_iconst (v := (1 : Int32)) hM dX1_step_129 (by decide) ?_
                  refine q_goto (tgt := 134) hM dX1_step_130 (by decide) ?_
                  exact hE _ _ _ _ _ _ hW.1 nz_1 ⟨z1810, v1814, _, rfl, hW.2.1, hG, hW.2.2, f1824, f1825, (by have := kc_1; omega), (by have := kc_1; omega), (by have := kc_1; omega), (by have := kc_1; omega)⟩ dX1_step_134
            · refine q_aload_n hM dX1_step_86 (lv_at hl 4 rfl) ?_
              refine q_iconst (v := (1 : Int32)) hM dX1_step_87 (by decide) ?_
              refine q_aload_n hM dX1_step_88 (lv_at hl 4 rfl) ?_
              refine w_get (v := .int a0) hM hW FG_X1_23 lb_78 f1755 dX1_step_89 ?_
              have ba0 := hG.f f1755 rF_78_2 (by decide)
              refine q_callV (As := [.int (1 : Int32), .int a0]) (rest := []) hM hW.1 hR hC myX1_wrong (kAW (v_1_13 (List.mem_of_getElem? (i := 7) rfl)) rfl) (rfl : vwCl[1]? = some (RX1, TX1, 5)) rfl lb_78.1 (shO hW.2.1 lb_78) (a_X1_wrong _ _ cA ad g0 (1 : Int32) a0 hW.2.1 hG) ⟨by decide, by decide⟩ rfl rfl hl.1 (Nat.le_of_ble_eq_true rfl) dX1_step_92 (fun v g1830 H locs hp hW1 => ?_)
              obtain ⟨r1829, rfl, hs1, hG, hf1, hr1829⟩ := hp
              have f1831 : fld g1830 78 2 = .int a0 := (hf1.1 78 2 (by omega)).trans f1755
              have f1832 : fld g1830 75 2 = .int c0 := (hf1.1 75 2 (by omega)).trans f1756
              have hW : WS ad cA (fun i k => (i = 78 ∧ (k = 2 ∨ k = 3)) ∨ (i = 75 ∧ (k = 2)) ∨ i = 76 ∨ i = 77) g0 K g1830 H locs := ⟨hW1, hs1, hW.2.2.tr hf1 (fun i k h => (Or.inl (by omega)))⟩
              exact hE _ _ _ _ _ _ hW.1 (nz_or (by omega)) ⟨a0, c0, _, rfl, hW.2.1, hG, hW.2.2, f1831, f1832, (by omega), (by omega), (by omega), (by omega)⟩ dX1_step_95
      · refine q_iconst (v := (0 : Int32)) hM dX1_step_46 (by decide) ?_
        refine q_goto (tgt := 54) hM dX1_step_47 (by decide) ?_
        refine q_istore (lv9 := [(4, .int (0 : Int32)), (3, .int r1762), (2, .int r1759), (0, .ref (ad 78)), (1, .int sa)]) hM dX1_step_54 hl (by decide) rfl (fun ls hl => ?_)
        refine q_iload_n hM dX1_step_56 (lv_at hl 2 rfl) ?_
        refine q_iconst (v := (1 : Int32)) hM dX1_step_57 (by decide) ?_
        refine q_icmp_ne (tgt := 66) hM dX1_step_58 (by decide) (rfl : r1759.toInt = r1759.toInt) (kc_1 : (1 : Int32).toInt = 1) (fun h58 => ?_) (fun h58 => ?_)
        · refine q_bipush (v := (11 : Int32)) hM dX1_step_66 (by decide) ?_
          refine q_istore (lv9 := [(5, .int (11 : Int32)), (4, .int (0 : Int32)), (3, .int r1762), (2, .int r1759), (0, .ref (ad 78)), (1, .int sa)]) hM dX1_step_68 hl (by decide) rfl (fun ls hl => ?_)
          refine q_iload_n hM dX1_step_70 (lv_at hl 3 rfl) ?_
          refine q_iconst (v := ((-1) : Int32)) hM dX1_step_71 (by decide) ?_
          refine q_icmp_eq (tgt := 86) hM dX1_step_72 (by decide) (rfl : r1759.toInt = r1759.toInt) (kc_m1 : ((-1) : Int32).toInt = (-1)) (fun h72 => ?_) (fun h72 => ?_)
          · refine q_aload_n hM dX1_step_86 (lv_at hl 4 rfl) ?_
            refine q_iconst (v := (1 : Int32)) hM dX1_step_87 (by decide) ?_
            refine q_aload_n hM dX1_step_88 (lv_at hl 4 rfl) ?_
            refine w_get (v := .int a0) hM hW FG_X1_23 lb_78 f1755 dX1_step_89 ?_
            have ba0 := hG.f f1755 rF_78_2 (by decide)
            refine q_callV (As := [.int (1 : Int32), .int a0]) (rest := []) hM hW.1 hR hC myX1_wrong (kAW (v_1_13 (List.mem_of_getElem? (i := 7) rfl)) rfl) (rfl : vwCl[1]? = some (RX1, TX1, 5)) rfl lb_78.1 (shO hW.2.1 lb_78) (a_X1_wrong _ _ cA ad g0 (1 : Int32) a0 hW.2.1 hG) ⟨by decide, by decide⟩ rfl rfl hl.1 (Nat.le_of_ble_eq_true rfl) dX1_step_92 (fun v g1837 H locs hp hW1 => ?_)
            obtain ⟨r1836, rfl, hs1, hG, hf1, hr1836⟩ := hp
            have f1838 : fld g1837 78 2 = .int a0 := (hf1.1 78 2 (by omega)).trans f1755
            have f1839 : fld g1837 75 2 = .int c0 := (hf1.1 75 2 (by omega)).trans f1756
            have hW : WS ad cA (fun i k => (i = 78 ∧ (k = 2 ∨ k = 3)) ∨ (i = 75 ∧ (k = 2)) ∨ i = 76 ∨ i = 77) g0 K g1837 H locs := ⟨hW1, hs1, hW.2.2.tr hf1 (fun i k h => (Or.inl (by omega)))⟩
            exact hE _ _ _ _ _ _ hW.1 (nz_or (by omega)) ⟨a0, c0, _, rfl, hW.2.1, hG, hW.2.2, f1838, f1839, (by omega), (by omega), (by omega), (by omega)⟩ dX1_step_95
          · refine q_iload hM dX1_step_75 (lv_at hl 1 rfl) ?_
            refine q_iconst (v := (0 : Int32)) hM dX1_step_77 (by decide) ?_
            refine q_iload hM dX1_step_78 (lv_at hl 0 rfl) ?_
            refine q_callN (host := "ForgetSchool") (As := [.int (0 : Int32), .int (0 : Int32), .int (11 : Int32)]) (rest := []) hM hW.1 hR hC myX11_within (List.mem_of_getElem? (i := 1) rfl) (c_X11_within _ _ cA ad g0 (0 : Int32) (0 : Int32) (11 : Int32) hW.2.1) ⟨by decide, by decide⟩ rfl rfl hl.1 (Nat.le_of_ble_eq_true rfl) dX1_step_80 (fun v g1842 H locs hp hW1 => ?_)
            obtain ⟨r1841, rfl, hr1841, rfl⟩ := hp
            have hW : WS ad cA (fun i k => (i = 78 ∧ (k = 2 ∨ k = 3)) ∨ (i = 75 ∧ (k = 2)) ∨ i = 76 ∨ i = 77) g0 K g0 H locs := ⟨hW1, hW.2.1, hW.2.2⟩
            have := kc_0
            have := kc_0
            have := kc_11
            refine q_if_ne (tgt := 96) hM dX1_step_83 (by decide) (rfl : r1841.toInt = r1841.toInt) (fun h83 => ?_) (fun h83 => ?_)
            · refine q_aload_n hM dX1_step_96 (lv_at hl 4 rfl) ?_
              refine q_dup hM dX1_step_97 rfl ?_
              refine w_get (v := .int a0) hM hW FG_X1_23 lb_78 f1755 dX1_step_98 ?_
              have ba0 := hG.f f1755 rF_78_2 (by decide)
              refine q_iconst (v := (1 : Int32)) hM dX1_step_101 (by decide) ?_
              refine q_iadd hM dX1_step_102 (fun z1844 hz1844 => ?_)
              first | have tz1844 := i_addT hz1844 (rfl : a0.toInt = a0.toInt) (kc_1 : (1 : Int32).toInt = 1) (by omega) (by omega) | skip
              refine w_put hM hW FP_X1_23 lb_78 (by omega) (Or.inl ⟨_, rfl⟩) rfl rfl dX1_step_103 (fun g1845 H locs hW e1 e2 => ?_)
              have f1846 : fld g1845 75 2 = .int c0 := (e2.1 75 2 (by unfold Only; omega)).trans f1756
              have f1847 : fld g1845 78 2 = .int z1844 := e1
              have hG := hG.put e1 e2 rF_78_2 (by decide) (by have := i_rng z1844; omega) (by have := i_rng z1844; omega)
              refine q_aload_n hM dX1_step_106 (lv_at hl 4 rfl) ?_
              refine w_get (v := .ref (ad 75)) hM hW FG_X1_15 lb_78 ((hW.2.2.1 78 4 (by omega)).trans h_r4) dX1_step_107 ?_
              refine q_iload_n hM dX1_step_110 (lv_at hl 3 rfl) ?_
              refine q_iload hM dX1_step_111 (lv_at hl 1 rfl) ?_
              refine q_callV (As := [.int r1759, .int (0 : Int32)]) (rest := []) hM hW.1 hR hC myX0_add (kAW (v_1_14 (List.mem_of_getElem? (i := 3) rfl)) rfl) (rfl : vwCl[0]? = some (RX0, TX0, 3)) rfl lb_75.1 (shO hW.2.1 lb_75) (a_X0_add2 _ _ cA ad g1845 r1759 (0 : Int32) c0 hW.2.1 hG f1846) ⟨by decide, by decide⟩ rfl rfl hl.1 (Nat.le_of_ble_eq_true rfl) dX1_step_113 (fun v g1852 H locs hp hW1 => ?_)
              obtain ⟨v1848, r1849, rfl, hs1, hG, hf1, q1850, e1851, hr1849⟩ := hp
              have f1853 : fld g1852 78 2 = .int z1844 := (hf1.1 78 2 (by omega)).trans f1847
              have hW : WS ad cA (fun i k => (i = 78 ∧ (k = 2 ∨ k = 3)) ∨ (i = 75 ∧ (k = 2)) ∨ i = 76 ∨ i = 77) g0 K g1852 H locs := ⟨hW1, hs1, hW.2.2.tr hf1 (fun i k h => h.elim (fun h => (Or.inr (Or.inl h))) (fun h => h.elim (fun h => (Or.inr (Or.inr (Or.inl h)))) (fun h => (Or.inr (Or.inr (Or.inr h))))))⟩
              refine q_if_ne (tgt := 129) hM dX1_step_116 (by decide) (rfl : r1849.toInt = r1849.toInt) (fun h116 => ?_) (fun h116 => ?_)
              · refine q_iconst (v := (1 : Int32)) hM dX1_step_129 (by decide) ?_
                refine q_goto (tgt := 134) hM dX1_step_130 (by decide) ?_
                exact hE _ _ _ _ _ _ hW.1 nz_1 ⟨z1844, v1848, _, rfl, hW.2.1, hG, hW.2.2, f1853, q1850, (by have := kc_1; omega), (by have := kc_1; omega), (by have := kc_1; omega), (by have := kc_1; omega)⟩ dX1_step_134
              · refine q_aload_n hM dX1_step_119 (lv_at hl 4 rfl) ?_
                refine q_bipush (v := (6 : Int32)) hM dX1_step_120 (by decide) ?_
                refine q_iload_n hM dX1_step_122 (lv_at hl 5 rfl) ?_
                refine q_callV (As := [.int (6 : Int32), .int sa]) (rest := []) hM hW.1 hR hC myX1_wrong (kAW (v_1_13 (List.mem_of_getElem? (i := 7) rfl)) rfl) (rfl : vwCl[1]? = some (RX1, TX1, 5)) rfl lb_78.1 (shO hW.2.1 lb_78) (a_X1_wrong _ _ cA ad g1852 (6 : Int32) sa hW.2.1 hG) ⟨by decide, by decide⟩ rfl rfl hl.1 (Nat.le_of_ble_eq_true rfl) dX1_step_123 (fun v g1857 H locs hp hW1 => ?_)
                obtain ⟨r1856, rfl, hs1, hG, hf1, hr1856⟩ := hp
                have f1858 : fld g1857 78 2 = .int z1844 := (hf1.1 78 2 (by omega)).trans f1853
                have f1859 : fld g1857 75 2 = .int v1848 := (hf1.1 75 2 (by omega)).trans q1850
                have hW : WS ad cA (fun i k => (i = 78 ∧ (k = 2 ∨ k = 3)) ∨ (i = 75 ∧ (k = 2)) ∨ i = 76 ∨ i = 77) g0 K g1857 H locs := ⟨hW1, hs1, hW.2.2.tr hf1 (fun i k h => (Or.inl (by omega)))⟩
                refine q_if_eq (tgt := 133) hM dX1_step_126 (by decide) (rfl : r1856.toInt = r1856.toInt) (fun h126 => ?_) (fun h126 => ?_)
                · refine q_iconst (v := (0 : Int32)) hM dX1_step_133 (by decide) ?_
                  exact hE _ _ _ _ _ _ hW.1 nz_0 ⟨z1844, v1848, _, rfl, hW.2.1, hG, hW.2.2, f1858, f1859, (by have := kc_0; omega), (by have := kc_0; omega), (by have := kc_0; omega), (by have := kc_0; omega)⟩ dX1_step_134
                · refine q_iconst (v := (1 : Int32)) hM dX1_step_129 (by decide) ?_
                  refine q_goto (tgt := 134) hM dX1_step_130 (by decide) ?_
                  exact hE _ _ _ _ _ _ hW.1 nz_1 ⟨z1844, v1848, _, rfl, hW.2.1, hG, hW.2.2, f1858, f1859, (by have := kc_1; omega), (by have := kc_1; omega), (by have := kc_1; omega), (by have := kc_1; omega)⟩ dX1_step_134
            · refine q_aload_n hM dX1_step_86 (lv_at hl 4 rfl) ?_
              refine q_iconst (v := (1 : Int32)) hM dX1_step_87 (by decide) ?_
              refine q_aload_n hM dX1_step_88 (lv_at hl 4 rfl) ?_
              refine w_get (v := .int a0) hM hW FG_X1_23 lb_78 f1755 dX1_step_89 ?_
              have ba0 := hG.f f1755 rF_78_2 (by decide)
              refine q_callV (As := [.int (1 : Int32), .int a0]) (rest := []) hM hW.1 hR hC myX1_wrong (kAW (v_1_13 (List.mem_of_getElem? (i := 7) rfl)) rfl) (rfl : vwCl[1]? = some (RX1, TX1, 5)) rfl lb_78.1 (shO hW.2.1 lb_78) (a_X1_wrong _ _ cA ad g0 (1 : Int32) a0 hW.2.1 hG) ⟨by decide, by decide⟩ rfl rfl hl.1 (Nat.le_of_ble_eq_true rfl) dX1_step_92 (fun v g1864 H locs hp hW1 => ?_)
              obtain ⟨r1863, rfl, hs1, hG, hf1, hr1863⟩ := hp
              have f1865 : fld g1864 78 2 = .int a0 := (hf1.1 78 2 (by omega)).trans f1755
              have f1866 : fld g1864 75 2 = .int c0 := (hf1.1 75 2 (by omega)).trans f1756
              have hW : WS ad cA (fun i k => (i = 78 ∧ (k = 2 ∨ k = 3)) ∨ (i = 75 ∧ (k = 2)) ∨ i = 76 ∨ i = 77) g0 K g1864 H locs := ⟨hW1, hs1, hW.2.2.tr hf1 (fun i k h => (Or.inl (by omega)))⟩
              exact hE _ _ _ _ _ _ hW.1 (nz_or (by omega)) ⟨a0, c0, _, rfl, hW.2.1, hG, hW.2.2, f1865, f1866, (by omega), (by omega), (by omega), (by omega)⟩ dX1_step_95
        · refine q_bipush (v := (8 : Int32)) hM dX1_step_61 (by decide) ?_
          refine q_goto (tgt := 68) hM dX1_step_63 (by decide) ?_
          refine q_istore (lv9 := [(5, .int (8 : Int32)), (4, .int (0 : Int32)), (3, .int r1762), (2, .int r1759), (0, .ref (ad 78)), (1, .int sa)]) hM dX1_step_68 hl (by decide) rfl (fun ls hl => ?_)
          refine q_iload_n hM dX1_step_70 (lv_at hl 3 rfl) ?_
          refine q_iconst (v := ((-1) : Int32)) hM dX1_step_71 (by decide) ?_
          refine q_icmp_eq (tgt := 86) hM dX1_step_72 (by decide) (rfl : r1759.toInt = r1759.toInt) (kc_m1 : ((-1) : Int32).toInt = (-1)) (fun h72 => ?_) (fun h72 => ?_)
          · refine q_aload_n hM dX1_step_86 (lv_at hl 4 rfl) ?_
            refine q_iconst (v := (1 : Int32)) hM dX1_step_87 (by decide) ?_
            refine q_aload_n hM dX1_step_88 (lv_at hl 4 rfl) ?_
            refine w_get (v := .int a0) hM hW FG_X1_23 lb_78 f1755 dX1_step_89 ?_
            have ba0 := hG.f f1755 rF_78_2 (by decide)
            refine q_callV (As := [.int (1 : Int32), .int a0]) (rest := []) hM hW.1 hR hC myX1_wrong (kAW (v_1_13 (List.mem_of_getElem? (i := 7) rfl)) rfl) (rfl : vwCl[1]? = some (RX1, TX1, 5)) rfl lb_78.1 (shO hW.2.1 lb_78) (a_X1_wrong _ _ cA ad g0 (1 : Int32) a0 hW.2.1 hG) ⟨by decide, by decide⟩ rfl rfl hl.1 (Nat.le_of_ble_eq_true rfl) dX1_step_92 (fun v g1870 H locs hp hW1 => ?_)
            obtain ⟨r1869, rfl, hs1, hG, hf1, hr1869⟩ := hp
            have f1871 : fld g1870 78 2 = .int a0 := (hf1.1 78 2 (by omega)).trans f1755
            have f1872 : fld g1870 75 2 = .int c0 := (hf1.1 75 2 (by omega)).trans f1756
            have hW : WS ad cA (fun i k => (i = 78 ∧ (k = 2 ∨ k = 3)) ∨ (i = 75 ∧ (k = 2)) ∨ i = 76 ∨ i = 77) g0 K g1870 H locs := ⟨hW1, hs1, hW.2.2.tr hf1 (fun i k h => (Or.inl (by omega)))⟩
            exact hE _ _ _ _ _ _ hW.1 (nz_or (by omega)) ⟨a0, c0, _, rfl, hW.2.1, hG, hW.2.2, f1871, f1872, (by omega), (by omega), (by omega), (by omega)⟩ dX1_step_95
          · refine q_iload hM dX1_step_75 (lv_at hl 1 rfl) ?_
            refine q_iconst (v := (0 : Int32)) hM dX1_step_77 (by decide) ?_
            refine q_iload hM dX1_step_78 (lv_at hl 0 rfl) ?_
            refine q_callN (host := "ForgetSchool") (As := [.int (0 : Int32), .int (0 : Int32), .int (8 : Int32)]) (rest := []) hM hW.1 hR hC myX11_within (List.mem_of_getElem? (i := 1) rfl) (c_X11_within _ _ cA ad g0 (0 : Int32) (0 : Int32) (8 : Int32) hW.2.1) ⟨by decide, by decide⟩ rfl rfl hl.1 (Nat.le_of_ble_eq_true rfl) dX1_step_80 (fun v g1875 H locs hp hW1 => ?_)
            obtain ⟨r1874, rfl, hr1874, rfl⟩ := hp
            have hW : WS ad cA (fun i k => (i = 78 ∧ (k = 2 ∨ k = 3)) ∨ (i = 75 ∧ (k = 2)) ∨ i = 76 ∨ i = 77) g0 K g0 H locs := ⟨hW1, hW.2.1, hW.2.2⟩
            have := kc_0
            have := kc_0
            have := kc_8
            refine q_if_ne (tgt := 96) hM dX1_step_83 (by decide) (rfl : r1874.toInt = r1874.toInt) (fun h83 => ?_) (fun h83 => ?_)
            · refine q_aload_n hM dX1_step_96 (lv_at hl 4 rfl) ?_
              refine q_dup hM dX1_step_97 rfl ?_
              refine w_get (v := .int a0) hM hW FG_X1_23 lb_78 f1755 dX1_step_98 ?_
              have ba0 := hG.f f1755 rF_78_2 (by decide)
              refine q_iconst (v := (1 : Int32)) hM dX1_step_101 (by decide) ?_
              refine q_iadd hM dX1_step_102 (fun z1877 hz1877 => ?_)
              first | have tz1877 := i_addT hz1877 (rfl : a0.toInt = a0.toInt) (kc_1 : (1 : Int32).toInt = 1) (by omega) (by omega) | skip
              refine w_put hM hW FP_X1_23 lb_78 (by omega) (Or.inl ⟨_, rfl⟩) rfl rfl dX1_step_103 (fun g1878 H locs hW e1 e2 => ?_)
              have f1879 : fld g1878 75 2 = .int c0 := (e2.1 75 2 (by unfold Only; omega)).trans f1756
              have f1880 : fld g1878 78 2 = .int z1877 := e1
              have hG := hG.put e1 e2 rF_78_2 (by decide) (by have := i_rng z1877; omega) (by have := i_rng z1877; omega)
              refine q_aload_n hM dX1_step_106 (lv_at hl 4 rfl) ?_
              refine w_get (v := .ref (ad 75)) hM hW FG_X1_15 lb_78 ((hW.2.2.1 78 4 (by omega)).trans h_r4) dX1_step_107 ?_
              refine q_iload_n hM dX1_step_110 (lv_at hl 3 rfl) ?_
              refine q_iload hM dX1_step_111 (lv_at hl 1 rfl) ?_
              refine q_callV (As := [.int r1759, .int (0 : Int32)]) (rest := []) hM hW.1 hR hC myX0_add (kAW (v_1_14 (List.mem_of_getElem? (i := 3) rfl)) rfl) (rfl : vwCl[0]? = some (RX0, TX0, 3)) rfl lb_75.1 (shO hW.2.1 lb_75) (a_X0_add2 _ _ cA ad g1878 r1759 (0 : Int32) c0 hW.2.1 hG f1879) ⟨by decide, by decide⟩ rfl rfl hl.1 (Nat.le_of_ble_eq_true rfl) dX1_step_113 (fun v g1885 H locs hp hW1 => ?_)
              obtain ⟨v1881, r1882, rfl, hs1, hG, hf1, q1883, e1884, hr1882⟩ := hp
              have f1886 : fld g1885 78 2 = .int z1877 := (hf1.1 78 2 (by omega)).trans f1880
              have hW : WS ad cA (fun i k => (i = 78 ∧ (k = 2 ∨ k = 3)) ∨ (i = 75 ∧ (k = 2)) ∨ i = 76 ∨ i = 77) g0 K g1885 H locs := ⟨hW1, hs1, hW.2.2.tr hf1 (fun i k h => h.elim (fun h => (Or.inr (Or.inl h))) (fun h => h.elim (fun h => (Or.inr (Or.inr (Or.inl h)))) (fun h => (Or.inr (Or.inr (Or.inr h))))))⟩
              refine q_if_ne (tgt := 129) hM dX1_step_116 (by decide) (rfl : r1882.toInt = r1882.toInt) (fun h116 => ?_) (fun h116 => ?_)
              · refine q_iconst (v := (1 : Int32)) hM dX1_step_129 (by decide) ?_
                refine q_goto (tgt := 134) hM dX1_step_130 (by decide) ?_
                exact hE _ _ _ _ _ _ hW.1 nz_1 ⟨z1877, v1881, _, rfl, hW.2.1, hG, hW.2.2, f1886, q1883, (by have := kc_1; omega), (by have := kc_1; omega), (by have := kc_1; omega), (by have := kc_1; omega)⟩ dX1_step_134
              · refine q_aload_n hM dX1_step_119 (lv_at hl 4 rfl) ?_
                refine q_bipush (v := (6 : Int32)) hM dX1_step_120 (by decide) ?_
                refine q_iload_n hM dX1_step_122 (lv_at hl 5 rfl) ?_
                refine q_callV (As := [.int (6 : Int32), .int sa]) (rest := []) hM hW.1 hR hC myX1_wrong (kAW (v_1_13 (List.mem_of_getElem? (i := 7) rfl)) rfl) (rfl : vwCl[1]? = some (RX1, TX1, 5)) rfl lb_78.1 (shO hW.2.1 lb_78) (a_X1_wrong _ _ cA ad g1885 (6 : Int32) sa hW.2.1 hG) ⟨by decide, by decide⟩ rfl rfl hl.1 (Nat.le_of_ble_eq_true rfl) dX1_step_123 (fun v g1890 H locs hp hW1 => ?_)
                obtain ⟨r1889, rfl, hs1, hG, hf1, hr1889⟩ := hp
                have f1891 : fld g1890 78 2 = .int z1877 := (hf1.1 78 2 (by omega)).trans f1886
                have f1892 : fld g1890 75 2 = .int v1881 := (hf1.1 75 2 (by omega)).trans q1883
                have hW : WS ad cA (fun i k => (i = 78 ∧ (k = 2 ∨ k = 3)) ∨ (i = 75 ∧ (k = 2)) ∨ i = 76 ∨ i = 77) g0 K g1890 H locs := ⟨hW1, hs1, hW.2.2.tr hf1 (fun i k h => (Or.inl (by omega)))⟩
                refine q_if_eq (tgt := 133) hM dX1_step_126 (by decide) (rfl : r1889.toInt = r1889.toInt) (fun h126 => ?_) (fun h126 => ?_)
                · refine q_iconst (v := (0 : Int32)) hM dX1_step_133 (by decide) ?_
                  exact hE _ _ _ _ _ _ hW.1 nz_0 ⟨z1877, v1881, _, rfl, hW.2.1, hG, hW.2.2, f1891, f1892, (by have := kc_0; omega), (by have := kc_0; omega), (by have := kc_0; omega), (by have := kc_0; omega)⟩ dX1_step_134
                · refine q_iconst (v := (1 : Int32)) hM dX1_step_129 (by decide) ?_
                  refine q_goto (tgt := 134) hM dX1_step_130 (by decide) ?_
                  exact hE _ _ _ _ _ _ hW.1 nz_1 ⟨z1877, v1881, _, rfl, hW.2.1, hG, hW.2.2, f1891, f1892, (by have := kc_1; omega), (by have := kc_1; omega), (by have := kc_1; omega), (by have := kc_1; omega)⟩ dX1_step_134
            · refine q_aload_n hM dX1_step_86 (lv_at hl 4 rfl) ?_
              refine q_iconst (v := (1 : Int32)) hM dX1_step_87 (by decide) ?_
              refine q_aload_n hM dX1_step_88 (lv_at hl 4 rfl) ?_
              refine w_get (v := .int a0) hM hW FG_X1_23 lb_78 f1755 dX1_step_89 ?_
              have ba0 := hG.f f1755 rF_78_2 (by decide)
              refine q_callV (As := [.int (1 : Int32), .int a0]) (rest := []) hM hW.1 hR hC myX1_wrong (kAW (v_1_13 (List.mem_of_getElem? (i := 7) rfl)) rfl) (rfl : vwCl[1]? = some (RX1, TX1, 5)) rfl lb_78.1 (shO hW.2.1 lb_78) (a_X1_wrong _ _ cA ad g0 (1 : Int32) a0 hW.2.1 hG) ⟨by decide, by decide⟩ rfl rfl hl.1 (Nat.le_of_ble_eq_true rfl) dX1_step_92 (fun v g1897 H locs hp hW1 => ?_)
              obtain ⟨r1896, rfl, hs1, hG, hf1, hr1896⟩ := hp
              have f1898 : fld g1897 78 2 = .int a0 := (hf1.1 78 2 (by omega)).trans f1755
              have f1899 : fld g1897 75 2 = .int c0 := (hf1.1 75 2 (by omega)).trans f1756
              have hW : WS ad cA (fun i k => (i = 78 ∧ (k = 2 ∨ k = 3)) ∨ (i = 75 ∧ (k = 2)) ∨ i = 76 ∨ i = 77) g0 K g1897 H locs := ⟨hW1, hs1, hW.2.2.tr hf1 (fun i k h => (Or.inl (by omega)))⟩
              exact hE _ _ _ _ _ _ hW.1 (nz_or (by omega)) ⟨a0, c0, _, rfl, hW.2.1, hG, hW.2.2, f1898, f1899, (by omega), (by omega), (by omega), (by omega)⟩ dX1_step_95
    · refine q_iload_n hM dX1_step_34 (lv_at hl 0 rfl) ?_
      refine q_bipush (v := (65 : Int32)) hM dX1_step_35 (by decide) ?_
      refine q_isub hM dX1_step_37 (fun z1901 hz1901 => ?_)
      first | have tz1901 := i_subT hz1901 (rfl : r1762.toInt = r1762.toInt) (kc_65 : (65 : Int32).toInt = 65) (by omega) (by omega) | skip
      refine q_goto (tgt := 54) hM dX1_step_38 (by decide) ?_
      refine q_istore (lv9 := [(4, .int z1901), (3, .int r1762), (2, .int r1759), (0, .ref (ad 78)), (1, .int sa)]) hM dX1_step_54 hl (by decide) rfl (fun ls hl => ?_)
      refine q_iload_n hM dX1_step_56 (lv_at hl 2 rfl) ?_
      refine q_iconst (v := (1 : Int32)) hM dX1_step_57 (by decide) ?_
      refine q_icmp_ne (tgt := 66) hM dX1_step_58 (by decide) (rfl : r1759.toInt = r1759.toInt) (kc_1 : (1 : Int32).toInt = 1) (fun h58 => ?_) (fun h58 => ?_)
      · refine q_bipush (v := (11 : Int32)) hM dX1_step_66 (by decide) ?_
        refine q_istore (lv9 := [(5, .int (11 : Int32)), (4, .int z1901), (3, .int r1762), (2, .int r1759), (0, .ref (ad 78)), (1, .int sa)]) hM dX1_step_68 hl (by decide) rfl (fun ls hl => ?_)
        refine q_iload_n hM dX1_step_70 (lv_at hl 3 rfl) ?_
        refine q_iconst (v := ((-1) : Int32)) hM dX1_step_71 (by decide) ?_
        refine q_icmp_eq (tgt := 86) hM dX1_step_72 (by decide) (rfl : r1759.toInt = r1759.toInt) (kc_m1 : ((-1) : Int32).toInt = (-1)) (fun h72 => ?_) (fun h72 => ?_)
        · refine q_aload_n hM dX1_step_86 (lv_at hl 4 rfl) ?_
          refine q_iconst (v := (1 : Int32)) hM dX1_step_87 (by decide) ?_
          refine q_aload_n hM dX1_step_88 (lv_at hl 4 rfl) ?_
          refine w_get (v := .int a0) hM hW FG_X1_23 lb_78 f1755 dX1_step_89 ?_
          have ba0 := hG.f f1755 rF_78_2 (by decide)
          refine q_callV (As := [.int (1 : Int32), .int a0]) (rest := []) hM hW.1 hR hC myX1_wrong (kAW (v_1_13 (List.mem_of_getElem? (i := 7) rfl)) rfl) (rfl : vwCl[1]? = some (RX1, TX1, 5)) rfl lb_78.1 (shO hW.2.1 lb_78) (a_X1_wrong _ _ cA ad g0 (1 : Int32) a0 hW.2.1 hG) ⟨by decide, by decide⟩ rfl rfl hl.1 (Nat.le_of_ble_eq_true rfl) dX1_step_92 (fun v g1905 H locs hp hW1 => ?_)
          obtain ⟨r1904, rfl, hs1, hG, hf1, hr1904⟩ := hp
          have f1906 : fld g1905 78 2 = .int a0 := (hf1.1 78 2 (by omega)).trans f1755
          have f1907 : fld g1905 75 2 = .int c0 := (hf1.1 75 2 (by omega)).trans f1756
          have hW : WS ad cA (fun i k => (i = 78 ∧ (k = 2 ∨ k = 3)) ∨ (i = 75 ∧ (k = 2)) ∨ i = 76 ∨ i = 77) g0 K g1905 H locs := ⟨hW1, hs1, hW.2.2.tr hf1 (fun i k h => (Or.inl (by omega)))⟩
          exact hE _ _ _ _ _ _ hW.1 (nz_or (by omega)) ⟨a0, c0, _, rfl, hW.2.1, hG, hW.2.2, f1906, f1907, (by omega), (by omega), (by omega), (by omega)⟩ dX1_step_95
        · refine q_iload hM dX1_step_75 (lv_at hl 1 rfl) ?_
          refine q_iconst (v := (0 : Int32)) hM dX1_step_77 (by decide) ?_
          refine q_iload hM dX1_step_78 (lv_at hl 0 rfl) ?_
          refine q_callN (host := "ForgetSchool") (As := [.int z1901, .int (0 : Int32), .int (11 : Int32)]) (rest := []) hM hW.1 hR hC myX11_within (List.mem_of_getElem? (i := 1) rfl) (c_X11_within _ _ cA ad g0 z1901 (0 : Int32) (11 : Int32) hW.2.1) ⟨by decide, by decide⟩ rfl rfl hl.1 (Nat.le_of_ble_eq_true rfl) dX1_step_80 (fun v g1910 H locs hp hW1 => ?_)
          obtain ⟨r1909, rfl, hr1909, rfl⟩ := hp
          have hW : WS ad cA (fun i k => (i = 78 ∧ (k = 2 ∨ k = 3)) ∨ (i = 75 ∧ (k = 2)) ∨ i = 76 ∨ i = 77) g0 K g0 H locs := ⟨hW1, hW.2.1, hW.2.2⟩
          have := kc_0
          have := kc_11
          refine q_if_ne (tgt := 96) hM dX1_step_83 (by decide) (rfl : r1909.toInt = r1909.toInt) (fun h83 => ?_) (fun h83 => ?_)
          · refine q_aload_n hM dX1_step_96 (lv_at hl 4 rfl) ?_
            refine q_dup hM dX1_step_97 rfl ?_
            refine w_get (v := .int a0) hM hW FG_X1_23 lb_78 f1755 dX1_step_98 ?_
            have ba0 := hG.f f1755 rF_78_2 (by decide)
            refine q_iconst (v := (1 : Int32)) hM dX1_step_101 (by decide) ?_
            refine q_iadd hM dX1_step_102 (fun z1912 hz1912 => ?_)
            first | have tz1912 := i_addT hz1912 (rfl : a0.toInt = a0.toInt) (kc_1 : (1 : Int32).toInt = 1) (by omega) (by omega) | skip
            refine w_put hM hW FP_X1_23 lb_78 (by omega) (Or.inl ⟨_, rfl⟩) rfl rfl dX1_step_103 (fun g1913 H locs hW e1 e2 => ?_)
            have f1914 : fld g1913 75 2 = .int c0 := (e2.1 75 2 (by unfold Only; omega)).trans f1756
            have f1915 : fld g1913 78 2 = .int z1912 := e1
            have hG := hG.put e1 e2 rF_78_2 (by decide) (by have := i_rng z1912; omega) (by have := i_rng z1912; omega)
            refine q_aload_n hM dX1_step_106 (lv_at hl 4 rfl) ?_
            refine w_get (v := .ref (ad 75)) hM hW FG_X1_15 lb_78 ((hW.2.2.1 78 4 (by omega)).trans h_r4) dX1_step_107 ?_
            refine q_iload_n hM dX1_step_110 (lv_at hl 3 rfl) ?_
            refine q_iload hM dX1_step_111 (lv_at hl 1 rfl) ?_
            refine q_callV (As := [.int r1759, .int z1901]) (rest := []) hM hW.1 hR hC myX0_add (kAW (v_1_14 (List.mem_of_getElem? (i := 3) rfl)) rfl) (rfl : vwCl[0]? = some (RX0, TX0, 3)) rfl lb_75.1 (shO hW.2.1 lb_75) (a_X0_add2 _ _ cA ad g1913 r1759 z1901 c0 hW.2.1 hG f1914) ⟨by decide, by decide⟩ rfl rfl hl.1 (Nat.le_of_ble_eq_true rfl) dX1_step_113 (fun v g1920 H locs hp hW1 => ?_)
            obtain ⟨v1916, r1917, rfl, hs1, hG, hf1, q1918, e1919, hr1917⟩ := hp
            have f1921 : fld g1920 78 2 = .int z1912 := (hf1.1 78 2 (by omega)).trans f1915
            have hW : WS ad cA (fun i k => (i = 78 ∧ (k = 2 ∨ k = 3)) ∨ (i = 75 ∧ (k = 2)) ∨ i = 76 ∨ i = 77) g0 K g1920 H locs := ⟨hW1, hs1, hW.2.2.tr hf1 (fun i k h => h.elim (fun h => (Or.inr (Or.inl h))) (fun h => h.elim (fun h => (Or.inr (Or.inr (Or.inl h)))) (fun h => (Or.inr (Or.inr (Or.inr h))))))⟩
            refine q_if_ne (tgt := 129) hM dX1_step_116 (by decide) (rfl : r1917.toInt = r1917.toInt) (fun h116 => ?_) (fun h116 => ?_)
            · refine q_iconst (v := (1 : Int32)) hM dX1_step_129 (by decide) ?_
              refine q_goto (tgt := 134) hM dX1_step_130 (by decide) ?_
              exact hE _ _ _ _ _ _ hW.1 nz_1 ⟨z1912, v1916, _, rfl, hW.2.1, hG, hW.2.2, f1921, q1918, (by have := kc_1; omega), (by have := kc_1; omega), (by have := kc_1; omega), (by have := kc_1; omega)⟩ dX1_step_134
            · refine q_aload_n hM dX1_step_119 (lv_at hl 4 rfl) ?_
              refine q_bipush (v := (6 : Int32)) hM dX1_step_120 (by decide) ?_
              refine q_iload_n hM dX1_step_122 (lv_at hl 5 rfl) ?_
              refine q_callV (As := [.int (6 : Int32), .int sa]) (rest := []) hM hW.1 hR hC myX1_wrong (kAW (v_1_13 (List.mem_of_getElem? (i := 7) rfl)) rfl) (rfl : vwCl[1]? = some (RX1, TX1, 5)) rfl lb_78.1 (shO hW.2.1 lb_78) (a_X1_wrong _ _ cA ad g1920 (6 : Int32) sa hW.2.1 hG) ⟨by decide, by decide⟩ rfl rfl hl.1 (Nat.le_of_ble_eq_true rfl) dX1_step_123 (fun v g1925 H locs hp hW1 => ?_)
              obtain ⟨r1924, rfl, hs1, hG, hf1, hr1924⟩ := hp
              have f1926 : fld g1925 78 2 = .int z1912 := (hf1.1 78 2 (by omega)).trans f1921
              have f1927 : fld g1925 75 2 = .int v1916 := (hf1.1 75 2 (by omega)).trans q1918
              have hW : WS ad cA (fun i k => (i = 78 ∧ (k = 2 ∨ k = 3)) ∨ (i = 75 ∧ (k = 2)) ∨ i = 76 ∨ i = 77) g0 K g1925 H locs := ⟨hW1, hs1, hW.2.2.tr hf1 (fun i k h => (Or.inl (by omega)))⟩
              refine q_if_eq (tgt := 133) hM dX1_step_126 (by decide) (rfl : r1924.toInt = r1924.toInt) (fun h126 => ?_) (fun h126 => ?_)
              · refine q_iconst (v := (0 : Int32)) hM dX1_step_133 (by decide) ?_
                exact hE _ _ _ _ _ _ hW.1 nz_0 ⟨z1912, v1916, _, rfl, hW.2.1, hG, hW.2.2, f1926, f1927, (by have := kc_0; omega), (by have := kc_0; omega), (by have := kc_0; omega), (by have := kc_0; omega)⟩ dX1_step_134
              · refine q_iconst (v := (1 : Int32)) hM dX1_step_129 (by decide) ?_
                refine q_goto (tgt := 134) hM dX1_step_130 (by decide) ?_
                exact hE _ _ _ _ _ _ hW.1 nz_1 ⟨z1912, v1916, _, rfl, hW.2.1, hG, hW.2.2, f1926, f1927, (by have := kc_1; omega), (by have := kc_1; omega), (by have := kc_1; omega), (by have := kc_1; omega)⟩ dX1_step_134
          · refine q_aload_n hM dX1_step_86 (lv_at hl 4 rfl) ?_
            refine q_iconst (v := (1 : Int32)) hM dX1_step_87 (by decide) ?_
            refine q_aload_n hM dX1_step_88 (lv_at hl 4 rfl) ?_
            refine w_get (v := .int a0) hM hW FG_X1_23 lb_78 f1755 dX1_step_89 ?_
            have ba0 := hG.f f1755 rF_78_2 (by decide)
            refine q_callV (As := [.int (1 : Int32), .int a0]) (rest := []) hM hW.1 hR hC myX1_wrong (kAW (v_1_13 (List.mem_of_getElem? (i := 7) rfl)) rfl) (rfl : vwCl[1]? = some (RX1, TX1, 5)) rfl lb_78.1 (shO hW.2.1 lb_78) (a_X1_wrong _ _ cA ad g0 (1 : Int32) a0 hW.2.1 hG) ⟨by decide, by decide⟩ rfl rfl hl.1 (Nat.le_of_ble_eq_true rfl) dX1_step_92 (fun v g1932 H locs hp hW1 => ?_)
            obtain ⟨r1931, rfl, hs1, hG, hf1, hr1931⟩ := hp
            have f1933 : fld g1932 78 2 = .int a0 := (hf1.1 78 2 (by omega)).trans f1755
            have f1934 : fld g1932 75 2 = .int c0 := (hf1.1 75 2 (by omega)).trans f1756
            have hW : WS ad cA (fun i k => (i = 78 ∧ (k = 2 ∨ k = 3)) ∨ (i = 75 ∧ (k = 2)) ∨ i = 76 ∨ i = 77) g0 K g1932 H locs := ⟨hW1, hs1, hW.2.2.tr hf1 (fun i k h => (Or.inl (by omega)))⟩
            exact hE _ _ _ _ _ _ hW.1 (nz_or (by omega)) ⟨a0, c0, _, rfl, hW.2.1, hG, hW.2.2, f1933, f1934, (by omega), (by omega), (by omega), (by omega)⟩ dX1_step_95
      · refine q_bipush (v := (8 : Int32)) hM dX1_step_61 (by decide) ?_
        refine q_goto (tgt := 68) hM dX1_step_63 (by decide) ?_
        refine q_istore (lv9 := [(5, .int (8 : Int32)), (4, .int z1901), (3, .int r1762), (2, .int r1759), (0, .ref (ad 78)), (1, .int sa)]) hM dX1_step_68 hl (by decide) rfl (fun ls hl => ?_)
        refine q_iload_n hM dX1_step_70 (lv_at hl 3 rfl) ?_
        refine q_iconst (v := ((-1) : Int32)) hM dX1_step_71 (by decide) ?_
        refine q_icmp_eq (tgt := 86) hM dX1_step_72 (by decide) (rfl : r1759.toInt = r1759.toInt) (kc_m1 : ((-1) : Int32).toInt = (-1)) (fun h72 => ?_) (fun h72 => ?_)
        · refine q_aload_n hM dX1_step_86 (lv_at hl 4 rfl) ?_
          refine q_iconst (v := (1 : Int32)) hM dX1_step_87 (by decide) ?_
          refine q_aload_n hM dX1_step_88 (lv_at hl 4 rfl) ?_
          refine w_get (v := .int a0) hM hW FG_X1_23 lb_78 f1755 dX1_step_89 ?_
          have ba0 := hG.f f1755 rF_78_2 (by decide)
          refine q_callV (As := [.int (1 : Int32), .int a0]) (rest := []) hM hW.1 hR hC myX1_wrong (kAW (v_1_13 (List.mem_of_getElem? (i := 7) rfl)) rfl) (rfl : vwCl[1]? = some (RX1, TX1, 5)) rfl lb_78.1 (shO hW.2.1 lb_78) (a_X1_wrong _ _ cA ad g0 (1 : Int32) a0 hW.2.1 hG) ⟨by decide, by decide⟩ rfl rfl hl.1 (Nat.le_of_ble_eq_true rfl) dX1_step_92 (fun v g1938 H locs hp hW1 => ?_)
          obtain ⟨r1937, rfl, hs1, hG, hf1, hr1937⟩ := hp
          have f1939 : fld g1938 78 2 = .int a0 := (hf1.1 78 2 (by omega)).trans f1755
          have f1940 : fld g1938 75 2 = .int c0 := (hf1.1 75 2 (by omega)).trans f1756
          have hW : WS ad cA (fun i k => (i = 78 ∧ (k = 2 ∨ k = 3)) ∨ (i = 75 ∧ (k = 2)) ∨ i = 76 ∨ i = 77) g0 K g1938 H locs := ⟨hW1, hs1, hW.2.2.tr hf1 (fun i k h => (Or.inl (by omega)))⟩
          exact hE _ _ _ _ _ _ hW.1 (nz_or (by omega)) ⟨a0, c0, _, rfl, hW.2.1, hG, hW.2.2, f1939, f1940, (by omega), (by omega), (by omega), (by omega)⟩ dX1_step_95
        · refine q_iload hM dX1_step_75 (lv_at hl 1 rfl) ?_
          refine q_iconst (v := (0 : Int32)) hM dX1_step_77 (by decide) ?_
          refine q_iload hM dX1_step_78 (lv_at hl 0 rfl) ?_
          refine q_callN (host := "ForgetSchool") (As := [.int z1901, .int (0 : Int32), .int (8 : Int32)]) (rest := []) hM hW.1 hR hC myX11_within (List.mem_of_getElem? (i := 1) rfl) (c_X11_within _ _ cA ad g0 z1901 (0 : Int32) (8 : Int32) hW.2.1) ⟨by decide, by decide⟩ rfl rfl hl.1 (Nat.le_of_ble_eq_true rfl) dX1_step_80 (fun v g1943 H locs hp hW1 => ?_)
          obtain ⟨r1942, rfl, hr1942, rfl⟩ := hp
          have hW : WS ad cA (fun i k => (i = 78 ∧ (k = 2 ∨ k = 3)) ∨ (i = 75 ∧ (k = 2)) ∨ i = 76 ∨ i = 77) g0 K g0 H locs := ⟨hW1, hW.2.1, hW.2.2⟩
          have := kc_0
          have := kc_8
          refine q_if_ne (tgt := 96) hM dX1_step_83 (by decide) (rfl : r1942.toInt = r1942.toInt) (fun h83 => ?_) (fun h83 => ?_)
          · refine q_aload_n hM dX1_step_96 (lv_at hl 4 rfl) ?_
            refine q_dup hM dX1_step_97 rfl ?_
            refine w_get (v := .int a0) hM hW FG_X1_23 lb_78 f1755 dX1_step_98 ?_
            have ba0 := hG.f f1755 rF_78_2 (by decide)
            refine q_iconst (v := (1 : Int32)) hM dX1_step_101 (by decide) ?_
            refine q_iadd hM dX1_step_102 (fun z1945 hz1945 => ?_)
            first | have tz1945 := i_addT hz1945 (rfl : a0.toInt = a0.toInt) (kc_1 : (1 : Int32).toInt = 1) (by omega) (by omega) | skip
            refine w_put hM hW FP_X1_23 lb_78 (by omega) (Or.inl ⟨_, rfl⟩) rfl rfl dX1_step_103 (fun g1946 H locs hW e1 e2 => ?_)
            have f1947 : fld g1946 75 2 = .int c0 := (e2.1 75 2 (by unfold Only; omega)).trans f1756
            have f1948 : fld g1946 78 2 = .int z1945 := e1
            have hG := hG.put e1 e2 rF_78_2 (by decide) (by have := i_rng z1945; omega) (by have := i_rng z1945; omega)
            refine q_aload_n hM dX1_step_106 (lv_at hl 4 rfl) ?_
            refine w_get (v := .ref (ad 75)) hM hW FG_X1_15 lb_78 ((hW.2.2.1 78 4 (by omega)).trans h_r4) dX1_step_107 ?_
            refine q_iload_n hM dX1_step_110 (lv_at hl 3 rfl) ?_
            refine q_iload hM dX1_step_111 (lv_at hl 1 rfl) ?_
            refine q_callV (As := [.int r1759, .int z1901]) (rest := []) hM hW.1 hR hC myX0_add (kAW (v_1_14 (List.mem_of_getElem? (i := 3) rfl)) rfl) (rfl : vwCl[0]? = some (RX0, TX0, 3)) rfl lb_75.1 (shO hW.2.1 lb_75) (a_X0_add2 _ _ cA ad g1946 r1759 z1901 c0 hW.2.1 hG f1947) ⟨by decide, by decide⟩ rfl rfl hl.1 (Nat.le_of_ble_eq_true rfl) dX1_step_113 (fun v g1953 H locs hp hW1 => ?_)
            obtain ⟨v1949, r1950, rfl, hs1, hG, hf1, q1951, e1952, hr1950⟩ := hp
            have f1954 : fld g1953 78 2 = .int z1945 := (hf1.1 78 2 (by omega)).trans f1948
            have hW : WS ad cA (fun i k => (i = 78 ∧ (k = 2 ∨ k = 3)) ∨ (i = 75 ∧ (k = 2)) ∨ i = 76 ∨ i = 77) g0 K g1953 H locs := ⟨hW1, hs1, hW.2.2.tr hf1 (fun i k h => h.elim (fun h => (Or.inr (Or.inl h))) (fun h => h.elim (fun h => (Or.inr (Or.inr (Or.inl h)))) (fun h => (Or.inr (Or.inr (Or.inr h))))))⟩
            refine q_if_ne (tgt := 129) hM dX1_step_116 (by decide) (rfl : r1950.toInt = r1950.toInt) (fun h116 => ?_) (fun h116 => ?_)
            · refine q_iconst (v := (1 : Int32)) hM dX1_step_129 (by decide) ?_
              refine q_goto (tgt := 134) hM dX1_step_130 (by decide) ?_
              exact hE _ _ _ _ _ _ hW.1 nz_1 ⟨z1945, v1949, _, rfl, hW.2.1, hG, hW.2.2, f1954, q1951, (by have := kc_1; omega), (by have := kc_1; omega), (by have := kc_1; omega), (by have := kc_1; omega)⟩ dX1_step_134
            · refine q_aload_n hM dX1_step_119 (lv_at hl 4 rfl) ?_
              refine q_bipush (v := (6 : Int32)) hM dX1_step_120 (by decide) ?_
              refine q_iload_n hM dX1_step_122 (lv_at hl 5 rfl) ?_
              refine q_callV (As := [.int (6 : Int32), .int sa]) (rest := []) hM hW.1 hR hC myX1_wrong (kAW (v_1_13 (List.mem_of_getElem? (i := 7) rfl)) rfl) (rfl : vwCl[1]? = some (RX1, TX1, 5)) rfl lb_78.1 (shO hW.2.1 lb_78) (a_X1_wrong _ _ cA ad g1953 (6 : Int32) sa hW.2.1 hG) ⟨by decide, by decide⟩ rfl rfl hl.1 (Nat.le_of_ble_eq_true rfl) dX1_step_123 (fun v g1958 H locs hp hW1 => ?_)
              obtain ⟨r1957, rfl, hs1, hG, hf1, hr1957⟩ := hp
              have f1959 : fld g1958 78 2 = .int z1945 := (hf1.1 78 2 (by omega)).trans f1954
              have f1960 : fld g1958 75 2 = .int v1949 := (hf1.1 75 2 (by omega)).trans q1951
              have hW : WS ad cA (fun i k => (i = 78 ∧ (k = 2 ∨ k = 3)) ∨ (i = 75 ∧ (k = 2)) ∨ i = 76 ∨ i = 77) g0 K g1958 H locs := ⟨hW1, hs1, hW.2.2.tr hf1 (fun i k h => (Or.inl (by omega)))⟩
              refine q_if_eq (tgt := 133) hM dX1_step_126 (by decide) (rfl : r1957.toInt = r1957.toInt) (fun h126 => ?_) (fun h126 => ?_)
              · refine q_iconst (v := (0 : Int32)) hM dX1_step_133 (by decide) ?_
                exact hE _ _ _ _ _ _ hW.1 nz_0 ⟨z1945, v1949, _, rfl, hW.2.1, hG, hW.2.2, f1959, f1960, (by have := kc_0; omega), (by have := kc_0; omega), (by have := kc_0; omega), (by have := kc_0; omega)⟩ dX1_step_134
              · refine q_iconst (v := (1 : Int32)) hM dX1_step_129 (by decide) ?_
                refine q_goto (tgt := 134) hM dX1_step_130 (by decide) ?_
                exact hE _ _ _ _ _ _ hW.1 nz_1 ⟨z1945, v1949, _, rfl, hW.2.1, hG, hW.2.2, f1959, f1960, (by have := kc_1; omega), (by have := kc_1; omega), (by have := kc_1; omega), (by have := kc_1; omega)⟩ dX1_step_134
          · refine q_aload_n hM dX1_step_86 (lv_at hl 4 rfl) ?_
            refine q_iconst (v := (1 : Int32)) hM dX1_step_87 (by decide) ?_
            refine q_aload_n hM dX1_step_88 (lv_at hl 4 rfl) ?_
            refine w_get (v := .int a0) hM hW FG_X1_23 lb_78 f1755 dX1_step_89 ?_
            have ba0 := hG.f f1755 rF_78_2 (by decide)
            refine q_callV (As := [.int (1 : Int32), .int a0]) (rest := []) hM hW.1 hR hC myX1_wrong (kAW (v_1_13 (List.mem_of_getElem? (i := 7) rfl)) rfl) (rfl : vwCl[1]? = some (RX1, TX1, 5)) rfl lb_78.1 (shO hW.2.1 lb_78) (a_X1_wrong _ _ cA ad g0 (1 : Int32) a0 hW.2.1 hG) ⟨by decide, by decide⟩ rfl rfl hl.1 (Nat.le_of_ble_eq_true rfl) dX1_step_92 (fun v g1965 H locs hp hW1 => ?_)
            obtain ⟨r1964, rfl, hs1, hG, hf1, hr1964⟩ := hp
            have f1966 : fld g1965 78 2 = .int a0 := (hf1.1 78 2 (by omega)).trans f1755
            have f1967 : fld g1965 75 2 = .int c0 := (hf1.1 75 2 (by omega)).trans f1756
            have hW : WS ad cA (fun i k => (i = 78 ∧ (k = 2 ∨ k = 3)) ∨ (i = 75 ∧ (k = 2)) ∨ i = 76 ∨ i = 77) g0 K g1965 H locs := ⟨hW1, hs1, hW.2.2.tr hf1 (fun i k h => (Or.inl (by omega)))⟩
            exact hE _ _ _ _ _ _ hW.1 (nz_or (by omega)) ⟨a0, c0, _, rfl, hW.2.1, hG, hW.2.2, f1966, f1967, (by omega), (by omega), (by omega), (by omega)⟩ dX1_step_95
  · refine q_aload_n hM dX1_step_14 (lv_at hl 1 rfl) ?_
    refine q_dup hM dX1_step_15 rfl ?_
    refine w_get (v := .int a0) hM hW FG_X1_23 lb_78 f1755 dX1_step_16 ?_
    have ba0 := hG.f f1755 rF_78_2 (by decide)
    refine q_iconst (v := (1 : Int32)) hM dX1_step_19 (by decide) ?_
    refine q_iadd hM dX1_step_20 (fun z1969 hz1969 => ?_)
    first | have tz1969 := i_addT hz1969 (rfl : a0.toInt = a0.toInt) (kc_1 : (1 : Int32).toInt = 1) (by omega) (by omega) | skip
    refine w_put hM hW FP_X1_23 lb_78 (by omega) (Or.inl ⟨_, rfl⟩) rfl rfl dX1_step_21 (fun g1970 H locs hW e1 e2 => ?_)
    have f1971 : fld g1970 75 2 = .int c0 := (e2.1 75 2 (by unfold Only; omega)).trans f1756
    have f1972 : fld g1970 78 2 = .int z1969 := e1
    have hG := hG.put e1 e2 rF_78_2 (by decide) (by have := i_rng z1969; omega) (by have := i_rng z1969; omega)
    refine q_aload_n hM dX1_step_24 (lv_at hl 1 rfl) ?_
    refine q_callV (As := []) (rest := []) hM hW.1 hR hC myX1_sign (kAW (v_1_13 (List.mem_of_getElem? (i := 2) rfl)) rfl) (rfl : vwCl[1]? = some (RX1, TX1, 5)) rfl lb_78.1 (shO hW.2.1 lb_78) (a_X1_sign _ _ cA ad g1970 en z1969 hW.2.1 hG ((hW.2.2.1 78 1 (by omega)).trans h_en) f1972 (by  omega) (by  omega) (by  omega)) ⟨by decide, by decide⟩ rfl rfl hl.1 (Nat.le_of_ble_eq_true rfl) dX1_step_25 (fun v g1974 H locs hp hW1 => ?_)
    obtain ⟨r1973, rfl, hr1973, rfl⟩ := hp
    have hW : WS ad cA (fun i k => (i = 78 ∧ (k = 2 ∨ k = 3)) ∨ (i = 75 ∧ (k = 2)) ∨ i = 76 ∨ i = 77) g0 K g1970 H locs := ⟨hW1, hW.2.1, hW.2.2⟩
    refine q_istore_n (lv9 := [(3, .int r1973), (2, .int r1759), (0, .ref (ad 78)), (1, .int sa)]) hM dX1_step_28 hl (by decide) rfl (fun ls hl => ?_)
    refine q_iload_n hM dX1_step_29 (lv_at hl 1 rfl) ?_
    refine q_iconst (v := (1 : Int32)) hM dX1_step_30 (by decide) ?_
    refine q_icmp_ne (tgt := 41) hM dX1_step_31 (by decide) (rfl : r1759.toInt = r1759.toInt) (kc_1 : (1 : Int32).toInt = 1) (fun h31 => ?_) (fun h31 => ?_)
    · refine q_iload_n hM dX1_step_41 (lv_at hl 1 rfl) ?_
      refine q_iconst (v := (2 : Int32)) hM dX1_step_42 (by decide) ?_
      refine q_icmp_ne (tgt := 50) hM dX1_step_43 (by decide) (rfl : r1759.toInt = r1759.toInt) (kc_2 : (2 : Int32).toInt = 2) (fun h43 => ?_) (fun h43 => ?_)
      · refine q_iload_n hM dX1_step_50 (lv_at hl 0 rfl) ?_
        refine q_bipush (v := (97 : Int32)) hM dX1_step_51 (by decide) ?_
        refine q_isub hM dX1_step_53 (fun z1977 hz1977 => ?_)
        first | have tz1977 := i_subT hz1977 (rfl : r1973.toInt = r1973.toInt) (kc_97 : (97 : Int32).toInt = 97) (by omega) (by omega) | skip
        refine q_istore (lv9 := [(4, .int z1977), (3, .int r1973), (2, .int r1759), (0, .ref (ad 78)), (1, .int sa)]) hM dX1_step_54 hl (by decide) rfl (fun ls hl => ?_)
        refine q_iload_n hM dX1_step_56 (lv_at hl 2 rfl) ?_
        refine q_iconst (v := (1 : Int32)) hM dX1_step_57 (by decide) ?_
        refine q_icmp_ne (tgt := 66) hM dX1_step_58 (by decide) (rfl : r1759.toInt = r1759.toInt) (kc_1 : (1 : Int32).toInt = 1) (fun h58 => ?_) (fun h58 => ?_)
        · refine q_bipush (v := (11 : Int32)) hM dX1_step_66 (by decide) ?_
          refine q_istore (lv9 := [(5, .int (11 : Int32)), (4, .int z1977), (3, .int r1973), (2, .int r1759), (0, .ref (ad 78)), (1, .int sa)]) hM dX1_step_68 hl (by decide) rfl (fun ls hl => ?_)
          refine q_iload_n hM dX1_step_70 (lv_at hl 3 rfl) ?_
          refine q_iconst (v := ((-1) : Int32)) hM dX1_step_71 (by decide) ?_
          refine q_icmp_eq (tgt := 86) hM dX1_step_72 (by decide) (rfl : r1759.toInt = r1759.toInt) (kc_m1 : ((-1) : Int32).toInt = (-1)) (fun h72 => ?_) (fun h72 => ?_)
          · refine q_aload_n hM dX1_step_86 (lv_at hl 4 rfl) ?_
            refine q_iconst (v := (1 : Int32)) hM dX1_step_87 (by decide) ?_
            refine q_aload_n hM dX1_step_88 (lv_at hl 4 rfl) ?_
            refine w_get (v := .int z1969) hM hW FG_X1_23 lb_78 f1972 dX1_step_89 ?_
            have bz1969 := hG.f f1972 rF_78_2 (by decide)
            refine q_callV (As := [.int (1 : Int32), .int z1969]) (rest := []) hM hW.1 hR hC myX1_wrong (kAW (v_1_13 (List.mem_of_getElem? (i := 7) rfl)) rfl) (rfl : vwCl[1]? = some (RX1, TX1, 5)) rfl lb_78.1 (shO hW.2.1 lb_78) (a_X1_wrong _ _ cA ad g1970 (1 : Int32) z1969 hW.2.1 hG) ⟨by decide, by decide⟩ rfl rfl hl.1 (Nat.le_of_ble_eq_true rfl) dX1_step_92 (fun v g1981 H locs hp hW1 => ?_)
            obtain ⟨r1980, rfl, hs1, hG, hf1, hr1980⟩ := hp
            have f1982 : fld g1981 75 2 = .int c0 := (hf1.1 75 2 (by omega)).trans f1971
            have f1983 : fld g1981 78 2 = .int z1969 := (hf1.1 78 2 (by omega)).trans f1972
            have hW : WS ad cA (fun i k => (i = 78 ∧ (k = 2 ∨ k = 3)) ∨ (i = 75 ∧ (k = 2)) ∨ i = 76 ∨ i = 77) g0 K g1981 H locs := ⟨hW1, hs1, hW.2.2.tr hf1 (fun i k h => (Or.inl (by omega)))⟩
            exact hE _ _ _ _ _ _ hW.1 (nz_or (by omega)) ⟨z1969, c0, _, rfl, hW.2.1, hG, hW.2.2, f1983, f1982, (by omega), (by omega), (by omega), (by omega)⟩ dX1_step_95
          · refine q_iload hM dX1_step_75 (lv_at hl 1 rfl) ?_
            refine q_iconst (v := (0 : Int32)) hM dX1_step_77 (by decide) ?_
            refine q_iload hM dX1_step_78 (lv_at hl 0 rfl) ?_
            refine q_callN (host := "ForgetSchool") (As := [.int z1977, .int (0 : Int32), .int (11 : Int32)]) (rest := []) hM hW.1 hR hC myX11_within (List.mem_of_getElem? (i := 1) rfl) (c_X11_within _ _ cA ad g1970 z1977 (0 : Int32) (11 : Int32) hW.2.1) ⟨by decide, by decide⟩ rfl rfl hl.1 (Nat.le_of_ble_eq_true rfl) dX1_step_80 (fun v g1986 H locs hp hW1 => ?_)
            obtain ⟨r1985, rfl, hr1985, rfl⟩ := hp
            have hW : WS ad cA (fun i k => (i = 78 ∧ (k = 2 ∨ k = 3)) ∨ (i = 75 ∧ (k = 2)) ∨ i = 76 ∨ i = 77) g0 K g1970 H locs := ⟨hW1, hW.2.1, hW.2.2⟩
            have := kc_0
            have := kc_11
            refine q_if_ne (tgt := 96) hM dX1_step_83 (by decide) (rfl : r1985.toInt = r1985.toInt) (fun h83 => ?_) (fun h83 => ?_)
            · refine q_aload_n hM dX1_step_96 (lv_at hl 4 rfl) ?_
              refine q_dup hM dX1_step_97 rfl ?_
              refine w_get (v := .int z1969) hM hW FG_X1_23 lb_78 f1972 dX1_step_98 ?_
              have bz1969 := hG.f f1972 rF_78_2 (by decide)
              refine q_iconst (v := (1 : Int32)) hM dX1_step_101 (by decide) ?_
              refine q_iadd hM dX1_step_102 (fun z1988 hz1988 => ?_)
              first | have tz1988 := i_addT hz1988 (rfl : z1969.toInt = z1969.toInt) (kc_1 : (1 : Int32).toInt = 1) (by omega) (by omega) | skip
              refine w_put hM hW FP_X1_23 lb_78 (by omega) (Or.inl ⟨_, rfl⟩) rfl rfl dX1_step_103 (fun g1989 H locs hW e1 e2 => ?_)
              have f1990 : fld g1989 75 2 = .int c0 := (e2.1 75 2 (by unfold Only; omega)).trans f1971
              have f1991 : fld g1989 78 2 = .int z1988 := e1
              have hG := hG.put e1 e2 rF_78_2 (by decide) (by have := i_rng z1988; omega) (by have := i_rng z1988; omega)
              refine q_aload_n hM dX1_step_106 (lv_at hl 4 rfl) ?_
              refine w_get (v := .ref (ad 75)) hM hW FG_X1_15 lb_78 ((hW.2.2.1 78 4 (by omega)).trans h_r4) dX1_step_107 ?_
              refine q_iload_n hM dX1_step_110 (lv_at hl 3 rfl) ?_
              refine q_iload hM dX1_step_111 (lv_at hl 1 rfl) ?_
              refine q_callV (As := [.int r1759, .int z1977]) (rest := []) hM hW.1 hR hC myX0_add (kAW (v_1_14 (List.mem_of_getElem? (i := 3) rfl)) rfl) (rfl : vwCl[0]? = some (RX0, TX0, 3)) rfl lb_75.1 (shO hW.2.1 lb_75) (a_X0_add2 _ _ cA ad g1989 r1759 z1977 c0 hW.2.1 hG f1990) ⟨by decide, by decide⟩ rfl rfl hl.1 (Nat.le_of_ble_eq_true rfl) dX1_step_113 (fun v g1996 H locs hp hW1 => ?_)
              obtain ⟨v1992, r1993, rfl, hs1, hG, hf1, q1994, e1995, hr1993⟩ := hp
              have f1997 : fld g1996 78 2 = .int z1988 := (hf1.1 78 2 (by omega)).trans f1991
              have hW : WS ad cA (fun i k => (i = 78 ∧ (k = 2 ∨ k = 3)) ∨ (i = 75 ∧ (k = 2)) ∨ i = 76 ∨ i = 77) g0 K g1996 H locs := ⟨hW1, hs1, hW.2.2.tr hf1 (fun i k h => h.elim (fun h => (Or.inr (Or.inl h))) (fun h => h.elim (fun h => (Or.inr (Or.inr (Or.inl h)))) (fun h => (Or.inr (Or.inr (Or.inr h))))))⟩
              refine q_if_ne (tgt := 129) hM dX1_step_116 (by decide) (rfl : r1993.toInt = r1993.toInt) (fun h116 => ?_) (fun h116 => ?_)
              · refine q_iconst (v := (1 : Int32)) hM dX1_step_129 (by decide) ?_
                refine q_goto (tgt := 134) hM dX1_step_130 (by decide) ?_
                exact hE _ _ _ _ _ _ hW.1 nz_1 ⟨z1988, v1992, _, rfl, hW.2.1, hG, hW.2.2, f1997, q1994, (by have := kc_1; omega), (by have := kc_1; omega), (by have := kc_1; omega), (by have := kc_1; omega)⟩ dX1_step_134
              · refine q_aload_n hM dX1_step_119 (lv_at hl 4 rfl) ?_
                refine q_bipush (v := (6 : Int32)) hM dX1_step_120 (by decide) ?_
                refine q_iload_n hM dX1_step_122 (lv_at hl 5 rfl) ?_
                refine q_callV (As := [.int (6 : Int32), .int sa]) (rest := []) hM hW.1 hR hC myX1_wrong (kAW (v_1_13 (List.mem_of_getElem? (i := 7) rfl)) rfl) (rfl : vwCl[1]? = some (RX1, TX1, 5)) rfl lb_78.1 (shO hW.2.1 lb_78) (a_X1_wrong _ _ cA ad g1996 (6 : Int32) sa hW.2.1 hG) ⟨by decide, by decide⟩ rfl rfl hl.1 (Nat.le_of_ble_eq_true rfl) dX1_step_123 (fun v g2001 H locs hp hW1 => ?_)
                obtain ⟨r2000, rfl, hs1, hG, hf1, hr2000⟩ := hp
                have f2002 : fld g2001 78 2 = .int z1988 := (hf1.1 78 2 (by omega)).trans f1997
                have f2003 : fld g2001 75 2 = .int v1992 := (hf1.1 75 2 (by omega)).trans q1994
                have hW : WS ad cA (fun i k => (i = 78 ∧ (k = 2 ∨ k = 3)) ∨ (i = 75 ∧ (k = 2)) ∨ i = 76 ∨ i = 77) g0 K g2001 H locs := ⟨hW1, hs1, hW.2.2.tr hf1 (fun i k h => (Or.inl (by omega)))⟩
                refine q_if_eq (tgt := 133) hM dX1_step_126 (by decide) (rfl : r2000.toInt = r2000.toInt) (fun h126 => ?_) (fun h126 => ?_)
                · refine q_iconst (v := (0 : Int32)) hM dX1_step_133 (by decide) ?_
                  exact hE _ _ _ _ _ _ hW.1 nz_0 ⟨z1988, v1992, _, rfl, hW.2.1, hG, hW.2.2, f2002, f2003, (by have := kc_0; omega), (by have := kc_0; omega), (by have := kc_0; omega), (by have := kc_0; omega)⟩ dX1_step_134
                · refine q_iconst (v := (1 : Int32)) hM dX1_step_129 (by decide) ?_
                  refine q_goto (tgt := 134) hM dX1_step_130 (by decide) ?_
                  exact hE _ _ _ _ _ _ hW.1 nz_1 ⟨z1988, v1992, _, rfl, hW.2.1, hG, hW.2.2, f2002, f2003, (by have := kc_1; omega), (by have := kc_1; omega), (by have := kc_1; omega), (by have := kc_1; omega)⟩ dX1_step_134
            · refine q_aload_n hM dX1_step_86 (lv_at hl 4 rfl) ?_
              refine q_iconst (v := (1 : Int32)) hM dX1_step_87 (by decide) ?_
              refine q_aload_n hM dX1_step_88 (lv_at hl 4 rfl) ?_
              refine w_get (v := .int z1969) hM hW FG_X1_23 lb_78 f1972 dX1_step_89 ?_
              have bz1969 := hG.f f1972 rF_78_2 (by decide)
              refine q_callV (As := [.int (1 : Int32), .int z1969]) (rest := []) hM hW.1 hR hC myX1_wrong (kAW (v_1_13 (List.mem_of_getElem? (i := 7) rfl)) rfl) (rfl : vwCl[1]? = some (RX1, TX1, 5)) rfl lb_78.1 (shO hW.2.1 lb_78) (a_X1_wrong _ _ cA ad g1970 (1 : Int32) z1969 hW.2.1 hG) ⟨by decide, by decide⟩ rfl rfl hl.1 (Nat.le_of_ble_eq_true rfl) dX1_step_92 (fun v g2008 H locs hp hW1 => ?_)
              obtain ⟨r2007, rfl, hs1, hG, hf1, hr2007⟩ := hp
              have f2009 : fld g2008 75 2 = .int c0 := (hf1.1 75 2 (by omega)).trans f1971
              have f2010 : fld g2008 78 2 = .int z1969 := (hf1.1 78 2 (by omega)).trans f1972
              have hW : WS ad cA (fun i k => (i = 78 ∧ (k = 2 ∨ k = 3)) ∨ (i = 75 ∧ (k = 2)) ∨ i = 76 ∨ i = 77) g0 K g2008 H locs := ⟨hW1, hs1, hW.2.2.tr hf1 (fun i k h => (Or.inl (by omega)))⟩
              exact hE _ _ _ _ _ _ hW.1 (nz_or (by omega)) ⟨z1969, c0, _, rfl, hW.2.1, hG, hW.2.2, f2010, f2009, (by omega), (by omega), (by omega), (by omega)⟩ dX1_step_95
        · refine q_bipush (v := (8 : Int32)) hM dX1_step_61 (by decide) ?_
          refine q_goto (tgt := 68) hM dX1_step_63 (by decide) ?_
          refine q_istore (lv9 := [(5, .int (8 : Int32)), (4, .int z1977), (3, .int r1973), (2, .int r1759), (0, .ref (ad 78)), (1, .int sa)]) hM dX1_step_68 hl (by decide) rfl (fun ls hl => ?_)
          refine q_iload_n hM dX1_step_70 (lv_at hl 3 rfl) ?_
          refine q_iconst (v := ((-1) : Int32)) hM dX1_step_71 (by decide) ?_
          refine q_icmp_eq (tgt := 86) hM dX1_step_72 (by decide) (rfl : r1759.toInt = r1759.toInt) (kc_m1 : ((-1) : Int32).toInt = (-1)) (fun h72 => ?_) (fun h72 => ?_)
          · refine q_aload_n hM dX1_step_86 (lv_at hl 4 rfl) ?_
            refine q_iconst (v := (1 : Int32)) hM dX1_step_87 (by decide) ?_
            refine q_aload_n hM dX1_step_88 (lv_at hl 4 rfl) ?_
            refine w_get (v := .int z1969) hM hW FG_X1_23 lb_78 f1972 dX1_step_89 ?_
            have bz1969 := hG.f f1972 rF_78_2 (by decide)
            refine q_callV (As := [.int (1 : Int32), .int z1969]) (rest := []) hM hW.1 hR hC myX1_wrong (kAW (v_1_13 (List.mem_of_getElem? (i := 7) rfl)) rfl) (rfl : vwCl[1]? = some (RX1, TX1, 5)) rfl lb_78.1 (shO hW.2.1 lb_78) (a_X1_wrong _ _ cA ad g1970 (1 : Int32) z1969 hW.2.1 hG) ⟨by decide, by decide⟩ rfl rfl hl.1 (Nat.le_of_ble_eq_true rfl) dX1_step_92 (fun v g2014 H locs hp hW1 => ?_)
            obtain ⟨r2013, rfl, hs1, hG, hf1, hr2013⟩ := hp
            have f2015 : fld g2014 75 2 = .int c0 := (hf1.1 75 2 (by omega)).trans f1971
            have f2016 : fld g2014 78 2 = .int z1969 := (hf1.1 78 2 (by omega)).trans f1972
            have hW : WS ad cA (fun i k => (i = 78 ∧ (k = 2 ∨ k = 3)) ∨ (i = 75 ∧ (k = 2)) ∨ i = 76 ∨ i = 77) g0 K g2014 H locs := ⟨hW1, hs1, hW.2.2.tr hf1 (fun i k h => (Or.inl (by omega)))⟩
            exact hE _ _ _ _ _ _ hW.1 (nz_or (by omega)) ⟨z1969, c0, _, rfl, hW.2.1, hG, hW.2.2, f2016, f2015, (by omega), (by omega), (by omega), (by omega)⟩ dX1_step_95
          · refine q_iload hM dX1_step_75 (lv_at hl 1 rfl) ?_
            refine q_iconst (v := (0 : Int32)) hM dX1_step_77 (by decide) ?_
            refine q_iload hM dX1_step_78 (lv_at hl 0 rfl) ?_
            refine q_callN (host := "ForgetSchool") (As := [.int z1977, .int (0 : Int32), .int (8 : Int32)]) (rest := []) hM hW.1 hR hC myX11_within (List.mem_of_getElem? (i := 1) rfl) (c_X11_within _ _ cA ad g1970 z1977 (0 : Int32) (8 : Int32) hW.2.1) ⟨by decide, by decide⟩ rfl rfl hl.1 (Nat.le_of_ble_eq_true rfl) dX1_step_80 (fun v g2019 H locs hp hW1 => ?_)
            obtain ⟨r2018, rfl, hr2018, rfl⟩ := hp
            have hW : WS ad cA (fun i k => (i = 78 ∧ (k = 2 ∨ k = 3)) ∨ (i = 75 ∧ (k = 2)) ∨ i = 76 ∨ i = 77) g0 K g1970 H locs := ⟨hW1, hW.2.1, hW.2.2⟩
            have := kc_0
            have := kc_8
            refine q_if_ne (tgt := 96) hM dX1_step_83 (by decide) (rfl : r2018.toInt = r2018.toInt) (fun h83 => ?_) (fun h83 => ?_)
            · refine q_aload_n hM dX1_step_96 (lv_at hl 4 rfl) ?_
              refine q_dup hM dX1_step_97 rfl ?_
              refine w_get (v := .int z1969) hM hW FG_X1_23 lb_78 f1972 dX1_step_98 ?_
              have bz1969 := hG.f f1972 rF_78_2 (by decide)
              refine q_iconst (v := (1 : Int32)) hM dX1_step_101 (by decide) ?_
              refine q_iadd hM dX1_step_102 (fun z2021 hz2021 => ?_)
              first | have tz2021 := i_addT hz2021 (rfl : z1969.toInt = z1969.toInt) (kc_1 : (1 : Int32).toInt = 1) (by omega) (by omega) | skip
              refine w_put hM hW FP_X1_23 lb_78 (by omega) (Or.inl ⟨_, rfl⟩) rfl rfl dX1_step_103 (fun g2022 H locs hW e1 e2 => ?_)
              have f2023 : fld g2022 75 2 = .int c0 := (e2.1 75 2 (by unfold Only; omega)).trans f1971
              have f2024 : fld g2022 78 2 = .int z2021 := e1
              have hG := hG.put e1 e2 rF_78_2 (by decide) (by have := i_rng z2021; omega) (by have := i_rng z2021; omega)
              refine q_aload_n hM dX1_step_106 (lv_at hl 4 rfl) ?_
              refine w_get (v := .ref (ad 75)) hM hW FG_X1_15 lb_78 ((hW.2.2.1 78 4 (by omega)).trans h_r4) dX1_step_107 ?_
              refine q_iload_n hM dX1_step_110 (lv_at hl 3 rfl) ?_
              refine q_iload hM dX1_step_111 (lv_at hl 1 rfl) ?_
              refine q_callV (As := [.int r1759, .int z1977]) (rest := []) hM hW.1 hR hC myX0_add (kAW (v_1_14 (List.mem_of_getElem? (i := 3) rfl)) rfl) (rfl : vwCl[0]? = some (RX0, TX0, 3)) rfl lb_75.1 (shO hW.2.1 lb_75) (a_X0_add2 _ _ cA ad g2022 r1759 z1977 c0 hW.2.1 hG f2023) ⟨by decide, by decide⟩ rfl rfl hl.1 (Nat.le_of_ble_eq_true rfl) dX1_step_113 (fun v g2029 H locs hp hW1 => ?_)
              obtain ⟨v2025, r2026, rfl, hs1, hG, hf1, q2027, e2028, hr2026⟩ := hp
              have f2030 : fld g2029 78 2 = .int z2021 := (hf1.1 78 2 (by omega)).trans f2024
              have hW : WS ad cA (fun i k => (i = 78 ∧ (k = 2 ∨ k = 3)) ∨ (i = 75 ∧ (k = 2)) ∨ i = 76 ∨ i = 77) g0 K g2029 H locs := ⟨hW1, hs1, hW.2.2.tr hf1 (fun i k h => h.elim (fun h => (Or.inr (Or.inl h))) (fun h => h.elim (fun h => (Or.inr (Or.inr (Or.inl h)))) (fun h => (Or.inr (Or.inr (Or.inr h))))))⟩
              refine q_if_ne (tgt := 129) hM dX1_step_116 (by decide) (rfl : r2026.toInt = r2026.toInt) (fun h116 => ?_) (fun h116 => ?_)
              · refine q_iconst (v := (1 : Int32)) hM dX1_step_129 (by decide) ?_
                refine q_goto (tgt := 134) hM dX1_step_130 (by decide) ?_
                exact hE _ _ _ _ _ _ hW.1 nz_1 ⟨z2021, v2025, _, rfl, hW.2.1, hG, hW.2.2, f2030, q2027, (by have := kc_1; omega), (by have := kc_1; omega), (by have := kc_1; omega), (by have := kc_1; omega)⟩ dX1_step_134
              · refine q_aload_n hM dX1_step_119 (lv_at hl 4 rfl) ?_
                refine q_bipush (v := (6 : Int32)) hM dX1_step_120 (by decide) ?_
                refine q_iload_n hM dX1_step_122 (lv_at hl 5 rfl) ?_
                refine q_callV (As := [.int (6 : Int32), .int sa]) (rest := []) hM hW.1 hR hC myX1_wrong (kAW (v_1_13 (List.mem_of_getElem? (i := 7) rfl)) rfl) (rfl : vwCl[1]? = some (RX1, TX1, 5)) rfl lb_78.1 (shO hW.2.1 lb_78) (a_X1_wrong _ _ cA ad g2029 (6 : Int32) sa hW.2.1 hG) ⟨by decide, by decide⟩ rfl rfl hl.1 (Nat.le_of_ble_eq_true rfl) dX1_step_123 (fun v g2034 H locs hp hW1 => ?_)
                obtain ⟨r2033, rfl, hs1, hG, hf1, hr2033⟩ := hp
                have f2035 : fld g2034 78 2 = .int z2021 := (hf1.1 78 2 (by omega)).trans f2030
                have f2036 : fld g2034 75 2 = .int v2025 := (hf1.1 75 2 (by omega)).trans q2027
                have hW : WS ad cA (fun i k => (i = 78 ∧ (k = 2 ∨ k = 3)) ∨ (i = 75 ∧ (k = 2)) ∨ i = 76 ∨ i = 77) g0 K g2034 H locs := ⟨hW1, hs1, hW.2.2.tr hf1 (fun i k h => (Or.inl (by omega)))⟩
                refine q_if_eq (tgt := 133) hM dX1_step_126 (by decide) (rfl : r2033.toInt = r2033.toInt) (fun h126 => ?_) (fun h126 => ?_)
                · refine q_iconst (v := (0 : Int32)) hM dX1_step_133 (by decide) ?_
                  exact hE _ _ _ _ _ _ hW.1 nz_0 ⟨z2021, v2025, _, rfl, hW.2.1, hG, hW.2.2, f2035, f2036, (by have := kc_0; omega), (by have := kc_0; omega), (by have := kc_0; omega), (by have := kc_0; omega)⟩ dX1_step_134
                · refine q_iconst (v := (1 : Int32)) hM dX1_step_129 (by decide) ?_
                  refine q_goto (tgt := 134) hM dX1_step_130 (by decide) ?_
                  exact hE _ _ _ _ _ _ hW.1 nz_1 ⟨z2021, v2025, _, rfl, hW.2.1, hG, hW.2.2, f2035, f2036, (by have := kc_1; omega), (by have := kc_1; omega), (by have := kc_1; omega), (by have := kc_1; omega)⟩ dX1_step_134
            · refine q_aload_n hM dX1_step_86 (lv_at hl 4 rfl) ?_
              refine q_iconst (v := (1 : Int32)) hM dX1_step_87 (by decide) ?_
              refine q_aload_n hM dX1_step_88 (lv_at hl 4 rfl) ?_
              refine w_get (v := .int z1969) hM hW FG_X1_23 lb_78 f1972 dX1_step_89 ?_
              have bz1969 := hG.f f1972 rF_78_2 (by decide)
              refine q_callV (As := [.int (1 : Int32), .int z1969]) (rest := []) hM hW.1 hR hC myX1_wrong (kAW (v_1_13 (List.mem_of_getElem? (i := 7) rfl)) rfl) (rfl : vwCl[1]? = some (RX1, TX1, 5)) rfl lb_78.1 (shO hW.2.1 lb_78) (a_X1_wrong _ _ cA ad g1970 (1 : Int32) z1969 hW.2.1 hG) ⟨by decide, by decide⟩ rfl rfl hl.1 (Nat.le_of_ble_eq_true rfl) dX1_step_92 (fun v g2041 H locs hp hW1 => ?_)
              obtain ⟨r2040, rfl, hs1, hG, hf1, hr2040⟩ := hp
              have f2042 : fld g2041 75 2 = .int c0 := (hf1.1 75 2 (by omega)).trans f1971
              have f2043 : fld g2041 78 2 = .int z1969 := (hf1.1 78 2 (by omega)).trans f1972
              have hW : WS ad cA (fun i k => (i = 78 ∧ (k = 2 ∨ k = 3)) ∨ (i = 75 ∧ (k = 2)) ∨ i = 76 ∨ i = 77) g0 K g2041 H locs := ⟨hW1, hs1, hW.2.2.tr hf1 (fun i k h => (Or.inl (by omega)))⟩
              exact hE _ _ _ _ _ _ hW.1 (nz_or (by omega)) ⟨z1969, c0, _, rfl, hW.2.1, hG, hW.2.2, f2043, f2042, (by omega), (by omega), (by omega), (by omega)⟩ dX1_step_95
      · refine q_iconst (v := (0 : Int32)) hM dX1_step_46 (by decide) ?_
        refine q_goto (tgt := 54) hM dX1_step_47 (by decide) ?_
        refine q_istore (lv9 := [(4, .int (0 : Int32)), (3, .int r1973), (2, .int r1759), (0, .ref (ad 78)), (1, .int sa)]) hM dX1_step_54 hl (by decide) rfl (fun ls hl => ?_)
        refine q_iload_n hM dX1_step_56 (lv_at hl 2 rfl) ?_
        refine q_iconst (v := (1 : Int32)) hM dX1_step_57 (by decide) ?_
        refine q_icmp_ne (tgt := 66) hM dX1_step_58 (by decide) (rfl : r1759.toInt = r1759.toInt) (kc_1 : (1 : Int32).toInt = 1) (fun h58 => ?_) (fun h58 => ?_)
        · refine q_bipush (v := (11 : Int32)) hM dX1_step_66 (by decide) ?_
          refine q_istore (lv9 := [(5, .int (11 : Int32)), (4, .int (0 : Int32)), (3, .int r1973), (2, .int r1759), (0, .ref (ad 78)), (1, .int sa)]) hM dX1_step_68 hl (by decide) rfl (fun ls hl => ?_)
          refine q_iload_n hM dX1_step_70 (lv_at hl 3 rfl) ?_
          refine q_iconst (v := ((-1) : Int32)) hM dX1_step_71 (by decide) ?_
          refine q_icmp_eq (tgt := 86) hM dX1_step_72 (by decide) (rfl : r1759.toInt = r1759.toInt) (kc_m1 : ((-1) : Int32).toInt = (-1)) (fun h72 => ?_) (fun h72 => ?_)
          · refine q_aload_n hM dX1_step_86 (lv_at hl 4 rfl) ?_
            refine q_iconst (v := (1 : Int32)) hM dX1_step_87 (by decide) ?_
            refine q_aload_n hM dX1_step_88 (lv_at hl 4 rfl) ?_
            refine w_get (v := .int z1969) hM hW FG_X1_23 lb_78 f1972 dX1_step_89 ?_
            have bz1969 := hG.f f1972 rF_78_2 (by decide)
            refine q_callV (As := [.int (1 : Int32), .int z1969]) (rest := []) hM hW.1 hR hC myX1_wrong (kAW (v_1_13 (List.mem_of_getElem? (i := 7) rfl)) rfl) (rfl : vwCl[1]? = some (RX1, TX1, 5)) rfl lb_78.1 (shO hW.2.1 lb_78) (a_X1_wrong _ _ cA ad g1970 (1 : Int32) z1969 hW.2.1 hG) ⟨by decide, by decide⟩ rfl rfl hl.1 (Nat.le_of_ble_eq_true rfl) dX1_step_92 (fun v g2048 H locs hp hW1 => ?_)
            obtain ⟨r2047, rfl, hs1, hG, hf1, hr2047⟩ := hp
            have f2049 : fld g2048 75 2 = .int c0 := (hf1.1 75 2 (by omega)).trans f1971
            have f2050 : fld g2048 78 2 = .int z1969 := (hf1.1 78 2 (by omega)).trans f1972
            have hW : WS ad cA (fun i k => (i = 78 ∧ (k = 2 ∨ k = 3)) ∨ (i = 75 ∧ (k = 2)) ∨ i = 76 ∨ i = 77) g0 K g2048 H locs := ⟨hW1, hs1, hW.2.2.tr hf1 (fun i k h => (Or.inl (by omega)))⟩
            exact hE _ _ _ _ _ _ hW.1 (nz_or (by omega)) ⟨z1969, c0, _, rfl, hW.2.1, hG, hW.2.2, f2050, f2049, (by omega), (by omega), (by omega), (by omega)⟩ dX1_step_95
          · refine q_iload hM dX1_step_75 (lv_at hl 1 rfl) ?_
            refine q_iconst (v := (0 : Int32)) hM dX1_step_77 (by decide) ?_
            refine q_iload hM dX1_step_78 (lv_at hl 0 rfl) ?_
            refine q_callN (host := "ForgetSchool") (As := [.int (0 : Int32), .int (0 : Int32), .int (11 : Int32)]) (rest := []) hM hW.1 hR hC myX11_within (List.mem_of_getElem? (i := 1) rfl) (c_X11_within _ _ cA ad g1970 (0 : Int32) (0 : Int32) (11 : Int32) hW.2.1) ⟨by decide, by decide⟩ rfl rfl hl.1 (Nat.le_of_ble_eq_true rfl) dX1_step_80 (fun v g2053 H locs hp hW1 => ?_)
            obtain ⟨r2052, rfl, hr2052, rfl⟩ := hp
            have hW : WS ad cA (fun i k => (i = 78 ∧ (k = 2 ∨ k = 3)) ∨ (i = 75 ∧ (k = 2)) ∨ i = 76 ∨ i = 77) g0 K g1970 H locs := ⟨hW1, hW.2.1, hW.2.2⟩
            have := kc_0
            have := kc_0
            have := kc_11
            refine q_if_ne (tgt := 96) hM dX1_step_83 (by decide) (rfl : r2052.toInt = r2052.toInt) (fun h83 => ?_) (fun h83 => ?_)
            · refine q_aload_n hM dX1_step_96 (lv_at hl 4 rfl) ?_
              refine q_dup hM dX1_step_97 rfl ?_
              refine w_get (v := .int z1969) hM hW FG_X1_23 lb_78 f1972 dX1_step_98 ?_
              have bz1969 := hG.f f1972 rF_78_2 (by decide)
              refine q_iconst (v := (1 : Int32)) hM dX1_step_101 (by decide) ?_
              refine q_iadd hM dX1_step_102 (fun z2055 hz2055 => ?_)
              first | have tz2055 := i_addT hz2055 (rfl : z1969.toInt = z1969.toInt) (kc_1 : (1 : Int32).toInt = 1) (by omega) (by omega) | skip
              refine w_put hM hW FP_X1_23 lb_78 (by omega) (Or.inl ⟨_, rfl⟩) rfl rfl dX1_step_103 (fun g2056 H locs hW e1 e2 => ?_)
              have f2057 : fld g2056 75 2 = .int c0 := (e2.1 75 2 (by unfold Only; omega)).trans f1971
              have f2058 : fld g2056 78 2 = .int z2055 := e1
              have hG := hG.put e1 e2 rF_78_2 (by decide) (by have := i_rng z2055; omega) (by have := i_rng z2055; omega)
              refine q_aload_n hM dX1_step_106 (lv_at hl 4 rfl) ?_
              refine w_get (v := .ref (ad 75)) hM hW FG_X1_15 lb_78 ((hW.2.2.1 78 4 (by omega)).trans h_r4) dX1_step_107 ?_
              refine q_iload_n hM dX1_step_110 (lv_at hl 3 rfl) ?_
              refine q_iload hM dX1_step_111 (lv_at hl 1 rfl) ?_
              refine q_callV (As := [.int r1759, .int (0 : Int32)]) (rest := []) hM hW.1 hR hC myX0_add (kAW (v_1_14 (List.mem_of_getElem? (i := 3) rfl)) rfl) (rfl : vwCl[0]? = some (RX0, TX0, 3)) rfl lb_75.1 (shO hW.2.1 lb_75) (a_X0_add2 _ _ cA ad g2056 r1759 (0 : Int32) c0 hW.2.1 hG f2057) ⟨by decide, by decide⟩ rfl rfl hl.1 (Nat.le_of_ble_eq_true rfl) dX1_step_113 (fun v g2063 H locs hp hW1 => ?_)
              obtain ⟨v2059, r2060, rfl, hs1, hG, hf1, q2061, e2062, hr2060⟩ := hp
              have f2064 : fld g2063 78 2 = .int z2055 := (hf1.1 78 2 (by omega)).trans f2058
              have hW : WS ad cA (fun i k => (i = 78 ∧ (k = 2 ∨ k = 3)) ∨ (i = 75 ∧ (k = 2)) ∨ i = 76 ∨ i = 77) g0 K g2063 H locs := ⟨hW1, hs1, hW.2.2.tr hf1 (fun i k h => h.elim (fun h => (Or.inr (Or.inl h))) (fun h => h.elim (fun h => (Or.inr (Or.inr (Or.inl h)))) (fun h => (Or.inr (Or.inr (Or.inr h))))))⟩
              refine q_if_ne (tgt := 129) hM dX1_step_116 (by decide) (rfl : r2060.toInt = r2060.toInt) (fun h116 => ?_) (fun h116 => ?_)
              · refine q_iconst (v := (1 : Int32)) hM dX1_step_129 (by decide) ?_
                refine q_goto (tgt := 134) hM dX1_step_130 (by decide) ?_
                exact hE _ _ _ _ _ _ hW.1 nz_1 ⟨z2055, v2059, _, rfl, hW.2.1, hG, hW.2.2, f2064, q2061, (by have := kc_1; omega), (by have := kc_1; omega), (by have := kc_1; omega), (by have := kc_1; omega)⟩ dX1_step_134
              · refine q_aload_n hM dX1_step_119 (lv_at hl 4 rfl) ?_
                refine q_bipush (v := (6 : Int32)) hM dX1_step_120 (by decide) ?_
                refine q_iload_n hM dX1_step_122 (lv_at hl 5 rfl) ?_
                refine q_callV (As := [.int (6 : Int32), .int sa]) (rest := []) hM hW.1 hR hC myX1_wrong (kAW (v_1_13 (List.mem_of_getElem? (i := 7) rfl)) rfl) (rfl : vwCl[1]? = some (RX1, TX1, 5)) rfl lb_78.1 (shO hW.2.1 lb_78) (a_X1_wrong _ _ cA ad g2063 (6 : Int32) sa hW.2.1 hG) ⟨by decide, by decide⟩ rfl rfl hl.1 (Nat.le_of_ble_eq_true rfl) dX1_step_123 (fun v g2068 H locs hp hW1 => ?_)
                obtain ⟨r2067, rfl, hs1, hG, hf1, hr2067⟩ := hp
                have f2069 : fld g2068 78 2 = .int z2055 := (hf1.1 78 2 (by omega)).trans f2064
                have f2070 : fld g2068 75 2 = .int v2059 := (hf1.1 75 2 (by omega)).trans q2061
                have hW : WS ad cA (fun i k => (i = 78 ∧ (k = 2 ∨ k = 3)) ∨ (i = 75 ∧ (k = 2)) ∨ i = 76 ∨ i = 77) g0 K g2068 H locs := ⟨hW1, hs1, hW.2.2.tr hf1 (fun i k h => (Or.inl (by omega)))⟩
                refine q_if_eq (tgt := 133) hM dX1_step_126 (by decide) (rfl : r2067.toInt = r2067.toInt) (fun h126 => ?_) (fun h126 => ?_)
                · refine q_iconst (v := (0 : Int32)) hM dX1_step_133 (by decide) ?_
                  exact hE _ _ _ _ _ _ hW.1 nz_0 ⟨z2055, v2059, _, rfl, hW.2.1, hG, hW.2.2, f2069, f2070, (by have := kc_0; omega), (by have := kc_0; omega), (by have := kc_0; omega), (by have := kc_0; omega)⟩ dX1_step_134
                · refine q_iconst (v := (1 : Int32)) hM dX1_step_129 (by decide) ?_
                  refine q_goto (tgt := 134) hM dX1_step_130 (by decide) ?_
                  exact hE _ _ _ _ _ _ hW.1 nz_1 ⟨z2055, v2059, _, rfl, hW.2.1, hG, hW.2.2, f2069, f2070, (by have := kc_1; omega), (by have := kc_1; omega), (by have := kc_1; omega), (by have := kc_1; omega)⟩ dX1_step_134
            · refine q_aload_n hM dX1_step_86 (lv_at hl 4 rfl) ?_
              refine q_iconst (v := (1 : Int32)) hM dX1_step_87 (by decide) ?_
              refine q_aload_n hM dX1_step_88 (lv_at hl 4 rfl) ?_
              refine w_get (v := .int z1969) hM hW FG_X1_23 lb_78 f1972 dX1_step_89 ?_
              have bz1969 := hG.f f1972 rF_78_2 (by decide)
              refine q_callV (As := [.int (1 : Int32), .int z1969]) (rest := []) hM hW.1 hR hC myX1_wrong (kAW (v_1_13 (List.mem_of_getElem? (i := 7) rfl)) rfl) (rfl : vwCl[1]? = some (RX1, TX1, 5)) rfl lb_78.1 (shO hW.2.1 lb_78) (a_X1_wrong _ _ cA ad g1970 (1 : Int32) z1969 hW.2.1 hG) ⟨by decide, by decide⟩ rfl rfl hl.1 (Nat.le_of_ble_eq_true rfl) dX1_step_92 (fun v g2075 H locs hp hW1 => ?_)
              obtain ⟨r2074, rfl, hs1, hG, hf1, hr2074⟩ := hp
              have f2076 : fld g2075 75 2 = .int c0 := (hf1.1 75 2 (by omega)).trans f1971
              have f2077 : fld g2075 78 2 = .int z1969 := (hf1.1 78 2 (by omega)).trans f1972
              have hW : WS ad cA (fun i k => (i = 78 ∧ (k = 2 ∨ k = 3)) ∨ (i = 75 ∧ (k = 2)) ∨ i = 76 ∨ i = 77) g0 K g2075 H locs := ⟨hW1, hs1, hW.2.2.tr hf1 (fun i k h => (Or.inl (by omega)))⟩
              exact hE _ _ _ _ _ _ hW.1 (nz_or (by omega)) ⟨z1969, c0, _, rfl, hW.2.1, hG, hW.2.2, f2077, f2076, (by omega), (by omega), (by omega), (by omega)⟩ dX1_step_95
        · refine q_bipush (v := (8 : Int32)) hM dX1_step_61 (by decide) ?_
          refine q_goto (tgt := 68) hM dX1_step_63 (by decide) ?_
          refine q_istore (lv9 := [(5, .int (8 : Int32)), (4, .int (0 : Int32)), (3, .int r1973), (2, .int r1759), (0, .ref (ad 78)), (1, .int sa)]) hM dX1_step_68 hl (by decide) rfl (fun ls hl => ?_)
          refine q_iload_n hM dX1_step_70 (lv_at hl 3 rfl) ?_
          refine q_iconst (v := ((-1) : Int32)) hM dX1_step_71 (by decide) ?_
          refine q_icmp_eq (tgt := 86) hM dX1_step_72 (by decide) (rfl : r1759.toInt = r1759.toInt) (kc_m1 : ((-1) : Int32).toInt = (-1)) (fun h72 => ?_) (fun h72 => ?_)
          · refine q_aload_n hM dX1_step_86 (lv_at hl 4 rfl) ?_
            refine q_iconst (v := (1 : Int32)) hM dX1_step_87 (by decide) ?_
            refine q_aload_n hM dX1_step_88 (lv_at hl 4 rfl) ?_
            refine w_get (v := .int z1969) hM hW FG_X1_23 lb_78 f1972 dX1_step_89 ?_
            have bz1969 := hG.f f1972 rF_78_2 (by decide)
            refine q_callV (As := [.int (1 : Int32), .int z1969]) (rest := []) hM hW.1 hR hC myX1_wrong (kAW (v_1_13 (List.mem_of_getElem? (i := 7) rfl)) rfl) (rfl : vwCl[1]? = some (RX1, TX1, 5)) rfl lb_78.1 (shO hW.2.1 lb_78) (a_X1_wrong _ _ cA ad g1970 (1 : Int32) z1969 hW.2.1 hG) ⟨by decide, by decide⟩ rfl rfl hl.1 (Nat.le_of_ble_eq_true rfl) dX1_step_92 (fun v g2081 H locs hp hW1 => ?_)
            obtain ⟨r2080, rfl, hs1, hG, hf1, hr2080⟩ := hp
            have f2082 : fld g2081 75 2 = .int c0 := (hf1.1 75 2 (by omega)).trans f1971
            have f2083 : fld g2081 78 2 = .int z1969 := (hf1.1 78 2 (by omega)).trans f1972
            have hW : WS ad cA (fun i k => (i = 78 ∧ (k = 2 ∨ k = 3)) ∨ (i = 75 ∧ (k = 2)) ∨ i = 76 ∨ i = 77) g0 K g2081 H locs := ⟨hW1, hs1, hW.2.2.tr hf1 (fun i k h => (Or.inl (by omega)))⟩
            exact hE _ _ _ _ _ _ hW.1 (nz_or (by omega)) ⟨z1969, c0, _, rfl, hW.2.1, hG, hW.2.2, f2083, f2082, (by omega), (by omega), (by omega), (by omega)⟩ dX1_step_95
          · refine q_iload hM dX1_step_75 (lv_at hl 1 rfl) ?_
            refine q_iconst (v := (0 : Int32)) hM dX1_step_77 (by decide) ?_
            refine q_iload hM dX1_step_78 (lv_at hl 0 rfl) ?_
            refine q_callN (host := "ForgetSchool") (As := [.int (0 : Int32), .int (0 : Int32), .int (8 : Int32)]) (rest := []) hM hW.1 hR hC myX11_within (List.mem_of_getElem? (i := 1) rfl) (c_X11_within _ _ cA ad g1970 (0 : Int32) (0 : Int32) (8 : Int32) hW.2.1) ⟨by decide, by decide⟩ rfl rfl hl.1 (Nat.le_of_ble_eq_true rfl) dX1_step_80 (fun v g2086 H locs hp hW1 => ?_)
            obtain ⟨r2085, rfl, hr2085, rfl⟩ := hp
            have hW : WS ad cA (fun i k => (i = 78 ∧ (k = 2 ∨ k = 3)) ∨ (i = 75 ∧ (k = 2)) ∨ i = 76 ∨ i = 77) g0 K g1970 H locs := ⟨hW1, hW.2.1, hW.2.2⟩
            have := kc_0
            have := kc_0
            have := kc_8
            refine q_if_ne (tgt := 96) hM dX1_step_83 (by decide) (rfl : r2085.toInt = r2085.toInt) (fun h83 => ?_) (fun h83 => ?_)
            · refine q_aload_n hM dX1_step_96 (lv_at hl 4 rfl) ?_
              refine q_dup hM dX1_step_97 rfl ?_
              refine w_get (v := .int z1969) hM hW FG_X1_23 lb_78 f1972 dX1_step_98 ?_
              have bz1969 := hG.f f1972 rF_78_2 (by decide)
              refine q_iconst (v := (1 : Int32)) hM dX1_step_101 (by decide) ?_
              refine q_iadd hM dX1_step_102 (fun z2088 hz2088 => ?_)
              first | have tz2088 := i_addT hz2088 (rfl : z1969.toInt = z1969.toInt) (kc_1 : (1 : Int32).toInt = 1) (by omega) (by omega) | skip
              refine w_put hM hW FP_X1_23 lb_78 (by omega) (Or.inl ⟨_, rfl⟩) rfl rfl dX1_step_103 (fun g2089 H locs hW e1 e2 => ?_)
              have f2090 : fld g2089 75 2 = .int c0 := (e2.1 75 2 (by unfold Only; omega)).trans f1971
              have f2091 : fld g2089 78 2 = .int z2088 := e1
              have hG := hG.put e1 e2 rF_78_2 (by decide) (by have := i_rng z2088; omega) (by have := i_rng z2088; omega)
              refine q_aload_n hM dX1_step_106 (lv_at hl 4 rfl) ?_
              refine w_get (v := .ref (ad 75)) hM hW FG_X1_15 lb_78 ((hW.2.2.1 78 4 (by omega)).trans h_r4) dX1_step_107 ?_
              refine q_iload_n hM dX1_step_110 (lv_at hl 3 rfl) ?_
              refine q_iload hM dX1_step_111 (lv_at hl 1 rfl) ?_
              refine q_callV (As := [.int r1759, .int (0 : Int32)]) (rest := []) hM hW.1 hR hC myX0_add (kAW (v_1_14 (List.mem_of_getElem? (i := 3) rfl)) rfl) (rfl : vwCl[0]? = some (RX0, TX0, 3)) rfl lb_75.1 (shO hW.2.1 lb_75) (a_X0_add2 _ _ cA ad g2089 r1759 (0 : Int32) c0 hW.2.1 hG f2090) ⟨by decide, by decide⟩ rfl rfl hl.1 (Nat.le_of_ble_eq_true rfl) dX1_step_113 (fun v g2096 H locs hp hW1 => ?_)
              obtain ⟨v2092, r2093, rfl, hs1, hG, hf1, q2094, e2095, hr2093⟩ := hp
              have f2097 : fld g2096 78 2 = .int z2088 := (hf1.1 78 2 (by omega)).trans f2091
              have hW : WS ad cA (fun i k => (i = 78 ∧ (k = 2 ∨ k = 3)) ∨ (i = 75 ∧ (k = 2)) ∨ i = 76 ∨ i = 77) g0 K g2096 H locs := ⟨hW1, hs1, hW.2.2.tr hf1 (fun i k h => h.elim (fun h => (Or.inr (Or.inl h))) (fun h => h.elim (fun h => (Or.inr (Or.inr (Or.inl h)))) (fun h => (Or.inr (Or.inr (Or.inr h))))))⟩
              refine q_if_ne (tgt := 129) hM dX1_step_116 (by decide) (rfl : r2093.toInt = r2093.toInt) (fun h116 => ?_) (fun h116 => ?_)
              · refine q_iconst (v := (1 : Int32)) hM dX1_step_129 (by decide) ?_
                refine q_goto (tgt := 134) hM dX1_step_130 (by decide) ?_
                exact hE _ _ _ _ _ _ hW.1 nz_1 ⟨z2088, v2092, _, rfl, hW.2.1, hG, hW.2.2, f2097, q2094, (by have := kc_1; omega), (by have := kc_1; omega), (by have := kc_1; omega), (by have := kc_1; omega)⟩ dX1_step_134
              · refine q_aload_n hM dX1_step_119 (lv_at hl 4 rfl) ?_
                refine q_bipush (v := (6 : Int32)) hM dX1_step_120 (by decide) ?_
                refine q_iload_n hM dX1_step_122 (lv_at hl 5 rfl) ?_
                refine q_callV (As := [.int (6 : Int32), .int sa]) (rest := []) hM hW.1 hR hC myX1_wrong (kAW (v_1_13 (List.mem_of_getElem? (i := 7) rfl)) rfl) (rfl : vwCl[1]? = some (RX1, TX1, 5)) rfl lb_78.1 (shO hW.2.1 lb_78) (a_X1_wrong _ _ cA ad g2096 (6 : Int32) sa hW.2.1 hG) ⟨by decide, by decide⟩ rfl rfl hl.1 (Nat.le_of_ble_eq_true rfl) dX1_step_123 (fun v g2101 H locs hp hW1 => ?_)
                obtain ⟨r2100, rfl, hs1, hG, hf1, hr2100⟩ := hp
                have f2102 : fld g2101 78 2 = .int z2088 := (hf1.1 78 2 (by omega)).trans f2097
                have f2103 : fld g2101 75 2 = .int v2092 := (hf1.1 75 2 (by omega)).trans q2094
                have hW : WS ad cA (fun i k => (i = 78 ∧ (k = 2 ∨ k = 3)) ∨ (i = 75 ∧ (k = 2)) ∨ i = 76 ∨ i = 77) g0 K g2101 H locs := ⟨hW1, hs1, hW.2.2.tr hf1 (fun i k h => (Or.inl (by omega)))⟩
                refine q_if_eq (tgt := 133) hM dX1_step_126 (by decide) (rfl : r2100.toInt = r2100.toInt) (fun h126 => ?_) (fun h126 => ?_)
                · refine q_iconst (v := (0 : Int32)) hM dX1_step_133 (by decide) ?_
                  exact hE _ _ _ _ _ _ hW.1 nz_0 ⟨z2088, v2092, _, rfl, hW.2.1, hG, hW.2.2, f2102, f2103, (by have := kc_0; omega), (by have := kc_0; omega), (by have := kc_0; omega), (by have := kc_0; omega)⟩ dX1_step_134
                · refine q_iconst (v := (1 : Int32)) hM dX1_step_129 (by decide) ?_
                  refine q_goto (tgt := 134) hM dX1_step_130 (by decide) ?_
                  exact hE _ _ _ _ _ _ hW.1 nz_1 ⟨z2088, v2092, _, rfl, hW.2.1, hG, hW.2.2, f2102, f2103, (by have := kc_1; omega), (by have := kc_1; omega), (by have := kc_1; omega), (by have := kc_1; omega)⟩ dX1_step_134
            · refine q_aload_n hM dX1_step_86 (lv_at hl 4 rfl) ?_
              refine q_iconst (v := (1 : Int32)) hM dX1_step_87 (by decide) ?_
              refine q_aload_n hM dX1_step_88 (lv_at hl 4 rfl) ?_
              refine w_get (v := .int z1969) hM hW FG_X1_23 lb_78 f1972 dX1_step_89 ?_
              have bz1969 := hG.f f1972 rF_78_2 (by decide)
              refine q_callV (As := [.int (1 : Int32), .int z1969]) (rest := []) hM hW.1 hR hC myX1_wrong (kAW (v_1_13 (List.mem_of_getElem? (i := 7) rfl)) rfl) (rfl : vwCl[1]? = some (RX1, TX1, 5)) rfl lb_78.1 (shO hW.2.1 lb_78) (a_X1_wrong _ _ cA ad g1970 (1 : Int32) z1969 hW.2.1 hG) ⟨by decide, by decide⟩ rfl rfl hl.1 (Nat.le_of_ble_eq_true rfl) dX1_step_92 (fun v g2108 H locs hp hW1 => ?_)
              obtain ⟨r2107, rfl, hs1, hG, hf1, hr2107⟩ := hp
              have f2109 : fld g2108 75 2 = .int c0 := (hf1.1 75 2 (by omega)).trans f1971
              have f2110 : fld g2108 78 2 = .int z1969 := (hf1.1 78 2 (by omega)).trans f1972
              have hW : WS ad cA (fun i k => (i = 78 ∧ (k = 2 ∨ k = 3)) ∨ (i = 75 ∧ (k = 2)) ∨ i = 76 ∨ i = 77) g0 K g2108 H locs := ⟨hW1, hs1, hW.2.2.tr hf1 (fun i k h => (Or.inl (by omega)))⟩
              exact hE _ _ _ _ _ _ hW.1 (nz_or (by omega)) ⟨z1969, c0, _, rfl, hW.2.1, hG, hW.2.2, f2110, f2109, (by omega), (by omega), (by omega), (by omega)⟩ dX1_step_95
    · refine q_iload_n hM dX1_step_34 (lv_at hl 0 rfl) ?_
      refine q_bipush (v := (65 : Int32)) hM dX1_step_35 (by decide) ?_
      refine q_isub hM dX1_step_37 (fun z2112 hz2112 => ?_)
      first | have tz2112 := i_subT hz2112 (rfl : r1973.toInt = r1973.toInt) (kc_65 : (65 : Int32).toInt = 65) (by omega) (by omega) | skip
      refine q_goto (tgt := 54) hM dX1_step_38 (by decide) ?_
      refine q_istore (lv9 := [(4, .int z2112), (3, .int r1973), (2, .int r1759), (0, .ref (ad 78)), (1, .int sa)]) hM dX1_step_54 hl (by decide) rfl (fun ls hl => ?_)
      refine q_iload_n hM dX1_step_56 (lv_at hl 2 rfl) ?_
      refine q_iconst (v := (1 : Int32)) hM dX1_step_57 (by decide) ?_
      refine q_icmp_ne (tgt := 66) hM dX1_step_58 (by decide) (rfl : r1759.toInt = r1759.toInt) (kc_1 : (1 : Int32).toInt = 1) (fun h58 => ?_) (fun h58 => ?_)
      · refine q_bipush (v := (11 : Int32)) hM dX1_step_66 (by decide) ?_
        refine q_istore (lv9 := [(5, .int (11 : Int32)), (4, .int z2112), (3, .int r1973), (2, .int r1759), (0, .ref (ad 78)), (1, .int sa)]) hM dX1_step_68 hl (by decide) rfl (fun ls hl => ?_)
        refine q_iload_n hM dX1_step_70 (lv_at hl 3 rfl) ?_
        refine q_iconst (v := ((-1) : Int32)) hM dX1_step_71 (by decide) ?_
        refine q_icmp_eq (tgt := 86) hM dX1_step_72 (by decide) (rfl : r1759.toInt = r1759.toInt) (kc_m1 : ((-1) : Int32).toInt = (-1)) (fun h72 => ?_) (fun h72 => ?_)
        · refine q_aload_n hM dX1_step_86 (lv_at hl 4 rfl) ?_
          refine q_iconst (v := (1 : Int32)) hM dX1_step_87 (by decide) ?_
          refine q_aload_n hM dX1_step_88 (lv_at hl 4 rfl) ?_
          refine w_get (v := .int z1969) hM hW FG_X1_23 lb_78 f1972 dX1_step_89 ?_
          have bz1969 := hG.f f1972 rF_78_2 (by decide)
          refine q_callV (As := [.int (1 : Int32), .int z1969]) (rest := []) hM hW.1 hR hC myX1_wrong (kAW (v_1_13 (List.mem_of_getElem? (i := 7) rfl)) rfl) (rfl : vwCl[1]? = some (RX1, TX1, 5)) rfl lb_78.1 (shO hW.2.1 lb_78) (a_X1_wrong _ _ cA ad g1970 (1 : Int32) z1969 hW.2.1 hG) ⟨by decide, by decide⟩ rfl rfl hl.1 (Nat.le_of_ble_eq_true rfl) dX1_step_92 (fun v g2116 H locs hp hW1 => ?_)
          obtain ⟨r2115, rfl, hs1, hG, hf1, hr2115⟩ := hp
          have f2117 : fld g2116 75 2 = .int c0 := (hf1.1 75 2 (by omega)).trans f1971
          have f2118 : fld g2116 78 2 = .int z1969 := (hf1.1 78 2 (by omega)).trans f1972
          have hW : WS ad cA (fun i k => (i = 78 ∧ (k = 2 ∨ k = 3)) ∨ (i = 75 ∧ (k = 2)) ∨ i = 76 ∨ i = 77) g0 K g2116 H locs := ⟨hW1, hs1, hW.2.2.tr hf1 (fun i k h => (Or.inl (by omega)))⟩
          exact hE _ _ _ _ _ _ hW.1 (nz_or (by omega)) ⟨z1969, c0, _, rfl, hW.2.1, hG, hW.2.2, f2118, f2117, (by omega), (by omega), (by omega), (by omega)⟩ dX1_step_95
        · refine q_iload hM dX1_step_75 (lv_at hl 1 rfl) ?_
          refine q_iconst (v := (0 : Int32)) hM dX1_step_77 (by decide) ?_
          refine q_iload hM dX1_step_78 (lv_at hl 0 rfl) ?_
          refine q_callN (host := "ForgetSchool") (As := [.int z2112, .int (0 : Int32), .int (11 : Int32)]) (rest := []) hM hW.1 hR hC myX11_within (List.mem_of_getElem? (i := 1) rfl) (c_X11_within _ _ cA ad g1970 z2112 (0 : Int32) (11 : Int32) hW.2.1) ⟨by decide, by decide⟩ rfl rfl hl.1 (Nat.le_of_ble_eq_true rfl) dX1_step_80 (fun v g2121 H locs hp hW1 => ?_)
          obtain ⟨r2120, rfl, hr2120, rfl⟩ := hp
          have hW : WS ad cA (fun i k => (i = 78 ∧ (k = 2 ∨ k = 3)) ∨ (i = 75 ∧ (k = 2)) ∨ i = 76 ∨ i = 77) g0 K g1970 H locs := ⟨hW1, hW.2.1, hW.2.2⟩
          have := kc_0
          have := kc_11
          refine q_if_ne (tgt := 96) hM dX1_step_83 (by decide) (rfl : r2120.toInt = r2120.toInt) (fun h83 => ?_) (fun h83 => ?_)
          · refine q_aload_n hM dX1_step_96 (lv_at hl 4 rfl) ?_
            refine q_dup hM dX1_step_97 rfl ?_
            refine w_get (v := .int z1969) hM hW FG_X1_23 lb_78 f1972 dX1_step_98 ?_
            have bz1969 := hG.f f1972 rF_78_2 (by decide)
            refine q_iconst (v := (1 : Int32)) hM dX1_step_101 (by decide) ?_
            refine q_iadd hM dX1_step_102 (fun z2123 hz2123 => ?_)
            first | have tz2123 := i_addT hz2123 (rfl : z1969.toInt = z1969.toInt) (kc_1 : (1 : Int32).toInt = 1) (by omega) (by omega) | skip
            refine w_put hM hW FP_X1_23 lb_78 (by omega) (Or.inl ⟨_, rfl⟩) rfl rfl dX1_step_103 (fun g2124 H locs hW e1 e2 => ?_)
            have f2125 : fld g2124 75 2 = .int c0 := (e2.1 75 2 (by unfold Only; omega)).trans f1971
            have f2126 : fld g2124 78 2 = .int z2123 := e1
            have hG := hG.put e1 e2 rF_78_2 (by decide) (by have := i_rng z2123; omega) (by have := i_rng z2123; omega)
            refine q_aload_n hM dX1_step_106 (lv_at hl 4 rfl) ?_
            refine w_get (v := .ref (ad 75)) hM hW FG_X1_15 lb_78 ((hW.2.2.1 78 4 (by omega)).trans h_r4) dX1_step_107 ?_
            refine q_iload_n hM dX1_step_110 (lv_at hl 3 rfl) ?_
            refine q_iload hM dX1_step_111 (lv_at hl 1 rfl) ?_
            refine q_callV (As := [.int r1759, .int z2112]) (rest := []) hM hW.1 hR hC myX0_add (kAW (v_1_14 (List.mem_of_getElem? (i := 3) rfl)) rfl) (rfl : vwCl[0]? = some (RX0, TX0, 3)) rfl lb_75.1 (shO hW.2.1 lb_75) (a_X0_add2 _ _ cA ad g2124 r1759 z2112 c0 hW.2.1 hG f2125) ⟨by decide, by decide⟩ rfl rfl hl.1 (Nat.le_of_ble_eq_true rfl) dX1_step_113 (fun v g2131 H locs hp hW1 => ?_)
            obtain ⟨v2127, r2128, rfl, hs1, hG, hf1, q2129, e2130, hr2128⟩ := hp
            have f2132 : fld g2131 78 2 = .int z2123 := (hf1.1 78 2 (by omega)).trans f2126
            have hW : WS ad cA (fun i k => (i = 78 ∧ (k = 2 ∨ k = 3)) ∨ (i = 75 ∧ (k = 2)) ∨ i = 76 ∨ i = 77) g0 K g2131 H locs := ⟨hW1, hs1, hW.2.2.tr hf1 (fun i k h => h.elim (fun h => (Or.inr (Or.inl h))) (fun h => h.elim (fun h => (Or.inr (Or.inr (Or.inl h)))) (fun h => (Or.inr (Or.inr (Or.inr h))))))⟩
            refine q_if_ne (tgt := 129) hM dX1_step_116 (by decide) (rfl : r2128.toInt = r2128.toInt) (fun h116 => ?_) (fun h116 => ?_)
            · refine q_iconst (v := (1 : Int32)) hM dX1_step_129 (by decide) ?_
              refine q_goto (tgt := 134) hM dX1_step_130 (by decide) ?_
              exact hE _ _ _ _ _ _ hW.1 nz_1 ⟨z2123, v2127, _, rfl, hW.2.1, hG, hW.2.2, f2132, q2129, (by have := kc_1; omega), (by have := kc_1; omega), (by have := kc_1; omega), (by have := kc_1; omega)⟩ dX1_step_134
            · refine q_aload_n hM dX1_step_119 (lv_at hl 4 rfl) ?_
              refine q_bipush (v := (6 : Int32)) hM dX1_step_120 (by decide) ?_
              refine q_iload_n hM dX1_step_122 (lv_at hl 5 rfl) ?_
              refine q_callV (As := [.int (6 : Int32), .int sa]) (rest := []) hM hW.1 hR hC myX1_wrong (kAW (v_1_13 (List.mem_of_getElem? (i := 7) rfl)) rfl) (rfl : vwCl[1]? = some (RX1, TX1, 5)) rfl lb_78.1 (shO hW.2.1 lb_78) (a_X1_wrong _ _ cA ad g2131 (6 : Int32) sa hW.2.1 hG) ⟨by decide, by decide⟩ rfl rfl hl.1 (Nat.le_of_ble_eq_true rfl) dX1_step_123 (fun v g2136 H locs hp hW1 => ?_)
              obtain ⟨r2135, rfl, hs1, hG, hf1, hr2135⟩ := hp
              have f2137 : fld g2136 78 2 = .int z2123 := (hf1.1 78 2 (by omega)).trans f2132
              have f2138 : fld g2136 75 2 = .int v2127 := (hf1.1 75 2 (by omega)).trans q2129
              have hW : WS ad cA (fun i k => (i = 78 ∧ (k = 2 ∨ k = 3)) ∨ (i = 75 ∧ (k = 2)) ∨ i = 76 ∨ i = 77) g0 K g2136 H locs := ⟨hW1, hs1, hW.2.2.tr hf1 (fun i k h => (Or.inl (by omega)))⟩
              refine q_if_eq (tgt := 133) hM dX1_step_126 (by decide) (rfl : r2135.toInt = r2135.toInt) (fun h126 => ?_) (fun h126 => ?_)
              · refine q_iconst (v := (0 : Int32)) hM dX1_step_133 (by decide) ?_
                exact hE _ _ _ _ _ _ hW.1 nz_0 ⟨z2123, v2127, _, rfl, hW.2.1, hG, hW.2.2, f2137, f2138, (by have := kc_0; omega), (by have := kc_0; omega), (by have := kc_0; omega), (by have := kc_0; omega)⟩ dX1_step_134
              · refine q_iconst (v := (1 : Int32)) hM dX1_step_129 (by decide) ?_
                refine q_goto (tgt := 134) hM dX1_step_130 (by decide) ?_
                exact hE _ _ _ _ _ _ hW.1 nz_1 ⟨z2123, v2127, _, rfl, hW.2.1, hG, hW.2.2, f2137, f2138, (by have := kc_1; omega), (by have := kc_1; omega), (by have := kc_1; omega), (by have := kc_1; omega)⟩ dX1_step_134
          · refine q_aload_n hM dX1_step_86 (lv_at hl 4 rfl) ?_
            refine q_iconst (v := (1 : Int32)) hM dX1_step_87 (by decide) ?_
            refine q_aload_n hM dX1_step_88 (lv_at hl 4 rfl) ?_
            refine w_get (v := .int z1969) hM hW FG_X1_23 lb_78 f1972 dX1_step_89 ?_
            have bz1969 := hG.f f1972 rF_78_2 (by decide)
            refine q_callV (As := [.int (1 : Int32), .int z1969]) (rest := []) hM hW.1 hR hC myX1_wrong (kAW (v_1_13 (List.mem_of_getElem? (i := 7) rfl)) rfl) (rfl : vwCl[1]? = some (RX1, TX1, 5)) rfl lb_78.1 (shO hW.2.1 lb_78) (a_X1_wrong _ _ cA ad g1970 (1 : Int32) z1969 hW.2.1 hG) ⟨by decide, by decide⟩ rfl rfl hl.1 (Nat.le_of_ble_eq_true rfl) dX1_step_92 (fun v g2143 H locs hp hW1 => ?_)
            obtain ⟨r2142, rfl, hs1, hG, hf1, hr2142⟩ := hp
            have f2144 : fld g2143 75 2 = .int c0 := (hf1.1 75 2 (by omega)).trans f1971
            have f2145 : fld g2143 78 2 = .int z1969 := (hf1.1 78 2 (by omega)).trans f1972
            have hW : WS ad cA (fun i k => (i = 78 ∧ (k = 2 ∨ k = 3)) ∨ (i = 75 ∧ (k = 2)) ∨ i = 76 ∨ i = 77) g0 K g2143 H locs := ⟨hW1, hs1, hW.2.2.tr hf1 (fun i k h => (Or.inl (by omega)))⟩
            exact hE _ _ _ _ _ _ hW.1 (nz_or (by omega)) ⟨z1969, c0, _, rfl, hW.2.1, hG, hW.2.2, f2145, f2144, (by omega), (by omega), (by omega), (by omega)⟩ dX1_step_95
      · refine q_bipush (v := (8 : Int32)) hM dX1_step_61 (by decide) ?_
        refine q_goto (tgt := 68) hM dX1_step_63 (by decide) ?_
        refine q_istore (lv9 := [(5, .int (8 : Int32)), (4, .int z2112), (3, .int r1973), (2, .int r1759), (0, .ref (ad 78)), (1, .int sa)]) hM dX1_step_68 hl (by decide) rfl (fun ls hl => ?_)
        refine q_iload_n hM dX1_step_70 (lv_at hl 3 rfl) ?_
        refine q_iconst (v := ((-1) : Int32)) hM dX1_step_71 (by decide) ?_
        refine q_icmp_eq (tgt := 86) hM dX1_step_72 (by decide) (rfl : r1759.toInt = r1759.toInt) (kc_m1 : ((-1) : Int32).toInt = (-1)) (fun h72 => ?_) (fun h72 => ?_)
        · refine q_aload_n hM dX1_step_86 (lv_at hl 4 rfl) ?_
          refine q_iconst (v := (1 : Int32)) hM dX1_step_87 (by decide) ?_
          refine q_aload_n hM dX1_step_88 (lv_at hl 4 rfl) ?_
          refine w_get (v := .int z1969) hM hW FG_X1_23 lb_78 f1972 dX1_step_89 ?_
          have bz1969 := hG.f f1972 rF_78_2 (by decide)
          refine q_callV (As := [.int (1 : Int32), .int z1969]) (rest := []) hM hW.1 hR hC myX1_wrong (kAW (v_1_13 (List.mem_of_getElem? (i := 7) rfl)) rfl) (rfl : vwCl[1]? = some (RX1, TX1, 5)) rfl lb_78.1 (shO hW.2.1 lb_78) (a_X1_wrong _ _ cA ad g1970 (1 : Int32) z1969 hW.2.1 hG) ⟨by decide, by decide⟩ rfl rfl hl.1 (Nat.le_of_ble_eq_true rfl) dX1_step_92 (fun v g2149 H locs hp hW1 => ?_)
          obtain ⟨r2148, rfl, hs1, hG, hf1, hr2148⟩ := hp
          have f2150 : fld g2149 75 2 = .int c0 := (hf1.1 75 2 (by omega)).trans f1971
          have f2151 : fld g2149 78 2 = .int z1969 := (hf1.1 78 2 (by omega)).trans f1972
          have hW : WS ad cA (fun i k => (i = 78 ∧ (k = 2 ∨ k = 3)) ∨ (i = 75 ∧ (k = 2)) ∨ i = 76 ∨ i = 77) g0 K g2149 H locs := ⟨hW1, hs1, hW.2.2.tr hf1 (fun i k h => (Or.inl (by omega)))⟩
          exact hE _ _ _ _ _ _ hW.1 (nz_or (by omega)) ⟨z1969, c0, _, rfl, hW.2.1, hG, hW.2.2, f2151, f2150, (by omega), (by omega), (by omega), (by omega)⟩ dX1_step_95
        · refine q_iload hM dX1_step_75 (lv_at hl 1 rfl) ?_
          refine q_iconst (v := (0 : Int32)) hM dX1_step_77 (by decide) ?_
          refine q_iload hM dX1_step_78 (lv_at hl 0 rfl) ?_
          refine q_callN (host := "ForgetSchool") (As := [.int z2112, .int (0 : Int32), .int (8 : Int32)]) (rest := []) hM hW.1 hR hC myX11_within (List.mem_of_getElem? (i := 1) rfl) (c_X11_within _ _ cA ad g1970 z2112 (0 : Int32) (8 : Int32) hW.2.1) ⟨by decide, by decide⟩ rfl rfl hl.1 (Nat.le_of_ble_eq_true rfl) dX1_step_80 (fun v g2154 H locs hp hW1 => ?_)
          obtain ⟨r2153, rfl, hr2153, rfl⟩ := hp
          have hW : WS ad cA (fun i k => (i = 78 ∧ (k = 2 ∨ k = 3)) ∨ (i = 75 ∧ (k = 2)) ∨ i = 76 ∨ i = 77) g0 K g1970 H locs := ⟨hW1, hW.2.1, hW.2.2⟩
          have := kc_0
          have := kc_8
          refine q_if_ne (tgt := 96) hM dX1_step_83 (by decide) (rfl : r2153.toInt = r2153.toInt) (fun h83 => ?_) (fun h83 => ?_)
          · refine q_aload_n hM dX1_step_96 (lv_at hl 4 rfl) ?_
            refine q_dup hM dX1_step_97 rfl ?_
            refine w_get (v := .int z1969) hM hW FG_X1_23 lb_78 f1972 dX1_step_98 ?_
            have bz1969 := hG.f f1972 rF_78_2 (by decide)
            refine q_iconst (v := (1 : Int32)) hM dX1_step_101 (by decide) ?_
            refine q_iadd hM dX1_step_102 (fun z2156 hz2156 => ?_)
            first | have tz2156 := i_addT hz2156 (rfl : z1969.toInt = z1969.toInt) (kc_1 : (1 : Int32).toInt = 1) (by omega) (by omega) | skip
            refine w_put hM hW FP_X1_23 lb_78 (by omega) (Or.inl ⟨_, rfl⟩) rfl rfl dX1_step_103 (fun g2157 H locs hW e1 e2 => ?_)
            have f2158 : fld g2157 75 2 = .int c0 := (e2.1 75 2 (by unfold Only; omega)).trans f1971
            have f2159 : fld g2157 78 2 = .int z2156 := e1
            have hG := hG.put e1 e2 rF_78_2 (by decide) (by have := i_rng z2156; omega) (by have := i_rng z2156; omega)
            refine q_aload_n hM dX1_step_106 (lv_at hl 4 rfl) ?_
            refine w_get (v := .ref (ad 75)) hM hW FG_X1_15 lb_78 ((hW.2.2.1 78 4 (by omega)).trans h_r4) dX1_step_107 ?_
            refine q_iload_n hM dX1_step_110 (lv_at hl 3 rfl) ?_
            refine q_iload hM dX1_step_111 (lv_at hl 1 rfl) ?_
            refine q_callV (As := [.int r1759, .int z2112]) (rest := []) hM hW.1 hR hC myX0_add (kAW (v_1_14 (List.mem_of_getElem? (i := 3) rfl)) rfl) (rfl : vwCl[0]? = some (RX0, TX0, 3)) rfl lb_75.1 (shO hW.2.1 lb_75) (a_X0_add2 _ _ cA ad g2157 r1759 z2112 c0 hW.2.1 hG f2158) ⟨by decide, by decide⟩ rfl rfl hl.1 (Nat.le_of_ble_eq_true rfl) dX1_step_113 (fun v g2164 H locs hp hW1 => ?_)
            obtain ⟨v2160, r2161, rfl, hs1, hG, hf1, q2162, e2163, hr2161⟩ := hp
            have f2165 : fld g2164 78 2 = .int z2156 := (hf1.1 78 2 (by omega)).trans f2159
            have hW : WS ad cA (fun i k => (i = 78 ∧ (k = 2 ∨ k = 3)) ∨ (i = 75 ∧ (k = 2)) ∨ i = 76 ∨ i = 77) g0 K g2164 H locs := ⟨hW1, hs1, hW.2.2.tr hf1 (fun i k h => h.elim (fun h => (Or.inr (Or.inl h))) (fun h => h.elim (fun h => (Or.inr (Or.inr (Or.inl h)))) (fun h => (Or.inr (Or.inr (Or.inr h))))))⟩
            refine q_if_ne (tgt := 129) hM dX1_step_116 (by decide) (rfl : r2161.toInt = r2161.toInt) (fun h116 => ?_) (fun h116 => ?_)
            · refine q_iconst (v := (1 : Int32)) hM dX1_step_129 (by decide) ?_
              refine q_goto (tgt := 134) hM dX1_step_130 (by decide) ?_
              exact hE _ _ _ _ _ _ hW.1 nz_1 ⟨z2156, v2160, _, rfl, hW.2.1, hG, hW.2.2, f2165, q2162, (by have := kc_1; omega), (by have := kc_1; omega), (by have := kc_1; omega), (by have := kc_1; omega)⟩ dX1_step_134
            · refine q_aload_n hM dX1_step_119 (lv_at hl 4 rfl) ?_
              refine q_bipush (v := (6 : Int32)) hM dX1_step_120 (by decide) ?_
              refine q_iload_n hM dX1_step_122 (lv_at hl 5 rfl) ?_
              refine q_callV (As := [.int (6 : Int32), .int sa]) (rest := []) hM hW.1 hR hC myX1_wrong (kAW (v_1_13 (List.mem_of_getElem? (i := 7) rfl)) rfl) (rfl : vwCl[1]? = some (RX1, TX1, 5)) rfl lb_78.1 (shO hW.2.1 lb_78) (a_X1_wrong _ _ cA ad g2164 (6 : Int32) sa hW.2.1 hG) ⟨by decide, by decide⟩ rfl rfl hl.1 (Nat.le_of_ble_eq_true rfl) dX1_step_123 (fun v g2169 H locs hp hW1 => ?_)
              obtain ⟨r2168, rfl, hs1, hG, hf1, hr2168⟩ := hp
              have f2170 : fld g2169 78 2 = .int z2156 := (hf1.1 78 2 (by omega)).trans f2165
              have f2171 : fld g2169 75 2 = .int v2160 := (hf1.1 75 2 (by omega)).trans q2162
              have hW : WS ad cA (fun i k => (i = 78 ∧ (k = 2 ∨ k = 3)) ∨ (i = 75 ∧ (k = 2)) ∨ i = 76 ∨ i = 77) g0 K g2169 H locs := ⟨hW1, hs1, hW.2.2.tr hf1 (fun i k h => (Or.inl (by omega)))⟩
              refine q_if_eq (tgt := 133) hM dX1_step_126 (by decide) (rfl : r2168.toInt = r2168.toInt) (fun h126 => ?_) (fun h126 => ?_)
              · refine q_iconst (v := (0 : Int32)) hM dX1_step_133 (by decide) ?_
                exact hE _ _ _ _ _ _ hW.1 nz_0 ⟨z2156, v2160, _, rfl, hW.2.1, hG, hW.2.2, f2170, f2171, (by have := kc_0; omega), (by have := kc_0; omega), (by have := kc_0; omega), (by have := kc_0; omega)⟩ dX1_step_134
              · refine q_iconst (v := (1 : Int32)) hM dX1_step_129 (by decide) ?_
                refine q_goto (tgt := 134) hM dX1_step_130 (by decide) ?_
                exact hE _ _ _ _ _ _ hW.1 nz_1 ⟨z2156, v2160, _, rfl, hW.2.1, hG, hW.2.2, f2170, f2171, (by have := kc_1; omega), (by have := kc_1; omega), (by have := kc_1; omega), (by have := kc_1; omega)⟩ dX1_step_134
          · refine q_aload_n hM dX1_step_86 (lv_at hl 4 rfl) ?_
            refine q_iconst (v := (1 : Int32)) hM dX1_step_87 (by decide) ?_
            refine q_aload_n hM dX1_step_88 (lv_at hl 4 rfl) ?_
            refine w_get (v := .int z1969) hM hW FG_X1_23 lb_78 f1972 dX1_step_89 ?_
            have bz1969 := hG.f f1972 rF_78_2 (by decide)
            refine q_callV (As := [.int (1 : Int32), .int z1969]) (rest := []) hM hW.1 hR hC myX1_wrong (kAW (v_1_13 (List.mem_of_getElem? (i := 7) rfl)) rfl) (rfl : vwCl[1]? = some (RX1, TX1, 5)) rfl lb_78.1 (shO hW.2.1 lb_78) (a_X1_wrong _ _ cA ad g1970 (1 : Int32) z1969 hW.2.1 hG) ⟨by decide, by decide⟩ rfl rfl hl.1 (Nat.le_of_ble_eq_true rfl) dX1_step_92 (fun v g2176 H locs hp hW1 => ?_)
            obtain ⟨r2175, rfl, hs1, hG, hf1, hr2175⟩ := hp
            have f2177 : fld g2176 75 2 = .int c0 := (hf1.1 75 2 (by omega)).trans f1971
            have f2178 : fld g2176 78 2 = .int z1969 := (hf1.1 78 2 (by omega)).trans f1972
            have hW : WS ad cA (fun i k => (i = 78 ∧ (k = 2 ∨ k = 3)) ∨ (i = 75 ∧ (k = 2)) ∨ i = 76 ∨ i = 77) g0 K g2176 H locs := ⟨hW1, hs1, hW.2.2.tr hf1 (fun i k h => (Or.inl (by omega)))⟩
            exact hE _ _ _ _ _ _ hW.1 (nz_or (by omega)) ⟨z1969, c0, _, rfl, hW.2.1, hG, hW.2.2, f2178, f2177, (by omega), (by omega), (by omega), (by omega)⟩ dX1_step_95

theorem dX1_item_0 : decode cX1_item 0 = .ok (.aload_n 0, 1) := by decide +kernel
theorem dX1_item_1 : decode cX1_item 1 = .ok (.getfield 23, 3) := by decide +kernel
theorem dX1_item_4 : decode cX1_item 4 = .ok (.istore_n 2, 1) := by decide +kernel
theorem dX1_item_5 : decode cX1_item 5 = .ok (.aload_n 0, 1) := by decide +kernel
theorem dX1_item_6 : decode cX1_item 6 = .ok (.getfield 15, 3) := by decide +kernel
theorem dX1_item_9 : decode cX1_item 9 = .ok (.getfield 35, 3) := by decide +kernel
theorem dX1_item_12 : decode cX1_item 12 = .ok (.istore_n 3, 1) := by decide +kernel
theorem dX1_item_13 : decode cX1_item 13 = .ok (.iconst 1, 1) := by decide +kernel
theorem dX1_item_14 : decode cX1_item 14 = .ok (.istore 4, 2) := by decide +kernel
theorem dX1_item_16 : decode cX1_item 16 = .ok (.aload_n 0, 1) := by decide +kernel
theorem dX1_item_17 : decode cX1_item 17 = .ok (.invokevirtual 51, 3) := by decide +kernel
theorem dX1_item_20 : decode cX1_item 20 = .ok (.bipush 50, 2) := by decide +kernel
theorem dX1_item_22 : decode cX1_item 22 = .ok (.bipush 57, 2) := by decide +kernel
theorem dX1_item_24 : decode cX1_item 24 = .ok (.invokestatic 55, 3) := by decide +kernel
theorem dX1_item_27 : decode cX1_item 27 = .ok (.ifCond .eq 22, 3) := by decide +kernel
theorem dX1_item_30 : decode cX1_item 30 = .ok (.aload_n 0, 1) := by decide +kernel
theorem dX1_item_31 : decode cX1_item 31 = .ok (.invokevirtual 51, 3) := by decide +kernel
theorem dX1_item_34 : decode cX1_item 34 = .ok (.bipush 48, 2) := by decide +kernel
theorem dX1_item_36 : decode cX1_item 36 = .ok (.isub, 1) := by decide +kernel
theorem dX1_item_37 : decode cX1_item 37 = .ok (.istore 4, 2) := by decide +kernel
theorem dX1_item_39 : decode cX1_item 39 = .ok (.aload_n 0, 1) := by decide +kernel
theorem dX1_item_40 : decode cX1_item 40 = .ok (.dup, 1) := by decide +kernel
theorem dX1_item_41 : decode cX1_item 41 = .ok (.getfield 23, 3) := by decide +kernel
theorem dX1_item_44 : decode cX1_item 44 = .ok (.iconst 1, 1) := by decide +kernel
theorem dX1_item_45 : decode cX1_item 45 = .ok (.iadd, 1) := by decide +kernel
theorem dX1_item_46 : decode cX1_item 46 = .ok (.putfield 23, 3) := by decide +kernel
theorem dX1_item_49 : decode cX1_item 49 = .ok (.aload_n 0, 1) := by decide +kernel
theorem dX1_item_50 : decode cX1_item 50 = .ok (.invokevirtual 51, 3) := by decide +kernel
theorem dX1_item_53 : decode cX1_item 53 = .ok (.bipush 40, 2) := by decide +kernel
theorem dX1_item_55 : decode cX1_item 55 = .ok (.if_icmp .ne 72, 3) := by decide +kernel
theorem dX1_item_58 : decode cX1_item 58 = .ok (.iload_n 1, 1) := by decide +kernel
theorem dX1_item_59 : decode cX1_item 59 = .ok (.iconst 2, 1) := by decide +kernel
theorem dX1_item_60 : decode cX1_item 60 = .ok (.if_icmp .lt 13, 3) := by decide +kernel
theorem dX1_item_63 : decode cX1_item 63 = .ok (.aload_n 0, 1) := by decide +kernel
theorem dX1_item_64 : decode cX1_item 64 = .ok (.iconst 5, 1) := by decide +kernel
theorem dX1_item_65 : decode cX1_item 65 = .ok (.aload_n 0, 1) := by decide +kernel
theorem dX1_item_66 : decode cX1_item 66 = .ok (.getfield 23, 3) := by decide +kernel
theorem dX1_item_69 : decode cX1_item 69 = .ok (.invokevirtual 44, 3) := by decide +kernel
theorem dX1_item_72 : decode cX1_item 72 = .ok (.ireturn, 1) := by decide +kernel
theorem dX1_item_127 : decode cX1_item 127 = .ok (.aload_n 0, 1) := by decide +kernel
theorem dX1_item_128 : decode cX1_item 128 = .ok (.iload_n 2, 1) := by decide +kernel
theorem dX1_item_129 : decode cX1_item 129 = .ok (.invokevirtual 59, 3) := by decide +kernel
theorem dX1_item_132 : decode cX1_item 132 = .ok (.ifCond .ne 5, 3) := by decide +kernel
theorem dX1_item_135 : decode cX1_item 135 = .ok (.iconst 0, 1) := by decide +kernel
theorem dX1_item_136 : decode cX1_item 136 = .ok (.ireturn, 1) := by decide +kernel
theorem dX1_item_137 : decode cX1_item 137 = .ok (.aload_n 0, 1) := by decide +kernel
theorem dX1_item_138 : decode cX1_item 138 = .ok (.getfield 15, 3) := by decide +kernel
theorem dX1_item_141 : decode cX1_item 141 = .ok (.iload_n 3, 1) := by decide +kernel
theorem dX1_item_142 : decode cX1_item 142 = .ok (.iload 4, 2) := by decide +kernel
theorem dX1_item_144 : decode cX1_item 144 = .ok (.invokevirtual 62, 3) := by decide +kernel
theorem dX1_item_147 : decode cX1_item 147 = .ok (.ifCond .ne 13, 3) := by decide +kernel
theorem dX1_item_150 : decode cX1_item 150 = .ok (.aload_n 0, 1) := by decide +kernel
theorem dX1_item_151 : decode cX1_item 151 = .ok (.bipush 6, 2) := by decide +kernel
theorem dX1_item_153 : decode cX1_item 153 = .ok (.iload_n 2, 1) := by decide +kernel
theorem dX1_item_154 : decode cX1_item 154 = .ok (.invokevirtual 44, 3) := by decide +kernel
theorem dX1_item_157 : decode cX1_item 157 = .ok (.ifCond .eq 7, 3) := by decide +kernel
theorem dX1_item_160 : decode cX1_item 160 = .ok (.iconst 1, 1) := by decide +kernel
theorem dX1_item_161 : decode cX1_item 161 = .ok (.goto 4, 3) := by decide +kernel
theorem dX1_item_164 : decode cX1_item 164 = .ok (.iconst 0, 1) := by decide +kernel
theorem dX1_item_165 : decode cX1_item 165 = .ok (.ireturn, 1) := by decide +kernel
theorem FG_X1_35 : FG RX1 35 0 3 2 := ⟨RX0, TX0, rfl, wX0, by decide, kAW (v_0_10 (List.mem_of_getElem? (i := 4) rfl)) rfl, rfl⟩
theorem myX1_step : MI yX1_step cX1_step 6 (some FieldType.boolean) 1 := ⟨kAW (v_1_13 (List.mem_of_getElem? (i := 14) rfl)) rfl, kAW (v_0_0 (List.mem_of_getElem? (i := 7) rfl)) rfl, kAW (v_1_13 (List.mem_of_getElem? (i := 13) rfl)) rfl, kAW (tp_t0 (List.mem_of_getElem? (i := 4) rfl)) rfl, by decide, by decide, by decide +kernel⟩
theorem myX0_multiply : MI yX0_multiply cX0_multiply 6 (some FieldType.boolean) 2 := ⟨kAW (v_1_14 (List.mem_of_getElem? (i := 10) rfl)) rfl, kAW (v_0_0 (List.mem_of_getElem? (i := 6) rfl)) rfl, kAW (v_1_14 (List.mem_of_getElem? (i := 8) rfl)) rfl, kAW (v_1_14 (List.mem_of_getElem? (i := 9) rfl)) rfl, by decide, by decide, by decide +kernel⟩
set_option maxRecDepth 100000 in
set_option maxHeartbeats 4000000 in
theorem a_X1_item_2 (l : Launch) (D : va_G) (cA : Nat → ClassId) (ad : Nat → Nat) (g0 : Nat → va_E) (op : Int32) (en : Int32) (a0 : Int32) (c0 : Int32)  (hSh : Shp ad cA g0) (hG : Rng g0) (h_en : fld g0 78 1 = .int en) (h_a0 : fld g0 78 2 = .int a0) (h_c0 : fld g0 75 2 = .int c0) (h_r4 : fld g0 78 4 = .ref (ad 75)) (ah0 : 0 ≤ a0.toInt) (ah1 : a0.toInt ≤ en.toInt) (ah2 : en.toInt ≤ 60) (ok : op.toInt = 2) : CT l NN ad cA D yX1_item cX1_item 5 (some FieldType.boolean) (3, 68) [.ref (ad 78), .int op] g0 (fun v g' => ∃ (a9 : Int32) (c9 : Int32) (r : Int32), v = some (.int r) ∧ Shp ad cA g' ∧ Rng g' ∧ FR (fun i k => (i = 78 ∧ (k = 2 ∨ k = 3)) ∨ (i = 75 ∧ (k = 2)) ∨ i = 76 ∨ i = 77) g0 g' ∧ fld g' 78 2 = .int a9 ∧ fld g' 75 2 = .int c9 ∧ (a0.toInt ≤ a9.toInt) ∧ (a9.toInt ≤ en.toInt) ∧ (c0.toInt ≤ c9.toInt) ∧ (r.toInt = 0 ∨ r.toInt = 1)) := by
  refine q_enterZ (by decide) (Nat.le_of_ble_eq_true rfl) (fun K H locs ls _ _ hM hW0 hR hC hE hl => ?_)
  have hl : lv_has ls 5 [(0, .ref (ad 78)), (1, .int op)] := hl
  have hW : WS ad cA (fun i k => (i = 78 ∧ (k = 2 ∨ k = 3)) ∨ (i = 75 ∧ (k = 2)) ∨ i = 76 ∨ i = 77) g0 K g0 H locs := ⟨hW0, hSh, FR.rf⟩
  have b_en := hG.f h_en rF_78_1 (by decide)
  have b_a0 := hG.f h_a0 rF_78_2 (by decide)
  have b_c0 := hG.f h_c0 rF_75_2 (by decide)
  have f2179 : fld g0 78 2 = .int a0 := h_a0
  have f2180 : fld g0 75 2 = .int c0 := h_c0
  refine q_aload_n hM dX1_item_0 (lv_at hl 0 rfl) ?_
  refine w_get (v := .int a0) hM hW FG_X1_23 lb_78 f2179 dX1_item_1 ?_
  have ba0 := hG.f f2179 rF_78_2 (by decide)
  refine q_istore_n (lv9 := [(2, .int a0), (0, .ref (ad 78)), (1, .int op)]) hM dX1_item_4 hl (by decide) rfl (fun ls hl => ?_)
  refine q_aload_n hM dX1_item_5 (lv_at hl 1 rfl) ?_
  refine w_get (v := .ref (ad 75)) hM hW FG_X1_15 lb_78 ((hW.2.2.1 78 4 (by omega)).trans h_r4) dX1_item_6 ?_
  refine w_get (v := .int c0) hM hW FG_X1_35 lb_75 f2180 dX1_item_9 ?_
  have bc0 := hG.f f2180 rF_75_2 (by decide)
  refine q_istore_n (lv9 := [(3, .int c0), (2, .int a0), (0, .ref (ad 78)), (1, .int op)]) hM dX1_item_12 hl (by decide) rfl (fun ls hl => ?_)
  refine q_iconst (v := (1 : Int32)) hM dX1_item_13 (by decide) ?_
  refine q_istore (lv9 := [(4, .int (1 : Int32)), (3, .int c0), (2, .int a0), (0, .ref (ad 78)), (1, .int op)]) hM dX1_item_14 hl (by decide) rfl (fun ls hl => ?_)
  refine q_aload_n hM dX1_item_16 (lv_at hl 3 rfl) ?_
  refine q_callV (As := []) (rest := []) hM hW.1 hR hC myX1_sign (kAW (v_1_13 (List.mem_of_getElem? (i := 2) rfl)) rfl) (rfl : vwCl[1]? = some (RX1, TX1, 5)) rfl lb_78.1 (shO hW.2.1 lb_78) (a_X1_sign _ _ cA ad g0 en a0 hW.2.1 hG ((hW.2.2.1 78 1 (by omega)).trans h_en) f2179 (by  omega) (by  omega) (by  omega)) ⟨by decide, by decide⟩ rfl rfl hl.1 (Nat.le_of_ble_eq_true rfl) dX1_item_17 (fun v g2182 H locs hp hW1 => ?_)
  obtain ⟨r2181, rfl, hr2181, rfl⟩ := hp
  have hW : WS ad cA (fun i k => (i = 78 ∧ (k = 2 ∨ k = 3)) ∨ (i = 75 ∧ (k = 2)) ∨ i = 76 ∨ i = 77) g0 K g0 H locs := ⟨hW1, hW.2.1, hW.2.2⟩
  refine q_bipush (v := (50 : Int32)) hM dX1_item_20 (by decide) ?_
  refine q_bipush (v := (57 : Int32)) hM dX1_item_22 (by decide) ?_
  refine q_callN (host := "ForgetSchool") (As := [.int r2181, .int (50 : Int32), .int (57 : Int32)]) (rest := []) hM hW.1 hR hC myX11_within (List.mem_of_getElem? (i := 1) rfl) (c_X11_within _ _ cA ad g0 r2181 (50 : Int32) (57 : Int32) hW.2.1) ⟨by decide, by decide⟩ rfl rfl hl.1 (Nat.le_of_ble_eq_true rfl) dX1_item_24 (fun v g2184 H locs hp hW1 => ?_)
  obtain ⟨r2183, rfl, hr2183, rfl⟩ := hp
  have hW : WS ad cA (fun i k => (i = 78 ∧ (k = 2 ∨ k = 3)) ∨ (i = 75 ∧ (k = 2)) ∨ i = 76 ∨ i = 77) g0 K g0 H locs := ⟨hW1, hW.2.1, hW.2.2⟩
  have := kc_50
  have := kc_57
  refine q_if_eq (tgt := 49) hM dX1_item_27 (by decide) (rfl : r2183.toInt = r2183.toInt) (fun h27 => ?_) (fun h27 => ?_)
  · refine q_aload_n hM dX1_item_49 (lv_at hl 3 rfl) ?_
    refine q_callV (As := []) (rest := []) hM hW.1 hR hC myX1_sign (kAW (v_1_13 (List.mem_of_getElem? (i := 2) rfl)) rfl) (rfl : vwCl[1]? = some (RX1, TX1, 5)) rfl lb_78.1 (shO hW.2.1 lb_78) (a_X1_sign _ _ cA ad g0 en a0 hW.2.1 hG ((hW.2.2.1 78 1 (by omega)).trans h_en) f2179 (by  omega) (by  omega) (by  omega)) ⟨by decide, by decide⟩ rfl rfl hl.1 (Nat.le_of_ble_eq_true rfl) dX1_item_50 (fun v g2187 H locs hp hW1 => ?_)
    obtain ⟨r2186, rfl, hr2186, rfl⟩ := hp
    have hW : WS ad cA (fun i k => (i = 78 ∧ (k = 2 ∨ k = 3)) ∨ (i = 75 ∧ (k = 2)) ∨ i = 76 ∨ i = 77) g0 K g0 H locs := ⟨hW1, hW.2.1, hW.2.2⟩
    refine q_bipush (v := (40 : Int32)) hM dX1_item_53 (by decide) ?_
    refine q_icmp_ne (tgt := 127) hM dX1_item_55 (by decide) (rfl : r2186.toInt = r2186.toInt) (kc_40 : (40 : Int32).toInt = 40) (fun h55 => ?_) (fun h55 => ?_)
    · refine q_aload_n hM dX1_item_127 (lv_at hl 3 rfl) ?_
      refine q_iload_n hM dX1_item_128 (lv_at hl 2 rfl) ?_
      refine q_callV (As := [.int a0]) (rest := []) hM hW.1 hR hC myX1_step (kAW (v_1_13 (List.mem_of_getElem? (i := 11) rfl)) rfl) (rfl : vwCl[1]? = some (RX1, TX1, 5)) rfl lb_78.1 (shO hW.2.1 lb_78) (a_X1_step _ _ cA ad g0 a0 en a0 c0 hW.2.1 hG ((hW.2.2.1 78 1 (by omega)).trans h_en) f2179 f2180 ((hW.2.2.1 78 4 (by omega)).trans h_r4) (by  omega) (by  omega) (by  omega)) ⟨by decide, by decide⟩ rfl rfl hl.1 (Nat.le_of_ble_eq_true rfl) dX1_item_129 (fun v g2197 H locs hp hW1 => ?_)
      obtain ⟨v2189, v2190, r2191, rfl, hs1, hG, hf1, q2192, q2193, e2194, e2195, e2196, hr2191⟩ := hp
      have hW : WS ad cA (fun i k => (i = 78 ∧ (k = 2 ∨ k = 3)) ∨ (i = 75 ∧ (k = 2)) ∨ i = 76 ∨ i = 77) g0 K g2197 H locs := ⟨hW1, hs1, hW.2.2.tr hf1 (fun i k h => h.elim (fun h => (Or.inl h)) (fun h => h.elim (fun h => (Or.inr (Or.inl h))) (fun h => h.elim (fun h => (Or.inr (Or.inr (Or.inl h)))) (fun h => (Or.inr (Or.inr (Or.inr h)))))))⟩
      refine q_if_ne (tgt := 137) hM dX1_item_132 (by decide) (rfl : r2191.toInt = r2191.toInt) (fun h132 => ?_) (fun h132 => ?_)
      · refine q_aload_n hM dX1_item_137 (lv_at hl 3 rfl) ?_
        refine w_get (v := .ref (ad 75)) hM hW FG_X1_15 lb_78 ((hW.2.2.1 78 4 (by omega)).trans h_r4) dX1_item_138 ?_
        refine q_iload_n hM dX1_item_141 (lv_at hl 1 rfl) ?_
        refine q_iload hM dX1_item_142 (lv_at hl 0 rfl) ?_
        refine q_callV (As := [.int c0, .int (1 : Int32)]) (rest := []) hM hW.1 hR hC myX0_multiply (kAW (v_1_14 (List.mem_of_getElem? (i := 7) rfl)) rfl) (rfl : vwCl[0]? = some (RX0, TX0, 3)) rfl lb_75.1 (shO hW.2.1 lb_75) (a_X0_multiply _ _ cA ad g2197 c0 (1 : Int32) v2190 hW.2.1 hG q2193 (by have := kc_1; omega) (by have := kc_1; omega) (by have := kc_1; omega) (by have := kc_1; omega)) ⟨by decide, by decide⟩ rfl rfl hl.1 (Nat.le_of_ble_eq_true rfl) dX1_item_144 (fun v g2203 H locs hp hW1 => ?_)
        obtain ⟨v2199, r2200, rfl, hs1, hG, hf1, q2201, e2202, hr2200⟩ := hp
        have f2204 : fld g2203 78 2 = .int v2189 := (hf1.1 78 2 (by omega)).trans q2192
        have hW : WS ad cA (fun i k => (i = 78 ∧ (k = 2 ∨ k = 3)) ∨ (i = 75 ∧ (k = 2)) ∨ i = 76 ∨ i = 77) g0 K g2203 H locs := ⟨hW1, hs1, hW.2.2.tr hf1 (fun i k h => h.elim (fun h => (Or.inr (Or.inl h))) (fun h => h.elim (fun h => (Or.inr (Or.inr (Or.inl h)))) (fun h => (Or.inr (Or.inr (Or.inr h))))))⟩
        refine q_if_ne (tgt := 160) hM dX1_item_147 (by decide) (rfl : r2200.toInt = r2200.toInt) (fun h147 => ?_) (fun h147 => ?_)
        · refine q_iconst (v := (1 : Int32)) hM dX1_item_160 (by decide) ?_
          refine q_goto (tgt := 165) hM dX1_item_161 (by decide) ?_
          exact hE _ _ _ _ _ _ hW.1 nz_1 ⟨v2189, v2199, _, rfl, hW.2.1, hG, hW.2.2, f2204, q2201, (by have := kc_1; omega), (by have := kc_1; omega), (by have := kc_1; omega), (by have := kc_1; omega)⟩ dX1_item_165
        · refine q_aload_n hM dX1_item_150 (lv_at hl 3 rfl) ?_
          refine q_bipush (v := (6 : Int32)) hM dX1_item_151 (by decide) ?_
          refine q_iload_n hM dX1_item_153 (lv_at hl 2 rfl) ?_
          refine q_callV (As := [.int (6 : Int32), .int a0]) (rest := []) hM hW.1 hR hC myX1_wrong (kAW (v_1_13 (List.mem_of_getElem? (i := 7) rfl)) rfl) (rfl : vwCl[1]? = some (RX1, TX1, 5)) rfl lb_78.1 (shO hW.2.1 lb_78) (a_X1_wrong _ _ cA ad g2203 (6 : Int32) a0 hW.2.1 hG) ⟨by decide, by decide⟩ rfl rfl hl.1 (Nat.le_of_ble_eq_true rfl) dX1_item_154 (fun v g2208 H locs hp hW1 => ?_)
          obtain ⟨r2207, rfl, hs1, hG, hf1, hr2207⟩ := hp
          have f2209 : fld g2208 78 2 = .int v2189 := (hf1.1 78 2 (by omega)).trans f2204
          have f2210 : fld g2208 75 2 = .int v2199 := (hf1.1 75 2 (by omega)).trans q2201
          have hW : WS ad cA (fun i k => (i = 78 ∧ (k = 2 ∨ k = 3)) ∨ (i = 75 ∧ (k = 2)) ∨ i = 76 ∨ i = 77) g0 K g2208 H locs := ⟨hW1, hs1, hW.2.2.tr hf1 (fun i k h => (Or.inl (by omega)))⟩
          refine q_if_eq (tgt := 164) hM dX1_item_157 (by decide) (rfl : r2207.toInt = r2207.toInt) (fun h157 => ?_) (fun h157 => ?_)
          · refine q_iconst (v := (0 : Int32)) hM dX1_item_164 (by decide) ?_
            exact hE _ _ _ _ _ _ hW.1 nz_0 ⟨v2189, v2199, _, rfl, hW.2.1, hG, hW.2.2, f2209, f2210, (by have := kc_0; omega), (by have := kc_0; omega), (by have := kc_0; omega), (by have := kc_0; omega)⟩ dX1_item_165
          · refine q_iconst (v := (1 : Int32)) hM dX1_item_160 (by decide) ?_
            refine q_goto (tgt := 165) hM dX1_item_161 (by decide) ?_
            exact hE _ _ _ _ _ _ hW.1 nz_1 ⟨v2189, v2199, _, rfl, hW.2.1, hG, hW.2.2, f2209, f2210, (by have := kc_1; omega), (by have := kc_1; omega), (by have := kc_1; omega), (by have := kc_1; omega)⟩ dX1_item_165
      · refine q_iconst (v := (0 : Int32)) hM dX1_item_135 (by decide) ?_
        exact hE _ _ _ _ _ _ hW.1 nz_0 ⟨v2189, v2190, _, rfl, hW.2.1, hG, hW.2.2, q2192, q2193, (by have := kc_0; omega), (by have := kc_0; omega), (by have := kc_0; omega), (by have := kc_0; omega)⟩ dX1_item_136
    · refine q_iload_n hM dX1_item_58 (lv_at hl 4 rfl) ?_
      refine q_iconst (v := (2 : Int32)) hM dX1_item_59 (by decide) ?_
      refine q_icmp_lt (tgt := 73) hM dX1_item_60 (by decide) (rfl : op.toInt = op.toInt) (kc_2 : (2 : Int32).toInt = 2) (fun h60 => ?_) (fun h60 => ?_)
      · omega
      · refine q_aload_n hM dX1_item_63 (lv_at hl 3 rfl) ?_
        refine q_iconst (v := (5 : Int32)) hM dX1_item_64 (by decide) ?_
        refine q_aload_n hM dX1_item_65 (lv_at hl 3 rfl) ?_
        refine w_get (v := .int a0) hM hW FG_X1_23 lb_78 f2179 dX1_item_66 ?_
        have ba0 := hG.f f2179 rF_78_2 (by decide)
        refine q_callV (As := [.int (5 : Int32), .int a0]) (rest := []) hM hW.1 hR hC myX1_wrong (kAW (v_1_13 (List.mem_of_getElem? (i := 7) rfl)) rfl) (rfl : vwCl[1]? = some (RX1, TX1, 5)) rfl lb_78.1 (shO hW.2.1 lb_78) (a_X1_wrong _ _ cA ad g0 (5 : Int32) a0 hW.2.1 hG) ⟨by decide, by decide⟩ rfl rfl hl.1 (Nat.le_of_ble_eq_true rfl) dX1_item_69 (fun v g2218 H locs hp hW1 => ?_)
        obtain ⟨r2217, rfl, hs1, hG, hf1, hr2217⟩ := hp
        have f2219 : fld g2218 78 2 = .int a0 := (hf1.1 78 2 (by omega)).trans f2179
        have f2220 : fld g2218 75 2 = .int c0 := (hf1.1 75 2 (by omega)).trans f2180
        have hW : WS ad cA (fun i k => (i = 78 ∧ (k = 2 ∨ k = 3)) ∨ (i = 75 ∧ (k = 2)) ∨ i = 76 ∨ i = 77) g0 K g2218 H locs := ⟨hW1, hs1, hW.2.2.tr hf1 (fun i k h => (Or.inl (by omega)))⟩
        exact hE _ _ _ _ _ _ hW.1 (nz_or (by omega)) ⟨a0, c0, _, rfl, hW.2.1, hG, hW.2.2, f2219, f2220, (by omega), (by omega), (by omega), (by omega)⟩ dX1_item_72
  · refine q_aload_n hM dX1_item_30 (lv_at hl 3 rfl) ?_
    refine q_callV (As := []) (rest := []) hM hW.1 hR hC myX1_sign (kAW (v_1_13 (List.mem_of_getElem? (i := 2) rfl)) rfl) (rfl : vwCl[1]? = some (RX1, TX1, 5)) rfl lb_78.1 (shO hW.2.1 lb_78) (a_X1_sign _ _ cA ad g0 en a0 hW.2.1 hG ((hW.2.2.1 78 1 (by omega)).trans h_en) f2179 (by  omega) (by  omega) (by  omega)) ⟨by decide, by decide⟩ rfl rfl hl.1 (Nat.le_of_ble_eq_true rfl) dX1_item_31 (fun v g2223 H locs hp hW1 => ?_)
    obtain ⟨r2222, rfl, hr2222, rfl⟩ := hp
    have hW : WS ad cA (fun i k => (i = 78 ∧ (k = 2 ∨ k = 3)) ∨ (i = 75 ∧ (k = 2)) ∨ i = 76 ∨ i = 77) g0 K g0 H locs := ⟨hW1, hW.2.1, hW.2.2⟩
    refine q_bipush (v := (48 : Int32)) hM dX1_item_34 (by decide) ?_
    refine q_isub hM dX1_item_36 (fun z2224 hz2224 => ?_)
    first | have tz2224 := i_subT hz2224 (rfl : r2222.toInt = r2222.toInt) (kc_48 : (48 : Int32).toInt = 48) (by omega) (by omega) | skip
    refine q_istore (lv9 := [(4, .int z2224), (3, .int c0), (2, .int a0), (0, .ref (ad 78)), (1, .int op)]) hM dX1_item_37 hl (by decide) rfl (fun ls hl => ?_)
    refine q_aload_n hM dX1_item_39 (lv_at hl 3 rfl) ?_
    refine q_dup hM dX1_item_40 rfl ?_
    refine w_get (v := .int a0) hM hW FG_X1_23 lb_78 f2179 dX1_item_41 ?_
    have ba0 := hG.f f2179 rF_78_2 (by decide)
    refine q_iconst (v := (1 : Int32)) hM dX1_item_44 (by decide) ?_
    refine q_iadd hM dX1_item_45 (fun z2225 hz2225 => ?_)
    first | have tz2225 := i_addT hz2225 (rfl : a0.toInt = a0.toInt) (kc_1 : (1 : Int32).toInt = 1) (by omega) (by omega) | skip
    refine w_put hM hW FP_X1_23 lb_78 (by omega) (Or.inl ⟨_, rfl⟩) rfl rfl dX1_item_46 (fun g2226 H locs hW e1 e2 => ?_)
    have f2227 : fld g2226 75 2 = .int c0 := (e2.1 75 2 (by unfold Only; omega)).trans f2180
    have f2228 : fld g2226 78 2 = .int z2225 := e1
    have hG := hG.put e1 e2 rF_78_2 (by decide) (by have := i_rng z2225; omega) (by have := i_rng z2225; omega)
    refine q_aload_n hM dX1_item_49 (lv_at hl 3 rfl) ?_
    refine q_callV (As := []) (rest := []) hM hW.1 hR hC myX1_sign (kAW (v_1_13 (List.mem_of_getElem? (i := 2) rfl)) rfl) (rfl : vwCl[1]? = some (RX1, TX1, 5)) rfl lb_78.1 (shO hW.2.1 lb_78) (a_X1_sign _ _ cA ad g2226 en z2225 hW.2.1 hG ((hW.2.2.1 78 1 (by omega)).trans h_en) f2228 (by  omega) (by  omega) (by  omega)) ⟨by decide, by decide⟩ rfl rfl hl.1 (Nat.le_of_ble_eq_true rfl) dX1_item_50 (fun v g2230 H locs hp hW1 => ?_)
    obtain ⟨r2229, rfl, hr2229, rfl⟩ := hp
    have hW : WS ad cA (fun i k => (i = 78 ∧ (k = 2 ∨ k = 3)) ∨ (i = 75 ∧ (k = 2)) ∨ i = 76 ∨ i = 77) g0 K g2226 H locs := ⟨hW1, hW.2.1, hW.2.2⟩
    refine q_bipush (v := (40 : Int32)) hM dX1_item_53 (by decide) ?_
    refine q_icmp_ne (tgt := 127) hM dX1_item_55 (by decide) (rfl : r2229.toInt = r2229.toInt) (kc_40 : (40 : Int32).toInt = 40) (fun h55 => ?_) (fun h55 => ?_)
    · refine q_aload_n hM dX1_item_127 (lv_at hl 3 rfl) ?_
      refine q_iload_n hM dX1_item_128 (lv_at hl 2 rfl) ?_
      refine q_callV (As := [.int a0]) (rest := []) hM hW.1 hR hC myX1_step (kAW (v_1_13 (List.mem_of_getElem? (i := 11) rfl)) rfl) (rfl : vwCl[1]? = some (RX1, TX1, 5)) rfl lb_78.1 (shO hW.2.1 lb_78) (a_X1_step _ _ cA ad g2226 a0 en z2225 c0 hW.2.1 hG ((hW.2.2.1 78 1 (by omega)).trans h_en) f2228 f2227 ((hW.2.2.1 78 4 (by omega)).trans h_r4) (by  omega) (by  omega) (by  omega)) ⟨by decide, by decide⟩ rfl rfl hl.1 (Nat.le_of_ble_eq_true rfl) dX1_item_129 (fun v g2240 H locs hp hW1 => ?_)
      obtain ⟨v2232, v2233, r2234, rfl, hs1, hG, hf1, q2235, q2236, e2237, e2238, e2239, hr2234⟩ := hp
      have hW : WS ad cA (fun i k => (i = 78 ∧ (k = 2 ∨ k = 3)) ∨ (i = 75 ∧ (k = 2)) ∨ i = 76 ∨ i = 77) g0 K g2240 H locs := ⟨hW1, hs1, hW.2.2.tr hf1 (fun i k h => h.elim (fun h => (Or.inl h)) (fun h => h.elim (fun h => (Or.inr (Or.inl h))) (fun h => h.elim (fun h => (Or.inr (Or.inr (Or.inl h)))) (fun h => (Or.inr (Or.inr (Or.inr h)))))))⟩
      refine q_if_ne (tgt := 137) hM dX1_item_132 (by decide) (rfl : r2234.toInt = r2234.toInt) (fun h132 => ?_) (fun h132 => ?_)
      · refine q_aload_n hM dX1_item_137 (lv_at hl 3 rfl) ?_
        refine w_get (v := .ref (ad 75)) hM hW FG_X1_15 lb_78 ((hW.2.2.1 78 4 (by omega)).trans h_r4) dX1_item_138 ?_
        refine q_iload_n hM dX1_item_141 (lv_at hl 1 rfl) ?_
        refine q_iload hM dX1_item_142 (lv_at hl 0 rfl) ?_
        refine q_callV (As := [.int c0, .int z2224]) (rest := []) hM hW.1 hR hC myX0_multiply (kAW (v_1_14 (List.mem_of_getElem? (i := 7) rfl)) rfl) (rfl : vwCl[0]? = some (RX0, TX0, 3)) rfl lb_75.1 (shO hW.2.1 lb_75) (a_X0_multiply _ _ cA ad g2240 c0 z2224 v2233 hW.2.1 hG q2236 (by  omega) (by  omega) (by  omega) (by  omega)) ⟨by decide, by decide⟩ rfl rfl hl.1 (Nat.le_of_ble_eq_true rfl) dX1_item_144 (fun v g2246 H locs hp hW1 => ?_)
        obtain ⟨v2242, r2243, rfl, hs1, hG, hf1, q2244, e2245, hr2243⟩ := hp
        have f2247 : fld g2246 78 2 = .int v2232 := (hf1.1 78 2 (by omega)).trans q2235
        have hW : WS ad cA (fun i k => (i = 78 ∧ (k = 2 ∨ k = 3)) ∨ (i = 75 ∧ (k = 2)) ∨ i = 76 ∨ i = 77) g0 K g2246 H locs := ⟨hW1, hs1, hW.2.2.tr hf1 (fun i k h => h.elim (fun h => (Or.inr (Or.inl h))) (fun h => h.elim (fun h => (Or.inr (Or.inr (Or.inl h)))) (fun h => (Or.inr (Or.inr (Or.inr h))))))⟩
        refine q_if_ne (tgt := 160) hM dX1_item_147 (by decide) (rfl : r2243.toInt = r2243.toInt) (fun h147 => ?_) (fun h147 => ?_)
        · refine q_iconst (v := (1 : Int32)) hM dX1_item_160 (by decide) ?_
          refine q_goto (tgt := 165) hM dX1_item_161 (by decide) ?_
          exact hE _ _ _ _ _ _ hW.1 nz_1 ⟨v2232, v2242, _, rfl, hW.2.1, hG, hW.2.2, f2247, q2244, (by have := kc_1; omega), (by have := kc_1; omega), (by have := kc_1; omega), (by have := kc_1; omega)⟩ dX1_item_165
        · refine q_aload_n hM dX1_item_150 (lv_at hl 3 rfl) ?_
          refine q_bipush (v := (6 : Int32)) hM dX1_item_151 (by decide) ?_
          refine q_iload_n hM dX1_item_153 (lv_at hl 2 rfl) ?_
          refine q_callV (As := [.int (6 : Int32), .int a0]) (rest := []) hM hW.1 hR hC myX1_wrong (kAW (v_1_13 (List.mem_of_getElem? (i := 7) rfl)) rfl) (rfl : vwCl[1]? = some (RX1, TX1, 5)) rfl lb_78.1 (shO hW.2.1 lb_78) (a_X1_wrong _ _ cA ad g2246 (6 : Int32) a0 hW.2.1 hG) ⟨by decide, by decide⟩ rfl rfl hl.1 (Nat.le_of_ble_eq_true rfl) dX1_item_154 (fun v g2251 H locs hp hW1 => ?_)
          obtain ⟨r2250, rfl, hs1, hG, hf1, hr2250⟩ := hp
          have f2252 : fld g2251 78 2 = .int v2232 := (hf1.1 78 2 (by omega)).trans f2247
          have f2253 : fld g2251 75 2 = .int v2242 := (hf1.1 75 2 (by omega)).trans q2244
          have hW : WS ad cA (fun i k => (i = 78 ∧ (k = 2 ∨ k = 3)) ∨ (i = 75 ∧ (k = 2)) ∨ i = 76 ∨ i = 77) g0 K g2251 H locs := ⟨hW1, hs1, hW.2.2.tr hf1 (fun i k h => (Or.inl (by omega)))⟩
          refine q_if_eq (tgt := 164) hM dX1_item_157 (by decide) (rfl : r2250.toInt = r2250.toInt) (fun h157 => ?_) (fun h157 => ?_)
          · refine q_iconst (v := (0 : Int32)) hM dX1_item_164 (by decide) ?_
            exact hE _ _ _ _ _ _ hW.1 nz_0 ⟨v2232, v2242, _, rfl, hW.2.1, hG, hW.2.2, f2252, f2253, (by have := kc_0; omega), (by have := kc_0; omega), (by have := kc_0; omega), (by have := kc_0; omega)⟩ dX1_item_165
          · refine q_iconst (v := (1 : Int32)) hM dX1_item_160 (by decide) ?_
            refine q_goto (tgt := 165) hM dX1_item_161 (by decide) ?_
            exact hE _ _ _ _ _ _ hW.1 nz_1 ⟨v2232, v2242, _, rfl, hW.2.1, hG, hW.2.2, f2252, f2253, (by have := kc_1; omega), (by have := kc_1; omega), (by have := kc_1; omega), (by have := kc_1; omega)⟩ dX1_item_165
      · refine q_iconst (v := (0 : Int32)) hM dX1_item_135 (by decide) ?_
        exact hE _ _ _ _ _ _ hW.1 nz_0 ⟨v2232, v2233, _, rfl, hW.2.1, hG, hW.2.2, q2235, q2236, (by have := kc_0; omega), (by have := kc_0; omega), (by have := kc_0; omega), (by have := kc_0; omega)⟩ dX1_item_136
    · refine q_iload_n hM dX1_item_58 (lv_at hl 4 rfl) ?_
      refine q_iconst (v := (2 : Int32)) hM dX1_item_59 (by decide) ?_
      refine q_icmp_lt (tgt := 73) hM dX1_item_60 (by decide) (rfl : op.toInt = op.toInt) (kc_2 : (2 : Int32).toInt = 2) (fun h60 => ?_) (fun h60 => ?_)
      · omega
      · refine q_aload_n hM dX1_item_63 (lv_at hl 3 rfl) ?_
        refine q_iconst (v := (5 : Int32)) hM dX1_item_64 (by decide) ?_
        refine q_aload_n hM dX1_item_65 (lv_at hl 3 rfl) ?_
        refine w_get (v := .int z2225) hM hW FG_X1_23 lb_78 f2228 dX1_item_66 ?_
        have bz2225 := hG.f f2228 rF_78_2 (by decide)
        refine q_callV (As := [.int (5 : Int32), .int z2225]) (rest := []) hM hW.1 hR hC myX1_wrong (kAW (v_1_13 (List.mem_of_getElem? (i := 7) rfl)) rfl) (rfl : vwCl[1]? = some (RX1, TX1, 5)) rfl lb_78.1 (shO hW.2.1 lb_78) (a_X1_wrong _ _ cA ad g2226 (5 : Int32) z2225 hW.2.1 hG) ⟨by decide, by decide⟩ rfl rfl hl.1 (Nat.le_of_ble_eq_true rfl) dX1_item_69 (fun v g2261 H locs hp hW1 => ?_)
        obtain ⟨r2260, rfl, hs1, hG, hf1, hr2260⟩ := hp
        have f2262 : fld g2261 75 2 = .int c0 := (hf1.1 75 2 (by omega)).trans f2227
        have f2263 : fld g2261 78 2 = .int z2225 := (hf1.1 78 2 (by omega)).trans f2228
        have hW : WS ad cA (fun i k => (i = 78 ∧ (k = 2 ∨ k = 3)) ∨ (i = 75 ∧ (k = 2)) ∨ i = 76 ∨ i = 77) g0 K g2261 H locs := ⟨hW1, hs1, hW.2.2.tr hf1 (fun i k h => (Or.inl (by omega)))⟩
        exact hE _ _ _ _ _ _ hW.1 (nz_or (by omega)) ⟨z2225, c0, _, rfl, hW.2.1, hG, hW.2.2, f2263, f2262, (by omega), (by omega), (by omega), (by omega)⟩ dX1_item_72

theorem dX1_steps_0 : decode cX1_steps 0 = .ok (.iconst 0, 1) := by decide +kernel
theorem dX1_steps_1 : decode cX1_steps 1 = .ok (.istore_n 2, 1) := by decide +kernel
theorem dX1_steps_2 : decode cX1_steps 2 = .ok (.iload_n 2, 1) := by decide +kernel
theorem dX1_steps_3 : decode cX1_steps 3 = .ok (.bipush 60, 2) := by decide +kernel
theorem dX1_steps_5 : decode cX1_steps 5 = .ok (.if_icmp .ge 46, 3) := by decide +kernel
theorem dX1_steps_8 : decode cX1_steps 8 = .ok (.aload_n 0, 1) := by decide +kernel
theorem dX1_steps_9 : decode cX1_steps 9 = .ok (.iload_n 1, 1) := by decide +kernel
theorem dX1_steps_10 : decode cX1_steps 10 = .ok (.invokevirtual 48, 3) := by decide +kernel
theorem dX1_steps_13 : decode cX1_steps 13 = .ok (.ifCond .ne 5, 3) := by decide +kernel
theorem dX1_steps_16 : decode cX1_steps 16 = .ok (.iconst 0, 1) := by decide +kernel
theorem dX1_steps_17 : decode cX1_steps 17 = .ok (.ireturn, 1) := by decide +kernel
theorem dX1_steps_18 : decode cX1_steps 18 = .ok (.aload_n 0, 1) := by decide +kernel
theorem dX1_steps_19 : decode cX1_steps 19 = .ok (.getfield 23, 3) := by decide +kernel
theorem dX1_steps_22 : decode cX1_steps 22 = .ok (.aload_n 0, 1) := by decide +kernel
theorem dX1_steps_23 : decode cX1_steps 23 = .ok (.getfield 19, 3) := by decide +kernel
theorem dX1_steps_26 : decode cX1_steps 26 = .ok (.if_icmp .ge 17, 3) := by decide +kernel
theorem dX1_steps_29 : decode cX1_steps 29 = .ok (.aload_n 0, 1) := by decide +kernel
theorem dX1_steps_30 : decode cX1_steps 30 = .ok (.getfield 9, 3) := by decide +kernel
theorem dX1_steps_33 : decode cX1_steps 33 = .ok (.aload_n 0, 1) := by decide +kernel
theorem dX1_steps_34 : decode cX1_steps 34 = .ok (.getfield 23, 3) := by decide +kernel
theorem dX1_steps_37 : decode cX1_steps 37 = .ok (.iaload, 1) := by decide +kernel
theorem dX1_steps_38 : decode cX1_steps 38 = .ok (.bipush 41, 2) := by decide +kernel
theorem dX1_steps_40 : decode cX1_steps 40 = .ok (.if_icmp .ne 5, 3) := by decide +kernel
theorem dX1_steps_43 : decode cX1_steps 43 = .ok (.iconst 1, 1) := by decide +kernel
theorem dX1_steps_44 : decode cX1_steps 44 = .ok (.ireturn, 1) := by decide +kernel
theorem dX1_steps_45 : decode cX1_steps 45 = .ok (.iinc 2 1, 3) := by decide +kernel
theorem dX1_steps_48 : decode cX1_steps 48 = .ok (.goto (-46), 3) := by decide +kernel
theorem dX1_steps_51 : decode cX1_steps 51 = .ok (.aload_n 0, 1) := by decide +kernel
theorem dX1_steps_52 : decode cX1_steps 52 = .ok (.iconst 1, 1) := by decide +kernel
theorem dX1_steps_53 : decode cX1_steps 53 = .ok (.aload_n 0, 1) := by decide +kernel
theorem dX1_steps_54 : decode cX1_steps 54 = .ok (.getfield 23, 3) := by decide +kernel
theorem dX1_steps_57 : decode cX1_steps 57 = .ok (.invokevirtual 44, 3) := by decide +kernel
theorem dX1_steps_60 : decode cX1_steps 60 = .ok (.ireturn, 1) := by decide +kernel
theorem myX1_item : MI yX1_item cX1_item 5 (some FieldType.boolean) 1 := ⟨kAW (v_1_13 (List.mem_of_getElem? (i := 1) rfl)) rfl, kAW (v_0_0 (List.mem_of_getElem? (i := 7) rfl)) rfl, kAW (v_1_13 (List.mem_of_getElem? (i := 0) rfl)) rfl, kAW (tp_t0 (List.mem_of_getElem? (i := 1) rfl)) rfl, by decide, by decide, by decide +kernel⟩
set_option maxRecDepth 100000 in
set_option maxHeartbeats 4000000 in
theorem a_X1_steps_2 (l : Launch) (D : va_G) (cA : Nat → ClassId) (ad : Nat → Nat) (g0 : Nat → va_E) (op : Int32) (en : Int32) (a0 : Int32) (c0 : Int32)  (hSh : Shp ad cA g0) (hG : Rng g0) (h_en : fld g0 78 1 = .int en) (h_a0 : fld g0 78 2 = .int a0) (h_c0 : fld g0 75 2 = .int c0) (h_r4 : fld g0 78 4 = .ref (ad 75)) (ah0 : 0 ≤ a0.toInt) (ah1 : a0.toInt ≤ en.toInt) (ah2 : en.toInt ≤ 60) (ok : op.toInt = 2) : CT l NN ad cA D yX1_steps cX1_steps 3 (some FieldType.boolean) (4, 92) [.ref (ad 78), .int op] g0 (fun v g' => ∃ (a9 : Int32) (c9 : Int32) (r : Int32), v = some (.int r) ∧ Shp ad cA g' ∧ Rng g' ∧ FR (fun i k => (i = 78 ∧ (k = 2 ∨ k = 3)) ∨ (i = 75 ∧ (k = 2)) ∨ i = 76 ∨ i = 77) g0 g' ∧ fld g' 78 2 = .int a9 ∧ fld g' 75 2 = .int c9 ∧ (a0.toInt ≤ a9.toInt) ∧ (a9.toInt ≤ en.toInt) ∧ (c0.toInt ≤ c9.toInt) ∧ (r.toInt = 0 ∨ r.toInt = 1)) := by
  refine q_enterZ (by decide) (Nat.le_of_ble_eq_true rfl) (fun K H locs ls _ _ hM hW0 hR hC hE hl => ?_)
  have hl : lv_has ls 3 [(0, .ref (ad 78)), (1, .int op)] := hl
  have hW : WS ad cA (fun i k => (i = 78 ∧ (k = 2 ∨ k = 3)) ∨ (i = 75 ∧ (k = 2)) ∨ i = 76 ∨ i = 77) g0 K g0 H locs := ⟨hW0, hSh, FR.rf⟩
  have b_en := hG.f h_en rF_78_1 (by decide)
  have b_a0 := hG.f h_a0 rF_78_2 (by decide)
  have b_c0 := hG.f h_c0 rF_75_2 (by decide)
  have f2264 : fld g0 78 2 = .int a0 := h_a0
  have f2265 : fld g0 75 2 = .int c0 := h_c0
  refine q_iconst (v := (0 : Int32)) hM dX1_steps_0 (by decide) ?_
  refine q_istore_n (lv9 := [(2, .int (0 : Int32)), (0, .ref (ad 78)), (1, .int op)]) hM dX1_steps_1 hl (by decide) rfl (fun ls hl => ?_)
  have L2 : ∀ (fu2 : Nat) (w2_2 : Int32) (aa : Int32) (cc : Int32) (g9 : Nat → va_E) (H : Heap) (locs : List Loc) (ls : Array Slot), (60 - w2_2.toInt).toNat < fu2 → (Rng g9) → (0 ≤ w2_2.toInt) → (w2_2.toInt ≤ 60) → (a0.toInt ≤ aa.toInt) → (aa.toInt ≤ en.toInt) → (c0.toInt ≤ cc.toInt) → (fld g9 78 2 = .int aa) → (fld g9 75 2 = .int cc) → lv_has ls 3 [(0, .ref (ad 78)), (1, .int op), (2, .int w2_2)] → WS ad cA (fun i k => (i = 78 ∧ (k = 2 ∨ k = 3)) ∨ (i = 75 ∧ (k = 2)) ∨ i = 76 ∨ i = 77) g0 K g9 H locs → XX K 0 0 H locs 2 ls [] := by
    intro fu2
    induction fu2 with
    | zero => intro w2_2 aa cc g9 H locs ls h0; omega
    | succ fu2 ih2 =>
      intro w2_2 aa cc g9 H locs ls hm2 i2_0 i2_1 i2_2 i2_3 i2_4 i2_5 c2_78_2 c2_75_2 hl hW
      have hG := i2_0
      refine q_iload_n hM dX1_steps_2 (lv_at hl 2 rfl) ?_
      refine q_bipush (v := (60 : Int32)) hM dX1_steps_3 (by decide) ?_
      refine q_icmp_ge (tgt := 51) hM dX1_steps_5 (by decide) (rfl : w2_2.toInt = w2_2.toInt) (kc_60 : (60 : Int32).toInt = 60) (fun h5 => ?_) (fun h5 => ?_)
      · refine q_aload_n hM dX1_steps_51 (lv_at hl 0 rfl) ?_
        refine q_iconst (v := (1 : Int32)) hM dX1_steps_52 (by decide) ?_
        refine q_aload_n hM dX1_steps_53 (lv_at hl 0 rfl) ?_
        refine w_get (v := .int aa) hM hW FG_X1_23 lb_78 c2_78_2 dX1_steps_54 ?_
        have baa := hG.f c2_78_2 rF_78_2 (by decide)
        refine q_callV (As := [.int (1 : Int32), .int aa]) (rest := []) hM hW.1 hR hC myX1_wrong (kAW (v_1_13 (List.mem_of_getElem? (i := 7) rfl)) rfl) (rfl : vwCl[1]? = some (RX1, TX1, 5)) rfl lb_78.1 (shO hW.2.1 lb_78) (a_X1_wrong _ _ cA ad g9 (1 : Int32) aa hW.2.1 hG) ⟨by decide, by decide⟩ rfl rfl hl.1 (Nat.le_of_ble_eq_true rfl) dX1_steps_57 (fun v g2269 H locs hp hW1 => ?_)
        obtain ⟨r2268, rfl, hs1, hG, hf1, hr2268⟩ := hp
        have f2270 : fld g2269 78 2 = .int aa := (hf1.1 78 2 (by omega)).trans c2_78_2
        have f2271 : fld g2269 75 2 = .int cc := (hf1.1 75 2 (by omega)).trans c2_75_2
        have hW : WS ad cA (fun i k => (i = 78 ∧ (k = 2 ∨ k = 3)) ∨ (i = 75 ∧ (k = 2)) ∨ i = 76 ∨ i = 77) g0 K g2269 H locs := ⟨hW1, hs1, hW.2.2.tr hf1 (fun i k h => (Or.inl (by omega)))⟩
        exact hE _ _ _ _ _ _ hW.1 (nz_or (by omega)) ⟨aa, cc, _, rfl, hW.2.1, hG, hW.2.2, f2270, f2271, (by omega), (by omega), (by omega), (by omega)⟩ dX1_steps_60
      · refine q_aload_n hM dX1_steps_8 (lv_at hl 0 rfl) ?_
        refine q_iload_n hM dX1_steps_9 (lv_at hl 1 rfl) ?_
        refine q_callV (As := [.int op]) (rest := []) hM hW.1 hR hC myX1_item (kAW (v_1_12 (List.mem_of_getElem? (i := 14) rfl)) rfl) (rfl : vwCl[1]? = some (RX1, TX1, 5)) rfl lb_78.1 (shO hW.2.1 lb_78) (a_X1_item_2 _ _ cA ad g9 op en aa cc hW.2.1 hG ((hW.2.2.1 78 1 (by omega)).trans h_en) c2_78_2 c2_75_2 ((hW.2.2.1 78 4 (by omega)).trans h_r4) (by  omega) (by  omega) (by  omega) (by  omega)) ⟨by decide, by decide⟩ rfl rfl hl.1 (Nat.le_of_ble_eq_true rfl) dX1_steps_10 (fun v g2281 H locs hp hW1 => ?_)
        obtain ⟨v2273, v2274, r2275, rfl, hs1, hG, hf1, q2276, q2277, e2278, e2279, e2280, hr2275⟩ := hp
        have hW : WS ad cA (fun i k => (i = 78 ∧ (k = 2 ∨ k = 3)) ∨ (i = 75 ∧ (k = 2)) ∨ i = 76 ∨ i = 77) g0 K g2281 H locs := ⟨hW1, hs1, hW.2.2.tr hf1 (fun i k h => h.elim (fun h => (Or.inl h)) (fun h => h.elim (fun h => (Or.inr (Or.inl h))) (fun h => h.elim (fun h => (Or.inr (Or.inr (Or.inl h)))) (fun h => (Or.inr (Or.inr (Or.inr h)))))))⟩
        refine q_if_ne (tgt := 18) hM dX1_steps_13 (by decide) (rfl : r2275.toInt = r2275.toInt) (fun h13 => ?_) (fun h13 => ?_)
        · refine q_aload_n hM dX1_steps_18 (lv_at hl 0 rfl) ?_
          refine w_get (v := .int v2273) hM hW FG_X1_23 lb_78 q2276 dX1_steps_19 ?_
          have bv2273 := hG.f q2276 rF_78_2 (by decide)
          refine q_aload_n hM dX1_steps_22 (lv_at hl 0 rfl) ?_
          refine w_get (v := .int en) hM hW FG_X1_19 lb_78 ((hW.2.2.1 78 1 (by omega)).trans h_en) dX1_steps_23 ?_
          refine q_icmp_ge (tgt := 43) hM dX1_steps_26 (by decide) (rfl : v2273.toInt = v2273.toInt) (rfl : en.toInt = en.toInt) (fun h26 => ?_) (fun h26 => ?_)
          · refine q_iconst (v := (1 : Int32)) hM dX1_steps_43 (by decide) ?_
            exact hE _ _ _ _ _ _ hW.1 nz_1 ⟨v2273, v2274, _, rfl, hW.2.1, hG, hW.2.2, q2276, q2277, (by have := kc_1; omega), (by have := kc_1; omega), (by have := kc_1; omega), (by have := kc_1; omega)⟩ dX1_steps_44
          · refine q_aload_n hM dX1_steps_29 (lv_at hl 0 rfl) ?_
            refine w_get (v := .ref (ad 2)) hM hW FG_X1_9 lb_78 (rf_78_0 hW.2.1) dX1_steps_30 ?_
            refine q_aload_n hM dX1_steps_33 (lv_at hl 0 rfl) ?_
            refine w_get (v := .int v2273) hM hW FG_X1_23 lb_78 q2276 dX1_steps_34 ?_
            have bv2273 := hG.f q2276 rF_78_2 (by decide)
            refine w_iald hM hW lb_2 (i_in (by omega) (by omega)) dX1_steps_37 ?_
            refine q_top (fun y2285 hy2285 => ?_)
            have by2285 := hG.a hy2285 rA_2
            have cy2285 := congrArg Int32.toInt hy2285
            refine q_bipush (v := (41 : Int32)) hM dX1_steps_38 (by decide) ?_
            refine q_icmp_ne (tgt := 45) hM dX1_steps_40 (by decide) (rfl : y2285.toInt = y2285.toInt) (kc_41 : (41 : Int32).toInt = 41) (fun h40 => ?_) (fun h40 => ?_)
            · refine q_iinc (lv9 := fun z2287 => [(2, .int z2287), (0, .ref (ad 78)), (1, .int op)]) hM dX1_steps_45 hl (kq := 2) rfl (by decide) (fun _ => rfl) (fun z2287 ls hz2287 hl => ?_)
              first | have tz2287 := i_addT hz2287 (rfl : w2_2.toInt = w2_2.toInt) (kc_1 : (Int32.ofInt 1).toInt = 1) (by omega) (by omega) | skip
              refine q_goto (tgt := 2) hM dX1_steps_48 (by decide) ?_
              exact ih2 z2287 v2273 v2274 _ _ _ _ (by omega) hG (by omega) (by omega) (by omega) (by omega) (by omega) q2276 q2277 (lv_sub hl [1, 2, 0] rfl) hW
            · refine q_iconst (v := (1 : Int32)) hM dX1_steps_43 (by decide) ?_
              exact hE _ _ _ _ _ _ hW.1 nz_1 ⟨v2273, v2274, _, rfl, hW.2.1, hG, hW.2.2, q2276, q2277, (by have := kc_1; omega), (by have := kc_1; omega), (by have := kc_1; omega), (by have := kc_1; omega)⟩ dX1_steps_44
        · refine q_iconst (v := (0 : Int32)) hM dX1_steps_16 (by decide) ?_
          exact hE _ _ _ _ _ _ hW.1 nz_0 ⟨v2273, v2274, _, rfl, hW.2.1, hG, hW.2.2, q2276, q2277, (by have := kc_0; omega), (by have := kc_0; omega), (by have := kc_0; omega), (by have := kc_0; omega)⟩ dX1_steps_17
  have := kc_0
  exact L2 _ (0 : Int32) a0 c0 _ _ _ _ (Nat.lt_succ_self _) hG (by omega) (by omega) (by omega) (by omega) (by omega) f2264 f2265 (lv_sub hl [1, 2, 0] rfl) hW

theorem dX1_item_73 : decode cX1_item 73 = .ok (.aload_n 0, 1) := by decide +kernel
theorem dX1_item_74 : decode cX1_item 74 = .ok (.dup, 1) := by decide +kernel
theorem dX1_item_75 : decode cX1_item 75 = .ok (.getfield 23, 3) := by decide +kernel
theorem dX1_item_78 : decode cX1_item 78 = .ok (.iconst 1, 1) := by decide +kernel
theorem dX1_item_79 : decode cX1_item 79 = .ok (.iadd, 1) := by decide +kernel
theorem dX1_item_80 : decode cX1_item 80 = .ok (.putfield 23, 3) := by decide +kernel
theorem dX1_item_83 : decode cX1_item 83 = .ok (.aload_n 0, 1) := by decide +kernel
theorem dX1_item_84 : decode cX1_item 84 = .ok (.iload_n 1, 1) := by decide +kernel
theorem dX1_item_85 : decode cX1_item 85 = .ok (.iconst 1, 1) := by decide +kernel
theorem dX1_item_86 : decode cX1_item 86 = .ok (.iadd, 1) := by decide +kernel
theorem dX1_item_87 : decode cX1_item 87 = .ok (.invokevirtual 40, 3) := by decide +kernel
theorem dX1_item_90 : decode cX1_item 90 = .ok (.ifCond .ne 5, 3) := by decide +kernel
theorem dX1_item_93 : decode cX1_item 93 = .ok (.iconst 0, 1) := by decide +kernel
theorem dX1_item_94 : decode cX1_item 94 = .ok (.ireturn, 1) := by decide +kernel
theorem dX1_item_95 : decode cX1_item 95 = .ok (.aload_n 0, 1) := by decide +kernel
theorem dX1_item_96 : decode cX1_item 96 = .ok (.invokevirtual 51, 3) := by decide +kernel
theorem dX1_item_99 : decode cX1_item 99 = .ok (.bipush 41, 2) := by decide +kernel
theorem dX1_item_101 : decode cX1_item 101 = .ok (.if_icmp .eq 13, 3) := by decide +kernel
theorem dX1_item_104 : decode cX1_item 104 = .ok (.aload_n 0, 1) := by decide +kernel
theorem dX1_item_105 : decode cX1_item 105 = .ok (.iconst 1, 1) := by decide +kernel
theorem dX1_item_106 : decode cX1_item 106 = .ok (.aload_n 0, 1) := by decide +kernel
theorem dX1_item_107 : decode cX1_item 107 = .ok (.getfield 23, 3) := by decide +kernel
theorem dX1_item_110 : decode cX1_item 110 = .ok (.invokevirtual 44, 3) := by decide +kernel
theorem dX1_item_113 : decode cX1_item 113 = .ok (.ireturn, 1) := by decide +kernel
theorem dX1_item_114 : decode cX1_item 114 = .ok (.aload_n 0, 1) := by decide +kernel
theorem dX1_item_115 : decode cX1_item 115 = .ok (.dup, 1) := by decide +kernel
theorem dX1_item_116 : decode cX1_item 116 = .ok (.getfield 23, 3) := by decide +kernel
theorem dX1_item_119 : decode cX1_item 119 = .ok (.iconst 1, 1) := by decide +kernel
theorem dX1_item_120 : decode cX1_item 120 = .ok (.iadd, 1) := by decide +kernel
theorem dX1_item_121 : decode cX1_item 121 = .ok (.putfield 23, 3) := by decide +kernel
theorem dX1_item_124 : decode cX1_item 124 = .ok (.goto 13, 3) := by decide +kernel
theorem myX1_steps : MI yX1_steps cX1_steps 3 (some FieldType.boolean) 1 := ⟨kAW (v_1_12 (List.mem_of_getElem? (i := 13) rfl)) rfl, kAW (v_0_0 (List.mem_of_getElem? (i := 7) rfl)) rfl, kAW (v_1_12 (List.mem_of_getElem? (i := 12) rfl)) rfl, kAW (tp_t0 (List.mem_of_getElem? (i := 0) rfl)) rfl, by decide, by decide, by decide +kernel⟩
set_option maxRecDepth 100000 in
set_option maxHeartbeats 4000000 in
theorem a_X1_item_1 (l : Launch) (D : va_G) (cA : Nat → ClassId) (ad : Nat → Nat) (g0 : Nat → va_E) (op : Int32) (en : Int32) (a0 : Int32) (c0 : Int32)  (hSh : Shp ad cA g0) (hG : Rng g0) (h_en : fld g0 78 1 = .int en) (h_a0 : fld g0 78 2 = .int a0) (h_c0 : fld g0 75 2 = .int c0) (h_r4 : fld g0 78 4 = .ref (ad 75)) (ah0 : 0 ≤ a0.toInt) (ah1 : a0.toInt ≤ en.toInt) (ah2 : en.toInt ≤ 60) (ok : op.toInt = 1) : CT l NN ad cA D yX1_item cX1_item 5 (some FieldType.boolean) (5, 114) [.ref (ad 78), .int op] g0 (fun v g' => ∃ (a9 : Int32) (c9 : Int32) (r : Int32), v = some (.int r) ∧ Shp ad cA g' ∧ Rng g' ∧ FR (fun i k => (i = 78 ∧ (k = 2 ∨ k = 3)) ∨ (i = 75 ∧ (k = 2)) ∨ i = 76 ∨ i = 77) g0 g' ∧ fld g' 78 2 = .int a9 ∧ fld g' 75 2 = .int c9 ∧ (a0.toInt ≤ a9.toInt) ∧ (a9.toInt ≤ en.toInt) ∧ (c0.toInt ≤ c9.toInt) ∧ (r.toInt = 0 ∨ r.toInt = 1)) := by
  refine q_enterZ (by decide) (Nat.le_of_ble_eq_true rfl) (fun K H locs ls _ _ hM hW0 hR hC hE hl => ?_)
  have hl : lv_has ls 5 [(0, .ref (ad 78)), (1, .int op)] := hl
  have hW : WS ad cA (fun i k => (i = 78 ∧ (k = 2 ∨ k = 3)) ∨ (i = 75 ∧ (k = 2)) ∨ i = 76 ∨ i = 77) g0 K g0 H locs := ⟨hW0, hSh, FR.rf⟩
  have b_en := hG.f h_en rF_78_1 (by decide)
  have b_a0 := hG.f h_a0 rF_78_2 (by decide)
  have b_c0 := hG.f h_c0 rF_75_2 (by decide)
  have f2290 : fld g0 78 2 = .int a0 := h_a0
  have f2291 : fld g0 75 2 = .int c0 := h_c0
  refine q_aload_n hM dX1_item_0 (lv_at hl 0 rfl) ?_
  refine w_get (v := .int a0) hM hW FG_X1_23 lb_78 f2290 dX1_item_1 ?_
  have ba0 := hG.f f2290 rF_78_2 (by decide)
  refine q_istore_n (lv9 := [(2, .int a0), (0, .ref (ad 78)), (1, .int op)]) hM dX1_item_4 hl (by decide) rfl (fun ls hl => ?_)
  refine q_aload_n hM dX1_item_5 (lv_at hl 1 rfl) ?_
  refine w_get (v := .ref (ad 75)) hM hW FG_X1_15 lb_78 ((hW.2.2.1 78 4 (by omega)).trans h_r4) dX1_item_6 ?_
  refine w_get (v := .int c0) hM hW FG_X1_35 lb_75 f2291 dX1_item_9 ?_
  have bc0 := hG.f f2291 rF_75_2 (by decide)
  refine q_istore_n (lv9 := [(3, .int c0), (2, .int a0), (0, .ref (ad 78)), (1, .int op)]) hM dX1_item_12 hl (by decide) rfl (fun ls hl => ?_)
  refine q_iconst (v := (1 : Int32)) hM dX1_item_13 (by decide) ?_
  refine q_istore (lv9 := [(4, .int (1 : Int32)), (3, .int c0), (2, .int a0), (0, .ref (ad 78)), (1, .int op)]) hM dX1_item_14 hl (by decide) rfl (fun ls hl => ?_)
  refine q_aload_n hM dX1_item_16 (lv_at hl 3 rfl) ?_
  refine q_callV (As := []) (rest := []) hM hW.1 hR hC myX1_sign (kAW (v_1_13 (List.mem_of_getElem? (i := 2) rfl)) rfl) (rfl : vwCl[1]? = some (RX1, TX1, 5)) rfl lb_78.1 (shO hW.2.1 lb_78) (a_X1_sign _ _ cA ad g0 en a0 hW.2.1 hG ((hW.2.2.1 78 1 (by omega)).trans h_en) f2290 (by  omega) (by  omega) (by  omega)) ⟨by decide, by decide⟩ rfl rfl hl.1 (Nat.le_of_ble_eq_true rfl) dX1_item_17 (fun v g2293 H locs hp hW1 => ?_)
  obtain ⟨r2292, rfl, hr2292, rfl⟩ := hp
  have hW : WS ad cA (fun i k => (i = 78 ∧ (k = 2 ∨ k = 3)) ∨ (i = 75 ∧ (k = 2)) ∨ i = 76 ∨ i = 77) g0 K g0 H locs := ⟨hW1, hW.2.1, hW.2.2⟩
  refine q_bipush (v := (50 : Int32)) hM dX1_item_20 (by decide) ?_
  refine q_bipush (v := (57 : Int32)) hM dX1_item_22 (by decide) ?_
  refine q_callN (host := "ForgetSchool") (As := [.int r2292, .int (50 : Int32), .int (57 : Int32)]) (rest := []) hM hW.1 hR hC myX11_within (List.mem_of_getElem? (i := 1) rfl) (c_X11_within _ _ cA ad g0 r2292 (50 : Int32) (57 : Int32) hW.2.1) ⟨by decide, by decide⟩ rfl rfl hl.1 (Nat.le_of_ble_eq_true rfl) dX1_item_24 (fun v g2295 H locs hp hW1 => ?_)
  obtain ⟨r2294, rfl, hr2294, rfl⟩ := hp
  have hW : WS ad cA (fun i k => (i = 78 ∧ (k = 2 ∨ k = 3)) ∨ (i = 75 ∧ (k = 2)) ∨ i = 76 ∨ i = 77) g0 K g0 H locs := ⟨hW1, hW.2.1, hW.2.2⟩
  have := kc_50
  have := kc_57
  refine q_if_eq (tgt := 49) hM dX1_item_27 (by decide) (rfl : r2294.toInt = r2294.toInt) (fun h27 => ?_) (fun h27 => ?_)
  · refine q_aload_n hM dX1_item_49 (lv_at hl 3 rfl) ?_
    refine q_callV (As := []) (rest := []) hM hW.1 hR hC myX1_sign (kAW (v_1_13 (List.mem_of_getElem? (i := 2) rfl)) rfl) (rfl : vwCl[1]? = some (RX1, TX1, 5)) rfl lb_78.1 (shO hW.2.1 lb_78) (a_X1_sign _ _ cA ad g0 en a0 hW.2.1 hG ((hW.2.2.1 78 1 (by omega)).trans h_en) f2290 (by  omega) (by  omega) (by  omega)) ⟨by decide, by decide⟩ rfl rfl hl.1 (Nat.le_of_ble_eq_true rfl) dX1_item_50 (fun v g2298 H locs hp hW1 => ?_)
    obtain ⟨r2297, rfl, hr2297, rfl⟩ := hp
    have hW : WS ad cA (fun i k => (i = 78 ∧ (k = 2 ∨ k = 3)) ∨ (i = 75 ∧ (k = 2)) ∨ i = 76 ∨ i = 77) g0 K g0 H locs := ⟨hW1, hW.2.1, hW.2.2⟩
    refine q_bipush (v := (40 : Int32)) hM dX1_item_53 (by decide) ?_
    refine q_icmp_ne (tgt := 127) hM dX1_item_55 (by decide) (rfl : r2297.toInt = r2297.toInt) (kc_40 : (40 : Int32).toInt = 40) (fun h55 => ?_) (fun h55 => ?_)
    · refine q_aload_n hM dX1_item_127 (lv_at hl 3 rfl) ?_
      refine q_iload_n hM dX1_item_128 (lv_at hl 2 rfl) ?_
      refine q_callV (As := [.int a0]) (rest := []) hM hW.1 hR hC myX1_step (kAW (v_1_13 (List.mem_of_getElem? (i := 11) rfl)) rfl) (rfl : vwCl[1]? = some (RX1, TX1, 5)) rfl lb_78.1 (shO hW.2.1 lb_78) (a_X1_step _ _ cA ad g0 a0 en a0 c0 hW.2.1 hG ((hW.2.2.1 78 1 (by omega)).trans h_en) f2290 f2291 ((hW.2.2.1 78 4 (by omega)).trans h_r4) (by  omega) (by  omega) (by  omega)) ⟨by decide, by decide⟩ rfl rfl hl.1 (Nat.le_of_ble_eq_true rfl) dX1_item_129 (fun v g2308 H locs hp hW1 => ?_)
      obtain ⟨v2300, v2301, r2302, rfl, hs1, hG, hf1, q2303, q2304, e2305, e2306, e2307, hr2302⟩ := hp
      have hW : WS ad cA (fun i k => (i = 78 ∧ (k = 2 ∨ k = 3)) ∨ (i = 75 ∧ (k = 2)) ∨ i = 76 ∨ i = 77) g0 K g2308 H locs := ⟨hW1, hs1, hW.2.2.tr hf1 (fun i k h => h.elim (fun h => (Or.inl h)) (fun h => h.elim (fun h => (Or.inr (Or.inl h))) (fun h => h.elim (fun h => (Or.inr (Or.inr (Or.inl h)))) (fun h => (Or.inr (Or.inr (Or.inr h)))))))⟩
      refine q_if_ne (tgt := 137) hM dX1_item_132 (by decide) (rfl : r2302.toInt = r2302.toInt) (fun h132 => ?_) (fun h132 => ?_)
      · refine q_aload_n hM dX1_item_137 (lv_at hl 3 rfl) ?_
        refine w_get (v := .ref (ad 75)) hM hW FG_X1_15 lb_78 ((hW.2.2.1 78 4 (by omega)).trans h_r4) dX1_item_138 ?_
        refine q_iload_n hM dX1_item_141 (lv_at hl 1 rfl) ?_
        refine q_iload hM dX1_item_142 (lv_at hl 0 rfl) ?_
        refine q_callV (As := [.int c0, .int (1 : Int32)]) (rest := []) hM hW.1 hR hC myX0_multiply (kAW (v_1_14 (List.mem_of_getElem? (i := 7) rfl)) rfl) (rfl : vwCl[0]? = some (RX0, TX0, 3)) rfl lb_75.1 (shO hW.2.1 lb_75) (a_X0_multiply _ _ cA ad g2308 c0 (1 : Int32) v2301 hW.2.1 hG q2304 (by have := kc_1; omega) (by have := kc_1; omega) (by have := kc_1; omega) (by have := kc_1; omega)) ⟨by decide, by decide⟩ rfl rfl hl.1 (Nat.le_of_ble_eq_true rfl) dX1_item_144 (fun v g2314 H locs hp hW1 => ?_)
        obtain ⟨v2310, r2311, rfl, hs1, hG, hf1, q2312, e2313, hr2311⟩ := hp
        have f2315 : fld g2314 78 2 = .int v2300 := (hf1.1 78 2 (by omega)).trans q2303
        have hW : WS ad cA (fun i k => (i = 78 ∧ (k = 2 ∨ k = 3)) ∨ (i = 75 ∧ (k = 2)) ∨ i = 76 ∨ i = 77) g0 K g2314 H locs := ⟨hW1, hs1, hW.2.2.tr hf1 (fun i k h => h.elim (fun h => (Or.inr (Or.inl h))) (fun h => h.elim (fun h => (Or.inr (Or.inr (Or.inl h)))) (fun h => (Or.inr (Or.inr (Or.inr h))))))⟩
        refine q_if_ne (tgt := 160) hM dX1_item_147 (by decide) (rfl : r2311.toInt = r2311.toInt) (fun h147 => ?_) (fun h147 => ?_)
        · refine q_iconst (v := (1 : Int32)) hM dX1_item_160 (by decide) ?_
          refine q_goto (tgt := 165) hM dX1_item_161 (by decide) ?_
          exact hE _ _ _ _ _ _ hW.1 nz_1 ⟨v2300, v2310, _, rfl, hW.2.1, hG, hW.2.2, f2315, q2312, (by have := kc_1; omega), (by have := kc_1; omega), (by have := kc_1; omega), (by have := kc_1; omega)⟩ dX1_item_165
        · refine q_aload_n hM dX1_item_150 (lv_at hl 3 rfl) ?_
          refine q_bipush (v := (6 : Int32)) hM dX1_item_151 (by decide) ?_
          refine q_iload_n hM dX1_item_153 (lv_at hl 2 rfl) ?_
          refine q_callV (As := [.int (6 : Int32), .int a0]) (rest := []) hM hW.1 hR hC myX1_wrong (kAW (v_1_13 (List.mem_of_getElem? (i := 7) rfl)) rfl) (rfl : vwCl[1]? = some (RX1, TX1, 5)) rfl lb_78.1 (shO hW.2.1 lb_78) (a_X1_wrong _ _ cA ad g2314 (6 : Int32) a0 hW.2.1 hG) ⟨by decide, by decide⟩ rfl rfl hl.1 (Nat.le_of_ble_eq_true rfl) dX1_item_154 (fun v g2319 H locs hp hW1 => ?_)
          obtain ⟨r2318, rfl, hs1, hG, hf1, hr2318⟩ := hp
          have f2320 : fld g2319 78 2 = .int v2300 := (hf1.1 78 2 (by omega)).trans f2315
          have f2321 : fld g2319 75 2 = .int v2310 := (hf1.1 75 2 (by omega)).trans q2312
          have hW : WS ad cA (fun i k => (i = 78 ∧ (k = 2 ∨ k = 3)) ∨ (i = 75 ∧ (k = 2)) ∨ i = 76 ∨ i = 77) g0 K g2319 H locs := ⟨hW1, hs1, hW.2.2.tr hf1 (fun i k h => (Or.inl (by omega)))⟩
          refine q_if_eq (tgt := 164) hM dX1_item_157 (by decide) (rfl : r2318.toInt = r2318.toInt) (fun h157 => ?_) (fun h157 => ?_)
          · refine q_iconst (v := (0 : Int32)) hM dX1_item_164 (by decide) ?_
            exact hE _ _ _ _ _ _ hW.1 nz_0 ⟨v2300, v2310, _, rfl, hW.2.1, hG, hW.2.2, f2320, f2321, (by have := kc_0; omega), (by have := kc_0; omega), (by have := kc_0; omega), (by have := kc_0; omega)⟩ dX1_item_165
          · refine q_iconst (v := (1 : Int32)) hM dX1_item_160 (by decide) ?_
            refine q_goto (tgt := 165) hM dX1_item_161 (by decide) ?_
            exact hE _ _ _ _ _ _ hW.1 nz_1 ⟨v2300, v2310, _, rfl, hW.2.1, hG, hW.2.2, f2320, f2321, (by have := kc_1; omega), (by have := kc_1; omega), (by have := kc_1; omega), (by have := kc_1; omega)⟩ dX1_item_165
      · refine q_iconst (v := (0 : Int32)) hM dX1_item_135 (by decide) ?_
        exact hE _ _ _ _ _ _ hW.1 nz_0 ⟨v2300, v2301, _, rfl, hW.2.1, hG, hW.2.2, q2303, q2304, (by have := kc_0; omega), (by have := kc_0; omega), (by have := kc_0; omega), (by have := kc_0; omega)⟩ dX1_item_136
    · refine q_iload_n hM dX1_item_58 (lv_at hl 4 rfl) ?_
      refine q_iconst (v := (2 : Int32)) hM dX1_item_59 (by decide) ?_
      refine q_icmp_lt (tgt := 73) hM dX1_item_60 (by decide) (rfl : op.toInt = op.toInt) (kc_2 : (2 : Int32).toInt = 2) (fun h60 => ?_) (fun h60 => ?_)
      · refine q_aload_n hM dX1_item_73 (lv_at hl 3 rfl) ?_
        refine q_dup hM dX1_item_74 rfl ?_
        refine w_get (v := .int a0) hM hW FG_X1_23 lb_78 f2290 dX1_item_75 ?_
        have ba0 := hG.f f2290 rF_78_2 (by decide)
        refine q_iconst (v := (1 : Int32)) hM dX1_item_78 (by decide) ?_
        refine q_iadd hM dX1_item_79 (fun z2327 hz2327 => ?_)
        first | have tz2327 := i_addT hz2327 (rfl : a0.toInt = a0.toInt) (kc_1 : (1 : Int32).toInt = 1) (by omega) (by omega) | skip
        refine w_put hM hW FP_X1_23 lb_78 (by omega) (Or.inl ⟨_, rfl⟩) rfl rfl dX1_item_80 (fun g2328 H locs hW e1 e2 => ?_)
        have f2329 : fld g2328 75 2 = .int c0 := (e2.1 75 2 (by unfold Only; omega)).trans f2291
        have f2330 : fld g2328 78 2 = .int z2327 := e1
        have hG := hG.put e1 e2 rF_78_2 (by decide) (by have := i_rng z2327; omega) (by have := i_rng z2327; omega)
        refine q_aload_n hM dX1_item_83 (lv_at hl 3 rfl) ?_
        refine q_iload_n hM dX1_item_84 (lv_at hl 4 rfl) ?_
        refine q_iconst (v := (1 : Int32)) hM dX1_item_85 (by decide) ?_
        refine q_iadd hM dX1_item_86 (fun z2331 hz2331 => ?_)
        first | have tz2331 := i_addT hz2331 (rfl : op.toInt = op.toInt) (kc_1 : (1 : Int32).toInt = 1) (by omega) (by omega) | skip
        refine q_callV (As := [.int z2331]) (rest := []) hM hW.1 hR hC myX1_steps (kAW (v_1_12 (List.mem_of_getElem? (i := 10) rfl)) rfl) (rfl : vwCl[1]? = some (RX1, TX1, 5)) rfl lb_78.1 (shO hW.2.1 lb_78) (a_X1_steps_2 _ _ cA ad g2328 z2331 en z2327 c0 hW.2.1 hG ((hW.2.2.1 78 1 (by omega)).trans h_en) f2330 f2329 ((hW.2.2.1 78 4 (by omega)).trans h_r4) (by  omega) (by  omega) (by  omega) (by  omega)) ⟨by decide, by decide⟩ rfl rfl hl.1 (Nat.le_of_ble_eq_true rfl) dX1_item_87 (fun v g2340 H locs hp hW1 => ?_)
        obtain ⟨v2332, v2333, r2334, rfl, hs1, hG, hf1, q2335, q2336, e2337, e2338, e2339, hr2334⟩ := hp
        have hW : WS ad cA (fun i k => (i = 78 ∧ (k = 2 ∨ k = 3)) ∨ (i = 75 ∧ (k = 2)) ∨ i = 76 ∨ i = 77) g0 K g2340 H locs := ⟨hW1, hs1, hW.2.2.tr hf1 (fun i k h => h.elim (fun h => (Or.inl h)) (fun h => h.elim (fun h => (Or.inr (Or.inl h))) (fun h => h.elim (fun h => (Or.inr (Or.inr (Or.inl h)))) (fun h => (Or.inr (Or.inr (Or.inr h)))))))⟩
        refine q_if_ne (tgt := 95) hM dX1_item_90 (by decide) (rfl : r2334.toInt = r2334.toInt) (fun h90 => ?_) (fun h90 => ?_)
        · refine q_aload_n hM dX1_item_95 (lv_at hl 3 rfl) ?_
          refine q_callV (As := []) (rest := []) hM hW.1 hR hC myX1_sign (kAW (v_1_13 (List.mem_of_getElem? (i := 2) rfl)) rfl) (rfl : vwCl[1]? = some (RX1, TX1, 5)) rfl lb_78.1 (shO hW.2.1 lb_78) (a_X1_sign _ _ cA ad g2340 en v2332 hW.2.1 hG ((hW.2.2.1 78 1 (by omega)).trans h_en) q2335 (by  omega) (by  omega) (by  omega)) ⟨by decide, by decide⟩ rfl rfl hl.1 (Nat.le_of_ble_eq_true rfl) dX1_item_96 (fun v g2343 H locs hp hW1 => ?_)
          obtain ⟨r2342, rfl, hr2342, rfl⟩ := hp
          have hW : WS ad cA (fun i k => (i = 78 ∧ (k = 2 ∨ k = 3)) ∨ (i = 75 ∧ (k = 2)) ∨ i = 76 ∨ i = 77) g0 K g2340 H locs := ⟨hW1, hW.2.1, hW.2.2⟩
          refine q_bipush (v := (41 : Int32)) hM dX1_item_99 (by decide) ?_
          refine q_icmp_eq (tgt := 114) hM dX1_item_101 (by decide) (rfl : r2342.toInt = r2342.toInt) (kc_41 : (41 : Int32).toInt = 41) (fun h101 => ?_) (fun h101 => ?_)
          · refine q_aload_n hM dX1_item_114 (lv_at hl 3 rfl) ?_
            refine q_dup hM dX1_item_115 rfl ?_
            refine w_get (v := .int v2332) hM hW FG_X1_23 lb_78 q2335 dX1_item_116 ?_
            have bv2332 := hG.f q2335 rF_78_2 (by decide)
            refine q_iconst (v := (1 : Int32)) hM dX1_item_119 (by decide) ?_
            refine q_iadd hM dX1_item_120 (fun z2345 hz2345 => ?_)
            first | have tz2345 := i_addT hz2345 (rfl : v2332.toInt = v2332.toInt) (kc_1 : (1 : Int32).toInt = 1) (by omega) (by omega) | skip
            refine w_put hM hW FP_X1_23 lb_78 (by omega) (Or.inl ⟨_, rfl⟩) rfl rfl dX1_item_121 (fun g2346 H locs hW e1 e2 => ?_)
            have f2347 : fld g2346 75 2 = .int v2333 := (e2.1 75 2 (by unfold Only; omega)).trans q2336
            have f2348 : fld g2346 78 2 = .int z2345 := e1
            have hG := hG.put e1 e2 rF_78_2 (by decide) (by have := i_rng z2345; omega) (by have := i_rng z2345; omega)
            refine q_goto (tgt := 137) hM dX1_item_124 (by decide) ?_
            refine q_aload_n hM dX1_item_137 (lv_at hl 3 rfl) ?_
            refine w_get (v := .ref (ad 75)) hM hW FG_X1_15 lb_78 ((hW.2.2.1 78 4 (by omega)).trans h_r4) dX1_item_138 ?_
            refine q_iload_n hM dX1_item_141 (lv_at hl 1 rfl) ?_
            refine q_iload hM dX1_item_142 (lv_at hl 0 rfl) ?_
            refine q_callV (As := [.int c0, .int (1 : Int32)]) (rest := []) hM hW.1 hR hC myX0_multiply (kAW (v_1_14 (List.mem_of_getElem? (i := 7) rfl)) rfl) (rfl : vwCl[0]? = some (RX0, TX0, 3)) rfl lb_75.1 (shO hW.2.1 lb_75) (a_X0_multiply _ _ cA ad g2346 c0 (1 : Int32) v2333 hW.2.1 hG f2347 (by have := kc_1; omega) (by have := kc_1; omega) (by have := kc_1; omega) (by have := kc_1; omega)) ⟨by decide, by decide⟩ rfl rfl hl.1 (Nat.le_of_ble_eq_true rfl) dX1_item_144 (fun v g2353 H locs hp hW1 => ?_)
            obtain ⟨v2349, r2350, rfl, hs1, hG, hf1, q2351, e2352, hr2350⟩ := hp
            have f2354 : fld g2353 78 2 = .int z2345 := (hf1.1 78 2 (by omega)).trans f2348
            have hW : WS ad cA (fun i k => (i = 78 ∧ (k = 2 ∨ k = 3)) ∨ (i = 75 ∧ (k = 2)) ∨ i = 76 ∨ i = 77) g0 K g2353 H locs := ⟨hW1, hs1, hW.2.2.tr hf1 (fun i k h => h.elim (fun h => (Or.inr (Or.inl h))) (fun h => h.elim (fun h => (Or.inr (Or.inr (Or.inl h)))) (fun h => (Or.inr (Or.inr (Or.inr h))))))⟩
            refine q_if_ne (tgt := 160) hM dX1_item_147 (by decide) (rfl : r2350.toInt = r2350.toInt) (fun h147 => ?_) (fun h147 => ?_)
            · refine q_iconst (v := (1 : Int32)) hM dX1_item_160 (by decide) ?_
              refine q_goto (tgt := 165) hM dX1_item_161 (by decide) ?_
              exact hE _ _ _ _ _ _ hW.1 nz_1 ⟨z2345, v2349, _, rfl, hW.2.1, hG, hW.2.2, f2354, q2351, (by have := kc_1; omega), (by have := kc_1; omega), (by have := kc_1; omega), (by have := kc_1; omega)⟩ dX1_item_165
            · refine q_aload_n hM dX1_item_150 (lv_at hl 3 rfl) ?_
              refine q_bipush (v := (6 : Int32)) hM dX1_item_151 (by decide) ?_
              refine q_iload_n hM dX1_item_153 (lv_at hl 2 rfl) ?_
              refine q_callV (As := [.int (6 : Int32), .int a0]) (rest := []) hM hW.1 hR hC myX1_wrong (kAW (v_1_13 (List.mem_of_getElem? (i := 7) rfl)) rfl) (rfl : vwCl[1]? = some (RX1, TX1, 5)) rfl lb_78.1 (shO hW.2.1 lb_78) (a_X1_wrong _ _ cA ad g2353 (6 : Int32) a0 hW.2.1 hG) ⟨by decide, by decide⟩ rfl rfl hl.1 (Nat.le_of_ble_eq_true rfl) dX1_item_154 (fun v g2358 H locs hp hW1 => ?_)
              obtain ⟨r2357, rfl, hs1, hG, hf1, hr2357⟩ := hp
              have f2359 : fld g2358 78 2 = .int z2345 := (hf1.1 78 2 (by omega)).trans f2354
              have f2360 : fld g2358 75 2 = .int v2349 := (hf1.1 75 2 (by omega)).trans q2351
              have hW : WS ad cA (fun i k => (i = 78 ∧ (k = 2 ∨ k = 3)) ∨ (i = 75 ∧ (k = 2)) ∨ i = 76 ∨ i = 77) g0 K g2358 H locs := ⟨hW1, hs1, hW.2.2.tr hf1 (fun i k h => (Or.inl (by omega)))⟩
              refine q_if_eq (tgt := 164) hM dX1_item_157 (by decide) (rfl : r2357.toInt = r2357.toInt) (fun h157 => ?_) (fun h157 => ?_)
              · refine q_iconst (v := (0 : Int32)) hM dX1_item_164 (by decide) ?_
                exact hE _ _ _ _ _ _ hW.1 nz_0 ⟨z2345, v2349, _, rfl, hW.2.1, hG, hW.2.2, f2359, f2360, (by have := kc_0; omega), (by have := kc_0; omega), (by have := kc_0; omega), (by have := kc_0; omega)⟩ dX1_item_165
              · refine q_iconst (v := (1 : Int32)) hM dX1_item_160 (by decide) ?_
                refine q_goto (tgt := 165) hM dX1_item_161 (by decide) ?_
                exact hE _ _ _ _ _ _ hW.1 nz_1 ⟨z2345, v2349, _, rfl, hW.2.1, hG, hW.2.2, f2359, f2360, (by have := kc_1; omega), (by have := kc_1; omega), (by have := kc_1; omega), (by have := kc_1; omega)⟩ dX1_item_165
          · refine q_aload_n hM dX1_item_104 (lv_at hl 3 rfl) ?_
            refine q_iconst (v := (1 : Int32)) hM dX1_item_105 (by decide) ?_
            refine q_aload_n hM dX1_item_106 (lv_at hl 3 rfl) ?_
            refine w_get (v := .int v2332) hM hW FG_X1_23 lb_78 q2335 dX1_item_107 ?_
            have bv2332 := hG.f q2335 rF_78_2 (by decide)
            refine q_callV (As := [.int (1 : Int32), .int v2332]) (rest := []) hM hW.1 hR hC myX1_wrong (kAW (v_1_13 (List.mem_of_getElem? (i := 7) rfl)) rfl) (rfl : vwCl[1]? = some (RX1, TX1, 5)) rfl lb_78.1 (shO hW.2.1 lb_78) (a_X1_wrong _ _ cA ad g2340 (1 : Int32) v2332 hW.2.1 hG) ⟨by decide, by decide⟩ rfl rfl hl.1 (Nat.le_of_ble_eq_true rfl) dX1_item_110 (fun v g2365 H locs hp hW1 => ?_)
            obtain ⟨r2364, rfl, hs1, hG, hf1, hr2364⟩ := hp
            have f2366 : fld g2365 78 2 = .int v2332 := (hf1.1 78 2 (by omega)).trans q2335
            have f2367 : fld g2365 75 2 = .int v2333 := (hf1.1 75 2 (by omega)).trans q2336
            have hW : WS ad cA (fun i k => (i = 78 ∧ (k = 2 ∨ k = 3)) ∨ (i = 75 ∧ (k = 2)) ∨ i = 76 ∨ i = 77) g0 K g2365 H locs := ⟨hW1, hs1, hW.2.2.tr hf1 (fun i k h => (Or.inl (by omega)))⟩
            exact hE _ _ _ _ _ _ hW.1 (nz_or (by omega)) ⟨v2332, v2333, _, rfl, hW.2.1, hG, hW.2.2, f2366, f2367, (by omega), (by omega), (by omega), (by omega)⟩ dX1_item_113
        · refine q_iconst (v := (0 : Int32)) hM dX1_item_93 (by decide) ?_
          exact hE _ _ _ _ _ _ hW.1 nz_0 ⟨v2332, v2333, _, rfl, hW.2.1, hG, hW.2.2, q2335, q2336, (by have := kc_0; omega), (by have := kc_0; omega), (by have := kc_0; omega), (by have := kc_0; omega)⟩ dX1_item_94
      · omega
  · refine q_aload_n hM dX1_item_30 (lv_at hl 3 rfl) ?_
    refine q_callV (As := []) (rest := []) hM hW.1 hR hC myX1_sign (kAW (v_1_13 (List.mem_of_getElem? (i := 2) rfl)) rfl) (rfl : vwCl[1]? = some (RX1, TX1, 5)) rfl lb_78.1 (shO hW.2.1 lb_78) (a_X1_sign _ _ cA ad g0 en a0 hW.2.1 hG ((hW.2.2.1 78 1 (by omega)).trans h_en) f2290 (by  omega) (by  omega) (by  omega)) ⟨by decide, by decide⟩ rfl rfl hl.1 (Nat.le_of_ble_eq_true rfl) dX1_item_31 (fun v g2372 H locs hp hW1 => ?_)
    obtain ⟨r2371, rfl, hr2371, rfl⟩ := hp
    have hW : WS ad cA (fun i k => (i = 78 ∧ (k = 2 ∨ k = 3)) ∨ (i = 75 ∧ (k = 2)) ∨ i = 76 ∨ i = 77) g0 K g0 H locs := ⟨hW1, hW.2.1, hW.2.2⟩
    refine q_bipush (v := (48 : Int32)) hM dX1_item_34 (by decide) ?_
    refine q_isub hM dX1_item_36 (fun z2373 hz2373 => ?_)
    first | have tz2373 := i_subT hz2373 (rfl : r2371.toInt = r2371.toInt) (kc_48 : (48 : Int32).toInt = 48) (by omega) (by omega) | skip
    refine q_istore (lv9 := [(4, .int z2373), (3, .int c0), (2, .int a0), (0, .ref (ad 78)), (1, .int op)]) hM dX1_item_37 hl (by decide) rfl (fun ls hl => ?_)
    refine q_aload_n hM dX1_item_39 (lv_at hl 3 rfl) ?_
    refine q_dup hM dX1_item_40 rfl ?_
    refine w_get (v := .int a0) hM hW FG_X1_23 lb_78 f2290 dX1_item_41 ?_
    have ba0 := hG.f f2290 rF_78_2 (by decide)
    refine q_iconst (v := (1 : Int32)) hM dX1_item_44 (by decide) ?_
    refine q_iadd hM dX1_item_45 (fun z2374 hz2374 => ?_)
    first | have tz2374 := i_addT hz2374 (rfl : a0.toInt = a0.toInt) (kc_1 : (1 : Int32).toInt = 1) (by omega) (by omega) | skip
    refine w_put hM hW FP_X1_23 lb_78 (by omega) (Or.inl ⟨_, rfl⟩) rfl rfl dX1_item_46 (fun g2375 H locs hW e1 e2 => ?_)
    have f2376 : fld g2375 75 2 = .int c0 := (e2.1 75 2 (by unfold Only; omega)).trans f2291
    have f2377 : fld g2375 78 2 = .int z2374 := e1
    have hG := hG.put e1 e2 rF_78_2 (by decide) (by have := i_rng z2374; omega) (by have := i_rng z2374; omega)
    refine q_aload_n hM dX1_item_49 (lv_at hl 3 rfl) ?_
    refine q_callV (As := []) (rest := []) hM hW.1 hR hC myX1_sign (kAW (v_1_13 (List.mem_of_getElem? (i := 2) rfl)) rfl) (rfl : vwCl[1]? = some (RX1, TX1, 5)) rfl lb_78.1 (shO hW.2.1 lb_78) (a_X1_sign _ _ cA ad g2375 en z2374 hW.2.1 hG ((hW.2.2.1 78 1 (by omega)).trans h_en) f2377 (by  omega) (by  omega) (by  omega)) ⟨by decide, by decide⟩ rfl rfl hl.1 (Nat.le_of_ble_eq_true rfl) dX1_item_50 (fun v g2379 H locs hp hW1 => ?_)
    obtain ⟨r2378, rfl, hr2378, rfl⟩ := hp
    have hW : WS ad cA (fun i k => (i = 78 ∧ (k = 2 ∨ k = 3)) ∨ (i = 75 ∧ (k = 2)) ∨ i = 76 ∨ i = 77) g0 K g2375 H locs := ⟨hW1, hW.2.1, hW.2.2⟩
    refine q_bipush (v := (40 : Int32)) hM dX1_item_53 (by decide) ?_
    refine q_icmp_ne (tgt := 127) hM dX1_item_55 (by decide) (rfl : r2378.toInt = r2378.toInt) (kc_40 : (40 : Int32).toInt = 40) (fun h55 => ?_) (fun h55 => ?_)
    · refine q_aload_n hM dX1_item_127 (lv_at hl 3 rfl) ?_
      refine q_iload_n hM dX1_item_128 (lv_at hl 2 rfl) ?_
      refine q_callV (As := [.int a0]) (rest := []) hM hW.1 hR hC myX1_step (kAW (v_1_13 (List.mem_of_getElem? (i := 11) rfl)) rfl) (rfl : vwCl[1]? = some (RX1, TX1, 5)) rfl lb_78.1 (shO hW.2.1 lb_78) (a_X1_step _ _ cA ad g2375 a0 en z2374 c0 hW.2.1 hG ((hW.2.2.1 78 1 (by omega)).trans h_en) f2377 f2376 ((hW.2.2.1 78 4 (by omega)).trans h_r4) (by  omega) (by  omega) (by  omega)) ⟨by decide, by decide⟩ rfl rfl hl.1 (Nat.le_of_ble_eq_true rfl) dX1_item_129 (fun v g2389 H locs hp hW1 => ?_)
      obtain ⟨v2381, v2382, r2383, rfl, hs1, hG, hf1, q2384, q2385, e2386, e2387, e2388, hr2383⟩ := hp
      have hW : WS ad cA (fun i k => (i = 78 ∧ (k = 2 ∨ k = 3)) ∨ (i = 75 ∧ (k = 2)) ∨ i = 76 ∨ i = 77) g0 K g2389 H locs := ⟨hW1, hs1, hW.2.2.tr hf1 (fun i k h => h.elim (fun h => (Or.inl h)) (fun h => h.elim (fun h => (Or.inr (Or.inl h))) (fun h => h.elim (fun h => (Or.inr (Or.inr (Or.inl h)))) (fun h => (Or.inr (Or.inr (Or.inr h)))))))⟩
      refine q_if_ne (tgt := 137) hM dX1_item_132 (by decide) (rfl : r2383.toInt = r2383.toInt) (fun h132 => ?_) (fun h132 => ?_)
      · refine q_aload_n hM dX1_item_137 (lv_at hl 3 rfl) ?_
        refine w_get (v := .ref (ad 75)) hM hW FG_X1_15 lb_78 ((hW.2.2.1 78 4 (by omega)).trans h_r4) dX1_item_138 ?_
        refine q_iload_n hM dX1_item_141 (lv_at hl 1 rfl) ?_
        refine q_iload hM dX1_item_142 (lv_at hl 0 rfl) ?_
        refine q_callV (As := [.int c0, .int z2373]) (rest := []) hM hW.1 hR hC myX0_multiply (kAW (v_1_14 (List.mem_of_getElem? (i := 7) rfl)) rfl) (rfl : vwCl[0]? = some (RX0, TX0, 3)) rfl lb_75.1 (shO hW.2.1 lb_75) (a_X0_multiply _ _ cA ad g2389 c0 z2373 v2382 hW.2.1 hG q2385 (by  omega) (by  omega) (by  omega) (by  omega)) ⟨by decide, by decide⟩ rfl rfl hl.1 (Nat.le_of_ble_eq_true rfl) dX1_item_144 (fun v g2395 H locs hp hW1 => ?_)
        obtain ⟨v2391, r2392, rfl, hs1, hG, hf1, q2393, e2394, hr2392⟩ := hp
        have f2396 : fld g2395 78 2 = .int v2381 := (hf1.1 78 2 (by omega)).trans q2384
        have hW : WS ad cA (fun i k => (i = 78 ∧ (k = 2 ∨ k = 3)) ∨ (i = 75 ∧ (k = 2)) ∨ i = 76 ∨ i = 77) g0 K g2395 H locs := ⟨hW1, hs1, hW.2.2.tr hf1 (fun i k h => h.elim (fun h => (Or.inr (Or.inl h))) (fun h => h.elim (fun h => (Or.inr (Or.inr (Or.inl h)))) (fun h => (Or.inr (Or.inr (Or.inr h))))))⟩
        refine q_if_ne (tgt := 160) hM dX1_item_147 (by decide) (rfl : r2392.toInt = r2392.toInt) (fun h147 => ?_) (fun h147 => ?_)
        · refine q_iconst (v := (1 : Int32)) hM dX1_item_160 (by decide) ?_
          refine q_goto (tgt := 165) hM dX1_item_161 (by decide) ?_
          exact hE _ _ _ _ _ _ hW.1 nz_1 ⟨v2381, v2391, _, rfl, hW.2.1, hG, hW.2.2, f2396, q2393, (by have := kc_1; omega), (by have := kc_1; omega), (by have := kc_1; omega), (by have := kc_1; omega)⟩ dX1_item_165
        · refine q_aload_n hM dX1_item_150 (lv_at hl 3 rfl) ?_
          refine q_bipush (v := (6 : Int32)) hM dX1_item_151 (by decide) ?_
          refine q_iload_n hM dX1_item_153 (lv_at hl 2 rfl) ?_
          refine q_callV (As := [.int (6 : Int32), .int a0]) (rest := []) hM hW.1 hR hC myX1_wrong (kAW (v_1_13 (List.mem_of_getElem? (i := 7) rfl)) rfl) (rfl : vwCl[1]? = some (RX1, TX1, 5)) rfl lb_78.1 (shO hW.2.1 lb_78) (a_X1_wrong _ _ cA ad g2395 (6 : Int32) a0 hW.2.1 hG) ⟨by decide, by decide⟩ rfl rfl hl.1 (Nat.le_of_ble_eq_true rfl) dX1_item_154 (fun v g2400 H locs hp hW1 => ?_)
          obtain ⟨r2399, rfl, hs1, hG, hf1, hr2399⟩ := hp
          have f2401 : fld g2400 78 2 = .int v2381 := (hf1.1 78 2 (by omega)).trans f2396
          have f2402 : fld g2400 75 2 = .int v2391 := (hf1.1 75 2 (by omega)).trans q2393
          have hW : WS ad cA (fun i k => (i = 78 ∧ (k = 2 ∨ k = 3)) ∨ (i = 75 ∧ (k = 2)) ∨ i = 76 ∨ i = 77) g0 K g2400 H locs := ⟨hW1, hs1, hW.2.2.tr hf1 (fun i k h => (Or.inl (by omega)))⟩
          refine q_if_eq (tgt := 164) hM dX1_item_157 (by decide) (rfl : r2399.toInt = r2399.toInt) (fun h157 => ?_) (fun h157 => ?_)
          · refine q_iconst (v := (0 : Int32)) hM dX1_item_164 (by decide) ?_
            exact hE _ _ _ _ _ _ hW.1 nz_0 ⟨v2381, v2391, _, rfl, hW.2.1, hG, hW.2.2, f2401, f2402, (by have := kc_0; omega), (by have := kc_0; omega), (by have := kc_0; omega), (by have := kc_0; omega)⟩ dX1_item_165
          · refine q_iconst (v := (1 : Int32)) hM dX1_item_160 (by decide) ?_
            refine q_goto (tgt := 165) hM dX1_item_161 (by decide) ?_
            exact hE _ _ _ _ _ _ hW.1 nz_1 ⟨v2381, v2391, _, rfl, hW.2.1, hG, hW.2.2, f2401, f2402, (by have := kc_1; omega), (by have := kc_1; omega), (by have := kc_1; omega), (by have := kc_1; omega)⟩ dX1_item_165
      · refine q_iconst (v := (0 : Int32)) hM dX1_item_135 (by decide) ?_
        exact hE _ _ _ _ _ _ hW.1 nz_0 ⟨v2381, v2382, _, rfl, hW.2.1, hG, hW.2.2, q2384, q2385, (by have := kc_0; omega), (by have := kc_0; omega), (by have := kc_0; omega), (by have := kc_0; omega)⟩ dX1_item_136
    · refine q_iload_n hM dX1_item_58 (lv_at hl 4 rfl) ?_
      refine q_iconst (v := (2 : Int32)) hM dX1_item_59 (by decide) ?_
      refine q_icmp_lt (tgt := 73) hM dX1_item_60 (by decide) (rfl : op.toInt = op.toInt) (kc_2 : (2 : Int32).toInt = 2) (fun h60 => ?_) (fun h60 => ?_)
      · refine q_aload_n hM dX1_item_73 (lv_at hl 3 rfl) ?_
        refine q_dup hM dX1_item_74 rfl ?_
        refine w_get (v := .int z2374) hM hW FG_X1_23 lb_78 f2377 dX1_item_75 ?_
        have bz2374 := hG.f f2377 rF_78_2 (by decide)
        refine q_iconst (v := (1 : Int32)) hM dX1_item_78 (by decide) ?_
        refine q_iadd hM dX1_item_79 (fun z2408 hz2408 => ?_)
        first | have tz2408 := i_addT hz2408 (rfl : z2374.toInt = z2374.toInt) (kc_1 : (1 : Int32).toInt = 1) (by omega) (by omega) | skip
        refine w_put hM hW FP_X1_23 lb_78 (by omega) (Or.inl ⟨_, rfl⟩) rfl rfl dX1_item_80 (fun g2409 H locs hW e1 e2 => ?_)
        have f2410 : fld g2409 75 2 = .int c0 := (e2.1 75 2 (by unfold Only; omega)).trans f2376
        have f2411 : fld g2409 78 2 = .int z2408 := e1
        have hG := hG.put e1 e2 rF_78_2 (by decide) (by have := i_rng z2408; omega) (by have := i_rng z2408; omega)
        refine q_aload_n hM dX1_item_83 (lv_at hl 3 rfl) ?_
        refine q_iload_n hM dX1_item_84 (lv_at hl 4 rfl) ?_
        refine q_iconst (v := (1 : Int32)) hM dX1_item_85 (by decide) ?_
        refine q_iadd hM dX1_item_86 (fun z2412 hz2412 => ?_)
        first | have tz2412 := i_addT hz2412 (rfl : op.toInt = op.toInt) (kc_1 : (1 : Int32).toInt = 1) (by omega) (by omega) | skip
        refine q_callV (As := [.int z2412]) (rest := []) hM hW.1 hR hC myX1_steps (kAW (v_1_12 (List.mem_of_getElem? (i := 10) rfl)) rfl) (rfl : vwCl[1]? = some (RX1, TX1, 5)) rfl lb_78.1 (shO hW.2.1 lb_78) (a_X1_steps_2 _ _ cA ad g2409 z2412 en z2408 c0 hW.2.1 hG ((hW.2.2.1 78 1 (by omega)).trans h_en) f2411 f2410 ((hW.2.2.1 78 4 (by omega)).trans h_r4) (by  omega) (by  omega) (by  omega) (by  omega)) ⟨by decide, by decide⟩ rfl rfl hl.1 (Nat.le_of_ble_eq_true rfl) dX1_item_87 (fun v g2421 H locs hp hW1 => ?_)
        obtain ⟨v2413, v2414, r2415, rfl, hs1, hG, hf1, q2416, q2417, e2418, e2419, e2420, hr2415⟩ := hp
        have hW : WS ad cA (fun i k => (i = 78 ∧ (k = 2 ∨ k = 3)) ∨ (i = 75 ∧ (k = 2)) ∨ i = 76 ∨ i = 77) g0 K g2421 H locs := ⟨hW1, hs1, hW.2.2.tr hf1 (fun i k h => h.elim (fun h => (Or.inl h)) (fun h => h.elim (fun h => (Or.inr (Or.inl h))) (fun h => h.elim (fun h => (Or.inr (Or.inr (Or.inl h)))) (fun h => (Or.inr (Or.inr (Or.inr h)))))))⟩
        refine q_if_ne (tgt := 95) hM dX1_item_90 (by decide) (rfl : r2415.toInt = r2415.toInt) (fun h90 => ?_) (fun h90 => ?_)
        · refine q_aload_n hM dX1_item_95 (lv_at hl 3 rfl) ?_
          refine q_callV (As := []) (rest := []) hM hW.1 hR hC myX1_sign (kAW (v_1_13 (List.mem_of_getElem? (i := 2) rfl)) rfl) (rfl : vwCl[1]? = some (RX1, TX1, 5)) rfl lb_78.1 (shO hW.2.1 lb_78) (a_X1_sign _ _ cA ad g2421 en v2413 hW.2.1 hG ((hW.2.2.1 78 1 (by omega)).trans h_en) q2416 (by  omega) (by  omega) (by  omega)) ⟨by decide, by decide⟩ rfl rfl hl.1 (Nat.le_of_ble_eq_true rfl) dX1_item_96 (fun v g2424 H locs hp hW1 => ?_)
          obtain ⟨r2423, rfl, hr2423, rfl⟩ := hp
          have hW : WS ad cA (fun i k => (i = 78 ∧ (k = 2 ∨ k = 3)) ∨ (i = 75 ∧ (k = 2)) ∨ i = 76 ∨ i = 77) g0 K g2421 H locs := ⟨hW1, hW.2.1, hW.2.2⟩
          refine q_bipush (v := (41 : Int32)) hM dX1_item_99 (by decide) ?_
          refine q_icmp_eq (tgt := 114) hM dX1_item_101 (by decide) (rfl : r2423.toInt = r2423.toInt) (kc_41 : (41 : Int32).toInt = 41) (fun h101 => ?_) (fun h101 => ?_)
          · refine q_aload_n hM dX1_item_114 (lv_at hl 3 rfl) ?_
            refine q_dup hM dX1_item_115 rfl ?_
            refine w_get (v := .int v2413) hM hW FG_X1_23 lb_78 q2416 dX1_item_116 ?_
            have bv2413 := hG.f q2416 rF_78_2 (by decide)
            refine q_iconst (v := (1 : Int32)) hM dX1_item_119 (by decide) ?_
            refine q_iadd hM dX1_item_120 (fun z2426 hz2426 => ?_)
            first | have tz2426 := i_addT hz2426 (rfl : v2413.toInt = v2413.toInt) (kc_1 : (1 : Int32).toInt = 1) (by omega) (by omega) | skip
            refine w_put hM hW FP_X1_23 lb_78 (by omega) (Or.inl ⟨_, rfl⟩) rfl rfl dX1_item_121 (fun g2427 H locs hW e1 e2 => ?_)
            have f2428 : fld g2427 75 2 = .int v2414 := (e2.1 75 2 (by unfold Only; omega)).trans q2417
            have f2429 : fld g2427 78 2 = .int z2426 := e1
            have hG := hG.put e1 e2 rF_78_2 (by decide) (by have := i_rng z2426; omega) (by have := i_rng z2426; omega)
            refine q_goto (tgt := 137) hM dX1_item_124 (by decide) ?_
            refine q_aload_n hM dX1_item_137 (lv_at hl 3 rfl) ?_
            refine w_get (v := .ref (ad 75)) hM hW FG_X1_15 lb_78 ((hW.2.2.1 78 4 (by omega)).trans h_r4) dX1_item_138 ?_
            refine q_iload_n hM dX1_item_141 (lv_at hl 1 rfl) ?_
            refine q_iload hM dX1_item_142 (lv_at hl 0 rfl) ?_
            refine q_callV (As := [.int c0, .int z2373]) (rest := []) hM hW.1 hR hC myX0_multiply (kAW (v_1_14 (List.mem_of_getElem? (i := 7) rfl)) rfl) (rfl : vwCl[0]? = some (RX0, TX0, 3)) rfl lb_75.1 (shO hW.2.1 lb_75) (a_X0_multiply _ _ cA ad g2427 c0 z2373 v2414 hW.2.1 hG f2428 (by  omega) (by  omega) (by  omega) (by  omega)) ⟨by decide, by decide⟩ rfl rfl hl.1 (Nat.le_of_ble_eq_true rfl) dX1_item_144 (fun v g2434 H locs hp hW1 => ?_)
            obtain ⟨v2430, r2431, rfl, hs1, hG, hf1, q2432, e2433, hr2431⟩ := hp
            have f2435 : fld g2434 78 2 = .int z2426 := (hf1.1 78 2 (by omega)).trans f2429
            have hW : WS ad cA (fun i k => (i = 78 ∧ (k = 2 ∨ k = 3)) ∨ (i = 75 ∧ (k = 2)) ∨ i = 76 ∨ i = 77) g0 K g2434 H locs := ⟨hW1, hs1, hW.2.2.tr hf1 (fun i k h => h.elim (fun h => (Or.inr (Or.inl h))) (fun h => h.elim (fun h => (Or.inr (Or.inr (Or.inl h)))) (fun h => (Or.inr (Or.inr (Or.inr h))))))⟩
            refine q_if_ne (tgt := 160) hM dX1_item_147 (by decide) (rfl : r2431.toInt = r2431.toInt) (fun h147 => ?_) (fun h147 => ?_)
            · refine q_iconst (v := (1 : Int32)) hM dX1_item_160 (by decide) ?_
              refine q_goto (tgt := 165) hM dX1_item_161 (by decide) ?_
              exact hE _ _ _ _ _ _ hW.1 nz_1 ⟨z2426, v2430, _, rfl, hW.2.1, hG, hW.2.2, f2435, q2432, (by have := kc_1; omega), (by have := kc_1; omega), (by have := kc_1; omega), (by have := kc_1; omega)⟩ dX1_item_165
            · refine q_aload_n hM dX1_item_150 (lv_at hl 3 rfl) ?_
              refine q_bipush (v := (6 : Int32)) hM dX1_item_151 (by decide) ?_
              refine q_iload_n hM dX1_item_153 (lv_at hl 2 rfl) ?_
              refine q_callV (As := [.int (6 : Int32), .int a0]) (rest := []) hM hW.1 hR hC myX1_wrong (kAW (v_1_13 (List.mem_of_getElem? (i := 7) rfl)) rfl) (rfl : vwCl[1]? = some (RX1, TX1, 5)) rfl lb_78.1 (shO hW.2.1 lb_78) (a_X1_wrong _ _ cA ad g2434 (6 : Int32) a0 hW.2.1 hG) ⟨by decide, by decide⟩ rfl rfl hl.1 (Nat.le_of_ble_eq_true rfl) dX1_item_154 (fun v g2439 H locs hp hW1 => ?_)
              obtain ⟨r2438, rfl, hs1, hG, hf1, hr2438⟩ := hp
              have f2440 : fld g2439 78 2 = .int z2426 := (hf1.1 78 2 (by omega)).trans f2435
              have f2441 : fld g2439 75 2 = .int v2430 := (hf1.1 75 2 (by omega)).trans q2432
              have hW : WS ad cA (fun i k => (i = 78 ∧ (k = 2 ∨ k = 3)) ∨ (i = 75 ∧ (k = 2)) ∨ i = 76 ∨ i = 77) g0 K g2439 H locs := ⟨hW1, hs1, hW.2.2.tr hf1 (fun i k h => (Or.inl (by omega)))⟩
              refine q_if_eq (tgt := 164) hM dX1_item_157 (by decide) (rfl : r2438.toInt = r2438.toInt) (fun h157 => ?_) (fun h157 => ?_)
              · refine q_iconst (v := (0 : Int32)) hM dX1_item_164 (by decide) ?_
                exact hE _ _ _ _ _ _ hW.1 nz_0 ⟨z2426, v2430, _, rfl, hW.2.1, hG, hW.2.2, f2440, f2441, (by have := kc_0; omega), (by have := kc_0; omega), (by have := kc_0; omega), (by have := kc_0; omega)⟩ dX1_item_165
              · refine q_iconst (v := (1 : Int32)) hM dX1_item_160 (by decide) ?_
                refine q_goto (tgt := 165) hM dX1_item_161 (by decide) ?_
                exact hE _ _ _ _ _ _ hW.1 nz_1 ⟨z2426, v2430, _, rfl, hW.2.1, hG, hW.2.2, f2440, f2441, (by have := kc_1; omega), (by have := kc_1; omega), (by have := kc_1; omega), (by have := kc_1; omega)⟩ dX1_item_165
          · refine q_aload_n hM dX1_item_104 (lv_at hl 3 rfl) ?_
            refine q_iconst (v := (1 : Int32)) hM dX1_item_105 (by decide) ?_
            refine q_aload_n hM dX1_item_106 (lv_at hl 3 rfl) ?_
            refine w_get (v := .int v2413) hM hW FG_X1_23 lb_78 q2416 dX1_item_107 ?_
            have bv2413 := hG.f q2416 rF_78_2 (by decide)
            refine q_callV (As := [.int (1 : Int32), .int v2413]) (rest := []) hM hW.1 hR hC myX1_wrong (kAW (v_1_13 (List.mem_of_getElem? (i := 7) rfl)) rfl) (rfl : vwCl[1]? = some (RX1, TX1, 5)) rfl lb_78.1 (shO hW.2.1 lb_78) (a_X1_wrong _ _ cA ad g2421 (1 : Int32) v2413 hW.2.1 hG) ⟨by decide, by decide⟩ rfl rfl hl.1 (Nat.le_of_ble_eq_true rfl) dX1_item_110 (fun v g2446 H locs hp hW1 => ?_)
            obtain ⟨r2445, rfl, hs1, hG, hf1, hr2445⟩ := hp
            have f2447 : fld g2446 78 2 = .int v2413 := (hf1.1 78 2 (by omega)).trans q2416
            have f2448 : fld g2446 75 2 = .int v2414 := (hf1.1 75 2 (by omega)).trans q2417
            have hW : WS ad cA (fun i k => (i = 78 ∧ (k = 2 ∨ k = 3)) ∨ (i = 75 ∧ (k = 2)) ∨ i = 76 ∨ i = 77) g0 K g2446 H locs := ⟨hW1, hs1, hW.2.2.tr hf1 (fun i k h => (Or.inl (by omega)))⟩
            exact hE _ _ _ _ _ _ hW.1 (nz_or (by omega)) ⟨v2413, v2414, _, rfl, hW.2.1, hG, hW.2.2, f2447, f2448, (by omega), (by omega), (by omega), (by omega)⟩ dX1_item_113
        · refine q_iconst (v := (0 : Int32)) hM dX1_item_93 (by decide) ?_
          exact hE _ _ _ _ _ _ hW.1 nz_0 ⟨v2413, v2414, _, rfl, hW.2.1, hG, hW.2.2, q2416, q2417, (by have := kc_0; omega), (by have := kc_0; omega), (by have := kc_0; omega), (by have := kc_0; omega)⟩ dX1_item_94
      · omega


set_option maxRecDepth 100000 in
set_option maxHeartbeats 4000000 in
theorem a_X1_steps_1 (l : Launch) (D : va_G) (cA : Nat → ClassId) (ad : Nat → Nat) (g0 : Nat → va_E) (op : Int32) (en : Int32) (a0 : Int32) (c0 : Int32)  (hSh : Shp ad cA g0) (hG : Rng g0) (h_en : fld g0 78 1 = .int en) (h_a0 : fld g0 78 2 = .int a0) (h_c0 : fld g0 75 2 = .int c0) (h_r4 : fld g0 78 4 = .ref (ad 75)) (ah0 : 0 ≤ a0.toInt) (ah1 : a0.toInt ≤ en.toInt) (ah2 : en.toInt ≤ 60) (ok : op.toInt = 1) : CT l NN ad cA D yX1_steps cX1_steps 3 (some FieldType.boolean) (6, 138) [.ref (ad 78), .int op] g0 (fun v g' => ∃ (a9 : Int32) (c9 : Int32) (r : Int32), v = some (.int r) ∧ Shp ad cA g' ∧ Rng g' ∧ FR (fun i k => (i = 78 ∧ (k = 2 ∨ k = 3)) ∨ (i = 75 ∧ (k = 2)) ∨ i = 76 ∨ i = 77) g0 g' ∧ fld g' 78 2 = .int a9 ∧ fld g' 75 2 = .int c9 ∧ (a0.toInt ≤ a9.toInt) ∧ (a9.toInt ≤ en.toInt) ∧ (c0.toInt ≤ c9.toInt) ∧ (r.toInt = 0 ∨ r.toInt = 1)) := by
  refine q_enterZ (by decide) (Nat.le_of_ble_eq_true rfl) (fun K H locs ls _ _ hM hW0 hR hC hE hl => ?_)
  have hl : lv_has ls 3 [(0, .ref (ad 78)), (1, .int op)] := hl
  have hW : WS ad cA (fun i k => (i = 78 ∧ (k = 2 ∨ k = 3)) ∨ (i = 75 ∧ (k = 2)) ∨ i = 76 ∨ i = 77) g0 K g0 H locs := ⟨hW0, hSh, FR.rf⟩
  have b_en := hG.f h_en rF_78_1 (by decide)
  have b_a0 := hG.f h_a0 rF_78_2 (by decide)
  have b_c0 := hG.f h_c0 rF_75_2 (by decide)
  have f2451 : fld g0 78 2 = .int a0 := h_a0
  have f2452 : fld g0 75 2 = .int c0 := h_c0
  refine q_iconst (v := (0 : Int32)) hM dX1_steps_0 (by decide) ?_
  refine q_istore_n (lv9 := [(2, .int (0 : Int32)), (0, .ref (ad 78)), (1, .int op)]) hM dX1_steps_1 hl (by decide) rfl (fun ls hl => ?_)
  have L2 : ∀ (fu2 : Nat) (w2_2 : Int32) (aa : Int32) (cc : Int32) (g9 : Nat → va_E) (H : Heap) (locs : List Loc) (ls : Array Slot), (60 - w2_2.toInt).toNat < fu2 → (Rng g9) → (0 ≤ w2_2.toInt) → (w2_2.toInt ≤ 60) → (a0.toInt ≤ aa.toInt) → (aa.toInt ≤ en.toInt) → (c0.toInt ≤ cc.toInt) → (fld g9 78 2 = .int aa) → (fld g9 75 2 = .int cc) → lv_has ls 3 [(0, .ref (ad 78)), (1, .int op), (2, .int w2_2)] → WS ad cA (fun i k => (i = 78 ∧ (k = 2 ∨ k = 3)) ∨ (i = 75 ∧ (k = 2)) ∨ i = 76 ∨ i = 77) g0 K g9 H locs → XX K 0 0 H locs 2 ls [] := by
    intro fu2
    induction fu2 with
    | zero => intro w2_2 aa cc g9 H locs ls h0; omega
    | succ fu2 ih2 =>
      intro w2_2 aa cc g9 H locs ls hm2 i2_0 i2_1 i2_2 i2_3 i2_4 i2_5 c2_78_2 c2_75_2 hl hW
      have hG := i2_0
      refine q_iload_n hM dX1_steps_2 (lv_at hl 2 rfl) ?_
      refine q_bipush (v := (60 : Int32)) hM dX1_steps_3 (by decide) ?_
      refine q_icmp_ge (tgt := 51) hM dX1_steps_5 (by decide) (rfl : w2_2.toInt = w2_2.toInt) (kc_60 : (60 : Int32).toInt = 60) (fun h5 => ?_) (fun h5 => ?_)
      · refine q_aload_n hM dX1_steps_51 (lv_at hl 0 rfl) ?_
        refine q_iconst (v := (1 : Int32)) hM dX1_steps_52 (by decide) ?_
        refine q_aload_n hM dX1_steps_53 (lv_at hl 0 rfl) ?_
        refine w_get (v := .int aa) hM hW FG_X1_23 lb_78 c2_78_2 dX1_steps_54 ?_
        have baa := hG.f c2_78_2 rF_78_2 (by decide)
        refine q_callV (As := [.int (1 : Int32), .int aa]) (rest := []) hM hW.1 hR hC myX1_wrong (kAW (v_1_13 (List.mem_of_getElem? (i := 7) rfl)) rfl) (rfl : vwCl[1]? = some (RX1, TX1, 5)) rfl lb_78.1 (shO hW.2.1 lb_78) (a_X1_wrong _ _ cA ad g9 (1 : Int32) aa hW.2.1 hG) ⟨by decide, by decide⟩ rfl rfl hl.1 (Nat.le_of_ble_eq_true rfl) dX1_steps_57 (fun v g2456 H locs hp hW1 => ?_)
        obtain ⟨r2455, rfl, hs1, hG, hf1, hr2455⟩ := hp
        have f2457 : fld g2456 78 2 = .int aa := (hf1.1 78 2 (by omega)).trans c2_78_2
        have f2458 : fld g2456 75 2 = .int cc := (hf1.1 75 2 (by omega)).trans c2_75_2
        have hW : WS ad cA (fun i k => (i = 78 ∧ (k = 2 ∨ k = 3)) ∨ (i = 75 ∧ (k = 2)) ∨ i = 76 ∨ i = 77) g0 K g2456 H locs := ⟨hW1, hs1, hW.2.2.tr hf1 (fun i k h => (Or.inl (by omega)))⟩
        exact hE _ _ _ _ _ _ hW.1 (nz_or (by omega)) ⟨aa, cc, _, rfl, hW.2.1, hG, hW.2.2, f2457, f2458, (by omega), (by omega), (by omega), (by omega)⟩ dX1_steps_60
      · refine q_aload_n hM dX1_steps_8 (lv_at hl 0 rfl) ?_
        refine q_iload_n hM dX1_steps_9 (lv_at hl 1 rfl) ?_
        refine q_callV (As := [.int op]) (rest := []) hM hW.1 hR hC myX1_item (kAW (v_1_12 (List.mem_of_getElem? (i := 14) rfl)) rfl) (rfl : vwCl[1]? = some (RX1, TX1, 5)) rfl lb_78.1 (shO hW.2.1 lb_78) (a_X1_item_1 _ _ cA ad g9 op en aa cc hW.2.1 hG ((hW.2.2.1 78 1 (by omega)).trans h_en) c2_78_2 c2_75_2 ((hW.2.2.1 78 4 (by omega)).trans h_r4) (by  omega) (by  omega) (by  omega) (by  omega)) ⟨by decide, by decide⟩ rfl rfl hl.1 (Nat.le_of_ble_eq_true rfl) dX1_steps_10 (fun v g2468 H locs hp hW1 => ?_)
        obtain ⟨v2460, v2461, r2462, rfl, hs1, hG, hf1, q2463, q2464, e2465, e2466, e2467, hr2462⟩ := hp
        have hW : WS ad cA (fun i k => (i = 78 ∧ (k = 2 ∨ k = 3)) ∨ (i = 75 ∧ (k = 2)) ∨ i = 76 ∨ i = 77) g0 K g2468 H locs := ⟨hW1, hs1, hW.2.2.tr hf1 (fun i k h => h.elim (fun h => (Or.inl h)) (fun h => h.elim (fun h => (Or.inr (Or.inl h))) (fun h => h.elim (fun h => (Or.inr (Or.inr (Or.inl h)))) (fun h => (Or.inr (Or.inr (Or.inr h)))))))⟩
        refine q_if_ne (tgt := 18) hM dX1_steps_13 (by decide) (rfl : r2462.toInt = r2462.toInt) (fun h13 => ?_) (fun h13 => ?_)
        · refine q_aload_n hM dX1_steps_18 (lv_at hl 0 rfl) ?_
          refine w_get (v := .int v2460) hM hW FG_X1_23 lb_78 q2463 dX1_steps_19 ?_
          have bv2460 := hG.f q2463 rF_78_2 (by decide)
          refine q_aload_n hM dX1_steps_22 (lv_at hl 0 rfl) ?_
          refine w_get (v := .int en) hM hW FG_X1_19 lb_78 ((hW.2.2.1 78 1 (by omega)).trans h_en) dX1_steps_23 ?_
          refine q_icmp_ge (tgt := 43) hM dX1_steps_26 (by decide) (rfl : v2460.toInt = v2460.toInt) (rfl : en.toInt = en.toInt) (fun h26 => ?_) (fun h26 => ?_)
          · refine q_iconst (v := (1 : Int32)) hM dX1_steps_43 (by decide) ?_
            exact hE _ _ _ _ _ _ hW.1 nz_1 ⟨v2460, v2461, _, rfl, hW.2.1, hG, hW.2.2, q2463, q2464, (by have := kc_1; omega), (by have := kc_1; omega), (by have := kc_1; omega), (by have := kc_1; omega)⟩ dX1_steps_44
          · refine q_aload_n hM dX1_steps_29 (lv_at hl 0 rfl) ?_
            refine w_get (v := .ref (ad 2)) hM hW FG_X1_9 lb_78 (rf_78_0 hW.2.1) dX1_steps_30 ?_
            refine q_aload_n hM dX1_steps_33 (lv_at hl 0 rfl) ?_
            refine w_get (v := .int v2460) hM hW FG_X1_23 lb_78 q2463 dX1_steps_34 ?_
            have bv2460 := hG.f q2463 rF_78_2 (by decide)
            refine w_iald hM hW lb_2 (i_in (by omega) (by omega)) dX1_steps_37 ?_
            refine q_top (fun y2472 hy2472 => ?_)
            have by2472 := hG.a hy2472 rA_2
            have cy2472 := congrArg Int32.toInt hy2472
            refine q_bipush (v := (41 : Int32)) hM dX1_steps_38 (by decide) ?_
            refine q_icmp_ne (tgt := 45) hM dX1_steps_40 (by decide) (rfl : y2472.toInt = y2472.toInt) (kc_41 : (41 : Int32).toInt = 41) (fun h40 => ?_) (fun h40 => ?_)
            · refine q_iinc (lv9 := fun z2474 => [(2, .int z2474), (0, .ref (ad 78)), (1, .int op)]) hM dX1_steps_45 hl (kq := 2) rfl (by decide) (fun _ => rfl) (fun z2474 ls hz2474 hl => ?_)
              first | have tz2474 := i_addT hz2474 (rfl : w2_2.toInt = w2_2.toInt) (kc_1 : (Int32.ofInt 1).toInt = 1) (by omega) (by omega) | skip
              refine q_goto (tgt := 2) hM dX1_steps_48 (by decide) ?_
              exact ih2 z2474 v2460 v2461 _ _ _ _ (by omega) hG (by omega) (by omega) (by omega) (by omega) (by omega) q2463 q2464 (lv_sub hl [1, 2, 0] rfl) hW
            · refine q_iconst (v := (1 : Int32)) hM dX1_steps_43 (by decide) ?_
              exact hE _ _ _ _ _ _ hW.1 nz_1 ⟨v2460, v2461, _, rfl, hW.2.1, hG, hW.2.2, q2463, q2464, (by have := kc_1; omega), (by have := kc_1; omega), (by have := kc_1; omega), (by have := kc_1; omega)⟩ dX1_steps_44
        · refine q_iconst (v := (0 : Int32)) hM dX1_steps_16 (by decide) ?_
          exact hE _ _ _ _ _ _ hW.1 nz_0 ⟨v2460, v2461, _, rfl, hW.2.1, hG, hW.2.2, q2463, q2464, (by have := kc_0; omega), (by have := kc_0; omega), (by have := kc_0; omega), (by have := kc_0; omega)⟩ dX1_steps_17
  have := kc_0
  exact L2 _ (0 : Int32) a0 c0 _ _ _ _ (Nat.lt_succ_self _) hG (by omega) (by omega) (by omega) (by omega) (by omega) f2451 f2452 (lv_sub hl [1, 2, 0] rfl) hW


set_option maxRecDepth 100000 in
set_option maxHeartbeats 4000000 in
theorem a_X1_item_0 (l : Launch) (D : va_G) (cA : Nat → ClassId) (ad : Nat → Nat) (g0 : Nat → va_E) (op : Int32) (en : Int32) (a0 : Int32) (c0 : Int32)  (hSh : Shp ad cA g0) (hG : Rng g0) (h_en : fld g0 78 1 = .int en) (h_a0 : fld g0 78 2 = .int a0) (h_c0 : fld g0 75 2 = .int c0) (h_r4 : fld g0 78 4 = .ref (ad 75)) (ah0 : 0 ≤ a0.toInt) (ah1 : a0.toInt ≤ en.toInt) (ah2 : en.toInt ≤ 60) (ok : op.toInt = 0) : CT l NN ad cA D yX1_item cX1_item 5 (some FieldType.boolean) (7, 160) [.ref (ad 78), .int op] g0 (fun v g' => ∃ (a9 : Int32) (c9 : Int32) (r : Int32), v = some (.int r) ∧ Shp ad cA g' ∧ Rng g' ∧ FR (fun i k => (i = 78 ∧ (k = 2 ∨ k = 3)) ∨ (i = 75 ∧ (k = 2)) ∨ i = 76 ∨ i = 77) g0 g' ∧ fld g' 78 2 = .int a9 ∧ fld g' 75 2 = .int c9 ∧ (a0.toInt ≤ a9.toInt) ∧ (a9.toInt ≤ en.toInt) ∧ (c0.toInt ≤ c9.toInt) ∧ (r.toInt = 0 ∨ r.toInt = 1)) := by
  refine q_enterZ (by decide) (Nat.le_of_ble_eq_true rfl) (fun K H locs ls _ _ hM hW0 hR hC hE hl => ?_)
  have hl : lv_has ls 5 [(0, .ref (ad 78)), (1, .int op)] := hl
  have hW : WS ad cA (fun i k => (i = 78 ∧ (k = 2 ∨ k = 3)) ∨ (i = 75 ∧ (k = 2)) ∨ i = 76 ∨ i = 77) g0 K g0 H locs := ⟨hW0, hSh, FR.rf⟩
  have b_en := hG.f h_en rF_78_1 (by decide)
  have b_a0 := hG.f h_a0 rF_78_2 (by decide)
  have b_c0 := hG.f h_c0 rF_75_2 (by decide)
  have f2477 : fld g0 78 2 = .int a0 := h_a0
  have f2478 : fld g0 75 2 = .int c0 := h_c0
  refine q_aload_n hM dX1_item_0 (lv_at hl 0 rfl) ?_
  refine w_get (v := .int a0) hM hW FG_X1_23 lb_78 f2477 dX1_item_1 ?_
  have ba0 := hG.f f2477 rF_78_2 (by decide)
  refine q_istore_n (lv9 := [(2, .int a0), (0, .ref (ad 78)), (1, .int op)]) hM dX1_item_4 hl (by decide) rfl (fun ls hl => ?_)
  refine q_aload_n hM dX1_item_5 (lv_at hl 1 rfl) ?_
  refine w_get (v := .ref (ad 75)) hM hW FG_X1_15 lb_78 ((hW.2.2.1 78 4 (by omega)).trans h_r4) dX1_item_6 ?_
  refine w_get (v := .int c0) hM hW FG_X1_35 lb_75 f2478 dX1_item_9 ?_
  have bc0 := hG.f f2478 rF_75_2 (by decide)
  refine q_istore_n (lv9 := [(3, .int c0), (2, .int a0), (0, .ref (ad 78)), (1, .int op)]) hM dX1_item_12 hl (by decide) rfl (fun ls hl => ?_)
  refine q_iconst (v := (1 : Int32)) hM dX1_item_13 (by decide) ?_
  refine q_istore (lv9 := [(4, .int (1 : Int32)), (3, .int c0), (2, .int a0), (0, .ref (ad 78)), (1, .int op)]) hM dX1_item_14 hl (by decide) rfl (fun ls hl => ?_)
  refine q_aload_n hM dX1_item_16 (lv_at hl 3 rfl) ?_
  refine q_callV (As := []) (rest := []) hM hW.1 hR hC myX1_sign (kAW (v_1_13 (List.mem_of_getElem? (i := 2) rfl)) rfl) (rfl : vwCl[1]? = some (RX1, TX1, 5)) rfl lb_78.1 (shO hW.2.1 lb_78) (a_X1_sign _ _ cA ad g0 en a0 hW.2.1 hG ((hW.2.2.1 78 1 (by omega)).trans h_en) f2477 (by  omega) (by  omega) (by  omega)) ⟨by decide, by decide⟩ rfl rfl hl.1 (Nat.le_of_ble_eq_true rfl) dX1_item_17 (fun v g2480 H locs hp hW1 => ?_)
  obtain ⟨r2479, rfl, hr2479, rfl⟩ := hp
  have hW : WS ad cA (fun i k => (i = 78 ∧ (k = 2 ∨ k = 3)) ∨ (i = 75 ∧ (k = 2)) ∨ i = 76 ∨ i = 77) g0 K g0 H locs := ⟨hW1, hW.2.1, hW.2.2⟩
  refine q_bipush (v := (50 : Int32)) hM dX1_item_20 (by decide) ?_
  refine q_bipush (v := (57 : Int32)) hM dX1_item_22 (by decide) ?_
  refine q_callN (host := "ForgetSchool") (As := [.int r2479, .int (50 : Int32), .int (57 : Int32)]) (rest := []) hM hW.1 hR hC myX11_within (List.mem_of_getElem? (i := 1) rfl) (c_X11_within _ _ cA ad g0 r2479 (50 : Int32) (57 : Int32) hW.2.1) ⟨by decide, by decide⟩ rfl rfl hl.1 (Nat.le_of_ble_eq_true rfl) dX1_item_24 (fun v g2482 H locs hp hW1 => ?_)
  obtain ⟨r2481, rfl, hr2481, rfl⟩ := hp
  have hW : WS ad cA (fun i k => (i = 78 ∧ (k = 2 ∨ k = 3)) ∨ (i = 75 ∧ (k = 2)) ∨ i = 76 ∨ i = 77) g0 K g0 H locs := ⟨hW1, hW.2.1, hW.2.2⟩
  have := kc_50
  have := kc_57
  refine q_if_eq (tgt := 49) hM dX1_item_27 (by decide) (rfl : r2481.toInt = r2481.toInt) (fun h27 => ?_) (fun h27 => ?_)
  · refine q_aload_n hM dX1_item_49 (lv_at hl 3 rfl) ?_
    refine q_callV (As := []) (rest := []) hM hW.1 hR hC myX1_sign (kAW (v_1_13 (List.mem_of_getElem? (i := 2) rfl)) rfl) (rfl : vwCl[1]? = some (RX1, TX1, 5)) rfl lb_78.1 (shO hW.2.1 lb_78) (a_X1_sign _ _ cA ad g0 en a0 hW.2.1 hG ((hW.2.2.1 78 1 (by omega)).trans h_en) f2477 (by  omega) (by  omega) (by  omega)) ⟨by decide, by decide⟩ rfl rfl hl.1 (Nat.le_of_ble_eq_true rfl) dX1_item_50 (fun v g2485 H locs hp hW1 => ?_)
    obtain ⟨r2484, rfl, hr2484, rfl⟩ := hp
    have hW : WS ad cA (fun i k => (i = 78 ∧ (k = 2 ∨ k = 3)) ∨ (i = 75 ∧ (k = 2)) ∨ i = 76 ∨ i = 77) g0 K g0 H locs := ⟨hW1, hW.2.1, hW.2.2⟩
    refine q_bipush (v := (40 : Int32)) hM dX1_item_53 (by decide) ?_
    refine q_icmp_ne (tgt := 127) hM dX1_item_55 (by decide) (rfl : r2484.toInt = r2484.toInt) (kc_40 : (40 : Int32).toInt = 40) (fun h55 => ?_) (fun h55 => ?_)
    · refine q_aload_n hM dX1_item_127 (lv_at hl 3 rfl) ?_
      refine q_iload_n hM dX1_item_128 (lv_at hl 2 rfl) ?_
      refine q_callV (As := [.int a0]) (rest := []) hM hW.1 hR hC myX1_step (kAW (v_1_13 (List.mem_of_getElem? (i := 11) rfl)) rfl) (rfl : vwCl[1]? = some (RX1, TX1, 5)) rfl lb_78.1 (shO hW.2.1 lb_78) (a_X1_step _ _ cA ad g0 a0 en a0 c0 hW.2.1 hG ((hW.2.2.1 78 1 (by omega)).trans h_en) f2477 f2478 ((hW.2.2.1 78 4 (by omega)).trans h_r4) (by  omega) (by  omega) (by  omega)) ⟨by decide, by decide⟩ rfl rfl hl.1 (Nat.le_of_ble_eq_true rfl) dX1_item_129 (fun v g2495 H locs hp hW1 => ?_)
      obtain ⟨v2487, v2488, r2489, rfl, hs1, hG, hf1, q2490, q2491, e2492, e2493, e2494, hr2489⟩ := hp
      have hW : WS ad cA (fun i k => (i = 78 ∧ (k = 2 ∨ k = 3)) ∨ (i = 75 ∧ (k = 2)) ∨ i = 76 ∨ i = 77) g0 K g2495 H locs := ⟨hW1, hs1, hW.2.2.tr hf1 (fun i k h => h.elim (fun h => (Or.inl h)) (fun h => h.elim (fun h => (Or.inr (Or.inl h))) (fun h => h.elim (fun h => (Or.inr (Or.inr (Or.inl h)))) (fun h => (Or.inr (Or.inr (Or.inr h)))))))⟩
      refine q_if_ne (tgt := 137) hM dX1_item_132 (by decide) (rfl : r2489.toInt = r2489.toInt) (fun h132 => ?_) (fun h132 => ?_)
      · refine q_aload_n hM dX1_item_137 (lv_at hl 3 rfl) ?_
        refine w_get (v := .ref (ad 75)) hM hW FG_X1_15 lb_78 ((hW.2.2.1 78 4 (by omega)).trans h_r4) dX1_item_138 ?_
        refine q_iload_n hM dX1_item_141 (lv_at hl 1 rfl) ?_
        refine q_iload hM dX1_item_142 (lv_at hl 0 rfl) ?_
        refine q_callV (As := [.int c0, .int (1 : Int32)]) (rest := []) hM hW.1 hR hC myX0_multiply (kAW (v_1_14 (List.mem_of_getElem? (i := 7) rfl)) rfl) (rfl : vwCl[0]? = some (RX0, TX0, 3)) rfl lb_75.1 (shO hW.2.1 lb_75) (a_X0_multiply _ _ cA ad g2495 c0 (1 : Int32) v2488 hW.2.1 hG q2491 (by have := kc_1; omega) (by have := kc_1; omega) (by have := kc_1; omega) (by have := kc_1; omega)) ⟨by decide, by decide⟩ rfl rfl hl.1 (Nat.le_of_ble_eq_true rfl) dX1_item_144 (fun v g2501 H locs hp hW1 => ?_)
        obtain ⟨v2497, r2498, rfl, hs1, hG, hf1, q2499, e2500, hr2498⟩ := hp
        have f2502 : fld g2501 78 2 = .int v2487 := (hf1.1 78 2 (by omega)).trans q2490
        have hW : WS ad cA (fun i k => (i = 78 ∧ (k = 2 ∨ k = 3)) ∨ (i = 75 ∧ (k = 2)) ∨ i = 76 ∨ i = 77) g0 K g2501 H locs := ⟨hW1, hs1, hW.2.2.tr hf1 (fun i k h => h.elim (fun h => (Or.inr (Or.inl h))) (fun h => h.elim (fun h => (Or.inr (Or.inr (Or.inl h)))) (fun h => (Or.inr (Or.inr (Or.inr h))))))⟩
        refine q_if_ne (tgt := 160) hM dX1_item_147 (by decide) (rfl : r2498.toInt = r2498.toInt) (fun h147 => ?_) (fun h147 => ?_)
        · refine q_iconst (v := (1 : Int32)) hM dX1_item_160 (by decide) ?_
          refine q_goto (tgt := 165) hM dX1_item_161 (by decide) ?_
          exact hE _ _ _ _ _ _ hW.1 nz_1 ⟨v2487, v2497, _, rfl, hW.2.1, hG, hW.2.2, f2502, q2499, (by have := kc_1; omega), (by have := kc_1; omega), (by have := kc_1; omega), (by have := kc_1; omega)⟩ dX1_item_165
        · refine q_aload_n hM dX1_item_150 (lv_at hl 3 rfl) ?_
          refine q_bipush (v := (6 : Int32)) hM dX1_item_151 (by decide) ?_
          refine q_iload_n hM dX1_item_153 (lv_at hl 2 rfl) ?_
          refine q_callV (As := [.int (6 : Int32), .int a0]) (rest := []) hM hW.1 hR hC myX1_wrong (kAW (v_1_13 (List.mem_of_getElem? (i := 7) rfl)) rfl) (rfl : vwCl[1]? = some (RX1, TX1, 5)) rfl lb_78.1 (shO hW.2.1 lb_78) (a_X1_wrong _ _ cA ad g2501 (6 : Int32) a0 hW.2.1 hG) ⟨by decide, by decide⟩ rfl rfl hl.1 (Nat.le_of_ble_eq_true rfl) dX1_item_154 (fun v g2506 H locs hp hW1 => ?_)
          obtain ⟨r2505, rfl, hs1, hG, hf1, hr2505⟩ := hp
          have f2507 : fld g2506 78 2 = .int v2487 := (hf1.1 78 2 (by omega)).trans f2502
          have f2508 : fld g2506 75 2 = .int v2497 := (hf1.1 75 2 (by omega)).trans q2499
          have hW : WS ad cA (fun i k => (i = 78 ∧ (k = 2 ∨ k = 3)) ∨ (i = 75 ∧ (k = 2)) ∨ i = 76 ∨ i = 77) g0 K g2506 H locs := ⟨hW1, hs1, hW.2.2.tr hf1 (fun i k h => (Or.inl (by omega)))⟩
          refine q_if_eq (tgt := 164) hM dX1_item_157 (by decide) (rfl : r2505.toInt = r2505.toInt) (fun h157 => ?_) (fun h157 => ?_)
          · refine q_iconst (v := (0 : Int32)) hM dX1_item_164 (by decide) ?_
            exact hE _ _ _ _ _ _ hW.1 nz_0 ⟨v2487, v2497, _, rfl, hW.2.1, hG, hW.2.2, f2507, f2508, (by have := kc_0; omega), (by have := kc_0; omega), (by have := kc_0; omega), (by have := kc_0; omega)⟩ dX1_item_165
          · refine q_iconst (v := (1 : Int32)) hM dX1_item_160 (by decide) ?_
            refine q_goto (tgt := 165) hM dX1_item_161 (by decide) ?_
            exact hE _ _ _ _ _ _ hW.1 nz_1 ⟨v2487, v2497, _, rfl, hW.2.1, hG, hW.2.2, f2507, f2508, (by have := kc_1; omega), (by have := kc_1; omega), (by have := kc_1; omega), (by have := kc_1; omega)⟩ dX1_item_165
      · refine q_iconst (v := (0 : Int32)) hM dX1_item_135 (by decide) ?_
        exact hE _ _ _ _ _ _ hW.1 nz_0 ⟨v2487, v2488, _, rfl, hW.2.1, hG, hW.2.2, q2490, q2491, (by have := kc_0; omega), (by have := kc_0; omega), (by have := kc_0; omega), (by have := kc_0; omega)⟩ dX1_item_136
    · refine q_iload_n hM dX1_item_58 (lv_at hl 4 rfl) ?_
      refine q_iconst (v := (2 : Int32)) hM dX1_item_59 (by decide) ?_
      refine q_icmp_lt (tgt := 73) hM dX1_item_60 (by decide) (rfl : op.toInt = op.toInt) (kc_2 : (2 : Int32).toInt = 2) (fun h60 => ?_) (fun h60 => ?_)
      · refine q_aload_n hM dX1_item_73 (lv_at hl 3 rfl) ?_
        refine q_dup hM dX1_item_74 rfl ?_
        refine w_get (v := .int a0) hM hW FG_X1_23 lb_78 f2477 dX1_item_75 ?_
        have ba0 := hG.f f2477 rF_78_2 (by decide)
        refine q_iconst (v := (1 : Int32)) hM dX1_item_78 (by decide) ?_
        refine q_iadd hM dX1_item_79 (fun z2514 hz2514 => ?_)
        first | have tz2514 := i_addT hz2514 (rfl : a0.toInt = a0.toInt) (kc_1 : (1 : Int32).toInt = 1) (by omega) (by omega) | skip
        refine w_put hM hW FP_X1_23 lb_78 (by omega) (Or.inl ⟨_, rfl⟩) rfl rfl dX1_item_80 (fun g2515 H locs hW e1 e2 => ?_)
        have f2516 : fld g2515 75 2 = .int c0 := (e2.1 75 2 (by unfold Only; omega)).trans f2478
        have f2517 : fld g2515 78 2 = .int z2514 := e1
        have hG := hG.put e1 e2 rF_78_2 (by decide) (by have := i_rng z2514; omega) (by have := i_rng z2514; omega)
        refine q_aload_n hM dX1_item_83 (lv_at hl 3 rfl) ?_
        refine q_iload_n hM dX1_item_84 (lv_at hl 4 rfl) ?_
        refine q_iconst (v := (1 : Int32)) hM dX1_item_85 (by decide) ?_
        refine q_iadd hM dX1_item_86 (fun z2518 hz2518 => ?_)
        first | have tz2518 := i_addT hz2518 (rfl : op.toInt = op.toInt) (kc_1 : (1 : Int32).toInt = 1) (by omega) (by omega) | skip
        refine q_callV (As := [.int z2518]) (rest := []) hM hW.1 hR hC myX1_steps (kAW (v_1_12 (List.mem_of_getElem? (i := 10) rfl)) rfl) (rfl : vwCl[1]? = some (RX1, TX1, 5)) rfl lb_78.1 (shO hW.2.1 lb_78) (a_X1_steps_1 _ _ cA ad g2515 z2518 en z2514 c0 hW.2.1 hG ((hW.2.2.1 78 1 (by omega)).trans h_en) f2517 f2516 ((hW.2.2.1 78 4 (by omega)).trans h_r4) (by  omega) (by  omega) (by  omega) (by  omega)) ⟨by decide, by decide⟩ rfl rfl hl.1 (Nat.le_of_ble_eq_true rfl) dX1_item_87 (fun v g2527 H locs hp hW1 => ?_)
        obtain ⟨v2519, v2520, r2521, rfl, hs1, hG, hf1, q2522, q2523, e2524, e2525, e2526, hr2521⟩ := hp
        have hW : WS ad cA (fun i k => (i = 78 ∧ (k = 2 ∨ k = 3)) ∨ (i = 75 ∧ (k = 2)) ∨ i = 76 ∨ i = 77) g0 K g2527 H locs := ⟨hW1, hs1, hW.2.2.tr hf1 (fun i k h => h.elim (fun h => (Or.inl h)) (fun h => h.elim (fun h => (Or.inr (Or.inl h))) (fun h => h.elim (fun h => (Or.inr (Or.inr (Or.inl h)))) (fun h => (Or.inr (Or.inr (Or.inr h)))))))⟩
        refine q_if_ne (tgt := 95) hM dX1_item_90 (by decide) (rfl : r2521.toInt = r2521.toInt) (fun h90 => ?_) (fun h90 => ?_)
        · refine q_aload_n hM dX1_item_95 (lv_at hl 3 rfl) ?_
          refine q_callV (As := []) (rest := []) hM hW.1 hR hC myX1_sign (kAW (v_1_13 (List.mem_of_getElem? (i := 2) rfl)) rfl) (rfl : vwCl[1]? = some (RX1, TX1, 5)) rfl lb_78.1 (shO hW.2.1 lb_78) (a_X1_sign _ _ cA ad g2527 en v2519 hW.2.1 hG ((hW.2.2.1 78 1 (by omega)).trans h_en) q2522 (by  omega) (by  omega) (by  omega)) ⟨by decide, by decide⟩ rfl rfl hl.1 (Nat.le_of_ble_eq_true rfl) dX1_item_96 (fun v g2530 H locs hp hW1 => ?_)
          obtain ⟨r2529, rfl, hr2529, rfl⟩ := hp
          have hW : WS ad cA (fun i k => (i = 78 ∧ (k = 2 ∨ k = 3)) ∨ (i = 75 ∧ (k = 2)) ∨ i = 76 ∨ i = 77) g0 K g2527 H locs := ⟨hW1, hW.2.1, hW.2.2⟩
          refine q_bipush (v := (41 : Int32)) hM dX1_item_99 (by decide) ?_
          refine q_icmp_eq (tgt := 114) hM dX1_item_101 (by decide) (rfl : r2529.toInt = r2529.toInt) (kc_41 : (41 : Int32).toInt = 41) (fun h101 => ?_) (fun h101 => ?_)
          · refine q_aload_n hM dX1_item_114 (lv_at hl 3 rfl) ?_
            refine q_dup hM dX1_item_115 rfl ?_
            refine w_get (v := .int v2519) hM hW FG_X1_23 lb_78 q2522 dX1_item_116 ?_
            have bv2519 := hG.f q2522 rF_78_2 (by decide)
            refine q_iconst (v := (1 : Int32)) hM dX1_item_119 (by decide) ?_
            refine q_iadd hM dX1_item_120 (fun z2532 hz2532 => ?_)
            first | have tz2532 := i_addT hz2532 (rfl : v2519.toInt = v2519.toInt) (kc_1 : (1 : Int32).toInt = 1) (by omega) (by omega) | skip
            refine w_put hM hW FP_X1_23 lb_78 (by omega) (Or.inl ⟨_, rfl⟩) rfl rfl dX1_item_121 (fun g2533 H locs hW e1 e2 => ?_)
            have f2534 : fld g2533 75 2 = .int v2520 := (e2.1 75 2 (by unfold Only; omega)).trans q2523
            have f2535 : fld g2533 78 2 = .int z2532 := e1
            have hG := hG.put e1 e2 rF_78_2 (by decide) (by have := i_rng z2532; omega) (by have := i_rng z2532; omega)
            refine q_goto (tgt := 137) hM dX1_item_124 (by decide) ?_
            refine q_aload_n hM dX1_item_137 (lv_at hl 3 rfl) ?_
            refine w_get (v := .ref (ad 75)) hM hW FG_X1_15 lb_78 ((hW.2.2.1 78 4 (by omega)).trans h_r4) dX1_item_138 ?_
            refine q_iload_n hM dX1_item_141 (lv_at hl 1 rfl) ?_
            refine q_iload hM dX1_item_142 (lv_at hl 0 rfl) ?_
            refine q_callV (As := [.int c0, .int (1 : Int32)]) (rest := []) hM hW.1 hR hC myX0_multiply (kAW (v_1_14 (List.mem_of_getElem? (i := 7) rfl)) rfl) (rfl : vwCl[0]? = some (RX0, TX0, 3)) rfl lb_75.1 (shO hW.2.1 lb_75) (a_X0_multiply _ _ cA ad g2533 c0 (1 : Int32) v2520 hW.2.1 hG f2534 (by have := kc_1; omega) (by have := kc_1; omega) (by have := kc_1; omega) (by have := kc_1; omega)) ⟨by decide, by decide⟩ rfl rfl hl.1 (Nat.le_of_ble_eq_true rfl) dX1_item_144 (fun v g2540 H locs hp hW1 => ?_)
            obtain ⟨v2536, r2537, rfl, hs1, hG, hf1, q2538, e2539, hr2537⟩ := hp
            have f2541 : fld g2540 78 2 = .int z2532 := (hf1.1 78 2 (by omega)).trans f2535
            have hW : WS ad cA (fun i k => (i = 78 ∧ (k = 2 ∨ k = 3)) ∨ (i = 75 ∧ (k = 2)) ∨ i = 76 ∨ i = 77) g0 K g2540 H locs := ⟨hW1, hs1, hW.2.2.tr hf1 (fun i k h => h.elim (fun h => (Or.inr (Or.inl h))) (fun h => h.elim (fun h => (Or.inr (Or.inr (Or.inl h)))) (fun h => (Or.inr (Or.inr (Or.inr h))))))⟩
            refine q_if_ne (tgt := 160) hM dX1_item_147 (by decide) (rfl : r2537.toInt = r2537.toInt) (fun h147 => ?_) (fun h147 => ?_)
            · refine q_iconst (v := (1 : Int32)) hM dX1_item_160 (by decide) ?_
              refine q_goto (tgt := 165) hM dX1_item_161 (by decide) ?_
              exact hE _ _ _ _ _ _ hW.1 nz_1 ⟨z2532, v2536, _, rfl, hW.2.1, hG, hW.2.2, f2541, q2538, (by have := kc_1; omega), (by have := kc_1; omega), (by have := kc_1; omega), (by have := kc_1; omega)⟩ dX1_item_165
            · refine q_aload_n hM dX1_item_150 (lv_at hl 3 rfl) ?_
              refine q_bipush (v := (6 : Int32)) hM dX1_item_151 (by decide) ?_
              refine q_iload_n hM dX1_item_153 (lv_at hl 2 rfl) ?_
              refine q_callV (As := [.int (6 : Int32), .int a0]) (rest := []) hM hW.1 hR hC myX1_wrong (kAW (v_1_13 (List.mem_of_getElem? (i := 7) rfl)) rfl) (rfl : vwCl[1]? = some (RX1, TX1, 5)) rfl lb_78.1 (shO hW.2.1 lb_78) (a_X1_wrong _ _ cA ad g2540 (6 : Int32) a0 hW.2.1 hG) ⟨by decide, by decide⟩ rfl rfl hl.1 (Nat.le_of_ble_eq_true rfl) dX1_item_154 (fun v g2545 H locs hp hW1 => ?_)
              obtain ⟨r2544, rfl, hs1, hG, hf1, hr2544⟩ := hp
              have f2546 : fld g2545 78 2 = .int z2532 := (hf1.1 78 2 (by omega)).trans f2541
              have f2547 : fld g2545 75 2 = .int v2536 := (hf1.1 75 2 (by omega)).trans q2538
              have hW : WS ad cA (fun i k => (i = 78 ∧ (k = 2 ∨ k = 3)) ∨ (i = 75 ∧ (k = 2)) ∨ i = 76 ∨ i = 77) g0 K g2545 H locs := ⟨hW1, hs1, hW.2.2.tr hf1 (fun i k h => (Or.inl (by omega)))⟩
              refine q_if_eq (tgt := 164) hM dX1_item_157 (by decide) (rfl : r2544.toInt = r2544.toInt) (fun h157 => ?_) (fun h157 => ?_)
              · refine q_iconst (v := (0 : Int32)) hM dX1_item_164 (by decide) ?_
                exact hE _ _ _ _ _ _ hW.1 nz_0 ⟨z2532, v2536, _, rfl, hW.2.1, hG, hW.2.2, f2546, f2547, (by have := kc_0; omega), (by have := kc_0; omega), (by have := kc_0; omega), (by have := kc_0; omega)⟩ dX1_item_165
              · refine q_iconst (v := (1 : Int32)) hM dX1_item_160 (by decide) ?_
                refine q_goto (tgt := 165) hM dX1_item_161 (by decide) ?_
                exact hE _ _ _ _ _ _ hW.1 nz_1 ⟨z2532, v2536, _, rfl, hW.2.1, hG, hW.2.2, f2546, f2547, (by have := kc_1; omega), (by have := kc_1; omega), (by have := kc_1; omega), (by have := kc_1; omega)⟩ dX1_item_165
          · refine q_aload_n hM dX1_item_104 (lv_at hl 3 rfl) ?_
            refine q_iconst (v := (1 : Int32)) hM dX1_item_105 (by decide) ?_
            refine q_aload_n hM dX1_item_106 (lv_at hl 3 rfl) ?_
            refine w_get (v := .int v2519) hM hW FG_X1_23 lb_78 q2522 dX1_item_107 ?_
            have bv2519 := hG.f q2522 rF_78_2 (by decide)
            refine q_callV (As := [.int (1 : Int32), .int v2519]) (rest := []) hM hW.1 hR hC myX1_wrong (kAW (v_1_13 (List.mem_of_getElem? (i := 7) rfl)) rfl) (rfl : vwCl[1]? = some (RX1, TX1, 5)) rfl lb_78.1 (shO hW.2.1 lb_78) (a_X1_wrong _ _ cA ad g2527 (1 : Int32) v2519 hW.2.1 hG) ⟨by decide, by decide⟩ rfl rfl hl.1 (Nat.le_of_ble_eq_true rfl) dX1_item_110 (fun v g2552 H locs hp hW1 => ?_)
            obtain ⟨r2551, rfl, hs1, hG, hf1, hr2551⟩ := hp
            have f2553 : fld g2552 78 2 = .int v2519 := (hf1.1 78 2 (by omega)).trans q2522
            have f2554 : fld g2552 75 2 = .int v2520 := (hf1.1 75 2 (by omega)).trans q2523
            have hW : WS ad cA (fun i k => (i = 78 ∧ (k = 2 ∨ k = 3)) ∨ (i = 75 ∧ (k = 2)) ∨ i = 76 ∨ i = 77) g0 K g2552 H locs := ⟨hW1, hs1, hW.2.2.tr hf1 (fun i k h => (Or.inl (by omega)))⟩
            exact hE _ _ _ _ _ _ hW.1 (nz_or (by omega)) ⟨v2519, v2520, _, rfl, hW.2.1, hG, hW.2.2, f2553, f2554, (by omega), (by omega), (by omega), (by omega)⟩ dX1_item_113
        · refine q_iconst (v := (0 : Int32)) hM dX1_item_93 (by decide) ?_
          exact hE _ _ _ _ _ _ hW.1 nz_0 ⟨v2519, v2520, _, rfl, hW.2.1, hG, hW.2.2, q2522, q2523, (by have := kc_0; omega), (by have := kc_0; omega), (by have := kc_0; omega), (by have := kc_0; omega)⟩ dX1_item_94
      · omega
  · refine q_aload_n hM dX1_item_30 (lv_at hl 3 rfl) ?_
    refine q_callV (As := []) (rest := []) hM hW.1 hR hC myX1_sign (kAW (v_1_13 (List.mem_of_getElem? (i := 2) rfl)) rfl) (rfl : vwCl[1]? = some (RX1, TX1, 5)) rfl lb_78.1 (shO hW.2.1 lb_78) (a_X1_sign _ _ cA ad g0 en a0 hW.2.1 hG ((hW.2.2.1 78 1 (by omega)).trans h_en) f2477 (by  omega) (by  omega) (by  omega)) ⟨by decide, by decide⟩ rfl rfl hl.1 (Nat.le_of_ble_eq_true rfl) dX1_item_31 (fun v g2559 H locs hp hW1 => ?_)
    obtain ⟨r2558, rfl, hr2558, rfl⟩ := hp
    have hW : WS ad cA (fun i k => (i = 78 ∧ (k = 2 ∨ k = 3)) ∨ (i = 75 ∧ (k = 2)) ∨ i = 76 ∨ i = 77) g0 K g0 H locs := ⟨hW1, hW.2.1, hW.2.2⟩
    refine q_bipush (v := (48 : Int32)) hM dX1_item_34 (by decide) ?_
    refine q_isub hM dX1_item_36 (fun z2560 hz2560 => ?_)
    first | have tz2560 := i_subT hz2560 (rfl : r2558.toInt = r2558.toInt) (kc_48 : (48 : Int32).toInt = 48) (by omega) (by omega) | skip
    refine q_istore (lv9 := [(4, .int z2560), (3, .int c0), (2, .int a0), (0, .ref (ad 78)), (1, .int op)]) hM dX1_item_37 hl (by decide) rfl (fun ls hl => ?_)
    refine q_aload_n hM dX1_item_39 (lv_at hl 3 rfl) ?_
    refine q_dup hM dX1_item_40 rfl ?_
    refine w_get (v := .int a0) hM hW FG_X1_23 lb_78 f2477 dX1_item_41 ?_
    have ba0 := hG.f f2477 rF_78_2 (by decide)
    refine q_iconst (v := (1 : Int32)) hM dX1_item_44 (by decide) ?_
    refine q_iadd hM dX1_item_45 (fun z2561 hz2561 => ?_)
    first | have tz2561 := i_addT hz2561 (rfl : a0.toInt = a0.toInt) (kc_1 : (1 : Int32).toInt = 1) (by omega) (by omega) | skip
    refine w_put hM hW FP_X1_23 lb_78 (by omega) (Or.inl ⟨_, rfl⟩) rfl rfl dX1_item_46 (fun g2562 H locs hW e1 e2 => ?_)
    have f2563 : fld g2562 75 2 = .int c0 := (e2.1 75 2 (by unfold Only; omega)).trans f2478
    have f2564 : fld g2562 78 2 = .int z2561 := e1
    have hG := hG.put e1 e2 rF_78_2 (by decide) (by have := i_rng z2561; omega) (by have := i_rng z2561; omega)
    refine q_aload_n hM dX1_item_49 (lv_at hl 3 rfl) ?_
    refine q_callV (As := []) (rest := []) hM hW.1 hR hC myX1_sign (kAW (v_1_13 (List.mem_of_getElem? (i := 2) rfl)) rfl) (rfl : vwCl[1]? = some (RX1, TX1, 5)) rfl lb_78.1 (shO hW.2.1 lb_78) (a_X1_sign _ _ cA ad g2562 en z2561 hW.2.1 hG ((hW.2.2.1 78 1 (by omega)).trans h_en) f2564 (by  omega) (by  omega) (by  omega)) ⟨by decide, by decide⟩ rfl rfl hl.1 (Nat.le_of_ble_eq_true rfl) dX1_item_50 (fun v g2566 H locs hp hW1 => ?_)
    obtain ⟨r2565, rfl, hr2565, rfl⟩ := hp
    have hW : WS ad cA (fun i k => (i = 78 ∧ (k = 2 ∨ k = 3)) ∨ (i = 75 ∧ (k = 2)) ∨ i = 76 ∨ i = 77) g0 K g2562 H locs := ⟨hW1, hW.2.1, hW.2.2⟩
    refine q_bipush (v := (40 : Int32)) hM dX1_item_53 (by decide) ?_
    refine q_icmp_ne (tgt := 127) hM dX1_item_55 (by decide) (rfl : r2565.toInt = r2565.toInt) (kc_40 : (40 : Int32).toInt = 40) (fun h55 => ?_) (fun h55 => ?_)
    · refine q_aload_n hM dX1_item_127 (lv_at hl 3 rfl) ?_
      refine q_iload_n hM dX1_item_128 (lv_at hl 2 rfl) ?_
      refine q_callV (As := [.int a0]) (rest := []) hM hW.1 hR hC myX1_step (kAW (v_1_13 (List.mem_of_getElem? (i := 11) rfl)) rfl) (rfl : vwCl[1]? = some (RX1, TX1, 5)) rfl lb_78.1 (shO hW.2.1 lb_78) (a_X1_step _ _ cA ad g2562 a0 en z2561 c0 hW.2.1 hG ((hW.2.2.1 78 1 (by omega)).trans h_en) f2564 f2563 ((hW.2.2.1 78 4 (by omega)).trans h_r4) (by  omega) (by  omega) (by  omega)) ⟨by decide, by decide⟩ rfl rfl hl.1 (Nat.le_of_ble_eq_true rfl) dX1_item_129 (fun v g2576 H locs hp hW1 => ?_)
      obtain ⟨v2568, v2569, r2570, rfl, hs1, hG, hf1, q2571, q2572, e2573, e2574, e2575, hr2570⟩ := hp
      have hW : WS ad cA (fun i k => (i = 78 ∧ (k = 2 ∨ k = 3)) ∨ (i = 75 ∧ (k = 2)) ∨ i = 76 ∨ i = 77) g0 K g2576 H locs := ⟨hW1, hs1, hW.2.2.tr hf1 (fun i k h => h.elim (fun h => (Or.inl h)) (fun h => h.elim (fun h => (Or.inr (Or.inl h))) (fun h => h.elim (fun h => (Or.inr (Or.inr (Or.inl h)))) (fun h => (Or.inr (Or.inr (Or.inr h)))))))⟩
      refine q_if_ne (tgt := 137) hM dX1_item_132 (by decide) (rfl : r2570.toInt = r2570.toInt) (fun h132 => ?_) (fun h132 => ?_)
      · refine q_aload_n hM dX1_item_137 (lv_at hl 3 rfl) ?_
        refine w_get (v := .ref (ad 75)) hM hW FG_X1_15 lb_78 ((hW.2.2.1 78 4 (by omega)).trans h_r4) dX1_item_138 ?_
        refine q_iload_n hM dX1_item_141 (lv_at hl 1 rfl) ?_
        refine q_iload hM dX1_item_142 (lv_at hl 0 rfl) ?_
        refine q_callV (As := [.int c0, .int z2560]) (rest := []) hM hW.1 hR hC myX0_multiply (kAW (v_1_14 (List.mem_of_getElem? (i := 7) rfl)) rfl) (rfl : vwCl[0]? = some (RX0, TX0, 3)) rfl lb_75.1 (shO hW.2.1 lb_75) (a_X0_multiply _ _ cA ad g2576 c0 z2560 v2569 hW.2.1 hG q2572 (by  omega) (by  omega) (by  omega) (by  omega)) ⟨by decide, by decide⟩ rfl rfl hl.1 (Nat.le_of_ble_eq_true rfl) dX1_item_144 (fun v g2582 H locs hp hW1 => ?_)
        obtain ⟨v2578, r2579, rfl, hs1, hG, hf1, q2580, e2581, hr2579⟩ := hp
        have f2583 : fld g2582 78 2 = .int v2568 := (hf1.1 78 2 (by omega)).trans q2571
        have hW : WS ad cA (fun i k => (i = 78 ∧ (k = 2 ∨ k = 3)) ∨ (i = 75 ∧ (k = 2)) ∨ i = 76 ∨ i = 77) g0 K g2582 H locs := ⟨hW1, hs1, hW.2.2.tr hf1 (fun i k h => h.elim (fun h => (Or.inr (Or.inl h))) (fun h => h.elim (fun h => (Or.inr (Or.inr (Or.inl h)))) (fun h => (Or.inr (Or.inr (Or.inr h))))))⟩
        refine q_if_ne (tgt := 160) hM dX1_item_147 (by decide) (rfl : r2579.toInt = r2579.toInt) (fun h147 => ?_) (fun h147 => ?_)
        · refine q_iconst (v := (1 : Int32)) hM dX1_item_160 (by decide) ?_
          refine q_goto (tgt := 165) hM dX1_item_161 (by decide) ?_
          exact hE _ _ _ _ _ _ hW.1 nz_1 ⟨v2568, v2578, _, rfl, hW.2.1, hG, hW.2.2, f2583, q2580, (by have := kc_1; omega), (by have := kc_1; omega), (by have := kc_1; omega), (by have := kc_1; omega)⟩ dX1_item_165
        · refine q_aload_n hM dX1_item_150 (lv_at hl 3 rfl) ?_
          refine q_bipush (v := (6 : Int32)) hM dX1_item_151 (by decide) ?_
          refine q_iload_n hM dX1_item_153 (lv_at hl 2 rfl) ?_
          refine q_callV (As := [.int (6 : Int32), .int a0]) (rest := []) hM hW.1 hR hC myX1_wrong (kAW (v_1_13 (List.mem_of_getElem? (i := 7) rfl)) rfl) (rfl : vwCl[1]? = some (RX1, TX1, 5)) rfl lb_78.1 (shO hW.2.1 lb_78) (a_X1_wrong _ _ cA ad g2582 (6 : Int32) a0 hW.2.1 hG) ⟨by decide, by decide⟩ rfl rfl hl.1 (Nat.le_of_ble_eq_true rfl) dX1_item_154 (fun v g2587 H locs hp hW1 => ?_)
          obtain ⟨r2586, rfl, hs1, hG, hf1, hr2586⟩ := hp
          have f2588 : fld g2587 78 2 = .int v2568 := (hf1.1 78 2 (by omega)).trans f2583
          have f2589 : fld g2587 75 2 = .int v2578 := (hf1.1 75 2 (by omega)).trans q2580
          have hW : WS ad cA (fun i k => (i = 78 ∧ (k = 2 ∨ k = 3)) ∨ (i = 75 ∧ (k = 2)) ∨ i = 76 ∨ i = 77) g0 K g2587 H locs := ⟨hW1, hs1, hW.2.2.tr hf1 (fun i k h => (Or.inl (by omega)))⟩
          refine q_if_eq (tgt := 164) hM dX1_item_157 (by decide) (rfl : r2586.toInt = r2586.toInt) (fun h157 => ?_) (fun h157 => ?_)
          · refine q_iconst (v := (0 : Int32)) hM dX1_item_164 (by decide) ?_
            exact hE _ _ _ _ _ _ hW.1 nz_0 ⟨v2568, v2578, _, rfl, hW.2.1, hG, hW.2.2, f2588, f2589, (by have := kc_0; omega), (by have := kc_0; omega), (by have := kc_0; omega), (by have := kc_0; omega)⟩ dX1_item_165
          · refine q_iconst (v := (1 : Int32)) hM dX1_item_160 (by decide) ?_
            refine q_goto (tgt := 165) hM dX1_item_161 (by decide) ?_
            exact hE _ _ _ _ _ _ hW.1 nz_1 ⟨v2568, v2578, _, rfl, hW.2.1, hG, hW.2.2, f2588, f2589, (by have := kc_1; omega), (by have := kc_1; omega), (by have := kc_1; omega), (by have := kc_1; omega)⟩ dX1_item_165
      · refine q_iconst (v := (0 : Int32)) hM dX1_item_135 (by decide) ?_
        exact hE _ _ _ _ _ _ hW.1 nz_0 ⟨v2568, v2569, _, rfl, hW.2.1, hG, hW.2.2, q2571, q2572, (by have := kc_0; omega), (by have := kc_0; omega), (by have := kc_0; omega), (by have := kc_0; omega)⟩ dX1_item_136
    · refine q_iload_n hM dX1_item_58 (lv_at hl 4 rfl) ?_
      refine q_iconst (v := (2 : Int32)) hM dX1_item_59 (by decide) ?_
      refine q_icmp_lt (tgt := 73) hM dX1_item_60 (by decide) (rfl : op.toInt = op.toInt) (kc_2 : (2 : Int32).toInt = 2) (fun h60 => ?_) (fun h60 => ?_)
      · refine q_aload_n hM dX1_item_73 (lv_at hl 3 rfl) ?_
        refine q_dup hM dX1_item_74 rfl ?_
        refine w_get (v := .int z2561) hM hW FG_X1_23 lb_78 f2564 dX1_item_75 ?_
        have bz2561 := hG.f f2564 rF_78_2 (by decide)
        refine q_iconst (v := (1 : Int32)) hM dX1_item_78 (by decide) ?_
        refine q_iadd hM dX1_item_79 (fun z2595 hz2595 => ?_)
        first | have tz2595 := i_addT hz2595 (rfl : z2561.toInt = z2561.toInt) (kc_1 : (1 : Int32).toInt = 1) (by omega) (by omega) | skip
        refine w_put hM hW FP_X1_23 lb_78 (by omega) (Or.inl ⟨_, rfl⟩) rfl rfl dX1_item_80 (fun g2596 H locs hW e1 e2 => ?_)
        have f2597 : fld g2596 75 2 = .int c0 := (e2.1 75 2 (by unfold Only; omega)).trans f2563
        have f2598 : fld g2596 78 2 = .int z2595 := e1
        have hG := hG.put e1 e2 rF_78_2 (by decide) (by have := i_rng z2595; omega) (by have := i_rng z2595; omega)
        refine q_aload_n hM dX1_item_83 (lv_at hl 3 rfl) ?_
        refine q_iload_n hM dX1_item_84 (lv_at hl 4 rfl) ?_
        refine q_iconst (v := (1 : Int32)) hM dX1_item_85 (by decide) ?_
        refine q_iadd hM dX1_item_86 (fun z2599 hz2599 => ?_)
        first | have tz2599 := i_addT hz2599 (rfl : op.toInt = op.toInt) (kc_1 : (1 : Int32).toInt = 1) (by omega) (by omega) | skip
        refine q_callV (As := [.int z2599]) (rest := []) hM hW.1 hR hC myX1_steps (kAW (v_1_12 (List.mem_of_getElem? (i := 10) rfl)) rfl) (rfl : vwCl[1]? = some (RX1, TX1, 5)) rfl lb_78.1 (shO hW.2.1 lb_78) (a_X1_steps_1 _ _ cA ad g2596 z2599 en z2595 c0 hW.2.1 hG ((hW.2.2.1 78 1 (by omega)).trans h_en) f2598 f2597 ((hW.2.2.1 78 4 (by omega)).trans h_r4) (by  omega) (by  omega) (by  omega) (by  omega)) ⟨by decide, by decide⟩ rfl rfl hl.1 (Nat.le_of_ble_eq_true rfl) dX1_item_87 (fun v g2608 H locs hp hW1 => ?_)
        obtain ⟨v2600, v2601, r2602, rfl, hs1, hG, hf1, q2603, q2604, e2605, e2606, e2607, hr2602⟩ := hp
        have hW : WS ad cA (fun i k => (i = 78 ∧ (k = 2 ∨ k = 3)) ∨ (i = 75 ∧ (k = 2)) ∨ i = 76 ∨ i = 77) g0 K g2608 H locs := ⟨hW1, hs1, hW.2.2.tr hf1 (fun i k h => h.elim (fun h => (Or.inl h)) (fun h => h.elim (fun h => (Or.inr (Or.inl h))) (fun h => h.elim (fun h => (Or.inr (Or.inr (Or.inl h)))) (fun h => (Or.inr (Or.inr (Or.inr h)))))))⟩
        refine q_if_ne (tgt := 95) hM dX1_item_90 (by decide) (rfl : r2602.toInt = r2602.toInt) (fun h90 => ?_) (fun h90 => ?_)
        · refine q_aload_n hM dX1_item_95 (lv_at hl 3 rfl) ?_
          refine q_callV (As := []) (rest := []) hM hW.1 hR hC myX1_sign (kAW (v_1_13 (List.mem_of_getElem? (i := 2) rfl)) rfl) (rfl : vwCl[1]? = some (RX1, TX1, 5)) rfl lb_78.1 (shO hW.2.1 lb_78) (a_X1_sign _ _ cA ad g2608 en v2600 hW.2.1 hG ((hW.2.2.1 78 1 (by omega)).trans h_en) q2603 (by  omega) (by  omega) (by  omega)) ⟨by decide, by decide⟩ rfl rfl hl.1 (Nat.le_of_ble_eq_true rfl) dX1_item_96 (fun v g2611 H locs hp hW1 => ?_)
          obtain ⟨r2610, rfl, hr2610, rfl⟩ := hp
          have hW : WS ad cA (fun i k => (i = 78 ∧ (k = 2 ∨ k = 3)) ∨ (i = 75 ∧ (k = 2)) ∨ i = 76 ∨ i = 77) g0 K g2608 H locs := ⟨hW1, hW.2.1, hW.2.2⟩
          refine q_bipush (v := (41 : Int32)) hM dX1_item_99 (by decide) ?_
          refine q_icmp_eq (tgt := 114) hM dX1_item_101 (by decide) (rfl : r2610.toInt = r2610.toInt) (kc_41 : (41 : Int32).toInt = 41) (fun h101 => ?_) (fun h101 => ?_)
          · refine q_aload_n hM dX1_item_114 (lv_at hl 3 rfl) ?_
            refine q_dup hM dX1_item_115 rfl ?_
            refine w_get (v := .int v2600) hM hW FG_X1_23 lb_78 q2603 dX1_item_116 ?_
            have bv2600 := hG.f q2603 rF_78_2 (by decide)
            refine q_iconst (v := (1 : Int32)) hM dX1_item_119 (by decide) ?_
            refine q_iadd hM dX1_item_120 (fun z2613 hz2613 => ?_)
            first | have tz2613 := i_addT hz2613 (rfl : v2600.toInt = v2600.toInt) (kc_1 : (1 : Int32).toInt = 1) (by omega) (by omega) | skip
            refine w_put hM hW FP_X1_23 lb_78 (by omega) (Or.inl ⟨_, rfl⟩) rfl rfl dX1_item_121 (fun g2614 H locs hW e1 e2 => ?_)
            have f2615 : fld g2614 75 2 = .int v2601 := (e2.1 75 2 (by unfold Only; omega)).trans q2604
            have f2616 : fld g2614 78 2 = .int z2613 := e1
            have hG := hG.put e1 e2 rF_78_2 (by decide) (by have := i_rng z2613; omega) (by have := i_rng z2613; omega)
            refine q_goto (tgt := 137) hM dX1_item_124 (by decide) ?_
            refine q_aload_n hM dX1_item_137 (lv_at hl 3 rfl) ?_
            refine w_get (v := .ref (ad 75)) hM hW FG_X1_15 lb_78 ((hW.2.2.1 78 4 (by omega)).trans h_r4) dX1_item_138 ?_
            refine q_iload_n hM dX1_item_141 (lv_at hl 1 rfl) ?_
            refine q_iload hM dX1_item_142 (lv_at hl 0 rfl) ?_
            refine q_callV (As := [.int c0, .int z2560]) (rest := []) hM hW.1 hR hC myX0_multiply (kAW (v_1_14 (List.mem_of_getElem? (i := 7) rfl)) rfl) (rfl : vwCl[0]? = some (RX0, TX0, 3)) rfl lb_75.1 (shO hW.2.1 lb_75) (a_X0_multiply _ _ cA ad g2614 c0 z2560 v2601 hW.2.1 hG f2615 (by  omega) (by  omega) (by  omega) (by  omega)) ⟨by decide, by decide⟩ rfl rfl hl.1 (Nat.le_of_ble_eq_true rfl) dX1_item_144 (fun v g2621 H locs hp hW1 => ?_)
            obtain ⟨v2617, r2618, rfl, hs1, hG, hf1, q2619, e2620, hr2618⟩ := hp
            have f2622 : fld g2621 78 2 = .int z2613 := (hf1.1 78 2 (by omega)).trans f2616
            have hW : WS ad cA (fun i k => (i = 78 ∧ (k = 2 ∨ k = 3)) ∨ (i = 75 ∧ (k = 2)) ∨ i = 76 ∨ i = 77) g0 K g2621 H locs := ⟨hW1, hs1, hW.2.2.tr hf1 (fun i k h => h.elim (fun h => (Or.inr (Or.inl h))) (fun h => h.elim (fun h => (Or.inr (Or.inr (Or.inl h)))) (fun h => (Or.inr (Or.inr (Or.inr h))))))⟩
            refine q_if_ne (tgt := 160) hM dX1_item_147 (by decide) (rfl : r2618.toInt = r2618.toInt) (fun h147 => ?_) (fun h147 => ?_)
            · refine q_iconst (v := (1 : Int32)) hM dX1_item_160 (by decide) ?_
              refine q_goto (tgt := 165) hM dX1_item_161 (by decide) ?_
              exact hE _ _ _ _ _ _ hW.1 nz_1 ⟨z2613, v2617, _, rfl, hW.2.1, hG, hW.2.2, f2622, q2619, (by have := kc_1; omega), (by have := kc_1; omega), (by have := kc_1; omega), (by have := kc_1; omega)⟩ dX1_item_165
            · refine q_aload_n hM dX1_item_150 (lv_at hl 3 rfl) ?_
              refine q_bipush (v := (6 : Int32)) hM dX1_item_151 (by decide) ?_
              refine q_iload_n hM dX1_item_153 (lv_at hl 2 rfl) ?_
              refine q_callV (As := [.int (6 : Int32), .int a0]) (rest := []) hM hW.1 hR hC myX1_wrong (kAW (v_1_13 (List.mem_of_getElem? (i := 7) rfl)) rfl) (rfl : vwCl[1]? = some (RX1, TX1, 5)) rfl lb_78.1 (shO hW.2.1 lb_78) (a_X1_wrong _ _ cA ad g2621 (6 : Int32) a0 hW.2.1 hG) ⟨by decide, by decide⟩ rfl rfl hl.1 (Nat.le_of_ble_eq_true rfl) dX1_item_154 (fun v g2626 H locs hp hW1 => ?_)
              obtain ⟨r2625, rfl, hs1, hG, hf1, hr2625⟩ := hp
              have f2627 : fld g2626 78 2 = .int z2613 := (hf1.1 78 2 (by omega)).trans f2622
              have f2628 : fld g2626 75 2 = .int v2617 := (hf1.1 75 2 (by omega)).trans q2619
              have hW : WS ad cA (fun i k => (i = 78 ∧ (k = 2 ∨ k = 3)) ∨ (i = 75 ∧ (k = 2)) ∨ i = 76 ∨ i = 77) g0 K g2626 H locs := ⟨hW1, hs1, hW.2.2.tr hf1 (fun i k h => (Or.inl (by omega)))⟩
              refine q_if_eq (tgt := 164) hM dX1_item_157 (by decide) (rfl : r2625.toInt = r2625.toInt) (fun h157 => ?_) (fun h157 => ?_)
              · refine q_iconst (v := (0 : Int32)) hM dX1_item_164 (by decide) ?_
                exact hE _ _ _ _ _ _ hW.1 nz_0 ⟨z2613, v2617, _, rfl, hW.2.1, hG, hW.2.2, f2627, f2628, (by have := kc_0; omega), (by have := kc_0; omega), (by have := kc_0; omega), (by have := kc_0; omega)⟩ dX1_item_165
              · refine q_iconst (v := (1 : Int32)) hM dX1_item_160 (by decide) ?_
                refine q_goto (tgt := 165) hM dX1_item_161 (by decide) ?_
                exact hE _ _ _ _ _ _ hW.1 nz_1 ⟨z2613, v2617, _, rfl, hW.2.1, hG, hW.2.2, f2627, f2628, (by have := kc_1; omega), (by have := kc_1; omega), (by have := kc_1; omega), (by have := kc_1; omega)⟩ dX1_item_165
          · refine q_aload_n hM dX1_item_104 (lv_at hl 3 rfl) ?_
            refine q_iconst (v := (1 : Int32)) hM dX1_item_105 (by decide) ?_
            refine q_aload_n hM dX1_item_106 (lv_at hl 3 rfl) ?_
            refine w_get (v := .int v2600) hM hW FG_X1_23 lb_78 q2603 dX1_item_107 ?_
            have bv2600 := hG.f q2603 rF_78_2 (by decide)
            refine q_callV (As := [.int (1 : Int32), .int v2600]) (rest := []) hM hW.1 hR hC myX1_wrong (kAW (v_1_13 (List.mem_of_getElem? (i := 7) rfl)) rfl) (rfl : vwCl[1]? = some (RX1, TX1, 5)) rfl lb_78.1 (shO hW.2.1 lb_78) (a_X1_wrong _ _ cA ad g2608 (1 : Int32) v2600 hW.2.1 hG) ⟨by decide, by decide⟩ rfl rfl hl.1 (Nat.le_of_ble_eq_true rfl) dX1_item_110 (fun v g2633 H locs hp hW1 => ?_)
            obtain ⟨r2632, rfl, hs1, hG, hf1, hr2632⟩ := hp
            have f2634 : fld g2633 78 2 = .int v2600 := (hf1.1 78 2 (by omega)).trans q2603
            have f2635 : fld g2633 75 2 = .int v2601 := (hf1.1 75 2 (by omega)).trans q2604
            have hW : WS ad cA (fun i k => (i = 78 ∧ (k = 2 ∨ k = 3)) ∨ (i = 75 ∧ (k = 2)) ∨ i = 76 ∨ i = 77) g0 K g2633 H locs := ⟨hW1, hs1, hW.2.2.tr hf1 (fun i k h => (Or.inl (by omega)))⟩
            exact hE _ _ _ _ _ _ hW.1 (nz_or (by omega)) ⟨v2600, v2601, _, rfl, hW.2.1, hG, hW.2.2, f2634, f2635, (by omega), (by omega), (by omega), (by omega)⟩ dX1_item_113
        · refine q_iconst (v := (0 : Int32)) hM dX1_item_93 (by decide) ?_
          exact hE _ _ _ _ _ _ hW.1 nz_0 ⟨v2600, v2601, _, rfl, hW.2.1, hG, hW.2.2, q2603, q2604, (by have := kc_0; omega), (by have := kc_0; omega), (by have := kc_0; omega), (by have := kc_0; omega)⟩ dX1_item_94
      · omega


set_option maxRecDepth 100000 in
set_option maxHeartbeats 4000000 in
theorem a_X1_steps_0 (l : Launch) (D : va_G) (cA : Nat → ClassId) (ad : Nat → Nat) (g0 : Nat → va_E) (op : Int32) (en : Int32) (a0 : Int32) (c0 : Int32)  (hSh : Shp ad cA g0) (hG : Rng g0) (h_en : fld g0 78 1 = .int en) (h_a0 : fld g0 78 2 = .int a0) (h_c0 : fld g0 75 2 = .int c0) (h_r4 : fld g0 78 4 = .ref (ad 75)) (ah0 : 0 ≤ a0.toInt) (ah1 : a0.toInt ≤ en.toInt) (ah2 : en.toInt ≤ 60) (ok : op.toInt = 0) : CT l NN ad cA D yX1_steps cX1_steps 3 (some FieldType.boolean) (8, 184) [.ref (ad 78), .int op] g0 (fun v g' => ∃ (a9 : Int32) (c9 : Int32) (r : Int32), v = some (.int r) ∧ Shp ad cA g' ∧ Rng g' ∧ FR (fun i k => (i = 78 ∧ (k = 2 ∨ k = 3)) ∨ (i = 75 ∧ (k = 2)) ∨ i = 76 ∨ i = 77) g0 g' ∧ fld g' 78 2 = .int a9 ∧ fld g' 75 2 = .int c9 ∧ (a0.toInt ≤ a9.toInt) ∧ (a9.toInt ≤ en.toInt) ∧ (c0.toInt ≤ c9.toInt) ∧ (r.toInt = 0 ∨ r.toInt = 1)) := by
  refine q_enterZ (by decide) (Nat.le_of_ble_eq_true rfl) (fun K H locs ls _ _ hM hW0 hR hC hE hl => ?_)
  have hl : lv_has ls 3 [(0, .ref (ad 78)), (1, .int op)] := hl
  have hW : WS ad cA (fun i k => (i = 78 ∧ (k = 2 ∨ k = 3)) ∨ (i = 75 ∧ (k = 2)) ∨ i = 76 ∨ i = 77) g0 K g0 H locs := ⟨hW0, hSh, FR.rf⟩
  have b_en := hG.f h_en rF_78_1 (by decide)
  have b_a0 := hG.f h_a0 rF_78_2 (by decide)
  have b_c0 := hG.f h_c0 rF_75_2 (by decide)
  have f2638 : fld g0 78 2 = .int a0 := h_a0
  have f2639 : fld g0 75 2 = .int c0 := h_c0
  refine q_iconst (v := (0 : Int32)) hM dX1_steps_0 (by decide) ?_
  refine q_istore_n (lv9 := [(2, .int (0 : Int32)), (0, .ref (ad 78)), (1, .int op)]) hM dX1_steps_1 hl (by decide) rfl (fun ls hl => ?_)
  have L2 : ∀ (fu2 : Nat) (w2_2 : Int32) (aa : Int32) (cc : Int32) (g9 : Nat → va_E) (H : Heap) (locs : List Loc) (ls : Array Slot), (60 - w2_2.toInt).toNat < fu2 → (Rng g9) → (0 ≤ w2_2.toInt) → (w2_2.toInt ≤ 60) → (a0.toInt ≤ aa.toInt) → (aa.toInt ≤ en.toInt) → (c0.toInt ≤ cc.toInt) → (fld g9 78 2 = .int aa) → (fld g9 75 2 = .int cc) → lv_has ls 3 [(0, .ref (ad 78)), (1, .int op), (2, .int w2_2)] → WS ad cA (fun i k => (i = 78 ∧ (k = 2 ∨ k = 3)) ∨ (i = 75 ∧ (k = 2)) ∨ i = 76 ∨ i = 77) g0 K g9 H locs → XX K 0 0 H locs 2 ls [] := by
    intro fu2
    induction fu2 with
    | zero => intro w2_2 aa cc g9 H locs ls h0; omega
    | succ fu2 ih2 =>
      intro w2_2 aa cc g9 H locs ls hm2 i2_0 i2_1 i2_2 i2_3 i2_4 i2_5 c2_78_2 c2_75_2 hl hW
      have hG := i2_0
      refine q_iload_n hM dX1_steps_2 (lv_at hl 2 rfl) ?_
      refine q_bipush (v := (60 : Int32)) hM dX1_steps_3 (by decide) ?_
      refine q_icmp_ge (tgt := 51) hM dX1_steps_5 (by decide) (rfl : w2_2.toInt = w2_2.toInt) (kc_60 : (60 : Int32).toInt = 60) (fun h5 => ?_) (fun h5 => ?_)
      · refine q_aload_n hM dX1_steps_51 (lv_at hl 0 rfl) ?_
        refine q_iconst (v := (1 : Int32)) hM dX1_steps_52 (by decide) ?_
        refine q_aload_n hM dX1_steps_53 (lv_at hl 0 rfl) ?_
        refine w_get (v := .int aa) hM hW FG_X1_23 lb_78 c2_78_2 dX1_steps_54 ?_
        have baa := hG.f c2_78_2 rF_78_2 (by decide)
        refine q_callV (As := [.int (1 : Int32), .int aa]) (rest := []) hM hW.1 hR hC myX1_wrong (kAW (v_1_13 (List.mem_of_getElem? (i := 7) rfl)) rfl) (rfl : vwCl[1]? = some (RX1, TX1, 5)) rfl lb_78.1 (shO hW.2.1 lb_78) (a_X1_wrong _ _ cA ad g9 (1 : Int32) aa hW.2.1 hG) ⟨by decide, by decide⟩ rfl rfl hl.1 (Nat.le_of_ble_eq_true rfl) dX1_steps_57 (fun v g2643 H locs hp hW1 => ?_)
        obtain ⟨r2642, rfl, hs1, hG, hf1, hr2642⟩ := hp
        have f2644 : fld g2643 78 2 = .int aa := (hf1.1 78 2 (by omega)).trans c2_78_2
        have f2645 : fld g2643 75 2 = .int cc := (hf1.1 75 2 (by omega)).trans c2_75_2
        have hW : WS ad cA (fun i k => (i = 78 ∧ (k = 2 ∨ k = 3)) ∨ (i = 75 ∧ (k = 2)) ∨ i = 76 ∨ i = 77) g0 K g2643 H locs := ⟨hW1, hs1, hW.2.2.tr hf1 (fun i k h => (Or.inl (by omega)))⟩
        exact hE _ _ _ _ _ _ hW.1 (nz_or (by omega)) ⟨aa, cc, _, rfl, hW.2.1, hG, hW.2.2, f2644, f2645, (by omega), (by omega), (by omega), (by omega)⟩ dX1_steps_60
      · refine q_aload_n hM dX1_steps_8 (lv_at hl 0 rfl) ?_
        refine q_iload_n hM dX1_steps_9 (lv_at hl 1 rfl) ?_
        refine q_callV (As := [.int op]) (rest := []) hM hW.1 hR hC myX1_item (kAW (v_1_12 (List.mem_of_getElem? (i := 14) rfl)) rfl) (rfl : vwCl[1]? = some (RX1, TX1, 5)) rfl lb_78.1 (shO hW.2.1 lb_78) (a_X1_item_0 _ _ cA ad g9 op en aa cc hW.2.1 hG ((hW.2.2.1 78 1 (by omega)).trans h_en) c2_78_2 c2_75_2 ((hW.2.2.1 78 4 (by omega)).trans h_r4) (by  omega) (by  omega) (by  omega) (by  omega)) ⟨by decide, by decide⟩ rfl rfl hl.1 (Nat.le_of_ble_eq_true rfl) dX1_steps_10 (fun v g2655 H locs hp hW1 => ?_)
        obtain ⟨v2647, v2648, r2649, rfl, hs1, hG, hf1, q2650, q2651, e2652, e2653, e2654, hr2649⟩ := hp
        have hW : WS ad cA (fun i k => (i = 78 ∧ (k = 2 ∨ k = 3)) ∨ (i = 75 ∧ (k = 2)) ∨ i = 76 ∨ i = 77) g0 K g2655 H locs := ⟨hW1, hs1, hW.2.2.tr hf1 (fun i k h => h.elim (fun h => (Or.inl h)) (fun h => h.elim (fun h => (Or.inr (Or.inl h))) (fun h => h.elim (fun h => (Or.inr (Or.inr (Or.inl h)))) (fun h => (Or.inr (Or.inr (Or.inr h)))))))⟩
        refine q_if_ne (tgt := 18) hM dX1_steps_13 (by decide) (rfl : r2649.toInt = r2649.toInt) (fun h13 => ?_) (fun h13 => ?_)
        · refine q_aload_n hM dX1_steps_18 (lv_at hl 0 rfl) ?_
          refine w_get (v := .int v2647) hM hW FG_X1_23 lb_78 q2650 dX1_steps_19 ?_
          have bv2647 := hG.f q2650 rF_78_2 (by decide)
          refine q_aload_n hM dX1_steps_22 (lv_at hl 0 rfl) ?_
          refine w_get (v := .int en) hM hW FG_X1_19 lb_78 ((hW.2.2.1 78 1 (by omega)).trans h_en) dX1_steps_23 ?_
          refine q_icmp_ge (tgt := 43) hM dX1_steps_26 (by decide) (rfl : v2647.toInt = v2647.toInt) (rfl : en.toInt = en.toInt) (fun h26 => ?_) (fun h26 => ?_)
          · refine q_iconst (v := (1 : Int32)) hM dX1_steps_43 (by decide) ?_
            exact hE _ _ _ _ _ _ hW.1 nz_1 ⟨v2647, v2648, _, rfl, hW.2.1, hG, hW.2.2, q2650, q2651, (by have := kc_1; omega), (by have := kc_1; omega), (by have := kc_1; omega), (by have := kc_1; omega)⟩ dX1_steps_44
          · refine q_aload_n hM dX1_steps_29 (lv_at hl 0 rfl) ?_
            refine w_get (v := .ref (ad 2)) hM hW FG_X1_9 lb_78 (rf_78_0 hW.2.1) dX1_steps_30 ?_
            refine q_aload_n hM dX1_steps_33 (lv_at hl 0 rfl) ?_
            refine w_get (v := .int v2647) hM hW FG_X1_23 lb_78 q2650 dX1_steps_34 ?_
            have bv2647 := hG.f q2650 rF_78_2 (by decide)
            refine w_iald hM hW lb_2 (i_in (by omega) (by omega)) dX1_steps_37 ?_
            refine q_top (fun y2659 hy2659 => ?_)
            have by2659 := hG.a hy2659 rA_2
            have cy2659 := congrArg Int32.toInt hy2659
            refine q_bipush (v := (41 : Int32)) hM dX1_steps_38 (by decide) ?_
            refine q_icmp_ne (tgt := 45) hM dX1_steps_40 (by decide) (rfl : y2659.toInt = y2659.toInt) (kc_41 : (41 : Int32).toInt = 41) (fun h40 => ?_) (fun h40 => ?_)
            · refine q_iinc (lv9 := fun z2661 => [(2, .int z2661), (0, .ref (ad 78)), (1, .int op)]) hM dX1_steps_45 hl (kq := 2) rfl (by decide) (fun _ => rfl) (fun z2661 ls hz2661 hl => ?_)
              first | have tz2661 := i_addT hz2661 (rfl : w2_2.toInt = w2_2.toInt) (kc_1 : (Int32.ofInt 1).toInt = 1) (by omega) (by omega) | skip
              refine q_goto (tgt := 2) hM dX1_steps_48 (by decide) ?_
              exact ih2 z2661 v2647 v2648 _ _ _ _ (by omega) hG (by omega) (by omega) (by omega) (by omega) (by omega) q2650 q2651 (lv_sub hl [1, 2, 0] rfl) hW
            · refine q_iconst (v := (1 : Int32)) hM dX1_steps_43 (by decide) ?_
              exact hE _ _ _ _ _ _ hW.1 nz_1 ⟨v2647, v2648, _, rfl, hW.2.1, hG, hW.2.2, q2650, q2651, (by have := kc_1; omega), (by have := kc_1; omega), (by have := kc_1; omega), (by have := kc_1; omega)⟩ dX1_steps_44
        · refine q_iconst (v := (0 : Int32)) hM dX1_steps_16 (by decide) ?_
          exact hE _ _ _ _ _ _ hW.1 nz_0 ⟨v2647, v2648, _, rfl, hW.2.1, hG, hW.2.2, q2650, q2651, (by have := kc_0; omega), (by have := kc_0; omega), (by have := kc_0; omega), (by have := kc_0; omega)⟩ dX1_steps_17
  have := kc_0
  exact L2 _ (0 : Int32) a0 c0 _ _ _ _ (Nat.lt_succ_self _) hG (by omega) (by omega) (by omega) (by omega) (by omega) f2638 f2639 (lv_sub hl [1, 2, 0] rfl) hW

theorem dX1_read_0 : decode cX1_read 0 = .ok (.aload_n 0, 1) := by decide +kernel
theorem dX1_read_1 : decode cX1_read 1 = .ok (.iload_n 1, 1) := by decide +kernel
theorem dX1_read_2 : decode cX1_read 2 = .ok (.aload_n 0, 1) := by decide +kernel
theorem dX1_read_3 : decode cX1_read 3 = .ok (.getfield 9, 3) := by decide +kernel
theorem dX1_read_6 : decode cX1_read 6 = .ok (.arraylength, 1) := by decide +kernel
theorem dX1_read_7 : decode cX1_read 7 = .ok (.invokestatic 29, 3) := by decide +kernel
theorem dX1_read_10 : decode cX1_read 10 = .ok (.putfield 19, 3) := by decide +kernel
theorem dX1_read_13 : decode cX1_read 13 = .ok (.aload_n 0, 1) := by decide +kernel
theorem dX1_read_14 : decode cX1_read 14 = .ok (.iconst 0, 1) := by decide +kernel
theorem dX1_read_15 : decode cX1_read 15 = .ok (.putfield 23, 3) := by decide +kernel
theorem dX1_read_18 : decode cX1_read 18 = .ok (.aload_n 0, 1) := by decide +kernel
theorem dX1_read_19 : decode cX1_read 19 = .ok (.aload_n 2, 1) := by decide +kernel
theorem dX1_read_20 : decode cX1_read 20 = .ok (.putfield 15, 3) := by decide +kernel
theorem dX1_read_23 : decode cX1_read 23 = .ok (.aload_n 0, 1) := by decide +kernel
theorem dX1_read_24 : decode cX1_read 24 = .ok (.getfield 15, 3) := by decide +kernel
theorem dX1_read_27 : decode cX1_read 27 = .ok (.iconst 0, 1) := by decide +kernel
theorem dX1_read_28 : decode cX1_read 28 = .ok (.putfield 35, 3) := by decide +kernel
theorem dX1_read_31 : decode cX1_read 31 = .ok (.aload_n 0, 1) := by decide +kernel
theorem dX1_read_32 : decode cX1_read 32 = .ok (.iconst 0, 1) := by decide +kernel
theorem dX1_read_33 : decode cX1_read 33 = .ok (.invokevirtual 40, 3) := by decide +kernel
theorem dX1_read_36 : decode cX1_read 36 = .ok (.ifCond .ne 8, 3) := by decide +kernel
theorem dX1_read_39 : decode cX1_read 39 = .ok (.aload_n 0, 1) := by decide +kernel
theorem dX1_read_40 : decode cX1_read 40 = .ok (.getfield 26, 3) := by decide +kernel
theorem dX1_read_43 : decode cX1_read 43 = .ok (.ireturn, 1) := by decide +kernel
theorem dX1_read_44 : decode cX1_read 44 = .ok (.aload_n 0, 1) := by decide +kernel
theorem dX1_read_45 : decode cX1_read 45 = .ok (.getfield 23, 3) := by decide +kernel
theorem dX1_read_48 : decode cX1_read 48 = .ok (.aload_n 0, 1) := by decide +kernel
theorem dX1_read_49 : decode cX1_read 49 = .ok (.getfield 19, 3) := by decide +kernel
theorem dX1_read_52 : decode cX1_read 52 = .ok (.if_icmp .eq 15, 3) := by decide +kernel
theorem dX1_read_55 : decode cX1_read 55 = .ok (.aload_n 0, 1) := by decide +kernel
theorem dX1_read_56 : decode cX1_read 56 = .ok (.iconst 1, 1) := by decide +kernel
theorem dX1_read_57 : decode cX1_read 57 = .ok (.aload_n 0, 1) := by decide +kernel
theorem dX1_read_58 : decode cX1_read 58 = .ok (.getfield 23, 3) := by decide +kernel
theorem dX1_read_61 : decode cX1_read 61 = .ok (.invokevirtual 44, 3) := by decide +kernel
theorem dX1_read_64 : decode cX1_read 64 = .ok (.ifCond .eq 13, 3) := by decide +kernel
theorem dX1_read_67 : decode cX1_read 67 = .ok (.aload_n 0, 1) := by decide +kernel
theorem dX1_read_68 : decode cX1_read 68 = .ok (.getfield 15, 3) := by decide +kernel
theorem dX1_read_71 : decode cX1_read 71 = .ok (.getfield 35, 3) := by decide +kernel
theorem dX1_read_74 : decode cX1_read 74 = .ok (.goto 7, 3) := by decide +kernel
theorem dX1_read_77 : decode cX1_read 77 = .ok (.aload_n 0, 1) := by decide +kernel
theorem dX1_read_78 : decode cX1_read 78 = .ok (.getfield 26, 3) := by decide +kernel
theorem dX1_read_81 : decode cX1_read 81 = .ok (.ireturn, 1) := by decide +kernel
theorem FP_X1_19 : FPX RX1 19 1 5 1 .int := ⟨⟨RX1, TX1, tyX1, rfl, wX1, by decide, kAW (v_0_11 (List.mem_of_getElem? (i := 5) rfl)) rfl, rfl, tyX1_ok, nmX1, by decide +kernel, rfl⟩, by decide +kernel⟩
theorem FP_X1_15 : FPX RX1 15 1 5 4 (.object "ForgetSchool$Art") := ⟨⟨RX1, TX1, tyX1, rfl, wX1, by decide, kAW (v_0_11 (List.mem_of_getElem? (i := 8) rfl)) rfl, rfl, tyX1_ok, nmX1, by decide +kernel, rfl⟩, by decide +kernel⟩
theorem FP_X1_35 : FPX RX1 35 0 3 2 .int := ⟨⟨RX0, TX0, tyX0, rfl, wX0, by decide, kAW (v_0_10 (List.mem_of_getElem? (i := 4) rfl)) rfl, rfl, tyX0_ok, nmX0, by decide +kernel, rfl⟩, by decide +kernel⟩
theorem FG_X1_26 : FG RX1 26 1 5 3 := ⟨RX1, TX1, rfl, wX1, by decide, kAW (v_0_11 (List.mem_of_getElem? (i := 7) rfl)) rfl, rfl⟩
set_option maxRecDepth 100000 in
set_option maxHeartbeats 4000000 in
theorem a_X1_read (l : Launch) (D : va_G) (cA : Nat → ClassId) (ad : Nat → Nat) (g0 : Nat → va_E) (n : Int32)   (hSh : Shp ad cA g0) (hG : Rng g0) (n0 : 0 ≤ n.toInt) (n1 : n.toInt ≤ 60) : CT l NN ad cA D yX1_read cX1_read 3 (some FieldType.int) (9, 206) [.ref (ad 78), .int n, .ref (ad 75)] g0 (fun v g' => ∃ (r : Int32), v = some (.int r) ∧ Shp ad cA g' ∧ Rng g' ∧ FR (fun i k => (i = 78 ∧ (k = 1 ∨ k = 2 ∨ k = 3 ∨ k = 4)) ∨ (i = 75 ∧ (k = 2)) ∨ i = 76 ∨ i = 77) g0 g') := by
  refine q_enterI (by decide) (Nat.le_of_ble_eq_true rfl) rfl (fun K H locs ls _ _ hM hW0 hR hC hE hl => ?_)
  have hl : lv_has ls 3 [(0, .ref (ad 78)), (1, .int n), (2, .ref (ad 75))] := hl
  have hW : WS ad cA (fun i k => (i = 78 ∧ (k = 1 ∨ k = 2 ∨ k = 3 ∨ k = 4)) ∨ (i = 75 ∧ (k = 2)) ∨ i = 76 ∨ i = 77) g0 K g0 H locs := ⟨hW0, hSh, FR.rf⟩
  refine q_aload_n hM dX1_read_0 (lv_at hl 0 rfl) ?_
  refine q_iload_n hM dX1_read_1 (lv_at hl 1 rfl) ?_
  refine q_aload_n hM dX1_read_2 (lv_at hl 0 rfl) ?_
  refine w_get (v := .ref (ad 2)) hM hW FG_X1_9 lb_78 (rf_78_0 hW.2.1) dX1_read_3 ?_
  refine q_alen (v := (260 : Int32)) hM hW.1 lb_2.1 (shA hW.2.1 lb_2) (by decide) dX1_read_6 ?_
  refine q_mmin hM hR hC (kAW (v_1_12 (List.mem_of_getElem? (i := 7) rfl)) rfl) hl.1 (by decide) (Nat.le_of_ble_eq_true rfl) dX1_read_7 (fun r2664 hr2664 => ?_)
  have := kc_260
  refine w_put hM hW FP_X1_19 lb_78 (by omega) (Or.inl ⟨_, rfl⟩) rfl rfl dX1_read_10 (fun g2665 H locs hW e1 e2 => ?_)
  have f2666 : fld g2665 78 1 = .int r2664 := e1
  have hG := hG.put e1 e2 rF_78_1 (by decide) (by have := i_rng r2664; omega) (by have := i_rng r2664; omega)
  refine q_aload_n hM dX1_read_13 (lv_at hl 0 rfl) ?_
  refine q_iconst (v := (0 : Int32)) hM dX1_read_14 (by decide) ?_
  refine w_put hM hW FP_X1_23 lb_78 (by omega) (Or.inl ⟨_, rfl⟩) rfl rfl dX1_read_15 (fun g2667 H locs hW e1 e2 => ?_)
  have f2668 : fld g2667 78 1 = .int r2664 := (e2.1 78 1 (by unfold Only; omega)).trans f2666
  have f2669 : fld g2667 78 2 = .int (0 : Int32) := e1
  have hG := hG.put e1 e2 rF_78_2 (by decide) (by have := kc_0; have := i_rng (0 : Int32); omega) (by have := kc_0; have := i_rng (0 : Int32); omega)
  refine q_aload_n hM dX1_read_18 (lv_at hl 0 rfl) ?_
  refine q_aload_n hM dX1_read_19 (lv_at hl 2 rfl) ?_
  refine w_put hM hW FP_X1_15 lb_78 (by omega) (Or.inr (by decide)) rfl rfl dX1_read_20 (fun g2670 H locs hW e1 e2 => ?_)
  have f2671 : fld g2670 78 1 = .int r2664 := (e2.1 78 1 (by unfold Only; omega)).trans f2668
  have f2672 : fld g2670 78 2 = .int (0 : Int32) := (e2.1 78 2 (by unfold Only; omega)).trans f2669
  have f2673 : fld g2670 78 4 = .ref (ad 75) := e1
  have hG := hG.putR e1 e2 (rfl : rF 78 4 = (-2147483648, 2147483647)) (by decide)
  refine q_aload_n hM dX1_read_23 (lv_at hl 0 rfl) ?_
  refine w_get (v := .ref (ad 75)) hM hW FG_X1_15 lb_78 f2673 dX1_read_24 ?_
  refine q_iconst (v := (0 : Int32)) hM dX1_read_27 (by decide) ?_
  refine w_put hM hW FP_X1_35 lb_75 (by omega) (Or.inl ⟨_, rfl⟩) rfl rfl dX1_read_28 (fun g2674 H locs hW e1 e2 => ?_)
  have f2675 : fld g2674 78 1 = .int r2664 := (e2.1 78 1 (by unfold Only; omega)).trans f2671
  have f2676 : fld g2674 78 2 = .int (0 : Int32) := (e2.1 78 2 (by unfold Only; omega)).trans f2672
  have f2677 : fld g2674 78 4 = .ref (ad 75) := (e2.1 78 4 (by unfold Only; omega)).trans f2673
  have f2678 : fld g2674 75 2 = .int (0 : Int32) := e1
  have hG := hG.put e1 e2 rF_75_2 (by decide) (by have := kc_0; have := i_rng (0 : Int32); omega) (by have := kc_0; have := i_rng (0 : Int32); omega)
  refine q_aload_n hM dX1_read_31 (lv_at hl 0 rfl) ?_
  refine q_iconst (v := (0 : Int32)) hM dX1_read_32 (by decide) ?_
  refine q_callV (As := [.int (0 : Int32)]) (rest := []) hM hW.1 hR hC myX1_steps (kAW (v_1_12 (List.mem_of_getElem? (i := 10) rfl)) rfl) (rfl : vwCl[1]? = some (RX1, TX1, 5)) rfl lb_78.1 (shO hW.2.1 lb_78) (a_X1_steps_0 _ _ cA ad g2674 (0 : Int32) r2664 (0 : Int32) (0 : Int32) hW.2.1 hG f2675 f2676 f2678 f2677 (by have := kc_0; have := kc_0; have := kc_0; omega) (by have := kc_0; have := kc_0; have := kc_0; omega) (by have := kc_0; have := kc_0; have := kc_0; omega) (by have := kc_0; have := kc_0; have := kc_0; omega)) ⟨by decide, by decide⟩ rfl rfl hl.1 (Nat.le_of_ble_eq_true rfl) dX1_read_33 (fun v g2687 H locs hp hW1 => ?_)
  obtain ⟨v2679, v2680, r2681, rfl, hs1, hG, hf1, q2682, q2683, e2684, e2685, e2686, hr2681⟩ := hp
  have f2688 : fld g2687 78 1 = .int r2664 := (hf1.1 78 1 (by omega)).trans f2675
  have f2689 : fld g2687 78 4 = .ref (ad 75) := (hf1.1 78 4 (by omega)).trans f2677
  have hW : WS ad cA (fun i k => (i = 78 ∧ (k = 1 ∨ k = 2 ∨ k = 3 ∨ k = 4)) ∨ (i = 75 ∧ (k = 2)) ∨ i = 76 ∨ i = 77) g0 K g2687 H locs := ⟨hW1, hs1, hW.2.2.tr hf1 (fun i k h => h.elim (fun h => (Or.inl (by omega))) (fun h => h.elim (fun h => (Or.inr (Or.inl h))) (fun h => h.elim (fun h => (Or.inr (Or.inr (Or.inl h)))) (fun h => (Or.inr (Or.inr (Or.inr h)))))))⟩
  refine q_if_ne (tgt := 44) hM dX1_read_36 (by decide) (rfl : r2681.toInt = r2681.toInt) (fun h36 => ?_) (fun h36 => ?_)
  · refine q_aload_n hM dX1_read_44 (lv_at hl 0 rfl) ?_
    refine w_get (v := .int v2679) hM hW FG_X1_23 lb_78 q2682 dX1_read_45 ?_
    have bv2679 := hG.f q2682 rF_78_2 (by decide)
    refine q_aload_n hM dX1_read_48 (lv_at hl 0 rfl) ?_
    refine w_get (v := .int r2664) hM hW FG_X1_19 lb_78 f2688 dX1_read_49 ?_
    have br2664 := hG.f f2688 rF_78_1 (by decide)
    refine q_icmp_eq (tgt := 67) hM dX1_read_52 (by decide) (rfl : v2679.toInt = v2679.toInt) (rfl : r2664.toInt = r2664.toInt) (fun h52 => ?_) (fun h52 => ?_)
    · refine q_aload_n hM dX1_read_67 (lv_at hl 0 rfl) ?_
      refine w_get (v := .ref (ad 75)) hM hW FG_X1_15 lb_78 f2689 dX1_read_68 ?_
      refine w_get (v := .int v2680) hM hW FG_X1_35 lb_75 q2683 dX1_read_71 ?_
      have bv2680 := hG.f q2683 rF_75_2 (by decide)
      refine q_goto (tgt := 81) hM dX1_read_74 (by decide) ?_
      exact hE _ _ _ _ _ _ hW.1 ⟨_, rfl, hW.2.1, hG, hW.2.2⟩ dX1_read_81
    · refine q_aload_n hM dX1_read_55 (lv_at hl 0 rfl) ?_
      refine q_iconst (v := (1 : Int32)) hM dX1_read_56 (by decide) ?_
      refine q_aload_n hM dX1_read_57 (lv_at hl 0 rfl) ?_
      refine w_get (v := .int v2679) hM hW FG_X1_23 lb_78 q2682 dX1_read_58 ?_
      have bv2679 := hG.f q2682 rF_78_2 (by decide)
      refine q_callV (As := [.int (1 : Int32), .int v2679]) (rest := []) hM hW.1 hR hC myX1_wrong (kAW (v_1_13 (List.mem_of_getElem? (i := 7) rfl)) rfl) (rfl : vwCl[1]? = some (RX1, TX1, 5)) rfl lb_78.1 (shO hW.2.1 lb_78) (a_X1_wrong _ _ cA ad g2687 (1 : Int32) v2679 hW.2.1 hG) ⟨by decide, by decide⟩ rfl rfl hl.1 (Nat.le_of_ble_eq_true rfl) dX1_read_61 (fun v g2694 H locs hp hW1 => ?_)
      obtain ⟨r2693, rfl, hs1, hG, hf1, hr2693⟩ := hp
      have f2695 : fld g2694 78 1 = .int r2664 := (hf1.1 78 1 (by omega)).trans f2688
      have f2696 : fld g2694 78 4 = .ref (ad 75) := (hf1.1 78 4 (by omega)).trans f2689
      have f2697 : fld g2694 78 2 = .int v2679 := (hf1.1 78 2 (by omega)).trans q2682
      have f2698 : fld g2694 75 2 = .int v2680 := (hf1.1 75 2 (by omega)).trans q2683
      have hW : WS ad cA (fun i k => (i = 78 ∧ (k = 1 ∨ k = 2 ∨ k = 3 ∨ k = 4)) ∨ (i = 75 ∧ (k = 2)) ∨ i = 76 ∨ i = 77) g0 K g2694 H locs := ⟨hW1, hs1, hW.2.2.tr hf1 (fun i k h => (Or.inl (by omega)))⟩
      refine q_if_eq (tgt := 77) hM dX1_read_64 (by decide) (rfl : r2693.toInt = r2693.toInt) (fun h64 => ?_) (fun h64 => ?_)
      · refine q_aload_n hM dX1_read_77 (lv_at hl 0 rfl) ?_
        refine w_getI hM hW FG_X1_26 lb_78 (by decide) (by decide) dX1_read_78 (fun x2700 fx2700 => ?_)
        exact hE _ _ _ _ _ _ hW.1 ⟨_, rfl, hW.2.1, hG, hW.2.2⟩ dX1_read_81
      · refine q_aload_n hM dX1_read_67 (lv_at hl 0 rfl) ?_
        refine w_get (v := .ref (ad 75)) hM hW FG_X1_15 lb_78 f2696 dX1_read_68 ?_
        refine w_get (v := .int v2680) hM hW FG_X1_35 lb_75 f2698 dX1_read_71 ?_
        have bv2680 := hG.f f2698 rF_75_2 (by decide)
        refine q_goto (tgt := 81) hM dX1_read_74 (by decide) ?_
        exact hE _ _ _ _ _ _ hW.1 ⟨_, rfl, hW.2.1, hG, hW.2.2⟩ dX1_read_81
  · refine q_aload_n hM dX1_read_39 (lv_at hl 0 rfl) ?_
    refine w_getI hM hW FG_X1_26 lb_78 (by decide) (by decide) dX1_read_40 (fun x2703 fx2703 => ?_)
    exact hE _ _ _ _ _ _ hW.1 ⟨_, rfl, hW.2.1, hG, hW.2.2⟩ dX1_read_43
