theorem dX12_goesBehind_0 : decode cX12_goesBehind 0 = .ok (.aload_n 0, 1) := by decide +kernel
theorem dX12_goesBehind_1 : decode cX12_goesBehind 1 = .ok (.invokevirtual 182, 3) := by decide +kernel
theorem dX12_goesBehind_4 : decode cX12_goesBehind 4 = .ok (.istore_n 1, 1) := by decide +kernel
theorem dX12_goesBehind_5 : decode cX12_goesBehind 5 = .ok (.iload_n 1, 1) := by decide +kernel
theorem dX12_goesBehind_6 : decode cX12_goesBehind 6 = .ok (.bipush 38, 2) := by decide +kernel
theorem dX12_goesBehind_8 : decode cX12_goesBehind 8 = .ok (.if_icmp .eq 9, 3) := by decide +kernel
theorem dX12_goesBehind_11 : decode cX12_goesBehind 11 = .ok (.iload_n 1, 1) := by decide +kernel
theorem dX12_goesBehind_12 : decode cX12_goesBehind 12 = .ok (.bipush 124, 2) := by decide +kernel
theorem dX12_goesBehind_14 : decode cX12_goesBehind 14 = .ok (.if_icmp .ne 25, 3) := by decide +kernel
theorem dX12_goesBehind_17 : decode cX12_goesBehind 17 = .ok (.aload_n 0, 1) := by decide +kernel
theorem dX12_goesBehind_18 : decode cX12_goesBehind 18 = .ok (.iload_n 1, 1) := by decide +kernel
theorem dX12_goesBehind_19 : decode cX12_goesBehind 19 = .ok (.bipush 124, 2) := by decide +kernel
theorem dX12_goesBehind_21 : decode cX12_goesBehind 21 = .ok (.if_icmp .ne 7, 3) := by decide +kernel
theorem dX12_goesBehind_24 : decode cX12_goesBehind 24 = .ok (.iconst 1, 1) := by decide +kernel
theorem dX12_goesBehind_25 : decode cX12_goesBehind 25 = .ok (.goto 4, 3) := by decide +kernel
theorem dX12_goesBehind_28 : decode cX12_goesBehind 28 = .ok (.iconst 0, 1) := by decide +kernel
theorem dX12_goesBehind_29 : decode cX12_goesBehind 29 = .ok (.invokevirtual 336, 3) := by decide +kernel
theorem dX12_goesBehind_32 : decode cX12_goesBehind 32 = .ok (.aload_n 0, 1) := by decide +kernel
theorem dX12_goesBehind_33 : decode cX12_goesBehind 33 = .ok (.iload_n 1, 1) := by decide +kernel
theorem dX12_goesBehind_34 : decode cX12_goesBehind 34 = .ok (.invokevirtual 287, 3) := by decide +kernel
theorem dX12_goesBehind_37 : decode cX12_goesBehind 37 = .ok (.iconst 1, 1) := by decide +kernel
theorem dX12_goesBehind_38 : decode cX12_goesBehind 38 = .ok (.ireturn, 1) := by decide +kernel
theorem dX12_goesBehind_39 : decode cX12_goesBehind 39 = .ok (.iload_n 1, 1) := by decide +kernel
theorem dX12_goesBehind_40 : decode cX12_goesBehind 40 = .ok (.bipush 41, 2) := by decide +kernel
theorem dX12_goesBehind_42 : decode cX12_goesBehind 42 = .ok (.if_icmp .eq 14, 3) := by decide +kernel
theorem dX12_goesBehind_45 : decode cX12_goesBehind 45 = .ok (.aload_n 0, 1) := by decide +kernel
theorem dX12_goesBehind_46 : decode cX12_goesBehind 46 = .ok (.iconst 1, 1) := by decide +kernel
theorem dX12_goesBehind_47 : decode cX12_goesBehind 47 = .ok (.aload_n 0, 1) := by decide +kernel
theorem dX12_goesBehind_48 : decode cX12_goesBehind 48 = .ok (.getfield 173, 3) := by decide +kernel
theorem dX12_goesBehind_51 : decode cX12_goesBehind 51 = .ok (.invokevirtual 230, 3) := by decide +kernel
theorem dX12_goesBehind_54 : decode cX12_goesBehind 54 = .ok (.iconst 0, 1) := by decide +kernel
theorem dX12_goesBehind_55 : decode cX12_goesBehind 55 = .ok (.ireturn, 1) := by decide +kernel
theorem dX12_goesBehind_56 : decode cX12_goesBehind 56 = .ok (.aload_n 0, 1) := by decide +kernel
theorem dX12_goesBehind_57 : decode cX12_goesBehind 57 = .ok (.iconst 1, 1) := by decide +kernel
theorem dX12_goesBehind_58 : decode cX12_goesBehind 58 = .ok (.invokevirtual 336, 3) := by decide +kernel
theorem dX12_goesBehind_61 : decode cX12_goesBehind 61 = .ok (.aload_n 0, 1) := by decide +kernel
theorem dX12_goesBehind_62 : decode cX12_goesBehind 62 = .ok (.dup, 1) := by decide +kernel
theorem dX12_goesBehind_63 : decode cX12_goesBehind 63 = .ok (.getfield 281, 3) := by decide +kernel
theorem dX12_goesBehind_66 : decode cX12_goesBehind 66 = .ok (.iconst 1, 1) := by decide +kernel
theorem dX12_goesBehind_67 : decode cX12_goesBehind 67 = .ok (.isub, 1) := by decide +kernel
theorem dX12_goesBehind_68 : decode cX12_goesBehind 68 = .ok (.putfield 281, 3) := by decide +kernel
theorem dX12_goesBehind_71 : decode cX12_goesBehind 71 = .ok (.aload_n 0, 1) := by decide +kernel
theorem dX12_goesBehind_72 : decode cX12_goesBehind 72 = .ok (.dup, 1) := by decide +kernel
theorem dX12_goesBehind_73 : decode cX12_goesBehind 73 = .ok (.getfield 284, 3) := by decide +kernel
theorem dX12_goesBehind_76 : decode cX12_goesBehind 76 = .ok (.iconst 1, 1) := by decide +kernel
theorem dX12_goesBehind_77 : decode cX12_goesBehind 77 = .ok (.isub, 1) := by decide +kernel
theorem dX12_goesBehind_78 : decode cX12_goesBehind 78 = .ok (.putfield 284, 3) := by decide +kernel
theorem dX12_goesBehind_81 : decode cX12_goesBehind 81 = .ok (.aload_n 0, 1) := by decide +kernel
theorem dX12_goesBehind_82 : decode cX12_goesBehind 82 = .ok (.dup, 1) := by decide +kernel
theorem dX12_goesBehind_83 : decode cX12_goesBehind 83 = .ok (.getfield 173, 3) := by decide +kernel
theorem dX12_goesBehind_86 : decode cX12_goesBehind 86 = .ok (.iconst 1, 1) := by decide +kernel
theorem dX12_goesBehind_87 : decode cX12_goesBehind 87 = .ok (.iadd, 1) := by decide +kernel
theorem dX12_goesBehind_88 : decode cX12_goesBehind 88 = .ok (.putfield 173, 3) := by decide +kernel
theorem dX12_goesBehind_91 : decode cX12_goesBehind 91 = .ok (.aload_n 0, 1) := by decide +kernel
theorem dX12_goesBehind_92 : decode cX12_goesBehind 92 = .ok (.aload_n 0, 1) := by decide +kernel
theorem dX12_goesBehind_93 : decode cX12_goesBehind 93 = .ok (.getfield 281, 3) := by decide +kernel
theorem dX12_goesBehind_96 : decode cX12_goesBehind 96 = .ok (.ifCond .ne 7, 3) := by decide +kernel
theorem dX12_goesBehind_99 : decode cX12_goesBehind 99 = .ok (.iconst 1, 1) := by decide +kernel
theorem dX12_goesBehind_100 : decode cX12_goesBehind 100 = .ok (.goto 4, 3) := by decide +kernel
theorem dX12_goesBehind_103 : decode cX12_goesBehind 103 = .ok (.iconst 0, 1) := by decide +kernel
theorem dX12_goesBehind_104 : decode cX12_goesBehind 104 = .ok (.putfield 339, 3) := by decide +kernel
theorem dX12_goesBehind_107 : decode cX12_goesBehind 107 = .ok (.aload_n 0, 1) := by decide +kernel
theorem dX12_goesBehind_108 : decode cX12_goesBehind 108 = .ok (.getfield 339, 3) := by decide +kernel
theorem dX12_goesBehind_111 : decode cX12_goesBehind 111 = .ok (.ifCond .ne 7, 3) := by decide +kernel
theorem dX12_goesBehind_114 : decode cX12_goesBehind 114 = .ok (.aload_n 0, 1) := by decide +kernel
theorem dX12_goesBehind_115 : decode cX12_goesBehind 115 = .ok (.invokevirtual 333, 3) := by decide +kernel
theorem dX12_goesBehind_118 : decode cX12_goesBehind 118 = .ok (.iconst 0, 1) := by decide +kernel
theorem dX12_goesBehind_119 : decode cX12_goesBehind 119 = .ok (.ireturn, 1) := by decide +kernel
theorem myX12_joins : MI yX12_joins cX12_joins 2 none 1 := ⟨kAW (v_6_1 (List.mem_of_getElem? (i := 10) rfl)) rfl, kAW (v_0_0 (List.mem_of_getElem? (i := 13) rfl)) rfl, kAW (v_6_1 (List.mem_of_getElem? (i := 9) rfl)) rfl, kAW (tp_t3 (List.mem_of_getElem? (i := 14) rfl)) rfl, by decide, by decide, by decide +kernel⟩
theorem FP_X12_339 : FPX RX12 339 12 86 39 .boolean := ⟨⟨RX12, TX12, tyX12, rfl, wX12, by decide, kAW (v_4_5 (List.mem_of_getElem? (i := 4) rfl)) rfl, rfl, tyX12_ok, nmX12, by decide +kernel, rfl⟩, by decide +kernel⟩
theorem FG_X12_339 : FG RX12 339 12 86 39 := ⟨RX12, TX12, rfl, wX12, by decide, kAW (v_4_5 (List.mem_of_getElem? (i := 4) rfl)) rfl, rfl⟩
set_option maxRecDepth 100000 in
set_option maxHeartbeats 4000000 in
theorem a_X12_goesBehind (l : Launch) (D : va_G) (cA : Nat → ClassId) (ad : Nat → Nat) (g0 : Nat → va_E)  (pl : Int32) (en : Int32) (bd : Int32) (co : Int32) (sk : Int32) (op : Int32) (iv : Int32)  (sa : Int × (Nat → Int32)) (hSh : Shp ad cA g0) (hG : Rng g0) (h_pl : fld g0 129 3 = .int pl) (h_en : fld g0 129 4 = .int en) (h_bd : fld g0 129 5 = .int bd) (h_co : fld g0 129 7 = .int co) (h_sk : fld g0 129 9 = .int sk) (h_op : fld g0 129 8 = .int op) (h_iv : fld g0 129 39 = .int iv) (pl0 : 0 ≤ pl.toInt) (pl1 : pl.toInt ≤ en.toInt) (en1 : en.toInt ≤ 240) (bd0 : bd.toInt = 0) (i1 : co.toInt + sk.toInt ≤ pl.toInt) (i2 : sk.toInt - pl.toInt ≤ op.toInt) (i3 : op.toInt ≤ pl.toInt) (iv0 : iv.toInt = 0) (hJ : JJ (arI g0 153) (arI g0 155) sa co.toInt sk.toInt 1) (hK9 : CS (arI g0 155) sk.toInt) : CT l NN ad cA D yX12_goesBehind cX12_goesBehind 2 (some FieldType.boolean) (3, 63) [.ref (ad 129)] g0 (fun v g' => ∃ (p9 : Int32) (b9 : Int32) (c9 : Int32) (s9 : Int32) (o9 : Int32) (v9 : Int32) (r : Int32), v = some (.int r) ∧ Shp ad cA g' ∧ Rng g' ∧ FR (fun i k => (i = 129 ∧ (k = 3 ∨ k = 5 ∨ k = 7 ∨ k = 8 ∨ k = 9 ∨ k = 39)) ∨ i = 153 ∨ i = 154 ∨ i = 155) g0 g' ∧ fld g' 129 3 = .int p9 ∧ fld g' 129 5 = .int b9 ∧ fld g' 129 7 = .int c9 ∧ fld g' 129 9 = .int s9 ∧ fld g' 129 8 = .int o9 ∧ fld g' 129 39 = .int v9 ∧ (pl.toInt ≤ p9.toInt) ∧ (p9.toInt ≤ en.toInt) ∧ (b9.toInt ≤ 0) ∧ (c9.toInt + s9.toInt ≤ p9.toInt) ∧ (s9.toInt - p9.toInt ≤ o9.toInt) ∧ (o9.toInt ≤ p9.toInt) ∧ (0 ≤ s9.toInt ∧ 0 ≤ c9.toInt) ∧ (0 ≤ v9.toInt ∧ v9.toInt ≤ 1) ∧ ((r.toInt = 1 ∧ b9.toInt = 0 ∧ pl.toInt < p9.toInt ∧ v9.toInt = 0 ∧ JJ (arI g' 153) (arI g' 155) sa c9.toInt s9.toInt 0 ∧ CS (arI g' 155) s9.toInt) ∨ (r.toInt = 0 ∧ (b9.toInt = 0 → pl.toInt < p9.toInt ∧ JJ (arI g' 153) (arI g' 155) sa c9.toInt s9.toInt 1 ∧ (v9.toInt = 0 → CS (arI g' 155) s9.toInt))))) := by
  refine q_enterZ (by decide) (Nat.le_of_ble_eq_true rfl) (fun K H locs ls _ _ hM hW0 hR hC hE hl => ?_)
  have hl : lv_has ls 2 [(0, .ref (ad 129))] := hl
  have hW : WS ad cA (fun i k => (i = 129 ∧ (k = 3 ∨ k = 5 ∨ k = 7 ∨ k = 8 ∨ k = 9 ∨ k = 39)) ∨ i = 153 ∨ i = 154 ∨ i = 155) g0 K g0 H locs := ⟨hW0, hSh, FR.rf⟩
  have b_pl := hG.f h_pl rF_129_3 (by decide)
  have b_en := hG.f h_en rF_129_4 (by decide)
  have b_bd := hG.f h_bd rF_129_5 (by decide)
  have b_co := hG.f h_co rF_129_7 (by decide)
  have b_sk := hG.f h_sk rF_129_9 (by decide)
  have b_op := hG.f h_op rF_129_8 (by decide)
  have f10425 : fld g0 129 3 = .int pl := h_pl
  have f10426 : fld g0 129 5 = .int bd := h_bd
  have f10427 : fld g0 129 7 = .int co := h_co
  have f10428 : fld g0 129 8 = .int op := h_op
  have f10429 : fld g0 129 9 = .int sk := h_sk
  have f10430 : fld g0 129 39 = .int iv := h_iv
  refine q_aload_n hM dX12_goesBehind_0 (lv_at hl 0 rfl) ?_
  refine q_callV (As := []) (rest := []) hM hW.1 hR hC myX12_here (kAW (v_5_9 (List.mem_of_getElem? (i := 3) rfl)) rfl) (rfl : vwCl[12]? = some (RX12, TX12, 86)) rfl lb_129.1 (shO hW.2.1 lb_129) (a_X12_here _ _ cA ad g0 pl en hW.2.1 hG f10425 ((hW.2.2.1 129 4 (by omega)).trans h_en) (by  omega) (by  omega)) ⟨by decide, by decide⟩ rfl rfl hl.1 (Nat.le_of_ble_eq_true rfl) dX12_goesBehind_1 (fun v g10432 H locs hp hW1 => ?_)
  obtain ⟨r10431, rfl, hr10431, rfl⟩ := hp
  have hW : WS ad cA (fun i k => (i = 129 ∧ (k = 3 ∨ k = 5 ∨ k = 7 ∨ k = 8 ∨ k = 9 ∨ k = 39)) ∨ i = 153 ∨ i = 154 ∨ i = 155) g0 K g0 H locs := ⟨hW1, hW.2.1, hW.2.2⟩
  rw [hW.2.2.2.1 130 (by omega)] at hr10431
  refine q_istore_n (lv9 := [(1, .int r10431), (0, .ref (ad 129))]) hM dX12_goesBehind_4 hl (by decide) rfl (fun ls hl => ?_)
  refine q_iload_n hM dX12_goesBehind_5 (lv_at hl 0 rfl) ?_
  refine q_bipush (v := (38 : Int32)) hM dX12_goesBehind_6 (by decide) ?_
  refine q_icmp_eq (tgt := 17) hM dX12_goesBehind_8 (by decide) (rfl : r10431.toInt = r10431.toInt) (kc_38 : (38 : Int32).toInt = 38) (fun h8 => ?_) (fun h8 => ?_)
  · refine q_aload_n hM dX12_goesBehind_17 (lv_at hl 1 rfl) ?_
    refine q_iload_n hM dX12_goesBehind_18 (lv_at hl 0 rfl) ?_
    refine q_bipush (v := (124 : Int32)) hM dX12_goesBehind_19 (by decide) ?_
    refine q_icmp_ne (tgt := 28) hM dX12_goesBehind_21 (by decide) (rfl : r10431.toInt = r10431.toInt) (kc_124 : (124 : Int32).toInt = 124) (fun h21 => ?_) (fun h21 => ?_)
    · refine q_iconst (v := (0 : Int32)) hM dX12_goesBehind_28 (by decide) ?_
      refine q_callV (As := [.int (0 : Int32)]) (rest := []) hM hW.1 hR hC myX12_joins (kAW (v_6_1 (List.mem_of_getElem? (i := 7) rfl)) rfl) (rfl : vwCl[12]? = some (RX12, TX12, 86)) rfl lb_129.1 (shO hW.2.1 lb_129) (a_X12_joins _ _ cA ad g0 (0 : Int32) bd co sk sa hW.2.1 hG f10426 f10427 f10429 (by have := kc_0; omega) (by have := kc_0; omega) hJ hK9) ⟨by decide, by decide⟩ rfl rfl hl.1 (Nat.le_of_ble_eq_true rfl) dX12_goesBehind_29 (fun v g10447 H locs hp hW1 => ?_)
      obtain ⟨v10435, v10436, rfl, hs1, hG, hf1, q10437, q10438, e10439, e10440, e10441, e10442, e10443, e10444, e10445, e10446⟩ := hp
      have f10448 : arI g10447 155 = arI g0 155 := (hf1.2.1 155 (by omega)).trans (rfl : arI g0 155 = arI g0 155)
      have f10449 : fld g10447 129 3 = .int pl := (hf1.1 129 3 (by omega)).trans f10425
      have f10450 : fld g10447 129 5 = .int bd := (hf1.1 129 5 (by omega)).trans f10426
      have f10451 : fld g10447 129 8 = .int op := (hf1.1 129 8 (by omega)).trans f10428
      have f10452 : fld g10447 129 39 = .int iv := (hf1.1 129 39 (by omega)).trans f10430
      have hW : WS ad cA (fun i k => (i = 129 ∧ (k = 3 ∨ k = 5 ∨ k = 7 ∨ k = 8 ∨ k = 9 ∨ k = 39)) ∨ i = 153 ∨ i = 154 ∨ i = 155) g0 K g10447 H locs := ⟨hW1, hs1, hW.2.2.tr hf1 (fun i k h => h.elim (fun h => (Or.inl (by omega))) (fun h => h.elim (fun h => (Or.inr (Or.inl h))) (fun h => (Or.inr (Or.inr (Or.inl h))))))⟩
      have ct := CS_top e10444
      have cu := e10444.2.1
      refine q_aload_n hM dX12_goesBehind_32 (lv_at hl 1 rfl) ?_
      refine q_iload_n hM dX12_goesBehind_33 (lv_at hl 0 rfl) ?_
      refine q_callV (As := [.int r10431]) (rest := []) hM hW.1 hR hC myX12_puts (kAW (v_5_12 (List.mem_of_getElem? (i := 14) rfl)) rfl) (rfl : vwCl[12]? = some (RX12, TX12, 86)) rfl lb_129.1 (shO hW.2.1 lb_129) (a_X12_puts _ _ cA ad g10447 r10431 pl v10436 hW.2.1 hG f10449 q10438 (by  omega) (by  omega) (by  omega)) ⟨by decide, by decide⟩ rfl rfl hl.1 (Nat.le_of_ble_eq_true rfl) dX12_goesBehind_34 (fun v g10460 H locs hp hW1 => ?_)
      obtain ⟨v10453, v10454, rfl, hs1, hG, hf1, q10455, q10456, e10457, e10458, e10459⟩ := hp
      have f10461 : fld g10460 129 5 = .int bd := (hf1.1 129 5 (by omega)).trans f10450
      have f10462 : fld g10460 129 8 = .int op := (hf1.1 129 8 (by omega)).trans f10451
      have f10463 : fld g10460 129 39 = .int iv := (hf1.1 129 39 (by omega)).trans f10452
      have f10464 : fld g10460 129 7 = .int v10435 := (hf1.1 129 7 (by omega)).trans q10437
      have f10465 : arI g10460 153 = arI g10447 153 := (hf1.2.1 153 (by omega)).trans (rfl : arI g10447 153 = arI g10447 153)
      have hW : WS ad cA (fun i k => (i = 129 ∧ (k = 3 ∨ k = 5 ∨ k = 7 ∨ k = 8 ∨ k = 9 ∨ k = 39)) ∨ i = 153 ∨ i = 154 ∨ i = 155) g0 K g10460 H locs := ⟨hW1, hs1, hW.2.2.tr hf1 (fun i k h => h.elim (fun h => (Or.inl (by omega))) (fun h => (Or.inr (Or.inr (Or.inr h)))))⟩
      have f10466 := e10459
      rw [f10448] at f10466
      refine q_iconst (v := (1 : Int32)) hM dX12_goesBehind_37 (by decide) ?_
      exact hE _ _ _ _ _ _ hW.1 nz_1 ⟨v10453, bd, v10435, v10454, op, iv, _, rfl, hW.2.1, hG, hW.2.2, q10455, f10461, f10464, q10456, f10462, f10463, (by have := kc_1; omega), (by have := kc_1; omega), (by have := kc_1; omega), (by have := kc_1; omega), (by have := kc_1; omega), (by have := kc_1; omega), (by have := kc_1; omega), (by have := kc_1; omega), Or.inl ⟨kc_1, by omega, by omega, by omega, by rw [f10465, f10466]; exact JJ_push e10443 rfl rfl (by have := bnd_c r10431; omega) (by omega), by rw [f10466]; exact CS_push e10444 rfl rfl (by omega) (by omega)⟩⟩ dX12_goesBehind_38
    · refine q_iconst (v := (1 : Int32)) hM dX12_goesBehind_24 (by decide) ?_
      refine q_goto (tgt := 29) hM dX12_goesBehind_25 (by decide) ?_
      refine q_callV (As := [.int (1 : Int32)]) (rest := []) hM hW.1 hR hC myX12_joins (kAW (v_6_1 (List.mem_of_getElem? (i := 7) rfl)) rfl) (rfl : vwCl[12]? = some (RX12, TX12, 86)) rfl lb_129.1 (shO hW.2.1 lb_129) (a_X12_joins _ _ cA ad g0 (1 : Int32) bd co sk sa hW.2.1 hG f10426 f10427 f10429 (by have := kc_1; omega) (by have := kc_1; omega) hJ hK9) ⟨by decide, by decide⟩ rfl rfl hl.1 (Nat.le_of_ble_eq_true rfl) dX12_goesBehind_29 (fun v g10480 H locs hp hW1 => ?_)
      obtain ⟨v10468, v10469, rfl, hs1, hG, hf1, q10470, q10471, e10472, e10473, e10474, e10475, e10476, e10477, e10478, e10479⟩ := hp
      have f10481 : arI g10480 155 = arI g0 155 := (hf1.2.1 155 (by omega)).trans (rfl : arI g0 155 = arI g0 155)
      have f10482 : fld g10480 129 3 = .int pl := (hf1.1 129 3 (by omega)).trans f10425
      have f10483 : fld g10480 129 5 = .int bd := (hf1.1 129 5 (by omega)).trans f10426
      have f10484 : fld g10480 129 8 = .int op := (hf1.1 129 8 (by omega)).trans f10428
      have f10485 : fld g10480 129 39 = .int iv := (hf1.1 129 39 (by omega)).trans f10430
      have hW : WS ad cA (fun i k => (i = 129 ∧ (k = 3 ∨ k = 5 ∨ k = 7 ∨ k = 8 ∨ k = 9 ∨ k = 39)) ∨ i = 153 ∨ i = 154 ∨ i = 155) g0 K g10480 H locs := ⟨hW1, hs1, hW.2.2.tr hf1 (fun i k h => h.elim (fun h => (Or.inl (by omega))) (fun h => h.elim (fun h => (Or.inr (Or.inl h))) (fun h => (Or.inr (Or.inr (Or.inl h))))))⟩
      have ct := CS_top e10477
      have cu := e10477.2.1
      refine q_aload_n hM dX12_goesBehind_32 (lv_at hl 1 rfl) ?_
      refine q_iload_n hM dX12_goesBehind_33 (lv_at hl 0 rfl) ?_
      refine q_callV (As := [.int r10431]) (rest := []) hM hW.1 hR hC myX12_puts (kAW (v_5_12 (List.mem_of_getElem? (i := 14) rfl)) rfl) (rfl : vwCl[12]? = some (RX12, TX12, 86)) rfl lb_129.1 (shO hW.2.1 lb_129) (a_X12_puts _ _ cA ad g10480 r10431 pl v10469 hW.2.1 hG f10482 q10471 (by  omega) (by  omega) (by  omega)) ⟨by decide, by decide⟩ rfl rfl hl.1 (Nat.le_of_ble_eq_true rfl) dX12_goesBehind_34 (fun v g10493 H locs hp hW1 => ?_)
      obtain ⟨v10486, v10487, rfl, hs1, hG, hf1, q10488, q10489, e10490, e10491, e10492⟩ := hp
      have f10494 : fld g10493 129 5 = .int bd := (hf1.1 129 5 (by omega)).trans f10483
      have f10495 : fld g10493 129 8 = .int op := (hf1.1 129 8 (by omega)).trans f10484
      have f10496 : fld g10493 129 39 = .int iv := (hf1.1 129 39 (by omega)).trans f10485
      have f10497 : fld g10493 129 7 = .int v10468 := (hf1.1 129 7 (by omega)).trans q10470
      have f10498 : arI g10493 153 = arI g10480 153 := (hf1.2.1 153 (by omega)).trans (rfl : arI g10480 153 = arI g10480 153)
      have hW : WS ad cA (fun i k => (i = 129 ∧ (k = 3 ∨ k = 5 ∨ k = 7 ∨ k = 8 ∨ k = 9 ∨ k = 39)) ∨ i = 153 ∨ i = 154 ∨ i = 155) g0 K g10493 H locs := ⟨hW1, hs1, hW.2.2.tr hf1 (fun i k h => h.elim (fun h => (Or.inl (by omega))) (fun h => (Or.inr (Or.inr (Or.inr h)))))⟩
      have f10499 := e10492
      rw [f10481] at f10499
      refine q_iconst (v := (1 : Int32)) hM dX12_goesBehind_37 (by decide) ?_
      exact hE _ _ _ _ _ _ hW.1 nz_1 ⟨v10486, bd, v10468, v10487, op, iv, _, rfl, hW.2.1, hG, hW.2.2, q10488, f10494, f10497, q10489, f10495, f10496, (by have := kc_1; omega), (by have := kc_1; omega), (by have := kc_1; omega), (by have := kc_1; omega), (by have := kc_1; omega), (by have := kc_1; omega), (by have := kc_1; omega), (by have := kc_1; omega), Or.inl ⟨kc_1, by omega, by omega, by omega, by rw [f10498, f10499]; exact JJ_push e10476 rfl rfl (by have := bnd_c r10431; omega) (by omega), by rw [f10499]; exact CS_push e10477 rfl rfl (by omega) (by omega)⟩⟩ dX12_goesBehind_38
  · refine q_iload_n hM dX12_goesBehind_11 (lv_at hl 0 rfl) ?_
    refine q_bipush (v := (124 : Int32)) hM dX12_goesBehind_12 (by decide) ?_
    refine q_icmp_ne (tgt := 39) hM dX12_goesBehind_14 (by decide) (rfl : r10431.toInt = r10431.toInt) (kc_124 : (124 : Int32).toInt = 124) (fun h14 => ?_) (fun h14 => ?_)
    · refine q_iload_n hM dX12_goesBehind_39 (lv_at hl 0 rfl) ?_
      refine q_bipush (v := (41 : Int32)) hM dX12_goesBehind_40 (by decide) ?_
      refine q_icmp_eq (tgt := 56) hM dX12_goesBehind_42 (by decide) (rfl : r10431.toInt = r10431.toInt) (kc_41 : (41 : Int32).toInt = 41) (fun h42 => ?_) (fun h42 => ?_)
      · refine q_aload_n hM dX12_goesBehind_56 (lv_at hl 1 rfl) ?_
        refine q_iconst (v := (1 : Int32)) hM dX12_goesBehind_57 (by decide) ?_
        refine q_callV (As := [.int (1 : Int32)]) (rest := []) hM hW.1 hR hC myX12_joins (kAW (v_6_1 (List.mem_of_getElem? (i := 7) rfl)) rfl) (rfl : vwCl[12]? = some (RX12, TX12, 86)) rfl lb_129.1 (shO hW.2.1 lb_129) (a_X12_joins _ _ cA ad g0 (1 : Int32) bd co sk sa hW.2.1 hG f10426 f10427 f10429 (by have := kc_1; omega) (by have := kc_1; omega) hJ hK9) ⟨by decide, by decide⟩ rfl rfl hl.1 (Nat.le_of_ble_eq_true rfl) dX12_goesBehind_58 (fun v g10515 H locs hp hW1 => ?_)
        obtain ⟨v10503, v10504, rfl, hs1, hG, hf1, q10505, q10506, e10507, e10508, e10509, e10510, e10511, e10512, e10513, e10514⟩ := hp
        have f10516 : arI g10515 155 = arI g0 155 := (hf1.2.1 155 (by omega)).trans (rfl : arI g0 155 = arI g0 155)
        have f10517 : fld g10515 129 3 = .int pl := (hf1.1 129 3 (by omega)).trans f10425
        have f10518 : fld g10515 129 5 = .int bd := (hf1.1 129 5 (by omega)).trans f10426
        have f10519 : fld g10515 129 8 = .int op := (hf1.1 129 8 (by omega)).trans f10428
        have f10520 : fld g10515 129 39 = .int iv := (hf1.1 129 39 (by omega)).trans f10430
        have hW : WS ad cA (fun i k => (i = 129 ∧ (k = 3 ∨ k = 5 ∨ k = 7 ∨ k = 8 ∨ k = 9 ∨ k = 39)) ∨ i = 153 ∨ i = 154 ∨ i = 155) g0 K g10515 H locs := ⟨hW1, hs1, hW.2.2.tr hf1 (fun i k h => h.elim (fun h => (Or.inl (by omega))) (fun h => h.elim (fun h => (Or.inr (Or.inl h))) (fun h => (Or.inr (Or.inr (Or.inl h))))))⟩
        have ct := CS_top e10512
        have cu := e10512.2.1
        refine q_aload_n hM dX12_goesBehind_61 (lv_at hl 1 rfl) ?_
        refine q_dup hM dX12_goesBehind_62 rfl ?_
        refine w_get (v := .int v10504) hM hW FG_X12_281 lb_129 q10506 dX12_goesBehind_63 ?_
        have bv10504 := hG.f q10506 rF_129_9 (by decide)
        refine q_iconst (v := (1 : Int32)) hM dX12_goesBehind_66 (by decide) ?_
        refine q_isub hM dX12_goesBehind_67 (fun z10521 hz10521 => ?_)
        first | have tz10521 := i_subT hz10521 (rfl : v10504.toInt = v10504.toInt) (kc_1 : (1 : Int32).toInt = 1) (by omega) (by omega) | skip
        refine w_put hM hW FP_X12_281 lb_129 (by omega) (Or.inl ⟨_, rfl⟩) rfl rfl dX12_goesBehind_68 (fun g10522 H locs hW e1 e2 => ?_)
        have f10523 : arI g10522 155 = arI g0 155 := (e2.2.1 155 (by unfold Only; omega)).trans f10516
        have f10524 : fld g10522 129 3 = .int pl := (e2.1 129 3 (by unfold Only; omega)).trans f10517
        have f10525 : fld g10522 129 5 = .int bd := (e2.1 129 5 (by unfold Only; omega)).trans f10518
        have f10526 : fld g10522 129 8 = .int op := (e2.1 129 8 (by unfold Only; omega)).trans f10519
        have f10527 : fld g10522 129 39 = .int iv := (e2.1 129 39 (by unfold Only; omega)).trans f10520
        have f10528 : fld g10522 129 7 = .int v10503 := (e2.1 129 7 (by unfold Only; omega)).trans q10505
        have f10529 : arI g10522 153 = arI g10515 153 := (e2.2.1 153 (by unfold Only; omega)).trans (rfl : arI g10515 153 = arI g10515 153)
        have f10530 : fld g10522 129 9 = .int z10521 := e1
        have hG := hG.put e1 e2 rF_129_9 (by decide) (by have := i_rng z10521; omega) (by have := i_rng z10521; omega)
        refine q_aload_n hM dX12_goesBehind_71 (lv_at hl 1 rfl) ?_
        refine q_dup hM dX12_goesBehind_72 rfl ?_
        refine w_get (v := .int op) hM hW FG_X12_284 lb_129 f10526 dX12_goesBehind_73 ?_
        have bop := hG.f f10526 rF_129_8 (by decide)
        refine q_iconst (v := (1 : Int32)) hM dX12_goesBehind_76 (by decide) ?_
        refine q_isub hM dX12_goesBehind_77 (fun z10531 hz10531 => ?_)
        first | have tz10531 := i_subT hz10531 (rfl : op.toInt = op.toInt) (kc_1 : (1 : Int32).toInt = 1) (by omega) (by omega) | skip
        refine w_put hM hW FP_X12_284 lb_129 (by omega) (Or.inl ⟨_, rfl⟩) rfl rfl dX12_goesBehind_78 (fun g10532 H locs hW e1 e2 => ?_)
        have f10533 : arI g10532 155 = arI g0 155 := (e2.2.1 155 (by unfold Only; omega)).trans f10523
        have f10534 : fld g10532 129 3 = .int pl := (e2.1 129 3 (by unfold Only; omega)).trans f10524
        have f10535 : fld g10532 129 5 = .int bd := (e2.1 129 5 (by unfold Only; omega)).trans f10525
        have f10536 : fld g10532 129 39 = .int iv := (e2.1 129 39 (by unfold Only; omega)).trans f10527
        have f10537 : fld g10532 129 7 = .int v10503 := (e2.1 129 7 (by unfold Only; omega)).trans f10528
        have f10538 : arI g10532 153 = arI g10515 153 := (e2.2.1 153 (by unfold Only; omega)).trans f10529
        have f10539 : fld g10532 129 9 = .int z10521 := (e2.1 129 9 (by unfold Only; omega)).trans f10530
        have f10540 : fld g10532 129 8 = .int z10531 := e1
        have hG := hG.put e1 e2 rF_129_8 (by decide) (by have := i_rng z10531; omega) (by have := i_rng z10531; omega)
        refine q_aload_n hM dX12_goesBehind_81 (lv_at hl 1 rfl) ?_
        refine q_dup hM dX12_goesBehind_82 rfl ?_
        refine w_get (v := .int pl) hM hW FG_X12_173 lb_129 f10534 dX12_goesBehind_83 ?_
        have bpl := hG.f f10534 rF_129_3 (by decide)
        refine q_iconst (v := (1 : Int32)) hM dX12_goesBehind_86 (by decide) ?_
        refine q_iadd hM dX12_goesBehind_87 (fun z10541 hz10541 => ?_)
        first | have tz10541 := i_addT hz10541 (rfl : pl.toInt = pl.toInt) (kc_1 : (1 : Int32).toInt = 1) (by omega) (by omega) | skip
        refine w_put hM hW FP_X12_173 lb_129 (by omega) (Or.inl ⟨_, rfl⟩) rfl rfl dX12_goesBehind_88 (fun g10542 H locs hW e1 e2 => ?_)
        have f10543 : arI g10542 155 = arI g0 155 := (e2.2.1 155 (by unfold Only; omega)).trans f10533
        have f10544 : fld g10542 129 5 = .int bd := (e2.1 129 5 (by unfold Only; omega)).trans f10535
        have f10545 : fld g10542 129 39 = .int iv := (e2.1 129 39 (by unfold Only; omega)).trans f10536
        have f10546 : fld g10542 129 7 = .int v10503 := (e2.1 129 7 (by unfold Only; omega)).trans f10537
        have f10547 : arI g10542 153 = arI g10515 153 := (e2.2.1 153 (by unfold Only; omega)).trans f10538
        have f10548 : fld g10542 129 9 = .int z10521 := (e2.1 129 9 (by unfold Only; omega)).trans f10539
        have f10549 : fld g10542 129 8 = .int z10531 := (e2.1 129 8 (by unfold Only; omega)).trans f10540
        have f10550 : fld g10542 129 3 = .int z10541 := e1
        have hG := hG.put e1 e2 rF_129_3 (by decide) (by have := i_rng z10541; omega) (by have := i_rng z10541; omega)
        refine q_aload_n hM dX12_goesBehind_91 (lv_at hl 1 rfl) ?_
        refine q_aload_n hM dX12_goesBehind_92 (lv_at hl 1 rfl) ?_
        refine w_get (v := .int z10521) hM hW FG_X12_281 lb_129 f10548 dX12_goesBehind_93 ?_
        have bz10521 := hG.f f10548 rF_129_9 (by decide)
        refine q_if_ne (tgt := 103) hM dX12_goesBehind_96 (by decide) (rfl : z10521.toInt = z10521.toInt) (fun h96 => ?_) (fun h96 => ?_)
        · refine q_iconst (v := (0 : Int32)) hM dX12_goesBehind_103 (by decide) ?_
          refine w_put hM hW FP_X12_339 lb_129 (by omega) (Or.inl ⟨_, rfl⟩) rfl rfl dX12_goesBehind_104 (fun g10552 H locs hW e1 e2 => ?_)
          have f10553 : arI g10552 155 = arI g0 155 := (e2.2.1 155 (by unfold Only; omega)).trans f10543
          have f10554 : fld g10552 129 5 = .int bd := (e2.1 129 5 (by unfold Only; omega)).trans f10544
          have f10555 : fld g10552 129 7 = .int v10503 := (e2.1 129 7 (by unfold Only; omega)).trans f10546
          have f10556 : arI g10552 153 = arI g10515 153 := (e2.2.1 153 (by unfold Only; omega)).trans f10547
          have f10557 : fld g10552 129 9 = .int z10521 := (e2.1 129 9 (by unfold Only; omega)).trans f10548
          have f10558 : fld g10552 129 8 = .int z10531 := (e2.1 129 8 (by unfold Only; omega)).trans f10549
          have f10559 : fld g10552 129 3 = .int z10541 := (e2.1 129 3 (by unfold Only; omega)).trans f10550
          have f10560 : fld g10552 129 39 = .int (0 : Int32) := e1
          have hG := hG.put e1 e2 (rfl : rF 129 39 = (-2147483648, 2147483647)) (by decide) (by have := kc_0; have := i_rng (0 : Int32); omega) (by have := kc_0; have := i_rng (0 : Int32); omega)
          refine q_aload_n hM dX12_goesBehind_107 (lv_at hl 1 rfl) ?_
          refine w_get (v := .int (0 : Int32)) hM hW FG_X12_339 lb_129 f10560 dX12_goesBehind_108 ?_
          refine q_if_ne (tgt := 118) hM dX12_goesBehind_111 (by decide) (kc_0 : (0 : Int32).toInt = 0) (fun h111 => ?_) (fun h111 => ?_)
          · omega
          · refine q_aload_n hM dX12_goesBehind_114 (lv_at hl 1 rfl) ?_
            refine q_callV (As := []) (rest := []) hM hW.1 hR hC myX12_ends (kAW (v_6_0 (List.mem_of_getElem? (i := 15) rfl)) rfl) (rfl : vwCl[12]? = some (RX12, TX12, 86)) rfl lb_129.1 (shO hW.2.1 lb_129) (a_X12_ends _ _ cA ad g10552 bd v10503 z10521 z10531 sa hW.2.1 hG f10554 f10555 f10557 f10558 (by  omega) (by  omega) (by  omega) (by rw [f10556, f10553]; exact JJ_pop (d := arI g0 155 (v10504.toInt - 1).toNat) e10511 (by omega) rfl (by have := kc_1; omega) (by omega)) (by rw [f10553]; exact CS_mono e10512 (by omega) (by omega))) ⟨by decide, by decide⟩ rfl rfl hl.1 (Nat.le_of_ble_eq_true rfl) dX12_goesBehind_115 (fun v g10576 H locs hp hW1 => ?_)
            obtain ⟨v10563, v10564, v10565, rfl, hs1, hG, hf1, q10566, q10567, q10568, e10569, e10570, e10571, e10572, e10573, e10574, e10575⟩ := hp
            have f10577 : arI g10576 155 = arI g0 155 := (hf1.2.1 155 (by omega)).trans f10553
            have f10578 : fld g10576 129 5 = .int bd := (hf1.1 129 5 (by omega)).trans f10554
            have f10579 : fld g10576 129 3 = .int z10541 := (hf1.1 129 3 (by omega)).trans f10559
            have f10580 : fld g10576 129 39 = .int (0 : Int32) := (hf1.1 129 39 (by omega)).trans f10560
            have hW : WS ad cA (fun i k => (i = 129 ∧ (k = 3 ∨ k = 5 ∨ k = 7 ∨ k = 8 ∨ k = 9 ∨ k = 39)) ∨ i = 153 ∨ i = 154 ∨ i = 155) g0 K g10576 H locs := ⟨hW1, hs1, hW.2.2.tr hf1 (fun i k h => h.elim (fun h => (Or.inl (by omega))) (fun h => h.elim (fun h => (Or.inr (Or.inl h))) (fun h => (Or.inr (Or.inr (Or.inl h))))))⟩
            refine q_iconst (v := (0 : Int32)) hM dX12_goesBehind_118 (by decide) ?_
            exact hE _ _ _ _ _ _ hW.1 nz_0 ⟨z10541, bd, v10563, v10564, v10565, (0 : Int32), _, rfl, hW.2.1, hG, hW.2.2, f10579, f10578, q10566, q10567, q10568, f10580, (by have := kc_0; have := kc_0; omega), (by have := kc_0; have := kc_0; omega), (by have := kc_0; have := kc_0; omega), (by have := kc_0; have := kc_0; omega), (by have := kc_0; have := kc_0; omega), (by have := kc_0; have := kc_0; omega), (by have := kc_0; have := kc_0; omega), (by have := kc_0; have := kc_0; omega), Or.inr ⟨kc_0, fun _ => ⟨by omega, by have h9 := e10574; rw [← (hf1.2.1 155 (by omega))] at h9; exact h9, fun _ => by have h9 := e10575; rw [← (hf1.2.1 155 (by omega))] at h9; exact h9⟩⟩⟩ dX12_goesBehind_119
        · refine q_iconst (v := (1 : Int32)) hM dX12_goesBehind_99 (by decide) ?_
          refine q_goto (tgt := 104) hM dX12_goesBehind_100 (by decide) ?_
          refine w_put hM hW FP_X12_339 lb_129 (by omega) (Or.inl ⟨_, rfl⟩) rfl rfl dX12_goesBehind_104 (fun g10582 H locs hW e1 e2 => ?_)
          have f10583 : arI g10582 155 = arI g0 155 := (e2.2.1 155 (by unfold Only; omega)).trans f10543
          have f10584 : fld g10582 129 5 = .int bd := (e2.1 129 5 (by unfold Only; omega)).trans f10544
          have f10585 : fld g10582 129 7 = .int v10503 := (e2.1 129 7 (by unfold Only; omega)).trans f10546
          have f10586 : arI g10582 153 = arI g10515 153 := (e2.2.1 153 (by unfold Only; omega)).trans f10547
          have f10587 : fld g10582 129 9 = .int z10521 := (e2.1 129 9 (by unfold Only; omega)).trans f10548
          have f10588 : fld g10582 129 8 = .int z10531 := (e2.1 129 8 (by unfold Only; omega)).trans f10549
          have f10589 : fld g10582 129 3 = .int z10541 := (e2.1 129 3 (by unfold Only; omega)).trans f10550
          have f10590 : fld g10582 129 39 = .int (1 : Int32) := e1
          have hG := hG.put e1 e2 (rfl : rF 129 39 = (-2147483648, 2147483647)) (by decide) (by have := kc_1; have := i_rng (1 : Int32); omega) (by have := kc_1; have := i_rng (1 : Int32); omega)
          refine q_aload_n hM dX12_goesBehind_107 (lv_at hl 1 rfl) ?_
          refine w_get (v := .int (1 : Int32)) hM hW FG_X12_339 lb_129 f10590 dX12_goesBehind_108 ?_
          refine q_if_ne (tgt := 118) hM dX12_goesBehind_111 (by decide) (kc_1 : (1 : Int32).toInt = 1) (fun h111 => ?_) (fun h111 => ?_)
          · refine q_iconst (v := (0 : Int32)) hM dX12_goesBehind_118 (by decide) ?_
            exact hE _ _ _ _ _ _ hW.1 nz_0 ⟨z10541, bd, v10503, z10521, z10531, (1 : Int32), _, rfl, hW.2.1, hG, hW.2.2, f10589, f10584, f10585, f10587, f10588, f10590, (by have := kc_1; have := kc_0; omega), (by have := kc_1; have := kc_0; omega), (by have := kc_1; have := kc_0; omega), (by have := kc_1; have := kc_0; omega), (by have := kc_1; have := kc_0; omega), (by have := kc_1; have := kc_0; omega), (by have := kc_1; have := kc_0; omega), (by have := kc_1; have := kc_0; omega), Or.inr ⟨kc_0, fun _ => ⟨by omega, by rw [f10586, f10583]; exact JJ_pop (d := arI g0 155 (v10504.toInt - 1).toNat) e10511 (by omega) rfl (by have := kc_1; omega) (by omega), fun h9 => absurd h9 (by have := kc_1; omega)⟩⟩⟩ dX12_goesBehind_119
          · omega
      · refine q_aload_n hM dX12_goesBehind_45 (lv_at hl 1 rfl) ?_
        refine q_iconst (v := (1 : Int32)) hM dX12_goesBehind_46 (by decide) ?_
        refine q_aload_n hM dX12_goesBehind_47 (lv_at hl 1 rfl) ?_
        refine w_get (v := .int pl) hM hW FG_X12_173 lb_129 f10425 dX12_goesBehind_48 ?_
        have bpl := hG.f f10425 rF_129_3 (by decide)
        refine q_callV (As := [.int (1 : Int32), .int pl]) (rest := []) hM hW.1 hR hC myX12_wrongs (kAW (v_5_9 (List.mem_of_getElem? (i := 11) rfl)) rfl) (rfl : vwCl[12]? = some (RX12, TX12, 86)) rfl lb_129.1 (shO hW.2.1 lb_129) (a_X12_wrongs _ _ cA ad g0 (1 : Int32) pl bd hW.2.1 hG f10426 (by have := kc_1; omega) (by have := kc_1; omega) (by have := kc_1; omega) (by have := kc_1; omega)) ⟨by decide, by decide⟩ rfl rfl hl.1 (Nat.le_of_ble_eq_true rfl) dX12_goesBehind_51 (fun v g10597 H locs hp hW1 => ?_)
        obtain ⟨v10594, rfl, hs1, hG, hf1, q10595, e10596⟩ := hp
        have f10598 : arI g10597 155 = arI g0 155 := (hf1.2.1 155 (by omega)).trans (rfl : arI g0 155 = arI g0 155)
        have f10599 : fld g10597 129 3 = .int pl := (hf1.1 129 3 (by omega)).trans f10425
        have f10600 : fld g10597 129 7 = .int co := (hf1.1 129 7 (by omega)).trans f10427
        have f10601 : fld g10597 129 8 = .int op := (hf1.1 129 8 (by omega)).trans f10428
        have f10602 : fld g10597 129 9 = .int sk := (hf1.1 129 9 (by omega)).trans f10429
        have f10603 : fld g10597 129 39 = .int iv := (hf1.1 129 39 (by omega)).trans f10430
        have hW : WS ad cA (fun i k => (i = 129 ∧ (k = 3 ∨ k = 5 ∨ k = 7 ∨ k = 8 ∨ k = 9 ∨ k = 39)) ∨ i = 153 ∨ i = 154 ∨ i = 155) g0 K g10597 H locs := ⟨hW1, hs1, hW.2.2.tr hf1 (fun i k h => (Or.inl (by omega)))⟩
        refine q_iconst (v := (0 : Int32)) hM dX12_goesBehind_54 (by decide) ?_
        exact hE _ _ _ _ _ _ hW.1 nz_0 ⟨pl, v10594, co, sk, op, iv, _, rfl, hW.2.1, hG, hW.2.2, f10599, q10595, f10600, f10602, f10601, f10603, (by have := kc_0; omega), (by have := kc_0; omega), (by have := kc_0; omega), (by have := kc_0; omega), (by have := kc_0; omega), (by have := kc_0; omega), (by have := kc_0; omega), (by have := kc_0; omega), Or.inr ⟨kc_0, fun q => absurd q (by omega)⟩⟩ dX12_goesBehind_55
    · refine q_aload_n hM dX12_goesBehind_17 (lv_at hl 1 rfl) ?_
      refine q_iload_n hM dX12_goesBehind_18 (lv_at hl 0 rfl) ?_
      refine q_bipush (v := (124 : Int32)) hM dX12_goesBehind_19 (by decide) ?_
      refine q_icmp_ne (tgt := 28) hM dX12_goesBehind_21 (by decide) (rfl : r10431.toInt = r10431.toInt) (kc_124 : (124 : Int32).toInt = 124) (fun h21 => ?_) (fun h21 => ?_)
      · refine q_iconst (v := (0 : Int32)) hM dX12_goesBehind_28 (by decide) ?_
        refine q_callV (As := [.int (0 : Int32)]) (rest := []) hM hW.1 hR hC myX12_joins (kAW (v_6_1 (List.mem_of_getElem? (i := 7) rfl)) rfl) (rfl : vwCl[12]? = some (RX12, TX12, 86)) rfl lb_129.1 (shO hW.2.1 lb_129) (a_X12_joins _ _ cA ad g0 (0 : Int32) bd co sk sa hW.2.1 hG f10426 f10427 f10429 (by have := kc_0; omega) (by have := kc_0; omega) hJ hK9) ⟨by decide, by decide⟩ rfl rfl hl.1 (Nat.le_of_ble_eq_true rfl) dX12_goesBehind_29 (fun v g10618 H locs hp hW1 => ?_)
        obtain ⟨v10606, v10607, rfl, hs1, hG, hf1, q10608, q10609, e10610, e10611, e10612, e10613, e10614, e10615, e10616, e10617⟩ := hp
        have f10619 : arI g10618 155 = arI g0 155 := (hf1.2.1 155 (by omega)).trans (rfl : arI g0 155 = arI g0 155)
        have f10620 : fld g10618 129 3 = .int pl := (hf1.1 129 3 (by omega)).trans f10425
        have f10621 : fld g10618 129 5 = .int bd := (hf1.1 129 5 (by omega)).trans f10426
        have f10622 : fld g10618 129 8 = .int op := (hf1.1 129 8 (by omega)).trans f10428
        have f10623 : fld g10618 129 39 = .int iv := (hf1.1 129 39 (by omega)).trans f10430
        have hW : WS ad cA (fun i k => (i = 129 ∧ (k = 3 ∨ k = 5 ∨ k = 7 ∨ k = 8 ∨ k = 9 ∨ k = 39)) ∨ i = 153 ∨ i = 154 ∨ i = 155) g0 K g10618 H locs := ⟨hW1, hs1, hW.2.2.tr hf1 (fun i k h => h.elim (fun h => (Or.inl (by omega))) (fun h => h.elim (fun h => (Or.inr (Or.inl h))) (fun h => (Or.inr (Or.inr (Or.inl h))))))⟩
        have ct := CS_top e10615
        have cu := e10615.2.1
        refine q_aload_n hM dX12_goesBehind_32 (lv_at hl 1 rfl) ?_
        refine q_iload_n hM dX12_goesBehind_33 (lv_at hl 0 rfl) ?_
        refine q_callV (As := [.int r10431]) (rest := []) hM hW.1 hR hC myX12_puts (kAW (v_5_12 (List.mem_of_getElem? (i := 14) rfl)) rfl) (rfl : vwCl[12]? = some (RX12, TX12, 86)) rfl lb_129.1 (shO hW.2.1 lb_129) (a_X12_puts _ _ cA ad g10618 r10431 pl v10607 hW.2.1 hG f10620 q10609 (by  omega) (by  omega) (by  omega)) ⟨by decide, by decide⟩ rfl rfl hl.1 (Nat.le_of_ble_eq_true rfl) dX12_goesBehind_34 (fun v g10631 H locs hp hW1 => ?_)
        obtain ⟨v10624, v10625, rfl, hs1, hG, hf1, q10626, q10627, e10628, e10629, e10630⟩ := hp
        have f10632 : fld g10631 129 5 = .int bd := (hf1.1 129 5 (by omega)).trans f10621
        have f10633 : fld g10631 129 8 = .int op := (hf1.1 129 8 (by omega)).trans f10622
        have f10634 : fld g10631 129 39 = .int iv := (hf1.1 129 39 (by omega)).trans f10623
        have f10635 : fld g10631 129 7 = .int v10606 := (hf1.1 129 7 (by omega)).trans q10608
        have f10636 : arI g10631 153 = arI g10618 153 := (hf1.2.1 153 (by omega)).trans (rfl : arI g10618 153 = arI g10618 153)
        have hW : WS ad cA (fun i k => (i = 129 ∧ (k = 3 ∨ k = 5 ∨ k = 7 ∨ k = 8 ∨ k = 9 ∨ k = 39)) ∨ i = 153 ∨ i = 154 ∨ i = 155) g0 K g10631 H locs := ⟨hW1, hs1, hW.2.2.tr hf1 (fun i k h => h.elim (fun h => (Or.inl (by omega))) (fun h => (Or.inr (Or.inr (Or.inr h)))))⟩
        have f10637 := e10630
        rw [f10619] at f10637
        refine q_iconst (v := (1 : Int32)) hM dX12_goesBehind_37 (by decide) ?_
        exact hE _ _ _ _ _ _ hW.1 nz_1 ⟨v10624, bd, v10606, v10625, op, iv, _, rfl, hW.2.1, hG, hW.2.2, q10626, f10632, f10635, q10627, f10633, f10634, (by have := kc_1; omega), (by have := kc_1; omega), (by have := kc_1; omega), (by have := kc_1; omega), (by have := kc_1; omega), (by have := kc_1; omega), (by have := kc_1; omega), (by have := kc_1; omega), Or.inl ⟨kc_1, by omega, by omega, by omega, by rw [f10636, f10637]; exact JJ_push e10614 rfl rfl (by have := bnd_c r10431; omega) (by omega), by rw [f10637]; exact CS_push e10615 rfl rfl (by omega) (by omega)⟩⟩ dX12_goesBehind_38
      · refine q_iconst (v := (1 : Int32)) hM dX12_goesBehind_24 (by decide) ?_
        refine q_goto (tgt := 29) hM dX12_goesBehind_25 (by decide) ?_
        refine q_callV (As := [.int (1 : Int32)]) (rest := []) hM hW.1 hR hC myX12_joins (kAW (v_6_1 (List.mem_of_getElem? (i := 7) rfl)) rfl) (rfl : vwCl[12]? = some (RX12, TX12, 86)) rfl lb_129.1 (shO hW.2.1 lb_129) (a_X12_joins _ _ cA ad g0 (1 : Int32) bd co sk sa hW.2.1 hG f10426 f10427 f10429 (by have := kc_1; omega) (by have := kc_1; omega) hJ hK9) ⟨by decide, by decide⟩ rfl rfl hl.1 (Nat.le_of_ble_eq_true rfl) dX12_goesBehind_29 (fun v g10651 H locs hp hW1 => ?_)
        obtain ⟨v10639, v10640, rfl, hs1, hG, hf1, q10641, q10642, e10643, e10644, e10645, e10646, e10647, e10648, e10649, e10650⟩ := hp
        have f10652 : arI g10651 155 = arI g0 155 := (hf1.2.1 155 (by omega)).trans (rfl : arI g0 155 = arI g0 155)
        have f10653 : fld g10651 129 3 = .int pl := (hf1.1 129 3 (by omega)).trans f10425
        have f10654 : fld g10651 129 5 = .int bd := (hf1.1 129 5 (by omega)).trans f10426
        have f10655 : fld g10651 129 8 = .int op := (hf1.1 129 8 (by omega)).trans f10428
        have f10656 : fld g10651 129 39 = .int iv := (hf1.1 129 39 (by omega)).trans f10430
        have hW : WS ad cA (fun i k => (i = 129 ∧ (k = 3 ∨ k = 5 ∨ k = 7 ∨ k = 8 ∨ k = 9 ∨ k = 39)) ∨ i = 153 ∨ i = 154 ∨ i = 155) g0 K g10651 H locs := ⟨hW1, hs1, hW.2.2.tr hf1 (fun i k h => h.elim (fun h => (Or.inl (by omega))) (fun h => h.elim (fun h => (Or.inr (Or.inl h))) (fun h => (Or.inr (Or.inr (Or.inl h))))))⟩
        have ct := CS_top e10648
        have cu := e10648.2.1
        refine q_aload_n hM dX12_goesBehind_32 (lv_at hl 1 rfl) ?_
        refine q_iload_n hM dX12_goesBehind_33 (lv_at hl 0 rfl) ?_
        refine q_callV (As := [.int r10431]) (rest := []) hM hW.1 hR hC myX12_puts (kAW (v_5_12 (List.mem_of_getElem? (i := 14) rfl)) rfl) (rfl : vwCl[12]? = some (RX12, TX12, 86)) rfl lb_129.1 (shO hW.2.1 lb_129) (a_X12_puts _ _ cA ad g10651 r10431 pl v10640 hW.2.1 hG f10653 q10642 (by  omega) (by  omega) (by  omega)) ⟨by decide, by decide⟩ rfl rfl hl.1 (Nat.le_of_ble_eq_true rfl) dX12_goesBehind_34 (fun v g10664 H locs hp hW1 => ?_)
        obtain ⟨v10657, v10658, rfl, hs1, hG, hf1, q10659, q10660, e10661, e10662, e10663⟩ := hp
        have f10665 : fld g10664 129 5 = .int bd := (hf1.1 129 5 (by omega)).trans f10654
        have f10666 : fld g10664 129 8 = .int op := (hf1.1 129 8 (by omega)).trans f10655
        have f10667 : fld g10664 129 39 = .int iv := (hf1.1 129 39 (by omega)).trans f10656
        have f10668 : fld g10664 129 7 = .int v10639 := (hf1.1 129 7 (by omega)).trans q10641
        have f10669 : arI g10664 153 = arI g10651 153 := (hf1.2.1 153 (by omega)).trans (rfl : arI g10651 153 = arI g10651 153)
        have hW : WS ad cA (fun i k => (i = 129 ∧ (k = 3 ∨ k = 5 ∨ k = 7 ∨ k = 8 ∨ k = 9 ∨ k = 39)) ∨ i = 153 ∨ i = 154 ∨ i = 155) g0 K g10664 H locs := ⟨hW1, hs1, hW.2.2.tr hf1 (fun i k h => h.elim (fun h => (Or.inl (by omega))) (fun h => (Or.inr (Or.inr (Or.inr h)))))⟩
        have f10670 := e10663
        rw [f10652] at f10670
        refine q_iconst (v := (1 : Int32)) hM dX12_goesBehind_37 (by decide) ?_
        exact hE _ _ _ _ _ _ hW.1 nz_1 ⟨v10657, bd, v10639, v10658, op, iv, _, rfl, hW.2.1, hG, hW.2.2, q10659, f10665, f10668, q10660, f10666, f10667, (by have := kc_1; omega), (by have := kc_1; omega), (by have := kc_1; omega), (by have := kc_1; omega), (by have := kc_1; omega), (by have := kc_1; omega), (by have := kc_1; omega), (by have := kc_1; omega), Or.inl ⟨kc_1, by omega, by omega, by omega, by rw [f10669, f10670]; exact JJ_push e10647 rfl rfl (by have := bnd_c r10431; omega) (by omega), by rw [f10670]; exact CS_push e10648 rfl rfl (by omega) (by omega)⟩⟩ dX12_goesBehind_38

theorem dX12_condition_0 : decode cX12_condition 0 = .ok (.aload_n 0, 1) := by decide +kernel
theorem dX12_condition_1 : decode cX12_condition 1 = .ok (.iconst 0, 1) := by decide +kernel
theorem dX12_condition_2 : decode cX12_condition 2 = .ok (.putfield 339, 3) := by decide +kernel
theorem dX12_condition_5 : decode cX12_condition 5 = .ok (.aload_n 0, 1) := by decide +kernel
theorem dX12_condition_6 : decode cX12_condition 6 = .ok (.invokevirtual 182, 3) := by decide +kernel
theorem dX12_condition_9 : decode cX12_condition 9 = .ok (.bipush 40, 2) := by decide +kernel
theorem dX12_condition_11 : decode cX12_condition 11 = .ok (.if_icmp .eq 12, 3) := by decide +kernel
theorem dX12_condition_14 : decode cX12_condition 14 = .ok (.aload_n 0, 1) := by decide +kernel
theorem dX12_condition_15 : decode cX12_condition 15 = .ok (.iconst 1, 1) := by decide +kernel
theorem dX12_condition_16 : decode cX12_condition 16 = .ok (.aload_n 0, 1) := by decide +kernel
theorem dX12_condition_17 : decode cX12_condition 17 = .ok (.getfield 173, 3) := by decide +kernel
theorem dX12_condition_20 : decode cX12_condition 20 = .ok (.invokevirtual 230, 3) := by decide +kernel
theorem dX12_condition_23 : decode cX12_condition 23 = .ok (.aload_n 0, 1) := by decide +kernel
theorem dX12_condition_24 : decode cX12_condition 24 = .ok (.invokevirtual 234, 3) := by decide +kernel
theorem dX12_condition_27 : decode cX12_condition 27 = .ok (.ifCond .ne 4, 3) := by decide +kernel
theorem dX12_condition_30 : decode cX12_condition 30 = .ok (.return_, 1) := by decide +kernel
theorem dX12_condition_31 : decode cX12_condition 31 = .ok (.aload_n 0, 1) := by decide +kernel
theorem dX12_condition_32 : decode cX12_condition 32 = .ok (.invokevirtual 305, 3) := by decide +kernel
theorem dX12_condition_35 : decode cX12_condition 35 = .ok (.iconst 1, 1) := by decide +kernel
theorem dX12_condition_36 : decode cX12_condition 36 = .ok (.istore_n 1, 1) := by decide +kernel
theorem dX12_condition_37 : decode cX12_condition 37 = .ok (.aload_n 0, 1) := by decide +kernel
theorem dX12_condition_38 : decode cX12_condition 38 = .ok (.invokevirtual 234, 3) := by decide +kernel
theorem dX12_condition_41 : decode cX12_condition 41 = .ok (.ifCond .eq 33, 3) := by decide +kernel
theorem dX12_condition_44 : decode cX12_condition 44 = .ok (.aload_n 0, 1) := by decide +kernel
theorem dX12_condition_45 : decode cX12_condition 45 = .ok (.getfield 339, 3) := by decide +kernel
theorem dX12_condition_48 : decode cX12_condition 48 = .ok (.ifCond .ne 26, 3) := by decide +kernel
theorem dX12_condition_51 : decode cX12_condition 51 = .ok (.iload_n 1, 1) := by decide +kernel
theorem dX12_condition_52 : decode cX12_condition 52 = .ok (.ifCond .eq 7, 3) := by decide +kernel
theorem dX12_condition_55 : decode cX12_condition 55 = .ok (.aload_n 0, 1) := by decide +kernel
theorem dX12_condition_56 : decode cX12_condition 56 = .ok (.invokevirtual 342, 3) := by decide +kernel
theorem dX12_condition_59 : decode cX12_condition 59 = .ok (.aload_n 0, 1) := by decide +kernel
theorem dX12_condition_60 : decode cX12_condition 60 = .ok (.invokevirtual 234, 3) := by decide +kernel
theorem dX12_condition_63 : decode cX12_condition 63 = .ok (.ifCond .eq (-26), 3) := by decide +kernel
theorem dX12_condition_66 : decode cX12_condition 66 = .ok (.aload_n 0, 1) := by decide +kernel
theorem dX12_condition_67 : decode cX12_condition 67 = .ok (.invokevirtual 345, 3) := by decide +kernel
theorem dX12_condition_70 : decode cX12_condition 70 = .ok (.istore_n 1, 1) := by decide +kernel
theorem dX12_condition_71 : decode cX12_condition 71 = .ok (.goto (-34), 3) := by decide +kernel
theorem dX12_condition_74 : decode cX12_condition 74 = .ok (.return_, 1) := by decide +kernel
theorem myX12_goesBehind : MI yX12_goesBehind cX12_goesBehind 2 (some FieldType.boolean) 0 := ⟨kAW (v_6_1 (List.mem_of_getElem? (i := 6) rfl)) rfl, kAW (v_0_0 (List.mem_of_getElem? (i := 13) rfl)) rfl, kAW (v_6_1 (List.mem_of_getElem? (i := 5) rfl)) rfl, kAW (tp_t3 (List.mem_of_getElem? (i := 13) rfl)) rfl, by decide, by decide, by decide +kernel⟩
theorem myX12_pieceOfC : MI yX12_pieceOfC cX12_pieceOfC 2 none 0 := ⟨kAW (v_6_0 (List.mem_of_getElem? (i := 11) rfl)) rfl, kAW (v_0_0 (List.mem_of_getElem? (i := 13) rfl)) rfl, kAW (v_6_0 (List.mem_of_getElem? (i := 10) rfl)) rfl, kAW (tp_t3 (List.mem_of_getElem? (i := 11) rfl)) rfl, by decide, by decide, by decide +kernel⟩
set_option maxRecDepth 100000 in
set_option maxHeartbeats 4000000 in
theorem a_X12_condition (l : Launch) (D : va_G) (cA : Nat → ClassId) (ad : Nat → Nat) (g0 : Nat → va_E)  (pl : Int32) (en : Int32) (bd : Int32) (co : Int32) (sk : Int32) (op : Int32)  (sa : Int × (Nat → Int32)) (hSh : Shp ad cA g0) (hG : Rng g0) (h_pl : fld g0 129 3 = .int pl) (h_en : fld g0 129 4 = .int en) (h_bd : fld g0 129 5 = .int bd) (h_co : fld g0 129 7 = .int co) (h_sk : fld g0 129 9 = .int sk) (h_op : fld g0 129 8 = .int op) (pl0 : 0 ≤ pl.toInt) (pl1 : pl.toInt ≤ en.toInt) (en1 : en.toInt ≤ 240) (bd0 : bd.toInt = 0) (i1 : co.toInt + sk.toInt ≤ pl.toInt) (i2 : sk.toInt - pl.toInt ≤ op.toInt) (i3 : op.toInt ≤ pl.toInt) (sk0 : sk.toInt = 0) (hJ : JJ (arI g0 153) (arI g0 155) sa co.toInt sk.toInt 0) : CT l NN ad cA D yX12_condition cX12_condition 2 none (6, 129) [.ref (ad 129)] g0 (fun v g' => ∃ (p9 : Int32) (b9 : Int32) (c9 : Int32) (s9 : Int32) (o9 : Int32), v = none ∧ Shp ad cA g' ∧ Rng g' ∧ FR (fun i k => (i = 129 ∧ (k = 3 ∨ k = 5 ∨ k = 7 ∨ k = 8 ∨ k = 9 ∨ k = 39 ∨ k = 40)) ∨ i = 153 ∨ i = 154 ∨ i = 155) g0 g' ∧ fld g' 129 3 = .int p9 ∧ fld g' 129 5 = .int b9 ∧ fld g' 129 7 = .int c9 ∧ fld g' 129 9 = .int s9 ∧ fld g' 129 8 = .int o9 ∧ (pl.toInt ≤ p9.toInt) ∧ (p9.toInt ≤ en.toInt) ∧ (b9.toInt ≤ 0) ∧ (c9.toInt + s9.toInt ≤ p9.toInt) ∧ (s9.toInt - p9.toInt ≤ o9.toInt) ∧ (o9.toInt ≤ p9.toInt) ∧ (0 ≤ s9.toInt ∧ 0 ≤ c9.toInt) ∧ (b9.toInt = 0 → pl.toInt < p9.toInt) ∧ (b9.toInt = 0 → JJ (arI g' 153) (arI g' 155) sa c9.toInt s9.toInt 1)) := by
  refine q_enterV (by decide) (Nat.le_of_ble_eq_true rfl) (fun K H locs ls _ _ hM hW0 hR hC hE hl => ?_)
  have hl : lv_has ls 2 [(0, .ref (ad 129))] := hl
  have hW : WS ad cA (fun i k => (i = 129 ∧ (k = 3 ∨ k = 5 ∨ k = 7 ∨ k = 8 ∨ k = 9 ∨ k = 39 ∨ k = 40)) ∨ i = 153 ∨ i = 154 ∨ i = 155) g0 K g0 H locs := ⟨hW0, hSh, FR.rf⟩
  have b_pl := hG.f h_pl rF_129_3 (by decide)
  have b_en := hG.f h_en rF_129_4 (by decide)
  have b_bd := hG.f h_bd rF_129_5 (by decide)
  have b_co := hG.f h_co rF_129_7 (by decide)
  have b_sk := hG.f h_sk rF_129_9 (by decide)
  have b_op := hG.f h_op rF_129_8 (by decide)
  have f10671 : fld g0 129 3 = .int pl := h_pl
  have f10672 : fld g0 129 5 = .int bd := h_bd
  have f10673 : fld g0 129 7 = .int co := h_co
  have f10674 : fld g0 129 8 = .int op := h_op
  have f10675 : fld g0 129 9 = .int sk := h_sk
  refine q_aload_n hM dX12_condition_0 (lv_at hl 0 rfl) ?_
  refine q_iconst (v := (0 : Int32)) hM dX12_condition_1 (by decide) ?_
  refine w_put hM hW FP_X12_339 lb_129 (by omega) (Or.inl ⟨_, rfl⟩) rfl rfl dX12_condition_2 (fun g10676 H locs hW e1 e2 => ?_)
  have f10677 : arI g10676 153 = arI g0 153 := (e2.2.1 153 (by unfold Only; omega)).trans (rfl : arI g0 153 = arI g0 153)
  have f10678 : arI g10676 155 = arI g0 155 := (e2.2.1 155 (by unfold Only; omega)).trans (rfl : arI g0 155 = arI g0 155)
  have f10679 : fld g10676 129 3 = .int pl := (e2.1 129 3 (by unfold Only; omega)).trans f10671
  have f10680 : fld g10676 129 5 = .int bd := (e2.1 129 5 (by unfold Only; omega)).trans f10672
  have f10681 : fld g10676 129 7 = .int co := (e2.1 129 7 (by unfold Only; omega)).trans f10673
  have f10682 : fld g10676 129 8 = .int op := (e2.1 129 8 (by unfold Only; omega)).trans f10674
  have f10683 : fld g10676 129 9 = .int sk := (e2.1 129 9 (by unfold Only; omega)).trans f10675
  have f10684 : fld g10676 129 39 = .int (0 : Int32) := e1
  have hG := hG.put e1 e2 (rfl : rF 129 39 = (-2147483648, 2147483647)) (by decide) (by have := kc_0; have := i_rng (0 : Int32); omega) (by have := kc_0; have := i_rng (0 : Int32); omega)
  refine q_aload_n hM dX12_condition_5 (lv_at hl 0 rfl) ?_
  refine q_callV (As := []) (rest := []) hM hW.1 hR hC myX12_here (kAW (v_5_9 (List.mem_of_getElem? (i := 3) rfl)) rfl) (rfl : vwCl[12]? = some (RX12, TX12, 86)) rfl lb_129.1 (shO hW.2.1 lb_129) (a_X12_here _ _ cA ad g10676 pl en hW.2.1 hG f10679 ((hW.2.2.1 129 4 (by omega)).trans h_en) (by  omega) (by  omega)) ⟨by decide, by decide⟩ rfl rfl hl.1 (Nat.le_of_ble_eq_true rfl) dX12_condition_6 (fun v g10686 H locs hp hW1 => ?_)
  obtain ⟨r10685, rfl, hr10685, rfl⟩ := hp
  have hW : WS ad cA (fun i k => (i = 129 ∧ (k = 3 ∨ k = 5 ∨ k = 7 ∨ k = 8 ∨ k = 9 ∨ k = 39 ∨ k = 40)) ∨ i = 153 ∨ i = 154 ∨ i = 155) g0 K g10676 H locs := ⟨hW1, hW.2.1, hW.2.2⟩
  rw [hW.2.2.2.1 130 (by omega)] at hr10685
  refine q_bipush (v := (40 : Int32)) hM dX12_condition_9 (by decide) ?_
  refine q_icmp_eq (tgt := 23) hM dX12_condition_11 (by decide) (rfl : r10685.toInt = r10685.toInt) (kc_40 : (40 : Int32).toInt = 40) (fun h11 => ?_) (fun h11 => ?_)
  · refine q_aload_n hM dX12_condition_23 (lv_at hl 0 rfl) ?_
    refine q_callV (As := []) (rest := []) hM hW.1 hR hC myX12_isGood (kAW (v_5_8 (List.mem_of_getElem? (i := 11) rfl)) rfl) (rfl : vwCl[12]? = some (RX12, TX12, 86)) rfl lb_129.1 (shO hW.2.1 lb_129) (a_X12_isGood _ _ cA ad g10676 bd hW.2.1 hG f10680) ⟨by decide, by decide⟩ rfl rfl hl.1 (Nat.le_of_ble_eq_true rfl) dX12_condition_24 (fun v g10689 H locs hp hW1 => ?_)
    obtain ⟨r10688, rfl, hr10688, rfl⟩ := hp
    have hW : WS ad cA (fun i k => (i = 129 ∧ (k = 3 ∨ k = 5 ∨ k = 7 ∨ k = 8 ∨ k = 9 ∨ k = 39 ∨ k = 40)) ∨ i = 153 ∨ i = 154 ∨ i = 155) g0 K g10676 H locs := ⟨hW1, hW.2.1, hW.2.2⟩
    refine q_if_ne (tgt := 31) hM dX12_condition_27 (by decide) (rfl : r10688.toInt = r10688.toInt) (fun h27 => ?_) (fun h27 => ?_)
    · refine q_aload_n hM dX12_condition_31 (lv_at hl 0 rfl) ?_
      refine q_callV (As := []) (rest := []) hM hW.1 hR hC myX12_opens (kAW (v_5_12 (List.mem_of_getElem? (i := 10) rfl)) rfl) (rfl : vwCl[12]? = some (RX12, TX12, 86)) rfl lb_129.1 (shO hW.2.1 lb_129) (a_X12_opens _ _ cA ad g10676 pl en bd sk op hW.2.1 hG f10679 ((hW.2.2.1 129 4 (by omega)).trans h_en) f10680 f10683 f10682 (by  omega) (by  omega) (by  omega) (by  omega) (by  omega) (by  omega)) ⟨by decide, by decide⟩ rfl rfl hl.1 (Nat.le_of_ble_eq_true rfl) dX12_condition_32 (fun v g10704 H locs hp hW1 => ?_)
      obtain ⟨v10691, v10692, v10693, v10694, rfl, hs1, hG, hf1, q10695, q10696, q10697, q10698, e10699, e10700, e10701, e10702, e10703⟩ := hp
      have f10705 : arI g10704 153 = arI g0 153 := (hf1.2.1 153 (by omega)).trans f10677
      have f10706 : fld g10704 129 7 = .int co := (hf1.1 129 7 (by omega)).trans f10681
      have f10707 : fld g10704 129 39 = .int (0 : Int32) := (hf1.1 129 39 (by omega)).trans f10684
      have hW : WS ad cA (fun i k => (i = 129 ∧ (k = 3 ∨ k = 5 ∨ k = 7 ∨ k = 8 ∨ k = 9 ∨ k = 39 ∨ k = 40)) ∨ i = 153 ∨ i = 154 ∨ i = 155) g0 K g10704 H locs := ⟨hW1, hs1, hW.2.2.tr hf1 (fun i k h => h.elim (fun h => (Or.inl (by omega))) (fun h => (Or.inr (Or.inr (Or.inr h)))))⟩
      have f10708 := e10703
      rw [← hf1.2.1 130 (by omega), hW.2.2.2.1 130 (by omega)] at f10708
      rw [f10678] at f10708
      refine q_iconst (v := (1 : Int32)) hM dX12_condition_35 (by decide) ?_
      refine q_istore_n (lv9 := [(1, .int (1 : Int32)), (0, .ref (ad 129))]) hM dX12_condition_36 hl (by decide) rfl (fun ls hl => ?_)
      have L37 : ∀ (fu37 : Nat) (w37_1 : Int32) (pp : Int32) (bb : Int32) (cc : Int32) (ss : Int32) (oo : Int32) (vv : Int32) (g9 : Nat → va_E) (H : Heap) (locs : List Loc) (ls : Array Slot), (en.toInt - pp.toInt).toNat + (bb.toInt + 1).toNat < fu37 → (Rng g9) → (pl.toInt ≤ pp.toInt) → (pp.toInt ≤ en.toInt) → (bb.toInt ≤ 0) → (cc.toInt + ss.toInt ≤ pp.toInt) → (ss.toInt - pp.toInt ≤ oo.toInt) → (oo.toInt ≤ pp.toInt) → (0 ≤ ss.toInt ∧ 0 ≤ cc.toInt) → (0 ≤ vv.toInt ∧ vv.toInt ≤ 1) → (0 ≤ w37_1.toInt ∧ w37_1.toInt ≤ 1) → (bb.toInt = 0 → JJ (arI g9 153) (arI g9 155) sa cc.toInt ss.toInt (1 - w37_1.toInt)) → (bb.toInt = 0 → vv.toInt = 0 → CS (arI g9 155) ss.toInt) → (bb.toInt = 0 → vv.toInt = 0 ∨ w37_1.toInt = 0) → (bb.toInt = 0 → pl.toInt < pp.toInt) → (fld g9 129 3 = .int pp) → (fld g9 129 5 = .int bb) → (fld g9 129 7 = .int cc) → (fld g9 129 9 = .int ss) → (fld g9 129 8 = .int oo) → (fld g9 129 39 = .int vv) → lv_has ls 2 [(0, .ref (ad 129)), (1, .int w37_1)] → WS ad cA (fun i k => (i = 129 ∧ (k = 3 ∨ k = 5 ∨ k = 7 ∨ k = 8 ∨ k = 9 ∨ k = 39 ∨ k = 40)) ∨ i = 153 ∨ i = 154 ∨ i = 155) g0 K g9 H locs → XX K 0 0 H locs 37 ls [] := by
        intro fu37
        induction fu37 with
        | zero => intro w37_1 pp bb cc ss oo vv g9 H locs ls h0; omega
        | succ fu37 ih37 =>
          intro w37_1 pp bb cc ss oo vv g9 H locs ls hm37 i37_0 i37_1 i37_2 i37_3 i37_4 i37_5 i37_6 i37_7 i37_8 i37_9 i37_10 i37_11 i37_12 i37_13 c37_129_3 c37_129_5 c37_129_7 c37_129_9 c37_129_8 c37_129_39 hl hW
          have hG := i37_0
          refine q_aload_n hM dX12_condition_37 (lv_at hl 0 rfl) ?_
          refine q_callV (As := []) (rest := []) hM hW.1 hR hC myX12_isGood (kAW (v_5_8 (List.mem_of_getElem? (i := 11) rfl)) rfl) (rfl : vwCl[12]? = some (RX12, TX12, 86)) rfl lb_129.1 (shO hW.2.1 lb_129) (a_X12_isGood _ _ cA ad g9 bb hW.2.1 hG c37_129_5) ⟨by decide, by decide⟩ rfl rfl hl.1 (Nat.le_of_ble_eq_true rfl) dX12_condition_38 (fun v g10711 H locs hp hW1 => ?_)
          obtain ⟨r10710, rfl, hr10710, rfl⟩ := hp
          have hW : WS ad cA (fun i k => (i = 129 ∧ (k = 3 ∨ k = 5 ∨ k = 7 ∨ k = 8 ∨ k = 9 ∨ k = 39 ∨ k = 40)) ∨ i = 153 ∨ i = 154 ∨ i = 155) g0 K g9 H locs := ⟨hW1, hW.2.1, hW.2.2⟩
          refine q_if_eq (tgt := 74) hM dX12_condition_41 (by decide) (rfl : r10710.toInt = r10710.toInt) (fun h41 => ?_) (fun h41 => ?_)
          · exact hE _ _ _ _ _ hW.1 ⟨pp, bb, cc, ss, oo, rfl, hW.2.1, hG, hW.2.2, c37_129_3, c37_129_5, c37_129_7, c37_129_9, c37_129_8, (by omega), (by omega), (by omega), (by omega), (by omega), (by omega), (by omega), (by omega), (fun q => by have h9 := i37_10 q; rw [show 1 - w37_1.toInt = 1 by omega] at h9; exact h9)⟩ dX12_condition_74
          · refine q_aload_n hM dX12_condition_44 (lv_at hl 0 rfl) ?_
            refine w_get (v := .int vv) hM hW FG_X12_339 lb_129 c37_129_39 dX12_condition_45 ?_
            refine q_if_ne (tgt := 74) hM dX12_condition_48 (by decide) (rfl : vv.toInt = vv.toInt) (fun h48 => ?_) (fun h48 => ?_)
            · exact hE _ _ _ _ _ hW.1 ⟨pp, bb, cc, ss, oo, rfl, hW.2.1, hG, hW.2.2, c37_129_3, c37_129_5, c37_129_7, c37_129_9, c37_129_8, (by omega), (by omega), (by omega), (by omega), (by omega), (by omega), (by omega), (by omega), (fun q => by have h9 := i37_10 q; rw [show 1 - w37_1.toInt = 1 by omega] at h9; exact h9)⟩ dX12_condition_74
            · refine q_iload_n hM dX12_condition_51 (lv_at hl 1 rfl) ?_
              refine q_if_eq (tgt := 59) hM dX12_condition_52 (by decide) (rfl : w37_1.toInt = w37_1.toInt) (fun h52 => ?_) (fun h52 => ?_)
              · refine q_aload_n hM dX12_condition_59 (lv_at hl 0 rfl) ?_
                refine q_callV (As := []) (rest := []) hM hW.1 hR hC myX12_isGood (kAW (v_5_8 (List.mem_of_getElem? (i := 11) rfl)) rfl) (rfl : vwCl[12]? = some (RX12, TX12, 86)) rfl lb_129.1 (shO hW.2.1 lb_129) (a_X12_isGood _ _ cA ad g9 bb hW.2.1 hG c37_129_5) ⟨by decide, by decide⟩ rfl rfl hl.1 (Nat.le_of_ble_eq_true rfl) dX12_condition_60 (fun v g10718 H locs hp hW1 => ?_)
                obtain ⟨r10717, rfl, hr10717, rfl⟩ := hp
                have hW : WS ad cA (fun i k => (i = 129 ∧ (k = 3 ∨ k = 5 ∨ k = 7 ∨ k = 8 ∨ k = 9 ∨ k = 39 ∨ k = 40)) ∨ i = 153 ∨ i = 154 ∨ i = 155) g0 K g9 H locs := ⟨hW1, hW.2.1, hW.2.2⟩
                refine q_if_eq (tgt := 37) hM dX12_condition_63 (by decide) (rfl : r10717.toInt = r10717.toInt) (fun h63 => ?_) (fun h63 => ?_)
                · exact ih37 w37_1 pp bb cc ss oo vv _ _ _ _ (by omega) hG (by omega) (by omega) (by omega) (by omega) (by omega) (by omega) (by omega) (by omega) (by omega) (fun q => absurd q (by omega)) (fun q _ => absurd q (by omega)) (by omega) (by omega) c37_129_3 c37_129_5 c37_129_7 c37_129_9 c37_129_8 c37_129_39 (lv_sub hl [0, 1] rfl) hW
                · refine q_aload_n hM dX12_condition_66 (lv_at hl 0 rfl) ?_
                  refine q_callV (As := []) (rest := []) hM hW.1 hR hC myX12_goesBehind (kAW (v_6_1 (List.mem_of_getElem? (i := 3) rfl)) rfl) (rfl : vwCl[12]? = some (RX12, TX12, 86)) rfl lb_129.1 (shO hW.2.1 lb_129) (a_X12_goesBehind _ _ cA ad g9 pp en bb cc ss oo vv sa hW.2.1 hG c37_129_3 ((hW.2.2.1 129 4 (by omega)).trans h_en) c37_129_5 c37_129_7 c37_129_9 c37_129_8 c37_129_39 (by  omega) (by  omega) (by  omega) (by  omega) (by  omega) (by  omega) (by  omega) (by  omega) (by have q := i37_10 (by omega); rw [show 1 - w37_1.toInt = 1 by omega] at q; exact q) (i37_11 (by omega) (by omega))) ⟨by decide, by decide⟩ rfl rfl hl.1 (Nat.le_of_ble_eq_true rfl) dX12_condition_67 (fun v g10742 H locs hp hW1 => ?_)
                  obtain ⟨v10721, v10722, v10723, v10724, v10725, v10726, r10727, rfl, hs1, hG, hf1, q10728, q10729, q10730, q10731, q10732, q10733, e10734, e10735, e10736, e10737, e10738, e10739, e10740, e10741, hr10727⟩ := hp
                  have hW : WS ad cA (fun i k => (i = 129 ∧ (k = 3 ∨ k = 5 ∨ k = 7 ∨ k = 8 ∨ k = 9 ∨ k = 39 ∨ k = 40)) ∨ i = 153 ∨ i = 154 ∨ i = 155) g0 K g10742 H locs := ⟨hW1, hs1, hW.2.2.tr hf1 (fun i k h => h.elim (fun h => (Or.inl (by omega))) (fun h => h.elim (fun h => (Or.inr (Or.inl h))) (fun h => h.elim (fun h => (Or.inr (Or.inr (Or.inl h)))) (fun h => (Or.inr (Or.inr (Or.inr h)))))))⟩
                  refine q_istore_n (lv9 := [(1, .int r10727), (0, .ref (ad 129))]) hM dX12_condition_70 hl (by decide) rfl (fun ls hl => ?_)
                  refine q_goto (tgt := 37) hM dX12_condition_71 (by decide) ?_
                  exact ih37 r10727 v10721 v10722 v10723 v10724 v10725 v10726 _ _ _ _ (by omega) hG (by omega) (by omega) (by omega) (by omega) (by omega) (by omega) (by omega) (by omega) (by omega) (fun q => by rcases hr10727 with h9 | h9; (rw [show 1 - r10727.toInt = 0 by omega]; exact h9.2.2.2.2.1); (rw [show 1 - r10727.toInt = 1 by omega]; exact (h9.2 q).2.1)) (fun q q2 => by rcases hr10727 with h9 | h9; exact h9.2.2.2.2.2; exact (h9.2 q).2.2 q2) (by omega) (by omega) q10728 q10729 q10730 q10731 q10732 q10733 (lv_sub hl [1, 0] rfl) hW
              · refine q_aload_n hM dX12_condition_55 (lv_at hl 0 rfl) ?_
                refine q_callV (As := []) (rest := []) hM hW.1 hR hC myX12_pieceOfC (kAW (v_6_0 (List.mem_of_getElem? (i := 8) rfl)) rfl) (rfl : vwCl[12]? = some (RX12, TX12, 86)) rfl lb_129.1 (shO hW.2.1 lb_129) (a_X12_pieceOfC _ _ cA ad g9 pp en bb cc ss oo sa hW.2.1 hG c37_129_3 ((hW.2.2.1 129 4 (by omega)).trans h_en) c37_129_5 c37_129_7 c37_129_9 c37_129_8 (by  omega) (by  omega) (by  omega) (by  omega) (by  omega) (by  omega) (by  omega) (by have q := i37_10 (by omega); rw [show 1 - w37_1.toInt = 0 by omega] at q; exact q) (i37_11 (by omega) (by omega))) ⟨by decide, by decide⟩ rfl rfl hl.1 (Nat.le_of_ble_eq_true rfl) dX12_condition_56 (fun v g10764 H locs hp hW1 => ?_)
                obtain ⟨v10744, v10745, v10746, v10747, v10748, rfl, hs1, hG, hf1, q10749, q10750, q10751, q10752, q10753, e10754, e10755, e10756, e10757, e10758, e10759, e10760, e10761, e10762, e10763⟩ := hp
                have f10765 : fld g10764 129 39 = .int vv := (hf1.1 129 39 (by omega)).trans c37_129_39
                have hW : WS ad cA (fun i k => (i = 129 ∧ (k = 3 ∨ k = 5 ∨ k = 7 ∨ k = 8 ∨ k = 9 ∨ k = 39 ∨ k = 40)) ∨ i = 153 ∨ i = 154 ∨ i = 155) g0 K g10764 H locs := ⟨hW1, hs1, hW.2.2.tr hf1 (fun i k h => h.elim (fun h => (Or.inl (by omega))) (fun h => h.elim (fun h => (Or.inr (Or.inl h))) (fun h => h.elim (fun h => (Or.inr (Or.inr (Or.inl h)))) (fun h => (Or.inr (Or.inr (Or.inr h)))))))⟩
                refine q_aload_n hM dX12_condition_59 (lv_at hl 0 rfl) ?_
                refine q_callV (As := []) (rest := []) hM hW.1 hR hC myX12_isGood (kAW (v_5_8 (List.mem_of_getElem? (i := 11) rfl)) rfl) (rfl : vwCl[12]? = some (RX12, TX12, 86)) rfl lb_129.1 (shO hW.2.1 lb_129) (a_X12_isGood _ _ cA ad g10764 v10745 hW.2.1 hG q10750) ⟨by decide, by decide⟩ rfl rfl hl.1 (Nat.le_of_ble_eq_true rfl) dX12_condition_60 (fun v g10767 H locs hp hW1 => ?_)
                obtain ⟨r10766, rfl, hr10766, rfl⟩ := hp
                have hW : WS ad cA (fun i k => (i = 129 ∧ (k = 3 ∨ k = 5 ∨ k = 7 ∨ k = 8 ∨ k = 9 ∨ k = 39 ∨ k = 40)) ∨ i = 153 ∨ i = 154 ∨ i = 155) g0 K g10764 H locs := ⟨hW1, hW.2.1, hW.2.2⟩
                refine q_if_eq (tgt := 37) hM dX12_condition_63 (by decide) (rfl : r10766.toInt = r10766.toInt) (fun h63 => ?_) (fun h63 => ?_)
                · exact ih37 w37_1 v10744 v10745 v10746 v10747 v10748 vv _ _ _ _ (by omega) hG (by omega) (by omega) (by omega) (by omega) (by omega) (by omega) (by omega) (by omega) (by omega) (fun q => absurd q (by omega)) (fun q _ => absurd q (by omega)) (by omega) (by omega) q10749 q10750 q10751 q10752 q10753 f10765 (lv_sub hl [0, 1] rfl) hW
                · refine q_aload_n hM dX12_condition_66 (lv_at hl 0 rfl) ?_
                  refine q_callV (As := []) (rest := []) hM hW.1 hR hC myX12_goesBehind (kAW (v_6_1 (List.mem_of_getElem? (i := 3) rfl)) rfl) (rfl : vwCl[12]? = some (RX12, TX12, 86)) rfl lb_129.1 (shO hW.2.1 lb_129) (a_X12_goesBehind _ _ cA ad g10764 v10744 en v10745 v10746 v10747 v10748 vv sa hW.2.1 hG q10749 ((hW.2.2.1 129 4 (by omega)).trans h_en) q10750 q10751 q10752 q10753 f10765 (by  omega) (by  omega) (by  omega) (by  omega) (by  omega) (by  omega) (by  omega) (by  omega) (e10762 (by omega)) (e10763 (by omega))) ⟨by decide, by decide⟩ rfl rfl hl.1 (Nat.le_of_ble_eq_true rfl) dX12_condition_67 (fun v g10791 H locs hp hW1 => ?_)
                  obtain ⟨v10770, v10771, v10772, v10773, v10774, v10775, r10776, rfl, hs1, hG, hf1, q10777, q10778, q10779, q10780, q10781, q10782, e10783, e10784, e10785, e10786, e10787, e10788, e10789, e10790, hr10776⟩ := hp
                  have hW : WS ad cA (fun i k => (i = 129 ∧ (k = 3 ∨ k = 5 ∨ k = 7 ∨ k = 8 ∨ k = 9 ∨ k = 39 ∨ k = 40)) ∨ i = 153 ∨ i = 154 ∨ i = 155) g0 K g10791 H locs := ⟨hW1, hs1, hW.2.2.tr hf1 (fun i k h => h.elim (fun h => (Or.inl (by omega))) (fun h => h.elim (fun h => (Or.inr (Or.inl h))) (fun h => h.elim (fun h => (Or.inr (Or.inr (Or.inl h)))) (fun h => (Or.inr (Or.inr (Or.inr h)))))))⟩
                  refine q_istore_n (lv9 := [(1, .int r10776), (0, .ref (ad 129))]) hM dX12_condition_70 hl (by decide) rfl (fun ls hl => ?_)
                  refine q_goto (tgt := 37) hM dX12_condition_71 (by decide) ?_
                  exact ih37 r10776 v10770 v10771 v10772 v10773 v10774 v10775 _ _ _ _ (by omega) hG (by omega) (by omega) (by omega) (by omega) (by omega) (by omega) (by omega) (by omega) (by omega) (fun q => by rcases hr10776 with h9 | h9; (rw [show 1 - r10776.toInt = 0 by omega]; exact h9.2.2.2.2.1); (rw [show 1 - r10776.toInt = 1 by omega]; exact (h9.2 q).2.1)) (fun q q2 => by rcases hr10776 with h9 | h9; exact h9.2.2.2.2.2; exact (h9.2 q).2.2 q2) (by omega) (by omega) q10777 q10778 q10779 q10780 q10781 q10782 (lv_sub hl [1, 0] rfl) hW
      have := kc_1
      have := kc_0
      exact L37 _ (1 : Int32) v10691 v10692 co v10693 v10694 (0 : Int32) _ _ _ _ (Nat.lt_succ_self _) hG (by omega) (by omega) (by omega) (by omega) (by omega) (by omega) (by omega) (by omega) (by omega) (fun _ => by rw [f10705, f10708]; rw [show 1 - (1 : Int32).toInt = 0 by have := kc_1; omega]; exact JJ_push hJ rfl rfl (by have := bnd_c (hr (arI g0 130) pl en); omega) (by omega)) (fun _ _ => by rw [f10708]; have h9 := CS_first (s := arI g0 155) (o := sk) (c := (hr (arI g0 130) pl en)) rfl sk0 (by omega); rw [show v10693.toInt = 1 by omega]; exact h9) (by omega) (by omega) q10695 q10696 f10706 q10697 q10698 f10707 (lv_sub hl [1, 0] rfl) hW
    · exact hE _ _ _ _ _ hW.1 ⟨pl, bd, co, sk, op, rfl, hW.2.1, hG, hW.2.2, f10679, f10680, f10681, f10683, f10682, (by omega), (by omega), (by omega), (by omega), (by omega), (by omega), (by omega), (by omega), (fun q => absurd q (by omega))⟩ dX12_condition_30
  · refine q_aload_n hM dX12_condition_14 (lv_at hl 0 rfl) ?_
    refine q_iconst (v := (1 : Int32)) hM dX12_condition_15 (by decide) ?_
    refine q_aload_n hM dX12_condition_16 (lv_at hl 0 rfl) ?_
    refine w_get (v := .int pl) hM hW FG_X12_173 lb_129 f10679 dX12_condition_17 ?_
    have bpl := hG.f f10679 rF_129_3 (by decide)
    refine q_callV (As := [.int (1 : Int32), .int pl]) (rest := []) hM hW.1 hR hC myX12_wrongs (kAW (v_5_9 (List.mem_of_getElem? (i := 11) rfl)) rfl) (rfl : vwCl[12]? = some (RX12, TX12, 86)) rfl lb_129.1 (shO hW.2.1 lb_129) (a_X12_wrongs _ _ cA ad g10676 (1 : Int32) pl bd hW.2.1 hG f10680 (by have := kc_1; omega) (by have := kc_1; omega) (by have := kc_1; omega) (by have := kc_1; omega)) ⟨by decide, by decide⟩ rfl rfl hl.1 (Nat.le_of_ble_eq_true rfl) dX12_condition_20 (fun v g10797 H locs hp hW1 => ?_)
    obtain ⟨v10794, rfl, hs1, hG, hf1, q10795, e10796⟩ := hp
    have f10798 : arI g10797 153 = arI g0 153 := (hf1.2.1 153 (by omega)).trans f10677
    have f10799 : arI g10797 155 = arI g0 155 := (hf1.2.1 155 (by omega)).trans f10678
    have f10800 : fld g10797 129 3 = .int pl := (hf1.1 129 3 (by omega)).trans f10679
    have f10801 : fld g10797 129 7 = .int co := (hf1.1 129 7 (by omega)).trans f10681
    have f10802 : fld g10797 129 8 = .int op := (hf1.1 129 8 (by omega)).trans f10682
    have f10803 : fld g10797 129 9 = .int sk := (hf1.1 129 9 (by omega)).trans f10683
    have f10804 : fld g10797 129 39 = .int (0 : Int32) := (hf1.1 129 39 (by omega)).trans f10684
    have hW : WS ad cA (fun i k => (i = 129 ∧ (k = 3 ∨ k = 5 ∨ k = 7 ∨ k = 8 ∨ k = 9 ∨ k = 39 ∨ k = 40)) ∨ i = 153 ∨ i = 154 ∨ i = 155) g0 K g10797 H locs := ⟨hW1, hs1, hW.2.2.tr hf1 (fun i k h => (Or.inl (by omega)))⟩
    refine q_aload_n hM dX12_condition_23 (lv_at hl 0 rfl) ?_
    refine q_callV (As := []) (rest := []) hM hW.1 hR hC myX12_isGood (kAW (v_5_8 (List.mem_of_getElem? (i := 11) rfl)) rfl) (rfl : vwCl[12]? = some (RX12, TX12, 86)) rfl lb_129.1 (shO hW.2.1 lb_129) (a_X12_isGood _ _ cA ad g10797 v10794 hW.2.1 hG q10795) ⟨by decide, by decide⟩ rfl rfl hl.1 (Nat.le_of_ble_eq_true rfl) dX12_condition_24 (fun v g10806 H locs hp hW1 => ?_)
    obtain ⟨r10805, rfl, hr10805, rfl⟩ := hp
    have hW : WS ad cA (fun i k => (i = 129 ∧ (k = 3 ∨ k = 5 ∨ k = 7 ∨ k = 8 ∨ k = 9 ∨ k = 39 ∨ k = 40)) ∨ i = 153 ∨ i = 154 ∨ i = 155) g0 K g10797 H locs := ⟨hW1, hW.2.1, hW.2.2⟩
    refine q_if_ne (tgt := 31) hM dX12_condition_27 (by decide) (rfl : r10805.toInt = r10805.toInt) (fun h27 => ?_) (fun h27 => ?_)
    · refine q_aload_n hM dX12_condition_31 (lv_at hl 0 rfl) ?_
      refine q_callV (As := []) (rest := []) hM hW.1 hR hC myX12_opens (kAW (v_5_12 (List.mem_of_getElem? (i := 10) rfl)) rfl) (rfl : vwCl[12]? = some (RX12, TX12, 86)) rfl lb_129.1 (shO hW.2.1 lb_129) (a_X12_opens _ _ cA ad g10797 pl en v10794 sk op hW.2.1 hG f10800 ((hW.2.2.1 129 4 (by omega)).trans h_en) q10795 f10803 f10802 (by  omega) (by  omega) (by  omega) (by  omega) (by  omega) (by  omega)) ⟨by decide, by decide⟩ rfl rfl hl.1 (Nat.le_of_ble_eq_true rfl) dX12_condition_32 (fun v g10821 H locs hp hW1 => ?_)
      obtain ⟨v10808, v10809, v10810, v10811, rfl, hs1, hG, hf1, q10812, q10813, q10814, q10815, e10816, e10817, e10818, e10819, e10820⟩ := hp
      have f10822 : arI g10821 153 = arI g0 153 := (hf1.2.1 153 (by omega)).trans f10798
      have f10823 : fld g10821 129 7 = .int co := (hf1.1 129 7 (by omega)).trans f10801
      have f10824 : fld g10821 129 39 = .int (0 : Int32) := (hf1.1 129 39 (by omega)).trans f10804
      have hW : WS ad cA (fun i k => (i = 129 ∧ (k = 3 ∨ k = 5 ∨ k = 7 ∨ k = 8 ∨ k = 9 ∨ k = 39 ∨ k = 40)) ∨ i = 153 ∨ i = 154 ∨ i = 155) g0 K g10821 H locs := ⟨hW1, hs1, hW.2.2.tr hf1 (fun i k h => h.elim (fun h => (Or.inl (by omega))) (fun h => (Or.inr (Or.inr (Or.inr h)))))⟩
      have f10825 := e10820
      rw [← hf1.2.1 130 (by omega), hW.2.2.2.1 130 (by omega)] at f10825
      rw [f10799] at f10825
      refine q_iconst (v := (1 : Int32)) hM dX12_condition_35 (by decide) ?_
      refine q_istore_n (lv9 := [(1, .int (1 : Int32)), (0, .ref (ad 129))]) hM dX12_condition_36 hl (by decide) rfl (fun ls hl => ?_)
      have L37 : ∀ (fu37 : Nat) (w37_1 : Int32) (pp : Int32) (bb : Int32) (cc : Int32) (ss : Int32) (oo : Int32) (vv : Int32) (g9 : Nat → va_E) (H : Heap) (locs : List Loc) (ls : Array Slot), (en.toInt - pp.toInt).toNat + (bb.toInt + 1).toNat < fu37 → (Rng g9) → (pl.toInt ≤ pp.toInt) → (pp.toInt ≤ en.toInt) → (bb.toInt ≤ 0) → (cc.toInt + ss.toInt ≤ pp.toInt) → (ss.toInt - pp.toInt ≤ oo.toInt) → (oo.toInt ≤ pp.toInt) → (0 ≤ ss.toInt ∧ 0 ≤ cc.toInt) → (0 ≤ vv.toInt ∧ vv.toInt ≤ 1) → (0 ≤ w37_1.toInt ∧ w37_1.toInt ≤ 1) → (bb.toInt = 0 → JJ (arI g9 153) (arI g9 155) sa cc.toInt ss.toInt (1 - w37_1.toInt)) → (bb.toInt = 0 → vv.toInt = 0 → CS (arI g9 155) ss.toInt) → (bb.toInt = 0 → vv.toInt = 0 ∨ w37_1.toInt = 0) → (bb.toInt = 0 → pl.toInt < pp.toInt) → (fld g9 129 3 = .int pp) → (fld g9 129 5 = .int bb) → (fld g9 129 7 = .int cc) → (fld g9 129 9 = .int ss) → (fld g9 129 8 = .int oo) → (fld g9 129 39 = .int vv) → lv_has ls 2 [(0, .ref (ad 129)), (1, .int w37_1)] → WS ad cA (fun i k => (i = 129 ∧ (k = 3 ∨ k = 5 ∨ k = 7 ∨ k = 8 ∨ k = 9 ∨ k = 39 ∨ k = 40)) ∨ i = 153 ∨ i = 154 ∨ i = 155) g0 K g9 H locs → XX K 0 0 H locs 37 ls [] := by
        intro fu37
        induction fu37 with
        | zero => intro w37_1 pp bb cc ss oo vv g9 H locs ls h0; omega
        | succ fu37 ih37 =>
          intro w37_1 pp bb cc ss oo vv g9 H locs ls hm37 i37_0 i37_1 i37_2 i37_3 i37_4 i37_5 i37_6 i37_7 i37_8 i37_9 i37_10 i37_11 i37_12 i37_13 c37_129_3 c37_129_5 c37_129_7 c37_129_9 c37_129_8 c37_129_39 hl hW
          have hG := i37_0
          refine q_aload_n hM dX12_condition_37 (lv_at hl 0 rfl) ?_
          refine q_callV (As := []) (rest := []) hM hW.1 hR hC myX12_isGood (kAW (v_5_8 (List.mem_of_getElem? (i := 11) rfl)) rfl) (rfl : vwCl[12]? = some (RX12, TX12, 86)) rfl lb_129.1 (shO hW.2.1 lb_129) (a_X12_isGood _ _ cA ad g9 bb hW.2.1 hG c37_129_5) ⟨by decide, by decide⟩ rfl rfl hl.1 (Nat.le_of_ble_eq_true rfl) dX12_condition_38 (fun v g10828 H locs hp hW1 => ?_)
          obtain ⟨r10827, rfl, hr10827, rfl⟩ := hp
          have hW : WS ad cA (fun i k => (i = 129 ∧ (k = 3 ∨ k = 5 ∨ k = 7 ∨ k = 8 ∨ k = 9 ∨ k = 39 ∨ k = 40)) ∨ i = 153 ∨ i = 154 ∨ i = 155) g0 K g9 H locs := ⟨hW1, hW.2.1, hW.2.2⟩
          refine q_if_eq (tgt := 74) hM dX12_condition_41 (by decide) (rfl : r10827.toInt = r10827.toInt) (fun h41 => ?_) (fun h41 => ?_)
          · exact hE _ _ _ _ _ hW.1 ⟨pp, bb, cc, ss, oo, rfl, hW.2.1, hG, hW.2.2, c37_129_3, c37_129_5, c37_129_7, c37_129_9, c37_129_8, (by omega), (by omega), (by omega), (by omega), (by omega), (by omega), (by omega), (by omega), (fun q => by have h9 := i37_10 q; rw [show 1 - w37_1.toInt = 1 by omega] at h9; exact h9)⟩ dX12_condition_74
          · refine q_aload_n hM dX12_condition_44 (lv_at hl 0 rfl) ?_
            refine w_get (v := .int vv) hM hW FG_X12_339 lb_129 c37_129_39 dX12_condition_45 ?_
            refine q_if_ne (tgt := 74) hM dX12_condition_48 (by decide) (rfl : vv.toInt = vv.toInt) (fun h48 => ?_) (fun h48 => ?_)
            · exact hE _ _ _ _ _ hW.1 ⟨pp, bb, cc, ss, oo, rfl, hW.2.1, hG, hW.2.2, c37_129_3, c37_129_5, c37_129_7, c37_129_9, c37_129_8, (by omega), (by omega), (by omega), (by omega), (by omega), (by omega), (by omega), (by omega), (fun q => by have h9 := i37_10 q; rw [show 1 - w37_1.toInt = 1 by omega] at h9; exact h9)⟩ dX12_condition_74
            · refine q_iload_n hM dX12_condition_51 (lv_at hl 1 rfl) ?_
              refine q_if_eq (tgt := 59) hM dX12_condition_52 (by decide) (rfl : w37_1.toInt = w37_1.toInt) (fun h52 => ?_) (fun h52 => ?_)
              · refine q_aload_n hM dX12_condition_59 (lv_at hl 0 rfl) ?_
                refine q_callV (As := []) (rest := []) hM hW.1 hR hC myX12_isGood (kAW (v_5_8 (List.mem_of_getElem? (i := 11) rfl)) rfl) (rfl : vwCl[12]? = some (RX12, TX12, 86)) rfl lb_129.1 (shO hW.2.1 lb_129) (a_X12_isGood _ _ cA ad g9 bb hW.2.1 hG c37_129_5) ⟨by decide, by decide⟩ rfl rfl hl.1 (Nat.le_of_ble_eq_true rfl) dX12_condition_60 (fun v g10835 H locs hp hW1 => ?_)
                obtain ⟨r10834, rfl, hr10834, rfl⟩ := hp
                have hW : WS ad cA (fun i k => (i = 129 ∧ (k = 3 ∨ k = 5 ∨ k = 7 ∨ k = 8 ∨ k = 9 ∨ k = 39 ∨ k = 40)) ∨ i = 153 ∨ i = 154 ∨ i = 155) g0 K g9 H locs := ⟨hW1, hW.2.1, hW.2.2⟩
                refine q_if_eq (tgt := 37) hM dX12_condition_63 (by decide) (rfl : r10834.toInt = r10834.toInt) (fun h63 => ?_) (fun h63 => ?_)
                · exact ih37 w37_1 pp bb cc ss oo vv _ _ _ _ (by omega) hG (by omega) (by omega) (by omega) (by omega) (by omega) (by omega) (by omega) (by omega) (by omega) (fun q => absurd q (by omega)) (fun q _ => absurd q (by omega)) (by omega) (by omega) c37_129_3 c37_129_5 c37_129_7 c37_129_9 c37_129_8 c37_129_39 (lv_sub hl [0, 1] rfl) hW
                · refine q_aload_n hM dX12_condition_66 (lv_at hl 0 rfl) ?_
                  refine q_callV (As := []) (rest := []) hM hW.1 hR hC myX12_goesBehind (kAW (v_6_1 (List.mem_of_getElem? (i := 3) rfl)) rfl) (rfl : vwCl[12]? = some (RX12, TX12, 86)) rfl lb_129.1 (shO hW.2.1 lb_129) (a_X12_goesBehind _ _ cA ad g9 pp en bb cc ss oo vv sa hW.2.1 hG c37_129_3 ((hW.2.2.1 129 4 (by omega)).trans h_en) c37_129_5 c37_129_7 c37_129_9 c37_129_8 c37_129_39 (by  omega) (by  omega) (by  omega) (by  omega) (by  omega) (by  omega) (by  omega) (by  omega) (by have q := i37_10 (by omega); rw [show 1 - w37_1.toInt = 1 by omega] at q; exact q) (i37_11 (by omega) (by omega))) ⟨by decide, by decide⟩ rfl rfl hl.1 (Nat.le_of_ble_eq_true rfl) dX12_condition_67 (fun v g10859 H locs hp hW1 => ?_)
                  obtain ⟨v10838, v10839, v10840, v10841, v10842, v10843, r10844, rfl, hs1, hG, hf1, q10845, q10846, q10847, q10848, q10849, q10850, e10851, e10852, e10853, e10854, e10855, e10856, e10857, e10858, hr10844⟩ := hp
                  have hW : WS ad cA (fun i k => (i = 129 ∧ (k = 3 ∨ k = 5 ∨ k = 7 ∨ k = 8 ∨ k = 9 ∨ k = 39 ∨ k = 40)) ∨ i = 153 ∨ i = 154 ∨ i = 155) g0 K g10859 H locs := ⟨hW1, hs1, hW.2.2.tr hf1 (fun i k h => h.elim (fun h => (Or.inl (by omega))) (fun h => h.elim (fun h => (Or.inr (Or.inl h))) (fun h => h.elim (fun h => (Or.inr (Or.inr (Or.inl h)))) (fun h => (Or.inr (Or.inr (Or.inr h)))))))⟩
                  refine q_istore_n (lv9 := [(1, .int r10844), (0, .ref (ad 129))]) hM dX12_condition_70 hl (by decide) rfl (fun ls hl => ?_)
                  refine q_goto (tgt := 37) hM dX12_condition_71 (by decide) ?_
                  exact ih37 r10844 v10838 v10839 v10840 v10841 v10842 v10843 _ _ _ _ (by omega) hG (by omega) (by omega) (by omega) (by omega) (by omega) (by omega) (by omega) (by omega) (by omega) (fun q => by rcases hr10844 with h9 | h9; (rw [show 1 - r10844.toInt = 0 by omega]; exact h9.2.2.2.2.1); (rw [show 1 - r10844.toInt = 1 by omega]; exact (h9.2 q).2.1)) (fun q q2 => by rcases hr10844 with h9 | h9; exact h9.2.2.2.2.2; exact (h9.2 q).2.2 q2) (by omega) (by omega) q10845 q10846 q10847 q10848 q10849 q10850 (lv_sub hl [1, 0] rfl) hW
              · refine q_aload_n hM dX12_condition_55 (lv_at hl 0 rfl) ?_
                refine q_callV (As := []) (rest := []) hM hW.1 hR hC myX12_pieceOfC (kAW (v_6_0 (List.mem_of_getElem? (i := 8) rfl)) rfl) (rfl : vwCl[12]? = some (RX12, TX12, 86)) rfl lb_129.1 (shO hW.2.1 lb_129) (a_X12_pieceOfC _ _ cA ad g9 pp en bb cc ss oo sa hW.2.1 hG c37_129_3 ((hW.2.2.1 129 4 (by omega)).trans h_en) c37_129_5 c37_129_7 c37_129_9 c37_129_8 (by  omega) (by  omega) (by  omega) (by  omega) (by  omega) (by  omega) (by  omega) (by have q := i37_10 (by omega); rw [show 1 - w37_1.toInt = 0 by omega] at q; exact q) (i37_11 (by omega) (by omega))) ⟨by decide, by decide⟩ rfl rfl hl.1 (Nat.le_of_ble_eq_true rfl) dX12_condition_56 (fun v g10881 H locs hp hW1 => ?_)
                obtain ⟨v10861, v10862, v10863, v10864, v10865, rfl, hs1, hG, hf1, q10866, q10867, q10868, q10869, q10870, e10871, e10872, e10873, e10874, e10875, e10876, e10877, e10878, e10879, e10880⟩ := hp
                have f10882 : fld g10881 129 39 = .int vv := (hf1.1 129 39 (by omega)).trans c37_129_39
                have hW : WS ad cA (fun i k => (i = 129 ∧ (k = 3 ∨ k = 5 ∨ k = 7 ∨ k = 8 ∨ k = 9 ∨ k = 39 ∨ k = 40)) ∨ i = 153 ∨ i = 154 ∨ i = 155) g0 K g10881 H locs := ⟨hW1, hs1, hW.2.2.tr hf1 (fun i k h => h.elim (fun h => (Or.inl (by omega))) (fun h => h.elim (fun h => (Or.inr (Or.inl h))) (fun h => h.elim (fun h => (Or.inr (Or.inr (Or.inl h)))) (fun h => (Or.inr (Or.inr (Or.inr h)))))))⟩
                refine q_aload_n hM dX12_condition_59 (lv_at hl 0 rfl) ?_
                refine q_callV (As := []) (rest := []) hM hW.1 hR hC myX12_isGood (kAW (v_5_8 (List.mem_of_getElem? (i := 11) rfl)) rfl) (rfl : vwCl[12]? = some (RX12, TX12, 86)) rfl lb_129.1 (shO hW.2.1 lb_129) (a_X12_isGood _ _ cA ad g10881 v10862 hW.2.1 hG q10867) ⟨by decide, by decide⟩ rfl rfl hl.1 (Nat.le_of_ble_eq_true rfl) dX12_condition_60 (fun v g10884 H locs hp hW1 => ?_)
                obtain ⟨r10883, rfl, hr10883, rfl⟩ := hp
                have hW : WS ad cA (fun i k => (i = 129 ∧ (k = 3 ∨ k = 5 ∨ k = 7 ∨ k = 8 ∨ k = 9 ∨ k = 39 ∨ k = 40)) ∨ i = 153 ∨ i = 154 ∨ i = 155) g0 K g10881 H locs := ⟨hW1, hW.2.1, hW.2.2⟩
                refine q_if_eq (tgt := 37) hM dX12_condition_63 (by decide) (rfl : r10883.toInt = r10883.toInt) (fun h63 => ?_) (fun h63 => ?_)
                · exact ih37 w37_1 v10861 v10862 v10863 v10864 v10865 vv _ _ _ _ (by omega) hG (by omega) (by omega) (by omega) (by omega) (by omega) (by omega) (by omega) (by omega) (by omega) (fun q => absurd q (by omega)) (fun q _ => absurd q (by omega)) (by omega) (by omega) q10866 q10867 q10868 q10869 q10870 f10882 (lv_sub hl [0, 1] rfl) hW
                · refine q_aload_n hM dX12_condition_66 (lv_at hl 0 rfl) ?_
                  refine q_callV (As := []) (rest := []) hM hW.1 hR hC myX12_goesBehind (kAW (v_6_1 (List.mem_of_getElem? (i := 3) rfl)) rfl) (rfl : vwCl[12]? = some (RX12, TX12, 86)) rfl lb_129.1 (shO hW.2.1 lb_129) (a_X12_goesBehind _ _ cA ad g10881 v10861 en v10862 v10863 v10864 v10865 vv sa hW.2.1 hG q10866 ((hW.2.2.1 129 4 (by omega)).trans h_en) q10867 q10868 q10869 q10870 f10882 (by  omega) (by  omega) (by  omega) (by  omega) (by  omega) (by  omega) (by  omega) (by  omega) (e10879 (by omega)) (e10880 (by omega))) ⟨by decide, by decide⟩ rfl rfl hl.1 (Nat.le_of_ble_eq_true rfl) dX12_condition_67 (fun v g10908 H locs hp hW1 => ?_)
                  obtain ⟨v10887, v10888, v10889, v10890, v10891, v10892, r10893, rfl, hs1, hG, hf1, q10894, q10895, q10896, q10897, q10898, q10899, e10900, e10901, e10902, e10903, e10904, e10905, e10906, e10907, hr10893⟩ := hp
                  have hW : WS ad cA (fun i k => (i = 129 ∧ (k = 3 ∨ k = 5 ∨ k = 7 ∨ k = 8 ∨ k = 9 ∨ k = 39 ∨ k = 40)) ∨ i = 153 ∨ i = 154 ∨ i = 155) g0 K g10908 H locs := ⟨hW1, hs1, hW.2.2.tr hf1 (fun i k h => h.elim (fun h => (Or.inl (by omega))) (fun h => h.elim (fun h => (Or.inr (Or.inl h))) (fun h => h.elim (fun h => (Or.inr (Or.inr (Or.inl h)))) (fun h => (Or.inr (Or.inr (Or.inr h)))))))⟩
                  refine q_istore_n (lv9 := [(1, .int r10893), (0, .ref (ad 129))]) hM dX12_condition_70 hl (by decide) rfl (fun ls hl => ?_)
                  refine q_goto (tgt := 37) hM dX12_condition_71 (by decide) ?_
                  exact ih37 r10893 v10887 v10888 v10889 v10890 v10891 v10892 _ _ _ _ (by omega) hG (by omega) (by omega) (by omega) (by omega) (by omega) (by omega) (by omega) (by omega) (by omega) (fun q => by rcases hr10893 with h9 | h9; (rw [show 1 - r10893.toInt = 0 by omega]; exact h9.2.2.2.2.1); (rw [show 1 - r10893.toInt = 1 by omega]; exact (h9.2 q).2.1)) (fun q q2 => by rcases hr10893 with h9 | h9; exact h9.2.2.2.2.2; exact (h9.2 q).2.2 q2) (by omega) (by omega) q10894 q10895 q10896 q10897 q10898 q10899 (lv_sub hl [1, 0] rfl) hW
      have := kc_1
      have := kc_0
      exact L37 _ (1 : Int32) v10808 v10809 co v10810 v10811 (0 : Int32) _ _ _ _ (Nat.lt_succ_self _) hG (by omega) (by omega) (by omega) (by omega) (by omega) (by omega) (by omega) (by omega) (by omega) (fun _ => by rw [f10822, f10825]; rw [show 1 - (1 : Int32).toInt = 0 by have := kc_1; omega]; exact JJ_push hJ rfl rfl (by have := bnd_c (hr (arI g0 130) pl en); omega) (by omega)) (fun _ _ => by rw [f10825]; have h9 := CS_first (s := arI g0 155) (o := sk) (c := (hr (arI g0 130) pl en)) rfl sk0 (by omega); rw [show v10810.toInt = 1 by omega]; exact h9) (by omega) (by omega) q10812 q10813 f10823 q10814 q10815 f10824 (lv_sub hl [1, 0] rfl) hW
    · exact hE _ _ _ _ _ hW.1 ⟨pl, v10794, co, sk, op, rfl, hW.2.1, hG, hW.2.2, f10800, q10795, f10801, f10803, f10802, (by omega), (by omega), (by omega), (by omega), (by omega), (by omega), (by omega), (by omega), (fun q => absurd q (by omega))⟩ dX12_condition_30
