theorem dX12_stays_0 : decode cX12_stays 0 = .ok (.aload_n 0, 1) := by decide +kernel
theorem dX12_stays_1 : decode cX12_stays 1 = .ok (.invokevirtual 182, 3) := by decide +kernel
theorem dX12_stays_4 : decode cX12_stays 4 = .ok (.istore_n 1, 1) := by decide +kernel
theorem dX12_stays_5 : decode cX12_stays 5 = .ok (.iload_n 1, 1) := by decide +kernel
theorem dX12_stays_6 : decode cX12_stays 6 = .ok (.invokestatic 296, 3) := by decide +kernel
theorem dX12_stays_9 : decode cX12_stays 9 = .ok (.ifCond .ne 10, 3) := by decide +kernel
theorem dX12_stays_12 : decode cX12_stays 12 = .ok (.iload_n 1, 1) := by decide +kernel
theorem dX12_stays_13 : decode cX12_stays 13 = .ok (.invokestatic 299, 3) := by decide +kernel
theorem dX12_stays_16 : decode cX12_stays 16 = .ok (.ifCond .eq 18, 3) := by decide +kernel
theorem dX12_stays_19 : decode cX12_stays 19 = .ok (.aload_n 0, 1) := by decide +kernel
theorem dX12_stays_20 : decode cX12_stays 20 = .ok (.iload_n 1, 1) := by decide +kernel
theorem dX12_stays_21 : decode cX12_stays 21 = .ok (.invokestatic 299, 3) := by decide +kernel
theorem dX12_stays_24 : decode cX12_stays 24 = .ok (.invokevirtual 314, 3) := by decide +kernel
theorem dX12_stays_27 : decode cX12_stays 27 = .ok (.aload_n 0, 1) := by decide +kernel
theorem dX12_stays_28 : decode cX12_stays 28 = .ok (.iload_n 1, 1) := by decide +kernel
theorem dX12_stays_29 : decode cX12_stays 29 = .ok (.invokevirtual 287, 3) := by decide +kernel
theorem dX12_stays_32 : decode cX12_stays 32 = .ok (.iconst 1, 1) := by decide +kernel
theorem dX12_stays_33 : decode cX12_stays 33 = .ok (.ireturn, 1) := by decide +kernel
theorem dX12_stays_34 : decode cX12_stays 34 = .ok (.aload_n 0, 1) := by decide +kernel
theorem dX12_stays_35 : decode cX12_stays 35 = .ok (.iconst 1, 1) := by decide +kernel
theorem dX12_stays_36 : decode cX12_stays 36 = .ok (.invokevirtual 314, 3) := by decide +kernel
theorem dX12_stays_39 : decode cX12_stays 39 = .ok (.iload_n 1, 1) := by decide +kernel
theorem dX12_stays_40 : decode cX12_stays 40 = .ok (.bipush 93, 2) := by decide +kernel
theorem dX12_stays_42 : decode cX12_stays 42 = .ok (.if_icmp .eq 5, 3) := by decide +kernel
theorem dX12_stays_45 : decode cX12_stays 45 = .ok (.iconst 0, 1) := by decide +kernel
theorem dX12_stays_46 : decode cX12_stays 46 = .ok (.ireturn, 1) := by decide +kernel
theorem dX12_stays_47 : decode cX12_stays 47 = .ok (.aload_n 0, 1) := by decide +kernel
theorem dX12_stays_48 : decode cX12_stays 48 = .ok (.invokevirtual 293, 3) := by decide +kernel
theorem dX12_stays_51 : decode cX12_stays 51 = .ok (.bipush 91, 2) := by decide +kernel
theorem dX12_stays_53 : decode cX12_stays 53 = .ok (.if_icmp .eq 14, 3) := by decide +kernel
theorem dX12_stays_56 : decode cX12_stays 56 = .ok (.aload_n 0, 1) := by decide +kernel
theorem dX12_stays_57 : decode cX12_stays 57 = .ok (.iconst 1, 1) := by decide +kernel
theorem dX12_stays_58 : decode cX12_stays 58 = .ok (.aload_n 0, 1) := by decide +kernel
theorem dX12_stays_59 : decode cX12_stays 59 = .ok (.getfield 173, 3) := by decide +kernel
theorem dX12_stays_62 : decode cX12_stays 62 = .ok (.invokevirtual 230, 3) := by decide +kernel
theorem dX12_stays_65 : decode cX12_stays 65 = .ok (.iconst 0, 1) := by decide +kernel
theorem dX12_stays_66 : decode cX12_stays 66 = .ok (.ireturn, 1) := by decide +kernel
theorem dX12_stays_67 : decode cX12_stays 67 = .ok (.aload_n 0, 1) := by decide +kernel
theorem dX12_stays_68 : decode cX12_stays 68 = .ok (.dup, 1) := by decide +kernel
theorem dX12_stays_69 : decode cX12_stays 69 = .ok (.getfield 281, 3) := by decide +kernel
theorem dX12_stays_72 : decode cX12_stays 72 = .ok (.iconst 1, 1) := by decide +kernel
theorem dX12_stays_73 : decode cX12_stays 73 = .ok (.isub, 1) := by decide +kernel
theorem dX12_stays_74 : decode cX12_stays 74 = .ok (.putfield 281, 3) := by decide +kernel
theorem dX12_stays_77 : decode cX12_stays 77 = .ok (.aload_n 0, 1) := by decide +kernel
theorem dX12_stays_78 : decode cX12_stays 78 = .ok (.dup, 1) := by decide +kernel
theorem dX12_stays_79 : decode cX12_stays 79 = .ok (.getfield 284, 3) := by decide +kernel
theorem dX12_stays_82 : decode cX12_stays 82 = .ok (.iconst 1, 1) := by decide +kernel
theorem dX12_stays_83 : decode cX12_stays 83 = .ok (.isub, 1) := by decide +kernel
theorem dX12_stays_84 : decode cX12_stays 84 = .ok (.putfield 284, 3) := by decide +kernel
theorem dX12_stays_87 : decode cX12_stays 87 = .ok (.aload_n 0, 1) := by decide +kernel
theorem dX12_stays_88 : decode cX12_stays 88 = .ok (.dup, 1) := by decide +kernel
theorem dX12_stays_89 : decode cX12_stays 89 = .ok (.getfield 173, 3) := by decide +kernel
theorem dX12_stays_92 : decode cX12_stays 92 = .ok (.iconst 1, 1) := by decide +kernel
theorem dX12_stays_93 : decode cX12_stays 93 = .ok (.iadd, 1) := by decide +kernel
theorem dX12_stays_94 : decode cX12_stays 94 = .ok (.putfield 173, 3) := by decide +kernel
theorem dX12_stays_97 : decode cX12_stays 97 = .ok (.aload_n 0, 1) := by decide +kernel
theorem dX12_stays_98 : decode cX12_stays 98 = .ok (.iconst 1, 1) := by decide +kernel
theorem dX12_stays_99 : decode cX12_stays 99 = .ok (.putfield 318, 3) := by decide +kernel
theorem dX12_stays_102 : decode cX12_stays 102 = .ok (.iconst 1, 1) := by decide +kernel
theorem dX12_stays_103 : decode cX12_stays 103 = .ok (.ireturn, 1) := by decide +kernel
theorem myX12_sums : MI yX12_sums cX12_sums 2 none 1 := ⟨kAW (v_5_14 (List.mem_of_getElem? (i := 15) rfl)) rfl, kAW (v_0_0 (List.mem_of_getElem? (i := 13) rfl)) rfl, kAW (v_5_14 (List.mem_of_getElem? (i := 14) rfl)) rfl, kAW (tp_t3 (List.mem_of_getElem? (i := 8) rfl)) rfl, by decide, by decide, by decide +kernel⟩
theorem FP_X12_318 : FPX RX12 318 12 86 40 .boolean := ⟨⟨RX12, TX12, tyX12, rfl, wX12, by decide, kAW (v_4_5 (List.mem_of_getElem? (i := 5) rfl)) rfl, rfl, tyX12_ok, nmX12, by decide +kernel, rfl⟩, by decide +kernel⟩
set_option maxRecDepth 100000 in
set_option maxHeartbeats 4000000 in
theorem a_X12_stays (l : Launch) (D : va_G) (cA : Nat → ClassId) (ad : Nat → Nat) (g0 : Nat → va_E)  (pl : Int32) (en : Int32) (bd : Int32) (co : Int32) (sk : Int32) (op : Int32) (ib : Int32)  (sa : Int × (Nat → Int32)) (lo : Int) (s0 : Nat → Int32) (hSh : Shp ad cA g0) (hG : Rng g0) (h_pl : fld g0 129 3 = .int pl) (h_en : fld g0 129 4 = .int en) (h_bd : fld g0 129 5 = .int bd) (h_co : fld g0 129 7 = .int co) (h_sk : fld g0 129 9 = .int sk) (h_op : fld g0 129 8 = .int op) (h_ib : fld g0 129 40 = .int ib) (pl0 : 0 ≤ pl.toInt) (pl1 : pl.toInt ≤ en.toInt) (en1 : en.toInt ≤ 240) (bd0 : bd.toInt = 0) (i1 : co.toInt + sk.toInt ≤ pl.toInt) (i2 : sk.toInt - pl.toInt ≤ op.toInt) (i3 : op.toInt ≤ pl.toInt) (ib0 : ib.toInt = 0) (hJ : JJ (arI g0 153) (arI g0 155) sa co.toInt sk.toInt 1) (hV : VS (arI g0 155) s0 lo sk.toInt) (hN : 1 ≤ lo → ¬ isV (s0 (lo - 1).toNat)) : CT l NN ad cA D yX12_stays cX12_stays 2 (some FieldType.boolean) (3, 63) [.ref (ad 129)] g0 (fun v g' => ∃ (p9 : Int32) (b9 : Int32) (c9 : Int32) (s9 : Int32) (o9 : Int32) (h9 : Int32) (r : Int32), v = some (.int r) ∧ Shp ad cA g' ∧ Rng g' ∧ FR (fun i k => (i = 129 ∧ (k = 3 ∨ k = 5 ∨ k = 7 ∨ k = 8 ∨ k = 9 ∨ k = 40)) ∨ i = 153 ∨ i = 154 ∨ i = 155) g0 g' ∧ fld g' 129 3 = .int p9 ∧ fld g' 129 5 = .int b9 ∧ fld g' 129 7 = .int c9 ∧ fld g' 129 9 = .int s9 ∧ fld g' 129 8 = .int o9 ∧ fld g' 129 40 = .int h9 ∧ (pl.toInt ≤ p9.toInt) ∧ (p9.toInt ≤ en.toInt) ∧ (b9.toInt ≤ 0) ∧ (c9.toInt + s9.toInt ≤ p9.toInt) ∧ (s9.toInt - p9.toInt ≤ o9.toInt) ∧ (o9.toInt ≤ p9.toInt) ∧ (0 ≤ s9.toInt ∧ 0 ≤ c9.toInt) ∧ (0 ≤ h9.toInt) ∧ (h9.toInt ≤ 1) ∧ (b9.toInt = 0 → VS (arI g' 155) s0 lo s9.toInt) ∧ ((r.toInt = 1 ∧ b9.toInt = 0 ∧ pl.toInt < p9.toInt ∧ JJ (arI g' 153) (arI g' 155) sa c9.toInt s9.toInt h9.toInt) ∨ (r.toInt = 0 ∧ (b9.toInt = 0 → JJ (arI g' 153) (arI g' 155) sa c9.toInt s9.toInt 1 ∧ (1 ≤ s9.toInt → (arI g' 155 (s9.toInt - 1).toNat).toInt ≠ 42 ∧ (arI g' 155 (s9.toInt - 1).toNat).toInt ≠ 47 ∧ (arI g' 155 (s9.toInt - 1).toNat).toInt ≠ 37 ∧ (arI g' 155 (s9.toInt - 1).toNat).toInt ≠ 43 ∧ (arI g' 155 (s9.toInt - 1).toNat).toInt ≠ 45))))) := by
  refine q_enterZ (by decide) (Nat.le_of_ble_eq_true rfl) (fun K H locs ls _ _ hM hW0 hR hC hE hl => ?_)
  have hl : lv_has ls 2 [(0, .ref (ad 129))] := hl
  have hW : WS ad cA (fun i k => (i = 129 ∧ (k = 3 ∨ k = 5 ∨ k = 7 ∨ k = 8 ∨ k = 9 ∨ k = 40)) ∨ i = 153 ∨ i = 154 ∨ i = 155) g0 K g0 H locs := ⟨hW0, hSh, FR.rf⟩
  have b_pl := hG.f h_pl rF_129_3 (by decide)
  have b_en := hG.f h_en rF_129_4 (by decide)
  have b_bd := hG.f h_bd rF_129_5 (by decide)
  have b_co := hG.f h_co rF_129_7 (by decide)
  have b_sk := hG.f h_sk rF_129_9 (by decide)
  have b_op := hG.f h_op rF_129_8 (by decide)
  have f9802 : fld g0 129 3 = .int pl := h_pl
  have f9803 : fld g0 129 5 = .int bd := h_bd
  have f9804 : fld g0 129 7 = .int co := h_co
  have f9805 : fld g0 129 8 = .int op := h_op
  have f9806 : fld g0 129 9 = .int sk := h_sk
  have f9807 : fld g0 129 40 = .int ib := h_ib
  refine q_aload_n hM dX12_stays_0 (lv_at hl 0 rfl) ?_
  refine q_callV (As := []) (rest := []) hM hW.1 hR hC myX12_here (kAW (v_5_9 (List.mem_of_getElem? (i := 3) rfl)) rfl) (rfl : vwCl[12]? = some (RX12, TX12, 86)) rfl lb_129.1 (shO hW.2.1 lb_129) (a_X12_here _ _ cA ad g0 pl en hW.2.1 hG f9802 ((hW.2.2.1 129 4 (by omega)).trans h_en) (by  omega) (by  omega)) ⟨by decide, by decide⟩ rfl rfl hl.1 (Nat.le_of_ble_eq_true rfl) dX12_stays_1 (fun v g9809 H locs hp hW1 => ?_)
  obtain ⟨r9808, rfl, hr9808, rfl⟩ := hp
  have hW : WS ad cA (fun i k => (i = 129 ∧ (k = 3 ∨ k = 5 ∨ k = 7 ∨ k = 8 ∨ k = 9 ∨ k = 40)) ∨ i = 153 ∨ i = 154 ∨ i = 155) g0 K g0 H locs := ⟨hW1, hW.2.1, hW.2.2⟩
  rw [hW.2.2.2.1 130 (by omega)] at hr9808
  refine q_istore_n (lv9 := [(1, .int r9808), (0, .ref (ad 129))]) hM dX12_stays_4 hl (by decide) rfl (fun ls hl => ?_)
  refine q_iload_n hM dX12_stays_5 (lv_at hl 0 rfl) ?_
  refine q_callS (As := [.int r9808]) (rest := []) hM hW.1 hR hC myX12_isTimes (kAW (v_5_14 (List.mem_of_getElem? (i := 6) rfl)) rfl) (a_X12_isTimes _ _ cA ad g0 r9808 hW.2.1 hG) ⟨by decide, by decide⟩ rfl rfl hl.1 (Nat.le_of_ble_eq_true rfl) dX12_stays_6 (fun v g9811 H locs hp hW1 => ?_)
  obtain ⟨r9810, rfl, hr9810, rfl⟩ := hp
  have hW : WS ad cA (fun i k => (i = 129 ∧ (k = 3 ∨ k = 5 ∨ k = 7 ∨ k = 8 ∨ k = 9 ∨ k = 40)) ∨ i = 153 ∨ i = 154 ∨ i = 155) g0 K g0 H locs := ⟨hW1, hW.2.1, hW.2.2⟩
  refine q_if_ne (tgt := 19) hM dX12_stays_9 (by decide) (rfl : r9810.toInt = r9810.toInt) (fun h9 => ?_) (fun h9 => ?_)
  · refine q_aload_n hM dX12_stays_19 (lv_at hl 1 rfl) ?_
    refine q_iload_n hM dX12_stays_20 (lv_at hl 0 rfl) ?_
    refine q_callS (As := [.int r9808]) (rest := [.ref (ad 129)]) hM hW.1 hR hC myX12_isPlus (kAW (v_5_14 (List.mem_of_getElem? (i := 9) rfl)) rfl) (a_X12_isPlus _ _ cA ad g0 r9808 hW.2.1 hG) ⟨by decide, by decide⟩ rfl rfl hl.1 (Nat.le_of_ble_eq_true rfl) dX12_stays_21 (fun v g9814 H locs hp hW1 => ?_)
    obtain ⟨r9813, rfl, hr9813, rfl⟩ := hp
    have hW : WS ad cA (fun i k => (i = 129 ∧ (k = 3 ∨ k = 5 ∨ k = 7 ∨ k = 8 ∨ k = 9 ∨ k = 40)) ∨ i = 153 ∨ i = 154 ∨ i = 155) g0 K g0 H locs := ⟨hW1, hW.2.1, hW.2.2⟩
    refine q_callV (As := [.int r9813]) (rest := []) hM hW.1 hR hC myX12_sums (kAW (v_5_14 (List.mem_of_getElem? (i := 12) rfl)) rfl) (rfl : vwCl[12]? = some (RX12, TX12, 86)) rfl lb_129.1 (shO hW.2.1 lb_129) (a_X12_sums _ _ cA ad g0 r9813 bd co sk sa lo s0 hW.2.1 hG f9803 f9804 f9806 (by  omega) (by  omega) hJ hV hN) ⟨by decide, by decide⟩ rfl rfl hl.1 (Nat.le_of_ble_eq_true rfl) dX12_stays_24 (fun v g9827 H locs hp hW1 => ?_)
    obtain ⟨v9815, v9816, rfl, hs1, hG, hf1, q9817, q9818, e9819, e9820, e9821, e9822, e9823, e9824, e9825, e9826⟩ := hp
    have f9828 : arI g9827 155 = arI g0 155 := (hf1.2.1 155 (by omega)).trans (rfl : arI g0 155 = arI g0 155)
    have f9829 : fld g9827 129 3 = .int pl := (hf1.1 129 3 (by omega)).trans f9802
    have f9830 : fld g9827 129 5 = .int bd := (hf1.1 129 5 (by omega)).trans f9803
    have f9831 : fld g9827 129 8 = .int op := (hf1.1 129 8 (by omega)).trans f9805
    have f9832 : fld g9827 129 40 = .int ib := (hf1.1 129 40 (by omega)).trans f9807
    have hW : WS ad cA (fun i k => (i = 129 ∧ (k = 3 ∨ k = 5 ∨ k = 7 ∨ k = 8 ∨ k = 9 ∨ k = 40)) ∨ i = 153 ∨ i = 154 ∨ i = 155) g0 K g9827 H locs := ⟨hW1, hs1, hW.2.2.tr hf1 (fun i k h => h.elim (fun h => (Or.inl (by omega))) (fun h => h.elim (fun h => (Or.inr (Or.inl h))) (fun h => (Or.inr (Or.inr (Or.inl h))))))⟩
    refine q_aload_n hM dX12_stays_27 (lv_at hl 1 rfl) ?_
    refine q_iload_n hM dX12_stays_28 (lv_at hl 0 rfl) ?_
    refine q_callV (As := [.int r9808]) (rest := []) hM hW.1 hR hC myX12_puts (kAW (v_5_12 (List.mem_of_getElem? (i := 14) rfl)) rfl) (rfl : vwCl[12]? = some (RX12, TX12, 86)) rfl lb_129.1 (shO hW.2.1 lb_129) (a_X12_puts _ _ cA ad g9827 r9808 pl v9816 hW.2.1 hG f9829 q9818 (by  omega) (by  omega) (by  omega)) ⟨by decide, by decide⟩ rfl rfl hl.1 (Nat.le_of_ble_eq_true rfl) dX12_stays_29 (fun v g9840 H locs hp hW1 => ?_)
    obtain ⟨v9833, v9834, rfl, hs1, hG, hf1, q9835, q9836, e9837, e9838, e9839⟩ := hp
    have f9841 : fld g9840 129 5 = .int bd := (hf1.1 129 5 (by omega)).trans f9830
    have f9842 : fld g9840 129 8 = .int op := (hf1.1 129 8 (by omega)).trans f9831
    have f9843 : fld g9840 129 40 = .int ib := (hf1.1 129 40 (by omega)).trans f9832
    have f9844 : fld g9840 129 7 = .int v9815 := (hf1.1 129 7 (by omega)).trans q9817
    have f9845 : arI g9840 153 = arI g9827 153 := (hf1.2.1 153 (by omega)).trans (rfl : arI g9827 153 = arI g9827 153)
    have hW : WS ad cA (fun i k => (i = 129 ∧ (k = 3 ∨ k = 5 ∨ k = 7 ∨ k = 8 ∨ k = 9 ∨ k = 40)) ∨ i = 153 ∨ i = 154 ∨ i = 155) g0 K g9840 H locs := ⟨hW1, hs1, hW.2.2.tr hf1 (fun i k h => h.elim (fun h => (Or.inl (by omega))) (fun h => (Or.inr (Or.inr (Or.inr h)))))⟩
    have f9846 := e9839
    rw [f9828] at f9846
    refine q_iconst (v := (1 : Int32)) hM dX12_stays_32 (by decide) ?_
    exact hE _ _ _ _ _ _ hW.1 nz_1 ⟨v9833, bd, v9815, v9834, op, ib, _, rfl, hW.2.1, hG, hW.2.2, q9835, f9841, f9844, q9836, f9842, f9843, (by have := kc_1; omega), (by have := kc_1; omega), (by have := kc_1; omega), (by have := kc_1; omega), (by have := kc_1; omega), (by have := kc_1; omega), (by have := kc_1; omega), (by have := kc_1; omega), (by have := kc_1; omega), (fun _ => by rw [f9846]; exact VS_push e9824 rfl rfl (by omega) (by omega)), Or.inl ⟨kc_1, by omega, by omega, by rw [f9845, f9846]; exact JJ_push e9823 rfl rfl (by have := bnd_c r9808; omega) (by omega)⟩⟩ dX12_stays_33
  · refine q_iload_n hM dX12_stays_12 (lv_at hl 0 rfl) ?_
    refine q_callS (As := [.int r9808]) (rest := []) hM hW.1 hR hC myX12_isPlus (kAW (v_5_14 (List.mem_of_getElem? (i := 9) rfl)) rfl) (a_X12_isPlus _ _ cA ad g0 r9808 hW.2.1 hG) ⟨by decide, by decide⟩ rfl rfl hl.1 (Nat.le_of_ble_eq_true rfl) dX12_stays_13 (fun v g9849 H locs hp hW1 => ?_)
    obtain ⟨r9848, rfl, hr9848, rfl⟩ := hp
    have hW : WS ad cA (fun i k => (i = 129 ∧ (k = 3 ∨ k = 5 ∨ k = 7 ∨ k = 8 ∨ k = 9 ∨ k = 40)) ∨ i = 153 ∨ i = 154 ∨ i = 155) g0 K g0 H locs := ⟨hW1, hW.2.1, hW.2.2⟩
    refine q_if_eq (tgt := 34) hM dX12_stays_16 (by decide) (rfl : r9848.toInt = r9848.toInt) (fun h16 => ?_) (fun h16 => ?_)
    · refine q_aload_n hM dX12_stays_34 (lv_at hl 1 rfl) ?_
      refine q_iconst (v := (1 : Int32)) hM dX12_stays_35 (by decide) ?_
      refine q_callV (As := [.int (1 : Int32)]) (rest := []) hM hW.1 hR hC myX12_sums (kAW (v_5_14 (List.mem_of_getElem? (i := 12) rfl)) rfl) (rfl : vwCl[12]? = some (RX12, TX12, 86)) rfl lb_129.1 (shO hW.2.1 lb_129) (a_X12_sums _ _ cA ad g0 (1 : Int32) bd co sk sa lo s0 hW.2.1 hG f9803 f9804 f9806 (by have := kc_1; omega) (by have := kc_1; omega) hJ hV hN) ⟨by decide, by decide⟩ rfl rfl hl.1 (Nat.le_of_ble_eq_true rfl) dX12_stays_36 (fun v g9863 H locs hp hW1 => ?_)
      obtain ⟨v9851, v9852, rfl, hs1, hG, hf1, q9853, q9854, e9855, e9856, e9857, e9858, e9859, e9860, e9861, e9862⟩ := hp
      have f9864 : arI g9863 155 = arI g0 155 := (hf1.2.1 155 (by omega)).trans (rfl : arI g0 155 = arI g0 155)
      have f9865 : fld g9863 129 3 = .int pl := (hf1.1 129 3 (by omega)).trans f9802
      have f9866 : fld g9863 129 5 = .int bd := (hf1.1 129 5 (by omega)).trans f9803
      have f9867 : fld g9863 129 8 = .int op := (hf1.1 129 8 (by omega)).trans f9805
      have f9868 : fld g9863 129 40 = .int ib := (hf1.1 129 40 (by omega)).trans f9807
      have hW : WS ad cA (fun i k => (i = 129 ∧ (k = 3 ∨ k = 5 ∨ k = 7 ∨ k = 8 ∨ k = 9 ∨ k = 40)) ∨ i = 153 ∨ i = 154 ∨ i = 155) g0 K g9863 H locs := ⟨hW1, hs1, hW.2.2.tr hf1 (fun i k h => h.elim (fun h => (Or.inl (by omega))) (fun h => h.elim (fun h => (Or.inr (Or.inl h))) (fun h => (Or.inr (Or.inr (Or.inl h))))))⟩
      refine q_iload_n hM dX12_stays_39 (lv_at hl 0 rfl) ?_
      refine q_bipush (v := (93 : Int32)) hM dX12_stays_40 (by decide) ?_
      refine q_icmp_eq (tgt := 47) hM dX12_stays_42 (by decide) (rfl : r9808.toInt = r9808.toInt) (kc_93 : (93 : Int32).toInt = 93) (fun h42 => ?_) (fun h42 => ?_)
      · refine q_aload_n hM dX12_stays_47 (lv_at hl 1 rfl) ?_
        refine q_callV (As := []) (rest := []) hM hW.1 hR hC myX12_top (kAW (v_6_0 (List.mem_of_getElem? (i := 0) rfl)) rfl) (rfl : vwCl[12]? = some (RX12, TX12, 86)) rfl lb_129.1 (shO hW.2.1 lb_129) (a_X12_top _ _ cA ad g9863 v9852 hW.2.1 hG q9854 (by  omega)) ⟨by decide, by decide⟩ rfl rfl hl.1 (Nat.le_of_ble_eq_true rfl) dX12_stays_48 (fun v g9871 H locs hp hW1 => ?_)
        obtain ⟨r9870, rfl, hr9870, rfl⟩ := hp
        have hW : WS ad cA (fun i k => (i = 129 ∧ (k = 3 ∨ k = 5 ∨ k = 7 ∨ k = 8 ∨ k = 9 ∨ k = 40)) ∨ i = 153 ∨ i = 154 ∨ i = 155) g0 K g9863 H locs := ⟨hW1, hW.2.1, hW.2.2⟩
        rw [f9864] at hr9870
        refine q_bipush (v := (91 : Int32)) hM dX12_stays_51 (by decide) ?_
        refine q_icmp_eq (tgt := 67) hM dX12_stays_53 (by decide) (rfl : r9870.toInt = r9870.toInt) (kc_91 : (91 : Int32).toInt = 91) (fun h53 => ?_) (fun h53 => ?_)
        · refine q_aload_n hM dX12_stays_67 (lv_at hl 1 rfl) ?_
          refine q_dup hM dX12_stays_68 rfl ?_
          refine w_get (v := .int v9852) hM hW FG_X12_281 lb_129 q9854 dX12_stays_69 ?_
          have bv9852 := hG.f q9854 rF_129_9 (by decide)
          refine q_iconst (v := (1 : Int32)) hM dX12_stays_72 (by decide) ?_
          refine q_isub hM dX12_stays_73 (fun z9873 hz9873 => ?_)
          first | have tz9873 := i_subT hz9873 (rfl : v9852.toInt = v9852.toInt) (kc_1 : (1 : Int32).toInt = 1) (by omega) (by omega) | skip
          refine w_put hM hW FP_X12_281 lb_129 (by omega) (Or.inl ⟨_, rfl⟩) rfl rfl dX12_stays_74 (fun g9874 H locs hW e1 e2 => ?_)
          have f9875 : arI g9874 155 = arI g0 155 := (e2.2.1 155 (by unfold Only; omega)).trans f9864
          have f9876 : fld g9874 129 3 = .int pl := (e2.1 129 3 (by unfold Only; omega)).trans f9865
          have f9877 : fld g9874 129 5 = .int bd := (e2.1 129 5 (by unfold Only; omega)).trans f9866
          have f9878 : fld g9874 129 8 = .int op := (e2.1 129 8 (by unfold Only; omega)).trans f9867
          have f9879 : fld g9874 129 40 = .int ib := (e2.1 129 40 (by unfold Only; omega)).trans f9868
          have f9880 : fld g9874 129 7 = .int v9851 := (e2.1 129 7 (by unfold Only; omega)).trans q9853
          have f9881 : arI g9874 153 = arI g9863 153 := (e2.2.1 153 (by unfold Only; omega)).trans (rfl : arI g9863 153 = arI g9863 153)
          have f9882 : fld g9874 129 9 = .int z9873 := e1
          have hG := hG.put e1 e2 rF_129_9 (by decide) (by have := i_rng z9873; omega) (by have := i_rng z9873; omega)
          refine q_aload_n hM dX12_stays_77 (lv_at hl 1 rfl) ?_
          refine q_dup hM dX12_stays_78 rfl ?_
          refine w_get (v := .int op) hM hW FG_X12_284 lb_129 f9878 dX12_stays_79 ?_
          have bop := hG.f f9878 rF_129_8 (by decide)
          refine q_iconst (v := (1 : Int32)) hM dX12_stays_82 (by decide) ?_
          refine q_isub hM dX12_stays_83 (fun z9883 hz9883 => ?_)
          first | have tz9883 := i_subT hz9883 (rfl : op.toInt = op.toInt) (kc_1 : (1 : Int32).toInt = 1) (by omega) (by omega) | skip
          refine w_put hM hW FP_X12_284 lb_129 (by omega) (Or.inl ⟨_, rfl⟩) rfl rfl dX12_stays_84 (fun g9884 H locs hW e1 e2 => ?_)
          have f9885 : arI g9884 155 = arI g0 155 := (e2.2.1 155 (by unfold Only; omega)).trans f9875
          have f9886 : fld g9884 129 3 = .int pl := (e2.1 129 3 (by unfold Only; omega)).trans f9876
          have f9887 : fld g9884 129 5 = .int bd := (e2.1 129 5 (by unfold Only; omega)).trans f9877
          have f9888 : fld g9884 129 40 = .int ib := (e2.1 129 40 (by unfold Only; omega)).trans f9879
          have f9889 : fld g9884 129 7 = .int v9851 := (e2.1 129 7 (by unfold Only; omega)).trans f9880
          have f9890 : arI g9884 153 = arI g9863 153 := (e2.2.1 153 (by unfold Only; omega)).trans f9881
          have f9891 : fld g9884 129 9 = .int z9873 := (e2.1 129 9 (by unfold Only; omega)).trans f9882
          have f9892 : fld g9884 129 8 = .int z9883 := e1
          have hG := hG.put e1 e2 rF_129_8 (by decide) (by have := i_rng z9883; omega) (by have := i_rng z9883; omega)
          refine q_aload_n hM dX12_stays_87 (lv_at hl 1 rfl) ?_
          refine q_dup hM dX12_stays_88 rfl ?_
          refine w_get (v := .int pl) hM hW FG_X12_173 lb_129 f9886 dX12_stays_89 ?_
          have bpl := hG.f f9886 rF_129_3 (by decide)
          refine q_iconst (v := (1 : Int32)) hM dX12_stays_92 (by decide) ?_
          refine q_iadd hM dX12_stays_93 (fun z9893 hz9893 => ?_)
          first | have tz9893 := i_addT hz9893 (rfl : pl.toInt = pl.toInt) (kc_1 : (1 : Int32).toInt = 1) (by omega) (by omega) | skip
          refine w_put hM hW FP_X12_173 lb_129 (by omega) (Or.inl ⟨_, rfl⟩) rfl rfl dX12_stays_94 (fun g9894 H locs hW e1 e2 => ?_)
          have f9895 : arI g9894 155 = arI g0 155 := (e2.2.1 155 (by unfold Only; omega)).trans f9885
          have f9896 : fld g9894 129 5 = .int bd := (e2.1 129 5 (by unfold Only; omega)).trans f9887
          have f9897 : fld g9894 129 40 = .int ib := (e2.1 129 40 (by unfold Only; omega)).trans f9888
          have f9898 : fld g9894 129 7 = .int v9851 := (e2.1 129 7 (by unfold Only; omega)).trans f9889
          have f9899 : arI g9894 153 = arI g9863 153 := (e2.2.1 153 (by unfold Only; omega)).trans f9890
          have f9900 : fld g9894 129 9 = .int z9873 := (e2.1 129 9 (by unfold Only; omega)).trans f9891
          have f9901 : fld g9894 129 8 = .int z9883 := (e2.1 129 8 (by unfold Only; omega)).trans f9892
          have f9902 : fld g9894 129 3 = .int z9893 := e1
          have hG := hG.put e1 e2 rF_129_3 (by decide) (by have := i_rng z9893; omega) (by have := i_rng z9893; omega)
          refine q_aload_n hM dX12_stays_97 (lv_at hl 1 rfl) ?_
          refine q_iconst (v := (1 : Int32)) hM dX12_stays_98 (by decide) ?_
          refine w_put hM hW FP_X12_318 lb_129 (by omega) (Or.inl ⟨_, rfl⟩) rfl rfl dX12_stays_99 (fun g9903 H locs hW e1 e2 => ?_)
          have f9904 : arI g9903 155 = arI g0 155 := (e2.2.1 155 (by unfold Only; omega)).trans f9895
          have f9905 : fld g9903 129 5 = .int bd := (e2.1 129 5 (by unfold Only; omega)).trans f9896
          have f9906 : fld g9903 129 7 = .int v9851 := (e2.1 129 7 (by unfold Only; omega)).trans f9898
          have f9907 : arI g9903 153 = arI g9863 153 := (e2.2.1 153 (by unfold Only; omega)).trans f9899
          have f9908 : fld g9903 129 9 = .int z9873 := (e2.1 129 9 (by unfold Only; omega)).trans f9900
          have f9909 : fld g9903 129 8 = .int z9883 := (e2.1 129 8 (by unfold Only; omega)).trans f9901
          have f9910 : fld g9903 129 3 = .int z9893 := (e2.1 129 3 (by unfold Only; omega)).trans f9902
          have f9911 : fld g9903 129 40 = .int (1 : Int32) := e1
          have hG := hG.put e1 e2 (rfl : rF 129 40 = (-2147483648, 2147483647)) (by decide) (by have := kc_1; have := i_rng (1 : Int32); omega) (by have := kc_1; have := i_rng (1 : Int32); omega)
          refine q_iconst (v := (1 : Int32)) hM dX12_stays_102 (by decide) ?_
          exact hE _ _ _ _ _ _ hW.1 nz_1 ⟨z9893, bd, v9851, z9873, z9883, (1 : Int32), _, rfl, hW.2.1, hG, hW.2.2, f9910, f9905, f9906, f9908, f9909, f9911, (by have := kc_1; have := kc_1; omega), (by have := kc_1; have := kc_1; omega), (by have := kc_1; have := kc_1; omega), (by have := kc_1; have := kc_1; omega), (by have := kc_1; have := kc_1; omega), (by have := kc_1; have := kc_1; omega), (by have := kc_1; have := kc_1; omega), (by have := kc_1; have := kc_1; omega), (by have := kc_1; have := kc_1; omega), (fun _ => by rw [f9904]; exact VS_mono e9860 (by have := VS_top (d := r9870) e9860 hN (by omega) (by omega) (by omega); omega) (by omega)), Or.inl ⟨kc_1, by omega, by omega, by rw [kc_1, f9907, f9904]; exact JJ_pop (d := r9870) e9859 (by omega) (by omega) (by omega) (by omega)⟩⟩ dX12_stays_103
        · refine q_aload_n hM dX12_stays_56 (lv_at hl 1 rfl) ?_
          refine q_iconst (v := (1 : Int32)) hM dX12_stays_57 (by decide) ?_
          refine q_aload_n hM dX12_stays_58 (lv_at hl 1 rfl) ?_
          refine w_get (v := .int pl) hM hW FG_X12_173 lb_129 f9865 dX12_stays_59 ?_
          have bpl := hG.f f9865 rF_129_3 (by decide)
          refine q_callV (As := [.int (1 : Int32), .int pl]) (rest := []) hM hW.1 hR hC myX12_wrongs (kAW (v_5_9 (List.mem_of_getElem? (i := 11) rfl)) rfl) (rfl : vwCl[12]? = some (RX12, TX12, 86)) rfl lb_129.1 (shO hW.2.1 lb_129) (a_X12_wrongs _ _ cA ad g9863 (1 : Int32) pl bd hW.2.1 hG f9866 (by have := kc_1; omega) (by have := kc_1; omega) (by have := kc_1; omega) (by have := kc_1; omega)) ⟨by decide, by decide⟩ rfl rfl hl.1 (Nat.le_of_ble_eq_true rfl) dX12_stays_62 (fun v g9916 H locs hp hW1 => ?_)
          obtain ⟨v9913, rfl, hs1, hG, hf1, q9914, e9915⟩ := hp
          have f9917 : arI g9916 155 = arI g0 155 := (hf1.2.1 155 (by omega)).trans f9864
          have f9918 : fld g9916 129 3 = .int pl := (hf1.1 129 3 (by omega)).trans f9865
          have f9919 : fld g9916 129 8 = .int op := (hf1.1 129 8 (by omega)).trans f9867
          have f9920 : fld g9916 129 40 = .int ib := (hf1.1 129 40 (by omega)).trans f9868
          have f9921 : fld g9916 129 7 = .int v9851 := (hf1.1 129 7 (by omega)).trans q9853
          have f9922 : fld g9916 129 9 = .int v9852 := (hf1.1 129 9 (by omega)).trans q9854
          have f9923 : arI g9916 153 = arI g9863 153 := (hf1.2.1 153 (by omega)).trans (rfl : arI g9863 153 = arI g9863 153)
          have hW : WS ad cA (fun i k => (i = 129 ∧ (k = 3 ∨ k = 5 ∨ k = 7 ∨ k = 8 ∨ k = 9 ∨ k = 40)) ∨ i = 153 ∨ i = 154 ∨ i = 155) g0 K g9916 H locs := ⟨hW1, hs1, hW.2.2.tr hf1 (fun i k h => (Or.inl (by omega)))⟩
          refine q_iconst (v := (0 : Int32)) hM dX12_stays_65 (by decide) ?_
          exact hE _ _ _ _ _ _ hW.1 nz_0 ⟨pl, v9913, v9851, v9852, op, ib, _, rfl, hW.2.1, hG, hW.2.2, f9918, q9914, f9921, f9922, f9919, f9920, (by have := kc_0; omega), (by have := kc_0; omega), (by have := kc_0; omega), (by have := kc_0; omega), (by have := kc_0; omega), (by have := kc_0; omega), (by have := kc_0; omega), (by have := kc_0; omega), (by have := kc_0; omega), (fun q => absurd q (by omega)), Or.inr ⟨kc_0, fun q => absurd q (by omega)⟩⟩ dX12_stays_66
      · refine q_iconst (v := (0 : Int32)) hM dX12_stays_45 (by decide) ?_
        exact hE _ _ _ _ _ _ hW.1 nz_0 ⟨pl, bd, v9851, v9852, op, ib, _, rfl, hW.2.1, hG, hW.2.2, f9865, f9866, q9853, q9854, f9867, f9868, (by have := kc_0; omega), (by have := kc_0; omega), (by have := kc_0; omega), (by have := kc_0; omega), (by have := kc_0; omega), (by have := kc_0; omega), (by have := kc_0; omega), (by have := kc_0; omega), (by have := kc_0; omega), (fun _ => by rw [f9864]; exact e9860), Or.inr ⟨kc_0, fun _ => ⟨by rw [(rfl : arI g9863 153 = arI g9863 153), f9864]; exact e9859, by rw [f9864]; have := kc_1; omega⟩⟩⟩ dX12_stays_46
    · refine q_aload_n hM dX12_stays_19 (lv_at hl 1 rfl) ?_
      refine q_iload_n hM dX12_stays_20 (lv_at hl 0 rfl) ?_
      refine q_callS (As := [.int r9808]) (rest := [.ref (ad 129)]) hM hW.1 hR hC myX12_isPlus (kAW (v_5_14 (List.mem_of_getElem? (i := 9) rfl)) rfl) (a_X12_isPlus _ _ cA ad g0 r9808 hW.2.1 hG) ⟨by decide, by decide⟩ rfl rfl hl.1 (Nat.le_of_ble_eq_true rfl) dX12_stays_21 (fun v g9927 H locs hp hW1 => ?_)
      obtain ⟨r9926, rfl, hr9926, rfl⟩ := hp
      have hW : WS ad cA (fun i k => (i = 129 ∧ (k = 3 ∨ k = 5 ∨ k = 7 ∨ k = 8 ∨ k = 9 ∨ k = 40)) ∨ i = 153 ∨ i = 154 ∨ i = 155) g0 K g0 H locs := ⟨hW1, hW.2.1, hW.2.2⟩
      refine q_callV (As := [.int r9926]) (rest := []) hM hW.1 hR hC myX12_sums (kAW (v_5_14 (List.mem_of_getElem? (i := 12) rfl)) rfl) (rfl : vwCl[12]? = some (RX12, TX12, 86)) rfl lb_129.1 (shO hW.2.1 lb_129) (a_X12_sums _ _ cA ad g0 r9926 bd co sk sa lo s0 hW.2.1 hG f9803 f9804 f9806 (by  omega) (by  omega) hJ hV hN) ⟨by decide, by decide⟩ rfl rfl hl.1 (Nat.le_of_ble_eq_true rfl) dX12_stays_24 (fun v g9940 H locs hp hW1 => ?_)
      obtain ⟨v9928, v9929, rfl, hs1, hG, hf1, q9930, q9931, e9932, e9933, e9934, e9935, e9936, e9937, e9938, e9939⟩ := hp
      have f9941 : arI g9940 155 = arI g0 155 := (hf1.2.1 155 (by omega)).trans (rfl : arI g0 155 = arI g0 155)
      have f9942 : fld g9940 129 3 = .int pl := (hf1.1 129 3 (by omega)).trans f9802
      have f9943 : fld g9940 129 5 = .int bd := (hf1.1 129 5 (by omega)).trans f9803
      have f9944 : fld g9940 129 8 = .int op := (hf1.1 129 8 (by omega)).trans f9805
      have f9945 : fld g9940 129 40 = .int ib := (hf1.1 129 40 (by omega)).trans f9807
      have hW : WS ad cA (fun i k => (i = 129 ∧ (k = 3 ∨ k = 5 ∨ k = 7 ∨ k = 8 ∨ k = 9 ∨ k = 40)) ∨ i = 153 ∨ i = 154 ∨ i = 155) g0 K g9940 H locs := ⟨hW1, hs1, hW.2.2.tr hf1 (fun i k h => h.elim (fun h => (Or.inl (by omega))) (fun h => h.elim (fun h => (Or.inr (Or.inl h))) (fun h => (Or.inr (Or.inr (Or.inl h))))))⟩
      refine q_aload_n hM dX12_stays_27 (lv_at hl 1 rfl) ?_
      refine q_iload_n hM dX12_stays_28 (lv_at hl 0 rfl) ?_
      refine q_callV (As := [.int r9808]) (rest := []) hM hW.1 hR hC myX12_puts (kAW (v_5_12 (List.mem_of_getElem? (i := 14) rfl)) rfl) (rfl : vwCl[12]? = some (RX12, TX12, 86)) rfl lb_129.1 (shO hW.2.1 lb_129) (a_X12_puts _ _ cA ad g9940 r9808 pl v9929 hW.2.1 hG f9942 q9931 (by  omega) (by  omega) (by  omega)) ⟨by decide, by decide⟩ rfl rfl hl.1 (Nat.le_of_ble_eq_true rfl) dX12_stays_29 (fun v g9953 H locs hp hW1 => ?_)
      obtain ⟨v9946, v9947, rfl, hs1, hG, hf1, q9948, q9949, e9950, e9951, e9952⟩ := hp
      have f9954 : fld g9953 129 5 = .int bd := (hf1.1 129 5 (by omega)).trans f9943
      have f9955 : fld g9953 129 8 = .int op := (hf1.1 129 8 (by omega)).trans f9944
      have f9956 : fld g9953 129 40 = .int ib := (hf1.1 129 40 (by omega)).trans f9945
      have f9957 : fld g9953 129 7 = .int v9928 := (hf1.1 129 7 (by omega)).trans q9930
      have f9958 : arI g9953 153 = arI g9940 153 := (hf1.2.1 153 (by omega)).trans (rfl : arI g9940 153 = arI g9940 153)
      have hW : WS ad cA (fun i k => (i = 129 ∧ (k = 3 ∨ k = 5 ∨ k = 7 ∨ k = 8 ∨ k = 9 ∨ k = 40)) ∨ i = 153 ∨ i = 154 ∨ i = 155) g0 K g9953 H locs := ⟨hW1, hs1, hW.2.2.tr hf1 (fun i k h => h.elim (fun h => (Or.inl (by omega))) (fun h => (Or.inr (Or.inr (Or.inr h)))))⟩
      have f9959 := e9952
      rw [f9941] at f9959
      refine q_iconst (v := (1 : Int32)) hM dX12_stays_32 (by decide) ?_
      exact hE _ _ _ _ _ _ hW.1 nz_1 ⟨v9946, bd, v9928, v9947, op, ib, _, rfl, hW.2.1, hG, hW.2.2, q9948, f9954, f9957, q9949, f9955, f9956, (by have := kc_1; omega), (by have := kc_1; omega), (by have := kc_1; omega), (by have := kc_1; omega), (by have := kc_1; omega), (by have := kc_1; omega), (by have := kc_1; omega), (by have := kc_1; omega), (by have := kc_1; omega), (fun _ => by rw [f9959]; exact VS_push e9937 rfl rfl (by omega) (by omega)), Or.inl ⟨kc_1, by omega, by omega, by rw [f9958, f9959]; exact JJ_push e9936 rfl rfl (by have := bnd_c r9808; omega) (by omega)⟩⟩ dX12_stays_33

theorem dX12_value_0 : decode cX12_value 0 = .ok (.iconst 1, 1) := by decide +kernel
theorem dX12_value_1 : decode cX12_value 1 = .ok (.istore_n 1, 1) := by decide +kernel
theorem dX12_value_2 : decode cX12_value 2 = .ok (.aload_n 0, 1) := by decide +kernel
theorem dX12_value_3 : decode cX12_value 3 = .ok (.iconst 0, 1) := by decide +kernel
theorem dX12_value_4 : decode cX12_value 4 = .ok (.putfield 318, 3) := by decide +kernel
theorem dX12_value_7 : decode cX12_value 7 = .ok (.iload_n 1, 1) := by decide +kernel
theorem dX12_value_8 : decode cX12_value 8 = .ok (.ifCond .eq 49, 3) := by decide +kernel
theorem dX12_value_11 : decode cX12_value 11 = .ok (.aload_n 0, 1) := by decide +kernel
theorem dX12_value_12 : decode cX12_value 12 = .ok (.invokevirtual 234, 3) := by decide +kernel
theorem dX12_value_15 : decode cX12_value 15 = .ok (.ifCond .eq 42, 3) := by decide +kernel
theorem dX12_value_18 : decode cX12_value 18 = .ok (.aload_n 0, 1) := by decide +kernel
theorem dX12_value_19 : decode cX12_value 19 = .ok (.getfield 318, 3) := by decide +kernel
theorem dX12_value_22 : decode cX12_value 22 = .ok (.ifCond .ne 7, 3) := by decide +kernel
theorem dX12_value_25 : decode cX12_value 25 = .ok (.aload_n 0, 1) := by decide +kernel
theorem dX12_value_26 : decode cX12_value 26 = .ok (.invokevirtual 321, 3) := by decide +kernel
theorem dX12_value_29 : decode cX12_value 29 = .ok (.aload_n 0, 1) := by decide +kernel
theorem dX12_value_30 : decode cX12_value 30 = .ok (.iconst 0, 1) := by decide +kernel
theorem dX12_value_31 : decode cX12_value 31 = .ok (.putfield 318, 3) := by decide +kernel
theorem dX12_value_34 : decode cX12_value 34 = .ok (.aload_n 0, 1) := by decide +kernel
theorem dX12_value_35 : decode cX12_value 35 = .ok (.invokevirtual 234, 3) := by decide +kernel
theorem dX12_value_38 : decode cX12_value 38 = .ok (.ifCond .eq 14, 3) := by decide +kernel
theorem dX12_value_41 : decode cX12_value 41 = .ok (.aload_n 0, 1) := by decide +kernel
theorem dX12_value_42 : decode cX12_value 42 = .ok (.invokevirtual 324, 3) := by decide +kernel
theorem dX12_value_45 : decode cX12_value 45 = .ok (.ifCond .eq 7, 3) := by decide +kernel
theorem dX12_value_48 : decode cX12_value 48 = .ok (.iconst 1, 1) := by decide +kernel
theorem dX12_value_49 : decode cX12_value 49 = .ok (.goto 4, 3) := by decide +kernel
theorem dX12_value_52 : decode cX12_value 52 = .ok (.iconst 0, 1) := by decide +kernel
theorem dX12_value_53 : decode cX12_value 53 = .ok (.istore_n 1, 1) := by decide +kernel
theorem dX12_value_54 : decode cX12_value 54 = .ok (.goto (-47), 3) := by decide +kernel
theorem dX12_value_57 : decode cX12_value 57 = .ok (.aload_n 0, 1) := by decide +kernel
theorem dX12_value_58 : decode cX12_value 58 = .ok (.invokevirtual 234, 3) := by decide +kernel
theorem dX12_value_61 : decode cX12_value 61 = .ok (.ifCond .eq 21, 3) := by decide +kernel
theorem dX12_value_64 : decode cX12_value 64 = .ok (.aload_n 0, 1) := by decide +kernel
theorem dX12_value_65 : decode cX12_value 65 = .ok (.invokevirtual 293, 3) := by decide +kernel
theorem dX12_value_68 : decode cX12_value 68 = .ok (.bipush 91, 2) := by decide +kernel
theorem dX12_value_70 : decode cX12_value 70 = .ok (.if_icmp .ne 12, 3) := by decide +kernel
theorem dX12_value_73 : decode cX12_value 73 = .ok (.aload_n 0, 1) := by decide +kernel
theorem dX12_value_74 : decode cX12_value 74 = .ok (.iconst 1, 1) := by decide +kernel
theorem dX12_value_75 : decode cX12_value 75 = .ok (.aload_n 0, 1) := by decide +kernel
theorem dX12_value_76 : decode cX12_value 76 = .ok (.getfield 173, 3) := by decide +kernel
theorem dX12_value_79 : decode cX12_value 79 = .ok (.invokevirtual 230, 3) := by decide +kernel
theorem dX12_value_82 : decode cX12_value 82 = .ok (.return_, 1) := by decide +kernel
theorem FG_X12_318 : FG RX12 318 12 86 40 := ⟨RX12, TX12, rfl, wX12, by decide, kAW (v_4_5 (List.mem_of_getElem? (i := 5) rfl)) rfl, rfl⟩
theorem myX12_stays : MI yX12_stays cX12_stays 2 (some FieldType.boolean) 0 := ⟨kAW (v_5_14 (List.mem_of_getElem? (i := 5) rfl)) rfl, kAW (v_0_0 (List.mem_of_getElem? (i := 13) rfl)) rfl, kAW (v_5_14 (List.mem_of_getElem? (i := 4) rfl)) rfl, kAW (tp_t3 (List.mem_of_getElem? (i := 7) rfl)) rfl, by decide, by decide, by decide +kernel⟩
theorem myX12_factor : MI yX12_factor cX12_factor 1 none 0 := ⟨kAW (v_5_12 (List.mem_of_getElem? (i := 9) rfl)) rfl, kAW (v_0_0 (List.mem_of_getElem? (i := 13) rfl)) rfl, kAW (v_5_12 (List.mem_of_getElem? (i := 8) rfl)) rfl, kAW (tp_t3 (List.mem_of_getElem? (i := 1) rfl)) rfl, by decide, by decide, by decide +kernel⟩
set_option maxRecDepth 100000 in
set_option maxHeartbeats 4000000 in
theorem a_X12_value (l : Launch) (D : va_G) (cA : Nat → ClassId) (ad : Nat → Nat) (g0 : Nat → va_E)  (pl : Int32) (en : Int32) (bd : Int32) (co : Int32) (sk : Int32) (op : Int32)  (sa : Int × (Nat → Int32)) (hSh : Shp ad cA g0) (hG : Rng g0) (h_pl : fld g0 129 3 = .int pl) (h_en : fld g0 129 4 = .int en) (h_bd : fld g0 129 5 = .int bd) (h_co : fld g0 129 7 = .int co) (h_sk : fld g0 129 9 = .int sk) (h_op : fld g0 129 8 = .int op) (pl0 : 0 ≤ pl.toInt) (pl1 : pl.toInt ≤ en.toInt) (en1 : en.toInt ≤ 240) (bd0 : bd.toInt = 0) (i1 : co.toInt + sk.toInt ≤ pl.toInt) (i2 : sk.toInt - pl.toInt ≤ op.toInt) (i3 : op.toInt ≤ pl.toInt) (hJ : JJ (arI g0 153) (arI g0 155) sa co.toInt sk.toInt 0) (hN2 : 1 ≤ sk.toInt → ¬ isV (arI g0 155 (sk.toInt - 1).toNat)) : CT l NN ad cA D yX12_value cX12_value 2 none (4, 87) [.ref (ad 129)] g0 (fun v g' => ∃ (p9 : Int32) (b9 : Int32) (c9 : Int32) (s9 : Int32) (o9 : Int32), v = none ∧ Shp ad cA g' ∧ Rng g' ∧ FR (fun i k => (i = 129 ∧ (k = 3 ∨ k = 5 ∨ k = 7 ∨ k = 8 ∨ k = 9 ∨ k = 40)) ∨ i = 153 ∨ i = 154 ∨ i = 155) g0 g' ∧ fld g' 129 3 = .int p9 ∧ fld g' 129 5 = .int b9 ∧ fld g' 129 7 = .int c9 ∧ fld g' 129 9 = .int s9 ∧ fld g' 129 8 = .int o9 ∧ (pl.toInt ≤ p9.toInt) ∧ (p9.toInt ≤ en.toInt) ∧ (b9.toInt ≤ 0) ∧ (c9.toInt + s9.toInt ≤ p9.toInt) ∧ (s9.toInt - p9.toInt ≤ o9.toInt) ∧ (o9.toInt ≤ p9.toInt) ∧ (0 ≤ s9.toInt ∧ 0 ≤ c9.toInt) ∧ (b9.toInt = 0 → pl.toInt < p9.toInt) ∧ (b9.toInt = 0 → s9.toInt = sk.toInt) ∧ (b9.toInt = 0 → JJ (arI g' 153) (arI g' 155) sa c9.toInt s9.toInt 1) ∧ (b9.toInt = 0 → ∀ j : Nat, (j : Int) < sk.toInt → arI g' 155 j = arI g0 155 j)) := by
  refine q_enterV (by decide) (Nat.le_of_ble_eq_true rfl) (fun K H locs ls _ _ hM hW0 hR hC hE hl => ?_)
  have hl : lv_has ls 2 [(0, .ref (ad 129))] := hl
  have hW : WS ad cA (fun i k => (i = 129 ∧ (k = 3 ∨ k = 5 ∨ k = 7 ∨ k = 8 ∨ k = 9 ∨ k = 40)) ∨ i = 153 ∨ i = 154 ∨ i = 155) g0 K g0 H locs := ⟨hW0, hSh, FR.rf⟩
  have b_pl := hG.f h_pl rF_129_3 (by decide)
  have b_en := hG.f h_en rF_129_4 (by decide)
  have b_bd := hG.f h_bd rF_129_5 (by decide)
  have b_co := hG.f h_co rF_129_7 (by decide)
  have b_sk := hG.f h_sk rF_129_9 (by decide)
  have b_op := hG.f h_op rF_129_8 (by decide)
  have f9960 : fld g0 129 3 = .int pl := h_pl
  have f9961 : fld g0 129 5 = .int bd := h_bd
  have f9962 : fld g0 129 7 = .int co := h_co
  have f9963 : fld g0 129 8 = .int op := h_op
  have f9964 : fld g0 129 9 = .int sk := h_sk
  refine q_iconst (v := (1 : Int32)) hM dX12_value_0 (by decide) ?_
  refine q_istore_n (lv9 := [(1, .int (1 : Int32)), (0, .ref (ad 129))]) hM dX12_value_1 hl (by decide) rfl (fun ls hl => ?_)
  refine q_aload_n hM dX12_value_2 (lv_at hl 1 rfl) ?_
  refine q_iconst (v := (0 : Int32)) hM dX12_value_3 (by decide) ?_
  refine w_put hM hW FP_X12_318 lb_129 (by omega) (Or.inl ⟨_, rfl⟩) rfl rfl dX12_value_4 (fun g9965 H locs hW e1 e2 => ?_)
  have f9966 : arI g9965 153 = arI g0 153 := (e2.2.1 153 (by unfold Only; omega)).trans (rfl : arI g0 153 = arI g0 153)
  have f9967 : arI g9965 155 = arI g0 155 := (e2.2.1 155 (by unfold Only; omega)).trans (rfl : arI g0 155 = arI g0 155)
  have f9968 : fld g9965 129 3 = .int pl := (e2.1 129 3 (by unfold Only; omega)).trans f9960
  have f9969 : fld g9965 129 5 = .int bd := (e2.1 129 5 (by unfold Only; omega)).trans f9961
  have f9970 : fld g9965 129 7 = .int co := (e2.1 129 7 (by unfold Only; omega)).trans f9962
  have f9971 : fld g9965 129 8 = .int op := (e2.1 129 8 (by unfold Only; omega)).trans f9963
  have f9972 : fld g9965 129 9 = .int sk := (e2.1 129 9 (by unfold Only; omega)).trans f9964
  have f9973 : fld g9965 129 40 = .int (0 : Int32) := e1
  have hG := hG.put e1 e2 (rfl : rF 129 40 = (-2147483648, 2147483647)) (by decide) (by have := kc_0; have := i_rng (0 : Int32); omega) (by have := kc_0; have := i_rng (0 : Int32); omega)
  have L7 : ∀ (fu7 : Nat) (w7_1 : Int32) (pp : Int32) (bb : Int32) (cc : Int32) (ss : Int32) (oo : Int32) (hh : Int32) (g9 : Nat → va_E) (H : Heap) (locs : List Loc) (ls : Array Slot), (en.toInt - pp.toInt + 1).toNat + w7_1.toInt.toNat < fu7 → (Rng g9) → (pl.toInt ≤ pp.toInt) → (pp.toInt ≤ en.toInt) → (bb.toInt ≤ 0) → (cc.toInt + ss.toInt ≤ pp.toInt) → (ss.toInt - pp.toInt ≤ oo.toInt) → (oo.toInt ≤ pp.toInt) → (0 ≤ ss.toInt ∧ 0 ≤ cc.toInt) → (0 ≤ hh.toInt ∧ hh.toInt ≤ 1) → (0 ≤ w7_1.toInt ∧ w7_1.toInt ≤ 1) → (bb.toInt = 0 → VS (arI g9 155) (arI g0 155) sk.toInt ss.toInt) → (w7_1.toInt ≠ 0 → bb.toInt = 0 → JJ (arI g9 153) (arI g9 155) sa cc.toInt ss.toInt hh.toInt) → (w7_1.toInt = 0 → bb.toInt = 0 → JJ (arI g9 153) (arI g9 155) sa cc.toInt ss.toInt 1 ∧ (1 ≤ ss.toInt → (arI g9 155 (ss.toInt - 1).toNat).toInt ≠ 42 ∧ (arI g9 155 (ss.toInt - 1).toNat).toInt ≠ 47 ∧ (arI g9 155 (ss.toInt - 1).toNat).toInt ≠ 37 ∧ (arI g9 155 (ss.toInt - 1).toNat).toInt ≠ 43 ∧ (arI g9 155 (ss.toInt - 1).toNat).toInt ≠ 45)) → (bb.toInt = 0 → pl.toInt < pp.toInt ∨ (hh.toInt = 0 ∧ w7_1.toInt = 1)) → (fld g9 129 3 = .int pp) → (fld g9 129 5 = .int bb) → (fld g9 129 7 = .int cc) → (fld g9 129 9 = .int ss) → (fld g9 129 8 = .int oo) → (fld g9 129 40 = .int hh) → lv_has ls 2 [(0, .ref (ad 129)), (1, .int w7_1)] → WS ad cA (fun i k => (i = 129 ∧ (k = 3 ∨ k = 5 ∨ k = 7 ∨ k = 8 ∨ k = 9 ∨ k = 40)) ∨ i = 153 ∨ i = 154 ∨ i = 155) g0 K g9 H locs → XX K 0 0 H locs 7 ls [] := by
    intro fu7
    induction fu7 with
    | zero => intro w7_1 pp bb cc ss oo hh g9 H locs ls h0; omega
    | succ fu7 ih7 =>
      intro w7_1 pp bb cc ss oo hh g9 H locs ls hm7 i7_0 i7_1 i7_2 i7_3 i7_4 i7_5 i7_6 i7_7 i7_8 i7_9 i7_10 i7_11 i7_12 i7_13 c7_129_3 c7_129_5 c7_129_7 c7_129_9 c7_129_8 c7_129_40 hl hW
      have hG := i7_0
      refine q_iload_n hM dX12_value_7 (lv_at hl 1 rfl) ?_
      refine q_if_eq (tgt := 57) hM dX12_value_8 (by decide) (rfl : w7_1.toInt = w7_1.toInt) (fun h8 => ?_) (fun h8 => ?_)
      · refine q_aload_n hM dX12_value_57 (lv_at hl 0 rfl) ?_
        refine q_callV (As := []) (rest := []) hM hW.1 hR hC myX12_isGood (kAW (v_5_8 (List.mem_of_getElem? (i := 11) rfl)) rfl) (rfl : vwCl[12]? = some (RX12, TX12, 86)) rfl lb_129.1 (shO hW.2.1 lb_129) (a_X12_isGood _ _ cA ad g9 bb hW.2.1 hG c7_129_5) ⟨by decide, by decide⟩ rfl rfl hl.1 (Nat.le_of_ble_eq_true rfl) dX12_value_58 (fun v g9977 H locs hp hW1 => ?_)
        obtain ⟨r9976, rfl, hr9976, rfl⟩ := hp
        have hW : WS ad cA (fun i k => (i = 129 ∧ (k = 3 ∨ k = 5 ∨ k = 7 ∨ k = 8 ∨ k = 9 ∨ k = 40)) ∨ i = 153 ∨ i = 154 ∨ i = 155) g0 K g9 H locs := ⟨hW1, hW.2.1, hW.2.2⟩
        refine q_if_eq (tgt := 82) hM dX12_value_61 (by decide) (rfl : r9976.toInt = r9976.toInt) (fun h61 => ?_) (fun h61 => ?_)
        · exact hE _ _ _ _ _ hW.1 ⟨pp, bb, cc, ss, oo, rfl, hW.2.1, hG, hW.2.2, c7_129_3, c7_129_5, c7_129_7, c7_129_9, c7_129_8, (by omega), (by omega), (by omega), (by omega), (by omega), (by omega), (by omega), (by omega), (fun q => absurd q (by omega)), (fun q => absurd q (by omega)), (fun q => absurd q (by omega))⟩ dX12_value_82
        · refine q_aload_n hM dX12_value_64 (lv_at hl 0 rfl) ?_
          refine q_callV (As := []) (rest := []) hM hW.1 hR hC myX12_top (kAW (v_6_0 (List.mem_of_getElem? (i := 0) rfl)) rfl) (rfl : vwCl[12]? = some (RX12, TX12, 86)) rfl lb_129.1 (shO hW.2.1 lb_129) (a_X12_top _ _ cA ad g9 ss hW.2.1 hG c7_129_9 (by  omega)) ⟨by decide, by decide⟩ rfl rfl hl.1 (Nat.le_of_ble_eq_true rfl) dX12_value_65 (fun v g9981 H locs hp hW1 => ?_)
          obtain ⟨r9980, rfl, hr9980, rfl⟩ := hp
          have hW : WS ad cA (fun i k => (i = 129 ∧ (k = 3 ∨ k = 5 ∨ k = 7 ∨ k = 8 ∨ k = 9 ∨ k = 40)) ∨ i = 153 ∨ i = 154 ∨ i = 155) g0 K g9 H locs := ⟨hW1, hW.2.1, hW.2.2⟩
          refine q_bipush (v := (91 : Int32)) hM dX12_value_68 (by decide) ?_
          refine q_icmp_ne (tgt := 82) hM dX12_value_70 (by decide) (rfl : r9980.toInt = r9980.toInt) (kc_91 : (91 : Int32).toInt = 91) (fun h70 => ?_) (fun h70 => ?_)
          · have e9 : 1 ≤ ss.toInt → ¬ isV (arI g9 155 (ss.toInt - 1).toNat) := fun h1 hv => by unfold isV at hv; have t := (i7_12 (by omega) (by omega)).2 h1; omega
            have e8 := VS_end (i7_10 (by omega)) (by omega) e9
            exact hE _ _ _ _ _ hW.1 ⟨pp, bb, cc, ss, oo, rfl, hW.2.1, hG, hW.2.2, c7_129_3, c7_129_5, c7_129_7, c7_129_9, c7_129_8, (by omega), (by omega), (by omega), (by omega), (by omega), (by omega), (by omega), (by omega), (fun q => by omega), (fun q => (i7_12 (by omega) (by omega)).1), (fun q => (i7_10 (by omega)).2.1)⟩ dX12_value_82
          · refine q_aload_n hM dX12_value_73 (lv_at hl 0 rfl) ?_
            refine q_iconst (v := (1 : Int32)) hM dX12_value_74 (by decide) ?_
            refine q_aload_n hM dX12_value_75 (lv_at hl 0 rfl) ?_
            refine w_get (v := .int pp) hM hW FG_X12_173 lb_129 c7_129_3 dX12_value_76 ?_
            have bpp := hG.f c7_129_3 rF_129_3 (by decide)
            refine q_callV (As := [.int (1 : Int32), .int pp]) (rest := []) hM hW.1 hR hC myX12_wrongs (kAW (v_5_9 (List.mem_of_getElem? (i := 11) rfl)) rfl) (rfl : vwCl[12]? = some (RX12, TX12, 86)) rfl lb_129.1 (shO hW.2.1 lb_129) (a_X12_wrongs _ _ cA ad g9 (1 : Int32) pp bb hW.2.1 hG c7_129_5 (by have := kc_1; omega) (by have := kc_1; omega) (by have := kc_1; omega) (by have := kc_1; omega)) ⟨by decide, by decide⟩ rfl rfl hl.1 (Nat.le_of_ble_eq_true rfl) dX12_value_79 (fun v g9987 H locs hp hW1 => ?_)
            obtain ⟨v9984, rfl, hs1, hG, hf1, q9985, e9986⟩ := hp
            have f9988 : fld g9987 129 3 = .int pp := (hf1.1 129 3 (by omega)).trans c7_129_3
            have f9989 : fld g9987 129 7 = .int cc := (hf1.1 129 7 (by omega)).trans c7_129_7
            have f9990 : fld g9987 129 9 = .int ss := (hf1.1 129 9 (by omega)).trans c7_129_9
            have f9991 : fld g9987 129 8 = .int oo := (hf1.1 129 8 (by omega)).trans c7_129_8
            have f9992 : fld g9987 129 40 = .int hh := (hf1.1 129 40 (by omega)).trans c7_129_40
            have hW : WS ad cA (fun i k => (i = 129 ∧ (k = 3 ∨ k = 5 ∨ k = 7 ∨ k = 8 ∨ k = 9 ∨ k = 40)) ∨ i = 153 ∨ i = 154 ∨ i = 155) g0 K g9987 H locs := ⟨hW1, hs1, hW.2.2.tr hf1 (fun i k h => (Or.inl (by omega)))⟩
            exact hE _ _ _ _ _ hW.1 ⟨pp, v9984, cc, ss, oo, rfl, hW.2.1, hG, hW.2.2, f9988, q9985, f9989, f9990, f9991, (by omega), (by omega), (by omega), (by omega), (by omega), (by omega), (by omega), (by omega), (fun q => absurd q (by omega)), (fun q => absurd q (by omega)), (fun q => absurd q (by omega))⟩ dX12_value_82
      · refine q_aload_n hM dX12_value_11 (lv_at hl 0 rfl) ?_
        refine q_callV (As := []) (rest := []) hM hW.1 hR hC myX12_isGood (kAW (v_5_8 (List.mem_of_getElem? (i := 11) rfl)) rfl) (rfl : vwCl[12]? = some (RX12, TX12, 86)) rfl lb_129.1 (shO hW.2.1 lb_129) (a_X12_isGood _ _ cA ad g9 bb hW.2.1 hG c7_129_5) ⟨by decide, by decide⟩ rfl rfl hl.1 (Nat.le_of_ble_eq_true rfl) dX12_value_12 (fun v g9995 H locs hp hW1 => ?_)
        obtain ⟨r9994, rfl, hr9994, rfl⟩ := hp
        have hW : WS ad cA (fun i k => (i = 129 ∧ (k = 3 ∨ k = 5 ∨ k = 7 ∨ k = 8 ∨ k = 9 ∨ k = 40)) ∨ i = 153 ∨ i = 154 ∨ i = 155) g0 K g9 H locs := ⟨hW1, hW.2.1, hW.2.2⟩
        refine q_if_eq (tgt := 57) hM dX12_value_15 (by decide) (rfl : r9994.toInt = r9994.toInt) (fun h15 => ?_) (fun h15 => ?_)
        · refine q_aload_n hM dX12_value_57 (lv_at hl 0 rfl) ?_
          refine q_callV (As := []) (rest := []) hM hW.1 hR hC myX12_isGood (kAW (v_5_8 (List.mem_of_getElem? (i := 11) rfl)) rfl) (rfl : vwCl[12]? = some (RX12, TX12, 86)) rfl lb_129.1 (shO hW.2.1 lb_129) (a_X12_isGood _ _ cA ad g9 bb hW.2.1 hG c7_129_5) ⟨by decide, by decide⟩ rfl rfl hl.1 (Nat.le_of_ble_eq_true rfl) dX12_value_58 (fun v g9998 H locs hp hW1 => ?_)
          obtain ⟨r9997, rfl, hr9997, rfl⟩ := hp
          have hW : WS ad cA (fun i k => (i = 129 ∧ (k = 3 ∨ k = 5 ∨ k = 7 ∨ k = 8 ∨ k = 9 ∨ k = 40)) ∨ i = 153 ∨ i = 154 ∨ i = 155) g0 K g9 H locs := ⟨hW1, hW.2.1, hW.2.2⟩
          refine q_if_eq (tgt := 82) hM dX12_value_61 (by decide) (rfl : r9997.toInt = r9997.toInt) (fun h61 => ?_) (fun h61 => ?_)
          · exact hE _ _ _ _ _ hW.1 ⟨pp, bb, cc, ss, oo, rfl, hW.2.1, hG, hW.2.2, c7_129_3, c7_129_5, c7_129_7, c7_129_9, c7_129_8, (by omega), (by omega), (by omega), (by omega), (by omega), (by omega), (by omega), (by omega), (fun q => absurd q (by omega)), (fun q => absurd q (by omega)), (fun q => absurd q (by omega))⟩ dX12_value_82
          · refine q_aload_n hM dX12_value_64 (lv_at hl 0 rfl) ?_
            refine q_callV (As := []) (rest := []) hM hW.1 hR hC myX12_top (kAW (v_6_0 (List.mem_of_getElem? (i := 0) rfl)) rfl) (rfl : vwCl[12]? = some (RX12, TX12, 86)) rfl lb_129.1 (shO hW.2.1 lb_129) (a_X12_top _ _ cA ad g9 ss hW.2.1 hG c7_129_9 (by  omega)) ⟨by decide, by decide⟩ rfl rfl hl.1 (Nat.le_of_ble_eq_true rfl) dX12_value_65 (fun v g10002 H locs hp hW1 => ?_)
            obtain ⟨r10001, rfl, hr10001, rfl⟩ := hp
            have hW : WS ad cA (fun i k => (i = 129 ∧ (k = 3 ∨ k = 5 ∨ k = 7 ∨ k = 8 ∨ k = 9 ∨ k = 40)) ∨ i = 153 ∨ i = 154 ∨ i = 155) g0 K g9 H locs := ⟨hW1, hW.2.1, hW.2.2⟩
            refine q_bipush (v := (91 : Int32)) hM dX12_value_68 (by decide) ?_
            refine q_icmp_ne (tgt := 82) hM dX12_value_70 (by decide) (rfl : r10001.toInt = r10001.toInt) (kc_91 : (91 : Int32).toInt = 91) (fun h70 => ?_) (fun h70 => ?_)
            · have e9 : 1 ≤ ss.toInt → ¬ isV (arI g9 155 (ss.toInt - 1).toNat) := fun h1 hv => by unfold isV at hv; have t := (i7_12 (by omega) (by omega)).2 h1; omega
              have e8 := VS_end (i7_10 (by omega)) (by omega) e9
              exact hE _ _ _ _ _ hW.1 ⟨pp, bb, cc, ss, oo, rfl, hW.2.1, hG, hW.2.2, c7_129_3, c7_129_5, c7_129_7, c7_129_9, c7_129_8, (by omega), (by omega), (by omega), (by omega), (by omega), (by omega), (by omega), (by omega), (fun q => by omega), (fun q => (i7_12 (by omega) (by omega)).1), (fun q => (i7_10 (by omega)).2.1)⟩ dX12_value_82
            · refine q_aload_n hM dX12_value_73 (lv_at hl 0 rfl) ?_
              refine q_iconst (v := (1 : Int32)) hM dX12_value_74 (by decide) ?_
              refine q_aload_n hM dX12_value_75 (lv_at hl 0 rfl) ?_
              refine w_get (v := .int pp) hM hW FG_X12_173 lb_129 c7_129_3 dX12_value_76 ?_
              have bpp := hG.f c7_129_3 rF_129_3 (by decide)
              refine q_callV (As := [.int (1 : Int32), .int pp]) (rest := []) hM hW.1 hR hC myX12_wrongs (kAW (v_5_9 (List.mem_of_getElem? (i := 11) rfl)) rfl) (rfl : vwCl[12]? = some (RX12, TX12, 86)) rfl lb_129.1 (shO hW.2.1 lb_129) (a_X12_wrongs _ _ cA ad g9 (1 : Int32) pp bb hW.2.1 hG c7_129_5 (by have := kc_1; omega) (by have := kc_1; omega) (by have := kc_1; omega) (by have := kc_1; omega)) ⟨by decide, by decide⟩ rfl rfl hl.1 (Nat.le_of_ble_eq_true rfl) dX12_value_79 (fun v g10008 H locs hp hW1 => ?_)
              obtain ⟨v10005, rfl, hs1, hG, hf1, q10006, e10007⟩ := hp
              have f10009 : fld g10008 129 3 = .int pp := (hf1.1 129 3 (by omega)).trans c7_129_3
              have f10010 : fld g10008 129 7 = .int cc := (hf1.1 129 7 (by omega)).trans c7_129_7
              have f10011 : fld g10008 129 9 = .int ss := (hf1.1 129 9 (by omega)).trans c7_129_9
              have f10012 : fld g10008 129 8 = .int oo := (hf1.1 129 8 (by omega)).trans c7_129_8
              have f10013 : fld g10008 129 40 = .int hh := (hf1.1 129 40 (by omega)).trans c7_129_40
              have hW : WS ad cA (fun i k => (i = 129 ∧ (k = 3 ∨ k = 5 ∨ k = 7 ∨ k = 8 ∨ k = 9 ∨ k = 40)) ∨ i = 153 ∨ i = 154 ∨ i = 155) g0 K g10008 H locs := ⟨hW1, hs1, hW.2.2.tr hf1 (fun i k h => (Or.inl (by omega)))⟩
              exact hE _ _ _ _ _ hW.1 ⟨pp, v10005, cc, ss, oo, rfl, hW.2.1, hG, hW.2.2, f10009, q10006, f10010, f10011, f10012, (by omega), (by omega), (by omega), (by omega), (by omega), (by omega), (by omega), (by omega), (fun q => absurd q (by omega)), (fun q => absurd q (by omega)), (fun q => absurd q (by omega))⟩ dX12_value_82
        · refine q_aload_n hM dX12_value_18 (lv_at hl 0 rfl) ?_
          refine w_get (v := .int hh) hM hW FG_X12_318 lb_129 c7_129_40 dX12_value_19 ?_
          refine q_if_ne (tgt := 29) hM dX12_value_22 (by decide) (rfl : hh.toInt = hh.toInt) (fun h22 => ?_) (fun h22 => ?_)
          · refine q_aload_n hM dX12_value_29 (lv_at hl 0 rfl) ?_
            refine q_iconst (v := (0 : Int32)) hM dX12_value_30 (by decide) ?_
            refine w_put hM hW FP_X12_318 lb_129 (by omega) (Or.inl ⟨_, rfl⟩) rfl rfl dX12_value_31 (fun g10016 H locs hW e1 e2 => ?_)
            have f10017 : fld g10016 129 3 = .int pp := (e2.1 129 3 (by unfold Only; omega)).trans c7_129_3
            have f10018 : fld g10016 129 5 = .int bb := (e2.1 129 5 (by unfold Only; omega)).trans c7_129_5
            have f10019 : fld g10016 129 7 = .int cc := (e2.1 129 7 (by unfold Only; omega)).trans c7_129_7
            have f10020 : fld g10016 129 9 = .int ss := (e2.1 129 9 (by unfold Only; omega)).trans c7_129_9
            have f10021 : fld g10016 129 8 = .int oo := (e2.1 129 8 (by unfold Only; omega)).trans c7_129_8
            have f10022 : arI g10016 153 = arI g9 153 := (e2.2.1 153 (by unfold Only; omega)).trans (rfl : arI g9 153 = arI g9 153)
            have f10023 : arI g10016 155 = arI g9 155 := (e2.2.1 155 (by unfold Only; omega)).trans (rfl : arI g9 155 = arI g9 155)
            have f10024 : fld g10016 129 40 = .int (0 : Int32) := e1
            have hG := hG.put e1 e2 (rfl : rF 129 40 = (-2147483648, 2147483647)) (by decide) (by have := kc_0; have := i_rng (0 : Int32); omega) (by have := kc_0; have := i_rng (0 : Int32); omega)
            refine q_aload_n hM dX12_value_34 (lv_at hl 0 rfl) ?_
            refine q_callV (As := []) (rest := []) hM hW.1 hR hC myX12_isGood (kAW (v_5_8 (List.mem_of_getElem? (i := 11) rfl)) rfl) (rfl : vwCl[12]? = some (RX12, TX12, 86)) rfl lb_129.1 (shO hW.2.1 lb_129) (a_X12_isGood _ _ cA ad g10016 bb hW.2.1 hG f10018) ⟨by decide, by decide⟩ rfl rfl hl.1 (Nat.le_of_ble_eq_true rfl) dX12_value_35 (fun v g10026 H locs hp hW1 => ?_)
            obtain ⟨r10025, rfl, hr10025, rfl⟩ := hp
            have hW : WS ad cA (fun i k => (i = 129 ∧ (k = 3 ∨ k = 5 ∨ k = 7 ∨ k = 8 ∨ k = 9 ∨ k = 40)) ∨ i = 153 ∨ i = 154 ∨ i = 155) g0 K g10016 H locs := ⟨hW1, hW.2.1, hW.2.2⟩
            refine q_if_eq (tgt := 52) hM dX12_value_38 (by decide) (rfl : r10025.toInt = r10025.toInt) (fun h38 => ?_) (fun h38 => ?_)
            · refine q_iconst (v := (0 : Int32)) hM dX12_value_52 (by decide) ?_
              refine q_istore_n (lv9 := [(1, .int (0 : Int32)), (0, .ref (ad 129))]) hM dX12_value_53 hl (by decide) rfl (fun ls hl => ?_)
              refine q_goto (tgt := 7) hM dX12_value_54 (by decide) ?_
              have := kc_0
              have := kc_0
              exact ih7 (0 : Int32) pp bb cc ss oo (0 : Int32) _ _ _ _ (by omega) hG (by omega) (by omega) (by omega) (by omega) (by omega) (by omega) (by omega) (by omega) (by omega) (fun q => absurd q (by omega)) (fun _ q => absurd q (by omega)) (fun _ q => absurd q (by omega)) (by omega) f10017 f10018 f10019 f10020 f10021 f10024 (lv_sub hl [1, 0] rfl) hW
            · refine q_aload_n hM dX12_value_41 (lv_at hl 0 rfl) ?_
              refine q_callV (As := []) (rest := []) hM hW.1 hR hC myX12_stays (kAW (v_5_14 (List.mem_of_getElem? (i := 2) rfl)) rfl) (rfl : vwCl[12]? = some (RX12, TX12, 86)) rfl lb_129.1 (shO hW.2.1 lb_129) (a_X12_stays _ _ cA ad g10016 pp en bb cc ss oo (0 : Int32) sa sk.toInt (arI g0 155) hW.2.1 hG f10017 ((hW.2.2.1 129 4 (by omega)).trans h_en) f10018 f10019 f10020 f10021 f10024 (by have := kc_0; omega) (by have := kc_0; omega) (by have := kc_0; omega) (by have := kc_0; omega) (by have := kc_0; omega) (by have := kc_0; omega) (by have := kc_0; omega) (by have := kc_0; omega) (by rw [f10022, f10023]; have q := i7_11 (by omega) (by omega); rw [show hh.toInt = 1 by omega] at q; exact q) (by rw [f10023]; exact i7_10 (by omega)) hN2) ⟨by decide, by decide⟩ rfl rfl hl.1 (Nat.le_of_ble_eq_true rfl) dX12_value_42 (fun v g10052 H locs hp hW1 => ?_)
              obtain ⟨v10029, v10030, v10031, v10032, v10033, v10034, r10035, rfl, hs1, hG, hf1, q10036, q10037, q10038, q10039, q10040, q10041, e10042, e10043, e10044, e10045, e10046, e10047, e10048, e10049, e10050, e10051, hr10035⟩ := hp
              have hW : WS ad cA (fun i k => (i = 129 ∧ (k = 3 ∨ k = 5 ∨ k = 7 ∨ k = 8 ∨ k = 9 ∨ k = 40)) ∨ i = 153 ∨ i = 154 ∨ i = 155) g0 K g10052 H locs := ⟨hW1, hs1, hW.2.2.tr hf1 (fun i k h => h.elim (fun h => (Or.inl h)) (fun h => h.elim (fun h => (Or.inr (Or.inl h))) (fun h => h.elim (fun h => (Or.inr (Or.inr (Or.inl h)))) (fun h => (Or.inr (Or.inr (Or.inr h)))))))⟩
              refine q_if_eq (tgt := 52) hM dX12_value_45 (by decide) (rfl : r10035.toInt = r10035.toInt) (fun h45 => ?_) (fun h45 => ?_)
              · refine q_iconst (v := (0 : Int32)) hM dX12_value_52 (by decide) ?_
                refine q_istore_n (lv9 := [(1, .int (0 : Int32)), (0, .ref (ad 129))]) hM dX12_value_53 hl (by decide) rfl (fun ls hl => ?_)
                refine q_goto (tgt := 7) hM dX12_value_54 (by decide) ?_
                have := kc_0
                exact ih7 (0 : Int32) v10029 v10030 v10031 v10032 v10033 v10034 _ _ _ _ (by omega) hG (by omega) (by omega) (by omega) (by omega) (by omega) (by omega) (by omega) (by omega) (by omega) e10051 (fun h9 _ => absurd kc_0 h9) (fun _ q => (hr10035.resolve_left (fun h9 => absurd h9.1 (by omega))).2 q) (by omega) q10036 q10037 q10038 q10039 q10040 q10041 (lv_sub hl [1, 0] rfl) hW
              · refine q_iconst (v := (1 : Int32)) hM dX12_value_48 (by decide) ?_
                refine q_goto (tgt := 53) hM dX12_value_49 (by decide) ?_
                refine q_istore_n (lv9 := [(1, .int (1 : Int32)), (0, .ref (ad 129))]) hM dX12_value_53 hl (by decide) rfl (fun ls hl => ?_)
                refine q_goto (tgt := 7) hM dX12_value_54 (by decide) ?_
                have := kc_1
                exact ih7 (1 : Int32) v10029 v10030 v10031 v10032 v10033 v10034 _ _ _ _ (by omega) hG (by omega) (by omega) (by omega) (by omega) (by omega) (by omega) (by omega) (by omega) (by omega) e10051 (fun _ _ => (hr10035.resolve_right (fun h9 => absurd h9.1 (by omega))).2.2.2) (fun h9 _ => absurd h9 (by have := kc_1; omega)) (by omega) q10036 q10037 q10038 q10039 q10040 q10041 (lv_sub hl [1, 0] rfl) hW
          · refine q_aload_n hM dX12_value_25 (lv_at hl 0 rfl) ?_
            refine q_callV (As := []) (rest := []) hM hW.1 hR hC myX12_factor (kAW (v_5_12 (List.mem_of_getElem? (i := 6) rfl)) rfl) (rfl : vwCl[12]? = some (RX12, TX12, 86)) rfl lb_129.1 (shO hW.2.1 lb_129) (a_X12_factor _ _ cA ad g9 pp en bb cc ss oo sa sk.toInt (arI g0 155) hW.2.1 hG c7_129_3 ((hW.2.2.1 129 4 (by omega)).trans h_en) c7_129_5 c7_129_7 c7_129_9 c7_129_8 (by  omega) (by  omega) (by  omega) (by  omega) (by  omega) (by  omega) (by  omega) (by have q := i7_11 (by omega) (by omega); rw [show hh.toInt = 0 by omega] at q; exact q) (i7_10 (by omega))) ⟨by decide, by decide⟩ rfl rfl hl.1 (Nat.le_of_ble_eq_true rfl) dX12_value_26 (fun v g10076 H locs hp hW1 => ?_)
            obtain ⟨v10056, v10057, v10058, v10059, v10060, rfl, hs1, hG, hf1, q10061, q10062, q10063, q10064, q10065, e10066, e10067, e10068, e10069, e10070, e10071, e10072, e10073, e10074, e10075⟩ := hp
            have f10077 : fld g10076 129 40 = .int hh := (hf1.1 129 40 (by omega)).trans c7_129_40
            have hW : WS ad cA (fun i k => (i = 129 ∧ (k = 3 ∨ k = 5 ∨ k = 7 ∨ k = 8 ∨ k = 9 ∨ k = 40)) ∨ i = 153 ∨ i = 154 ∨ i = 155) g0 K g10076 H locs := ⟨hW1, hs1, hW.2.2.tr hf1 (fun i k h => h.elim (fun h => (Or.inl (by omega))) (fun h => h.elim (fun h => (Or.inr (Or.inl h))) (fun h => h.elim (fun h => (Or.inr (Or.inr (Or.inl h)))) (fun h => (Or.inr (Or.inr (Or.inr h)))))))⟩
            refine q_aload_n hM dX12_value_29 (lv_at hl 0 rfl) ?_
            refine q_iconst (v := (0 : Int32)) hM dX12_value_30 (by decide) ?_
            refine w_put hM hW FP_X12_318 lb_129 (by omega) (Or.inl ⟨_, rfl⟩) rfl rfl dX12_value_31 (fun g10078 H locs hW e1 e2 => ?_)
            have f10079 : fld g10078 129 3 = .int v10056 := (e2.1 129 3 (by unfold Only; omega)).trans q10061
            have f10080 : fld g10078 129 5 = .int v10057 := (e2.1 129 5 (by unfold Only; omega)).trans q10062
            have f10081 : fld g10078 129 7 = .int v10058 := (e2.1 129 7 (by unfold Only; omega)).trans q10063
            have f10082 : fld g10078 129 9 = .int v10059 := (e2.1 129 9 (by unfold Only; omega)).trans q10064
            have f10083 : fld g10078 129 8 = .int v10060 := (e2.1 129 8 (by unfold Only; omega)).trans q10065
            have f10084 : arI g10078 153 = arI g10076 153 := (e2.2.1 153 (by unfold Only; omega)).trans (rfl : arI g10076 153 = arI g10076 153)
            have f10085 : arI g10078 155 = arI g10076 155 := (e2.2.1 155 (by unfold Only; omega)).trans (rfl : arI g10076 155 = arI g10076 155)
            have f10086 : fld g10078 129 40 = .int (0 : Int32) := e1
            have hG := hG.put e1 e2 (rfl : rF 129 40 = (-2147483648, 2147483647)) (by decide) (by have := kc_0; have := i_rng (0 : Int32); omega) (by have := kc_0; have := i_rng (0 : Int32); omega)
            refine q_aload_n hM dX12_value_34 (lv_at hl 0 rfl) ?_
            refine q_callV (As := []) (rest := []) hM hW.1 hR hC myX12_isGood (kAW (v_5_8 (List.mem_of_getElem? (i := 11) rfl)) rfl) (rfl : vwCl[12]? = some (RX12, TX12, 86)) rfl lb_129.1 (shO hW.2.1 lb_129) (a_X12_isGood _ _ cA ad g10078 v10057 hW.2.1 hG f10080) ⟨by decide, by decide⟩ rfl rfl hl.1 (Nat.le_of_ble_eq_true rfl) dX12_value_35 (fun v g10088 H locs hp hW1 => ?_)
            obtain ⟨r10087, rfl, hr10087, rfl⟩ := hp
            have hW : WS ad cA (fun i k => (i = 129 ∧ (k = 3 ∨ k = 5 ∨ k = 7 ∨ k = 8 ∨ k = 9 ∨ k = 40)) ∨ i = 153 ∨ i = 154 ∨ i = 155) g0 K g10078 H locs := ⟨hW1, hW.2.1, hW.2.2⟩
            refine q_if_eq (tgt := 52) hM dX12_value_38 (by decide) (rfl : r10087.toInt = r10087.toInt) (fun h38 => ?_) (fun h38 => ?_)
            · refine q_iconst (v := (0 : Int32)) hM dX12_value_52 (by decide) ?_
              refine q_istore_n (lv9 := [(1, .int (0 : Int32)), (0, .ref (ad 129))]) hM dX12_value_53 hl (by decide) rfl (fun ls hl => ?_)
              refine q_goto (tgt := 7) hM dX12_value_54 (by decide) ?_
              have := kc_0
              have := kc_0
              exact ih7 (0 : Int32) v10056 v10057 v10058 v10059 v10060 (0 : Int32) _ _ _ _ (by omega) hG (by omega) (by omega) (by omega) (by omega) (by omega) (by omega) (by omega) (by omega) (by omega) (fun q => absurd q (by omega)) (fun _ q => absurd q (by omega)) (fun _ q => absurd q (by omega)) (by omega) f10079 f10080 f10081 f10082 f10083 f10086 (lv_sub hl [1, 0] rfl) hW
            · refine q_aload_n hM dX12_value_41 (lv_at hl 0 rfl) ?_
              refine q_callV (As := []) (rest := []) hM hW.1 hR hC myX12_stays (kAW (v_5_14 (List.mem_of_getElem? (i := 2) rfl)) rfl) (rfl : vwCl[12]? = some (RX12, TX12, 86)) rfl lb_129.1 (shO hW.2.1 lb_129) (a_X12_stays _ _ cA ad g10078 v10056 en v10057 v10058 v10059 v10060 (0 : Int32) sa sk.toInt (arI g0 155) hW.2.1 hG f10079 ((hW.2.2.1 129 4 (by omega)).trans h_en) f10080 f10081 f10082 f10083 f10086 (by have := kc_0; omega) (by have := kc_0; omega) (by have := kc_0; omega) (by have := kc_0; omega) (by have := kc_0; omega) (by have := kc_0; omega) (by have := kc_0; omega) (by have := kc_0; omega) (by rw [f10084, f10085]; exact e10074 (by omega)) (by rw [f10085]; exact e10075 (by omega)) hN2) ⟨by decide, by decide⟩ rfl rfl hl.1 (Nat.le_of_ble_eq_true rfl) dX12_value_42 (fun v g10114 H locs hp hW1 => ?_)
              obtain ⟨v10091, v10092, v10093, v10094, v10095, v10096, r10097, rfl, hs1, hG, hf1, q10098, q10099, q10100, q10101, q10102, q10103, e10104, e10105, e10106, e10107, e10108, e10109, e10110, e10111, e10112, e10113, hr10097⟩ := hp
              have hW : WS ad cA (fun i k => (i = 129 ∧ (k = 3 ∨ k = 5 ∨ k = 7 ∨ k = 8 ∨ k = 9 ∨ k = 40)) ∨ i = 153 ∨ i = 154 ∨ i = 155) g0 K g10114 H locs := ⟨hW1, hs1, hW.2.2.tr hf1 (fun i k h => h.elim (fun h => (Or.inl h)) (fun h => h.elim (fun h => (Or.inr (Or.inl h))) (fun h => h.elim (fun h => (Or.inr (Or.inr (Or.inl h)))) (fun h => (Or.inr (Or.inr (Or.inr h)))))))⟩
              refine q_if_eq (tgt := 52) hM dX12_value_45 (by decide) (rfl : r10097.toInt = r10097.toInt) (fun h45 => ?_) (fun h45 => ?_)
              · refine q_iconst (v := (0 : Int32)) hM dX12_value_52 (by decide) ?_
                refine q_istore_n (lv9 := [(1, .int (0 : Int32)), (0, .ref (ad 129))]) hM dX12_value_53 hl (by decide) rfl (fun ls hl => ?_)
                refine q_goto (tgt := 7) hM dX12_value_54 (by decide) ?_
                have := kc_0
                exact ih7 (0 : Int32) v10091 v10092 v10093 v10094 v10095 v10096 _ _ _ _ (by omega) hG (by omega) (by omega) (by omega) (by omega) (by omega) (by omega) (by omega) (by omega) (by omega) e10113 (fun h9 _ => absurd kc_0 h9) (fun _ q => (hr10097.resolve_left (fun h9 => absurd h9.1 (by omega))).2 q) (by omega) q10098 q10099 q10100 q10101 q10102 q10103 (lv_sub hl [1, 0] rfl) hW
              · refine q_iconst (v := (1 : Int32)) hM dX12_value_48 (by decide) ?_
                refine q_goto (tgt := 53) hM dX12_value_49 (by decide) ?_
                refine q_istore_n (lv9 := [(1, .int (1 : Int32)), (0, .ref (ad 129))]) hM dX12_value_53 hl (by decide) rfl (fun ls hl => ?_)
                refine q_goto (tgt := 7) hM dX12_value_54 (by decide) ?_
                have := kc_1
                exact ih7 (1 : Int32) v10091 v10092 v10093 v10094 v10095 v10096 _ _ _ _ (by omega) hG (by omega) (by omega) (by omega) (by omega) (by omega) (by omega) (by omega) (by omega) (by omega) e10113 (fun _ _ => (hr10097.resolve_right (fun h9 => absurd h9.1 (by omega))).2.2.2) (fun h9 _ => absurd h9 (by have := kc_1; omega)) (by omega) q10098 q10099 q10100 q10101 q10102 q10103 (lv_sub hl [1, 0] rfl) hW
  have := kc_1
  have := kc_0
  exact L7 _ (1 : Int32) pl bd co sk op (0 : Int32) _ _ _ _ (Nat.lt_succ_self _) hG (by omega) (by omega) (by omega) (by omega) (by omega) (by omega) (by omega) (by omega) (by omega) (fun _ => by rw [f9967]; exact VS_0) (fun _ _ => by rw [kc_0, f9966, f9967]; exact hJ) (fun h9 _ => absurd h9 (by have := kc_1; omega)) (by omega) f9968 f9969 f9970 f9972 f9971 f9973 (lv_sub hl [1, 0] rfl) hW
