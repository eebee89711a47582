theorem upd_top {f : Nat → Int32} {o c : Int32} {sk1 : Int} (h0 : 0 ≤ o.toInt) (e : sk1 = o.toInt + 1) : upd f o.toNatClampNeg c (sk1 - 1).toNat = c := by
  have : (sk1 - 1).toNat = o.toNatClampNeg := by show _ = o.toInt.toNat; omega
  unfold upd
  rw [if_pos this]
theorem upd_low {f : Nat → Int32} {o c : Int32} {j : Nat} (h : (j : Int) < o.toInt) : upd f o.toNatClampNeg c j = f j := by
  have : ¬ j = o.toNatClampNeg := by show ¬ j = o.toInt.toNat; omega
  unfold upd
  rw [if_neg this]

theorem dX12_pieceOfC_0 : decode cX12_pieceOfC 0 = .ok (.aload_n 0, 1) := by decide +kernel
theorem dX12_pieceOfC_1 : decode cX12_pieceOfC 1 = .ok (.invokevirtual 234, 3) := by decide +kernel
theorem dX12_pieceOfC_4 : decode cX12_pieceOfC 4 = .ok (.ifCond .eq 28, 3) := by decide +kernel
theorem dX12_pieceOfC_7 : decode cX12_pieceOfC 7 = .ok (.aload_n 0, 1) := by decide +kernel
theorem dX12_pieceOfC_8 : decode cX12_pieceOfC 8 = .ok (.invokevirtual 182, 3) := by decide +kernel
theorem dX12_pieceOfC_11 : decode cX12_pieceOfC 11 = .ok (.bipush 33, 2) := by decide +kernel
theorem dX12_pieceOfC_13 : decode cX12_pieceOfC 13 = .ok (.if_icmp .eq 12, 3) := by decide +kernel
theorem dX12_pieceOfC_16 : decode cX12_pieceOfC 16 = .ok (.aload_n 0, 1) := by decide +kernel
theorem dX12_pieceOfC_17 : decode cX12_pieceOfC 17 = .ok (.invokevirtual 182, 3) := by decide +kernel
theorem dX12_pieceOfC_20 : decode cX12_pieceOfC 20 = .ok (.bipush 40, 2) := by decide +kernel
theorem dX12_pieceOfC_22 : decode cX12_pieceOfC 22 = .ok (.if_icmp .ne 10, 3) := by decide +kernel
theorem dX12_pieceOfC_25 : decode cX12_pieceOfC 25 = .ok (.aload_n 0, 1) := by decide +kernel
theorem dX12_pieceOfC_26 : decode cX12_pieceOfC 26 = .ok (.invokevirtual 305, 3) := by decide +kernel
theorem dX12_pieceOfC_29 : decode cX12_pieceOfC 29 = .ok (.goto (-29), 3) := by decide +kernel
theorem dX12_pieceOfC_32 : decode cX12_pieceOfC 32 = .ok (.aload_n 0, 1) := by decide +kernel
theorem dX12_pieceOfC_33 : decode cX12_pieceOfC 33 = .ok (.invokevirtual 234, 3) := by decide +kernel
theorem dX12_pieceOfC_36 : decode cX12_pieceOfC 36 = .ok (.ifCond .eq 7, 3) := by decide +kernel
theorem dX12_pieceOfC_39 : decode cX12_pieceOfC 39 = .ok (.aload_n 0, 1) := by decide +kernel
theorem dX12_pieceOfC_40 : decode cX12_pieceOfC 40 = .ok (.invokevirtual 327, 3) := by decide +kernel
theorem dX12_pieceOfC_43 : decode cX12_pieceOfC 43 = .ok (.aload_n 0, 1) := by decide +kernel
theorem dX12_pieceOfC_44 : decode cX12_pieceOfC 44 = .ok (.invokevirtual 234, 3) := by decide +kernel
theorem dX12_pieceOfC_47 : decode cX12_pieceOfC 47 = .ok (.ifCond .ne 4, 3) := by decide +kernel
theorem dX12_pieceOfC_50 : decode cX12_pieceOfC 50 = .ok (.return_, 1) := by decide +kernel
theorem dX12_pieceOfC_51 : decode cX12_pieceOfC 51 = .ok (.aload_n 0, 1) := by decide +kernel
theorem dX12_pieceOfC_52 : decode cX12_pieceOfC 52 = .ok (.invokevirtual 182, 3) := by decide +kernel
theorem dX12_pieceOfC_55 : decode cX12_pieceOfC 55 = .ok (.istore_n 1, 1) := by decide +kernel
theorem dX12_pieceOfC_56 : decode cX12_pieceOfC 56 = .ok (.iload_n 1, 1) := by decide +kernel
theorem dX12_pieceOfC_57 : decode cX12_pieceOfC 57 = .ok (.invokestatic 330, 3) := by decide +kernel
theorem dX12_pieceOfC_60 : decode cX12_pieceOfC 60 = .ok (.ifCond .ne 13, 3) := by decide +kernel
theorem dX12_pieceOfC_63 : decode cX12_pieceOfC 63 = .ok (.aload_n 0, 1) := by decide +kernel
theorem dX12_pieceOfC_64 : decode cX12_pieceOfC 64 = .ok (.iconst 1, 1) := by decide +kernel
theorem dX12_pieceOfC_65 : decode cX12_pieceOfC 65 = .ok (.aload_n 0, 1) := by decide +kernel
theorem dX12_pieceOfC_66 : decode cX12_pieceOfC 66 = .ok (.getfield 173, 3) := by decide +kernel
theorem dX12_pieceOfC_69 : decode cX12_pieceOfC 69 = .ok (.invokevirtual 230, 3) := by decide +kernel
theorem dX12_pieceOfC_72 : decode cX12_pieceOfC 72 = .ok (.return_, 1) := by decide +kernel
theorem dX12_pieceOfC_73 : decode cX12_pieceOfC 73 = .ok (.aload_n 0, 1) := by decide +kernel
theorem dX12_pieceOfC_74 : decode cX12_pieceOfC 74 = .ok (.iload_n 1, 1) := by decide +kernel
theorem dX12_pieceOfC_75 : decode cX12_pieceOfC 75 = .ok (.invokevirtual 287, 3) := by decide +kernel
theorem dX12_pieceOfC_78 : decode cX12_pieceOfC 78 = .ok (.aload_n 0, 1) := by decide +kernel
theorem dX12_pieceOfC_79 : decode cX12_pieceOfC 79 = .ok (.invokevirtual 327, 3) := by decide +kernel
theorem dX12_pieceOfC_82 : decode cX12_pieceOfC 82 = .ok (.aload_n 0, 1) := by decide +kernel
theorem dX12_pieceOfC_83 : decode cX12_pieceOfC 83 = .ok (.invokevirtual 234, 3) := by decide +kernel
theorem dX12_pieceOfC_86 : decode cX12_pieceOfC 86 = .ok (.ifCond .ne 4, 3) := by decide +kernel
theorem dX12_pieceOfC_89 : decode cX12_pieceOfC 89 = .ok (.return_, 1) := by decide +kernel
theorem dX12_pieceOfC_90 : decode cX12_pieceOfC 90 = .ok (.aload_n 0, 1) := by decide +kernel
theorem dX12_pieceOfC_91 : decode cX12_pieceOfC 91 = .ok (.aload_n 0, 1) := by decide +kernel
theorem dX12_pieceOfC_92 : decode cX12_pieceOfC 92 = .ok (.invokevirtual 293, 3) := by decide +kernel
theorem dX12_pieceOfC_95 : decode cX12_pieceOfC 95 = .ok (.iconst 0, 1) := by decide +kernel
theorem dX12_pieceOfC_96 : decode cX12_pieceOfC 96 = .ok (.invokevirtual 302, 3) := by decide +kernel
theorem dX12_pieceOfC_99 : decode cX12_pieceOfC 99 = .ok (.aload_n 0, 1) := by decide +kernel
theorem dX12_pieceOfC_100 : decode cX12_pieceOfC 100 = .ok (.dup, 1) := by decide +kernel
theorem dX12_pieceOfC_101 : decode cX12_pieceOfC 101 = .ok (.getfield 281, 3) := by decide +kernel
theorem dX12_pieceOfC_104 : decode cX12_pieceOfC 104 = .ok (.iconst 1, 1) := by decide +kernel
theorem dX12_pieceOfC_105 : decode cX12_pieceOfC 105 = .ok (.isub, 1) := by decide +kernel
theorem dX12_pieceOfC_106 : decode cX12_pieceOfC 106 = .ok (.putfield 281, 3) := by decide +kernel
theorem dX12_pieceOfC_109 : decode cX12_pieceOfC 109 = .ok (.aload_n 0, 1) := by decide +kernel
theorem dX12_pieceOfC_110 : decode cX12_pieceOfC 110 = .ok (.invokevirtual 333, 3) := by decide +kernel
theorem dX12_pieceOfC_113 : decode cX12_pieceOfC 113 = .ok (.return_, 1) := by decide +kernel
theorem myX12_value : MI yX12_value cX12_value 2 none 0 := ⟨kAW (v_5_12 (List.mem_of_getElem? (i := 5) rfl)) rfl, kAW (v_0_0 (List.mem_of_getElem? (i := 13) rfl)) rfl, kAW (v_5_12 (List.mem_of_getElem? (i := 4) rfl)) rfl, kAW (tp_t3 (List.mem_of_getElem? (i := 0) rfl)) rfl, by decide, by decide, by decide +kernel⟩
theorem myX12_isCompared : MS yX12_isCompared cX12_isCompared 1 (some FieldType.boolean) 1 := ⟨kAW (v_6_0 (List.mem_of_getElem? (i := 14) rfl)) rfl, kAW (v_0_0 (List.mem_of_getElem? (i := 13) rfl)) rfl, kAW (v_6_0 (List.mem_of_getElem? (i := 13) rfl)) rfl, by decide, by decide, by decide +kernel⟩
theorem myX12_ends : MI yX12_ends cX12_ends 1 none 0 := ⟨kAW (v_6_1 (List.mem_of_getElem? (i := 2) rfl)) rfl, kAW (v_0_0 (List.mem_of_getElem? (i := 13) rfl)) rfl, kAW (v_6_1 (List.mem_of_getElem? (i := 1) rfl)) rfl, kAW (tp_t3 (List.mem_of_getElem? (i := 12) rfl)) rfl, by decide, by decide, by decide +kernel⟩
set_option maxRecDepth 100000 in
set_option maxHeartbeats 4000000 in
theorem a_X12_pieceOfC (l : Launch) (D : va_G) (cA : Nat → ClassId) (ad : Nat → Nat) (g0 : Nat → va_E)  (pl : Int32) (en : Int32) (bd : Int32) (co : Int32) (sk : Int32) (op : Int32)  (sa : Int × (Nat → Int32)) (hSh : Shp ad cA g0) (hG : Rng g0) (h_pl : fld g0 129 3 = .int pl) (h_en : fld g0 129 4 = .int en) (h_bd : fld g0 129 5 = .int bd) (h_co : fld g0 129 7 = .int co) (h_sk : fld g0 129 9 = .int sk) (h_op : fld g0 129 8 = .int op) (pl0 : 0 ≤ pl.toInt) (pl1 : pl.toInt ≤ en.toInt) (en1 : en.toInt ≤ 240) (bd0 : bd.toInt = 0) (i1 : co.toInt + sk.toInt ≤ pl.toInt) (i2 : sk.toInt - pl.toInt ≤ op.toInt) (i3 : op.toInt ≤ pl.toInt) (hJ : JJ (arI g0 153) (arI g0 155) sa co.toInt sk.toInt 0) (hK9 : CS (arI g0 155) sk.toInt) : CT l NN ad cA D yX12_pieceOfC cX12_pieceOfC 2 none (5, 108) [.ref (ad 129)] g0 (fun v g' => ∃ (p9 : Int32) (b9 : Int32) (c9 : Int32) (s9 : Int32) (o9 : Int32), v = none ∧ Shp ad cA g' ∧ Rng g' ∧ FR (fun i k => (i = 129 ∧ (k = 3 ∨ k = 5 ∨ k = 7 ∨ k = 8 ∨ k = 9 ∨ k = 40)) ∨ i = 153 ∨ i = 154 ∨ i = 155) g0 g' ∧ fld g' 129 3 = .int p9 ∧ fld g' 129 5 = .int b9 ∧ fld g' 129 7 = .int c9 ∧ fld g' 129 9 = .int s9 ∧ fld g' 129 8 = .int o9 ∧ (pl.toInt ≤ p9.toInt) ∧ (p9.toInt ≤ en.toInt) ∧ (b9.toInt ≤ 0) ∧ (c9.toInt + s9.toInt ≤ p9.toInt) ∧ (s9.toInt - p9.toInt ≤ o9.toInt) ∧ (o9.toInt ≤ p9.toInt) ∧ (0 ≤ s9.toInt ∧ 0 ≤ c9.toInt) ∧ (b9.toInt = 0 → pl.toInt < p9.toInt) ∧ (b9.toInt = 0 → JJ (arI g' 153) (arI g' 155) sa c9.toInt s9.toInt 1) ∧ (b9.toInt = 0 → CS (arI g' 155) s9.toInt)) := by
  refine q_enterV (by decide) (Nat.le_of_ble_eq_true rfl) (fun K H locs ls _ _ hM hW0 hR hC hE hl => ?_)
  have hl : lv_has ls 2 [(0, .ref (ad 129))] := hl
  have hW : WS ad cA (fun i k => (i = 129 ∧ (k = 3 ∨ k = 5 ∨ k = 7 ∨ k = 8 ∨ k = 9 ∨ k = 40)) ∨ i = 153 ∨ i = 154 ∨ i = 155) g0 K g0 H locs := ⟨hW0, hSh, FR.rf⟩
  have b_pl := hG.f h_pl rF_129_3 (by decide)
  have b_en := hG.f h_en rF_129_4 (by decide)
  have b_bd := hG.f h_bd rF_129_5 (by decide)
  have b_co := hG.f h_co rF_129_7 (by decide)
  have b_sk := hG.f h_sk rF_129_9 (by decide)
  have b_op := hG.f h_op rF_129_8 (by decide)
  have f10117 : fld g0 129 3 = .int pl := h_pl
  have f10118 : fld g0 129 5 = .int bd := h_bd
  have f10119 : fld g0 129 7 = .int co := h_co
  have f10120 : fld g0 129 8 = .int op := h_op
  have f10121 : fld g0 129 9 = .int sk := h_sk
  have L0 : ∀ (fu0 : Nat) (pp : Int32) (bb : Int32) (ss : Int32) (oo : Int32) (g9 : Nat → va_E) (H : Heap) (locs : List Loc) (ls : Array Slot), (en.toInt - pp.toInt).toNat < fu0 → (Rng g9) → (pl.toInt ≤ pp.toInt) → (pp.toInt ≤ en.toInt) → (bb.toInt ≤ 0) → (co.toInt + ss.toInt ≤ pp.toInt) → (ss.toInt - pp.toInt ≤ oo.toInt) → (oo.toInt ≤ pp.toInt) → (0 ≤ ss.toInt) → (bb.toInt = 0 → JJ (arI g9 153) (arI g9 155) sa co.toInt ss.toInt 0) → (bb.toInt = 0 → CS (arI g9 155) ss.toInt) → (fld g9 129 3 = .int pp) → (fld g9 129 5 = .int bb) → (fld g9 129 9 = .int ss) → (fld g9 129 8 = .int oo) → (fld g9 129 7 = .int co) → lv_has ls 2 [(0, .ref (ad 129))] → WS ad cA (fun i k => (i = 129 ∧ (k = 3 ∨ k = 5 ∨ k = 7 ∨ k = 8 ∨ k = 9 ∨ k = 40)) ∨ i = 153 ∨ i = 154 ∨ i = 155) g0 K g9 H locs → XX K 0 0 H locs 0 ls [] := by
    intro fu0
    induction fu0 with
    | zero => intro pp bb ss oo g9 H locs ls h0; omega
    | succ fu0 ih0 =>
      intro pp bb ss oo g9 H locs ls hm0 i0_0 i0_1 i0_2 i0_3 i0_4 i0_5 i0_6 i0_7 i0_8 i0_9 c0_129_3 c0_129_5 c0_129_9 c0_129_8 c0_129_7 hl hW
      have hG := i0_0
      refine q_aload_n hM dX12_pieceOfC_0 (lv_at hl 0 rfl) ?_
      refine q_callV (As := []) (rest := []) hM hW.1 hR hC myX12_isGood (kAW (v_5_8 (List.mem_of_getElem? (i := 11) rfl)) rfl) (rfl : vwCl[12]? = some (RX12, TX12, 86)) rfl lb_129.1 (shO hW.2.1 lb_129) (a_X12_isGood _ _ cA ad g9 bb hW.2.1 hG c0_129_5) ⟨by decide, by decide⟩ rfl rfl hl.1 (Nat.le_of_ble_eq_true rfl) dX12_pieceOfC_1 (fun v g10124 H locs hp hW1 => ?_)
      obtain ⟨r10123, rfl, hr10123, rfl⟩ := hp
      have hW : WS ad cA (fun i k => (i = 129 ∧ (k = 3 ∨ k = 5 ∨ k = 7 ∨ k = 8 ∨ k = 9 ∨ k = 40)) ∨ i = 153 ∨ i = 154 ∨ i = 155) g0 K g9 H locs := ⟨hW1, hW.2.1, hW.2.2⟩
      refine q_if_eq (tgt := 32) hM dX12_pieceOfC_4 (by decide) (rfl : r10123.toInt = r10123.toInt) (fun h4 => ?_) (fun h4 => ?_)
      · refine q_aload_n hM dX12_pieceOfC_32 (lv_at hl 0 rfl) ?_
        refine q_callV (As := []) (rest := []) hM hW.1 hR hC myX12_isGood (kAW (v_5_8 (List.mem_of_getElem? (i := 11) rfl)) rfl) (rfl : vwCl[12]? = some (RX12, TX12, 86)) rfl lb_129.1 (shO hW.2.1 lb_129) (a_X12_isGood _ _ cA ad g9 bb hW.2.1 hG c0_129_5) ⟨by decide, by decide⟩ rfl rfl hl.1 (Nat.le_of_ble_eq_true rfl) dX12_pieceOfC_33 (fun v g10127 H locs hp hW1 => ?_)
        obtain ⟨r10126, rfl, hr10126, rfl⟩ := hp
        have hW : WS ad cA (fun i k => (i = 129 ∧ (k = 3 ∨ k = 5 ∨ k = 7 ∨ k = 8 ∨ k = 9 ∨ k = 40)) ∨ i = 153 ∨ i = 154 ∨ i = 155) g0 K g9 H locs := ⟨hW1, hW.2.1, hW.2.2⟩
        refine q_if_eq (tgt := 43) hM dX12_pieceOfC_36 (by decide) (rfl : r10126.toInt = r10126.toInt) (fun h36 => ?_) (fun h36 => ?_)
        · refine q_aload_n hM dX12_pieceOfC_43 (lv_at hl 0 rfl) ?_
          refine q_callV (As := []) (rest := []) hM hW.1 hR hC myX12_isGood (kAW (v_5_8 (List.mem_of_getElem? (i := 11) rfl)) rfl) (rfl : vwCl[12]? = some (RX12, TX12, 86)) rfl lb_129.1 (shO hW.2.1 lb_129) (a_X12_isGood _ _ cA ad g9 bb hW.2.1 hG c0_129_5) ⟨by decide, by decide⟩ rfl rfl hl.1 (Nat.le_of_ble_eq_true rfl) dX12_pieceOfC_44 (fun v g10130 H locs hp hW1 => ?_)
          obtain ⟨r10129, rfl, hr10129, rfl⟩ := hp
          have hW : WS ad cA (fun i k => (i = 129 ∧ (k = 3 ∨ k = 5 ∨ k = 7 ∨ k = 8 ∨ k = 9 ∨ k = 40)) ∨ i = 153 ∨ i = 154 ∨ i = 155) g0 K g9 H locs := ⟨hW1, hW.2.1, hW.2.2⟩
          refine q_if_ne (tgt := 51) hM dX12_pieceOfC_47 (by decide) (rfl : r10129.toInt = r10129.toInt) (fun h47 => ?_) (fun h47 => ?_)
          · omega
          · exact hE _ _ _ _ _ hW.1 ⟨pp, bb, co, ss, oo, rfl, hW.2.1, hG, hW.2.2, c0_129_3, c0_129_5, c0_129_7, c0_129_9, c0_129_8, (by omega), (by omega), (by omega), (by omega), (by omega), (by omega), (by omega), (by omega), (fun q => absurd q (by omega)), (fun q => absurd q (by omega))⟩ dX12_pieceOfC_50
        · refine q_aload_n hM dX12_pieceOfC_39 (lv_at hl 0 rfl) ?_
          refine q_callV (As := []) (rest := []) hM hW.1 hR hC myX12_value (kAW (v_5_12 (List.mem_of_getElem? (i := 2) rfl)) rfl) (rfl : vwCl[12]? = some (RX12, TX12, 86)) rfl lb_129.1 (shO hW.2.1 lb_129) (a_X12_value _ _ cA ad g9 pp en bb co ss oo sa hW.2.1 hG c0_129_3 ((hW.2.2.1 129 4 (by omega)).trans h_en) c0_129_5 c0_129_7 c0_129_9 c0_129_8 (by  omega) (by  omega) (by  omega) (by  omega) (by  omega) (by  omega) (by  omega) (i0_8 (by omega)) (fun _ hv => by have c9 := CS_top (i0_9 (by omega)); unfold isV at hv; omega)) ⟨by decide, by decide⟩ rfl rfl hl.1 (Nat.le_of_ble_eq_true rfl) dX12_pieceOfC_40 (fun v g10155 H locs hp hW1 => ?_)
          obtain ⟨v10134, v10135, v10136, v10137, v10138, rfl, hs1, hG, hf1, q10139, q10140, q10141, q10142, q10143, e10144, e10145, e10146, e10147, e10148, e10149, e10150, e10151, e10152, e10153, e10154⟩ := hp
          have hW : WS ad cA (fun i k => (i = 129 ∧ (k = 3 ∨ k = 5 ∨ k = 7 ∨ k = 8 ∨ k = 9 ∨ k = 40)) ∨ i = 153 ∨ i = 154 ∨ i = 155) g0 K g10155 H locs := ⟨hW1, hs1, hW.2.2.tr hf1 (fun i k h => h.elim (fun h => (Or.inl h)) (fun h => h.elim (fun h => (Or.inr (Or.inl h))) (fun h => h.elim (fun h => (Or.inr (Or.inr (Or.inl h)))) (fun h => (Or.inr (Or.inr (Or.inr h)))))))⟩
          refine q_aload_n hM dX12_pieceOfC_43 (lv_at hl 0 rfl) ?_
          refine q_callV (As := []) (rest := []) hM hW.1 hR hC myX12_isGood (kAW (v_5_8 (List.mem_of_getElem? (i := 11) rfl)) rfl) (rfl : vwCl[12]? = some (RX12, TX12, 86)) rfl lb_129.1 (shO hW.2.1 lb_129) (a_X12_isGood _ _ cA ad g10155 v10135 hW.2.1 hG q10140) ⟨by decide, by decide⟩ rfl rfl hl.1 (Nat.le_of_ble_eq_true rfl) dX12_pieceOfC_44 (fun v g10157 H locs hp hW1 => ?_)
          obtain ⟨r10156, rfl, hr10156, rfl⟩ := hp
          have hW : WS ad cA (fun i k => (i = 129 ∧ (k = 3 ∨ k = 5 ∨ k = 7 ∨ k = 8 ∨ k = 9 ∨ k = 40)) ∨ i = 153 ∨ i = 154 ∨ i = 155) g0 K g10155 H locs := ⟨hW1, hW.2.1, hW.2.2⟩
          refine q_if_ne (tgt := 51) hM dX12_pieceOfC_47 (by decide) (rfl : r10156.toInt = r10156.toInt) (fun h47 => ?_) (fun h47 => ?_)
          · have cs1 : CS (arI g10155 155) v10137.toInt := by rw [show v10137.toInt = ss.toInt by omega]; exact CS_eq (i0_9 (by omega)) (e10154 (by omega))
            refine q_aload_n hM dX12_pieceOfC_51 (lv_at hl 0 rfl) ?_
            refine q_callV (As := []) (rest := []) hM hW.1 hR hC myX12_here (kAW (v_5_9 (List.mem_of_getElem? (i := 3) rfl)) rfl) (rfl : vwCl[12]? = some (RX12, TX12, 86)) rfl lb_129.1 (shO hW.2.1 lb_129) (a_X12_here _ _ cA ad g10155 v10134 en hW.2.1 hG q10139 ((hW.2.2.1 129 4 (by omega)).trans h_en) (by  omega) (by  omega)) ⟨by decide, by decide⟩ rfl rfl hl.1 (Nat.le_of_ble_eq_true rfl) dX12_pieceOfC_52 (fun v g10160 H locs hp hW1 => ?_)
            obtain ⟨r10159, rfl, hr10159, rfl⟩ := hp
            have hW : WS ad cA (fun i k => (i = 129 ∧ (k = 3 ∨ k = 5 ∨ k = 7 ∨ k = 8 ∨ k = 9 ∨ k = 40)) ∨ i = 153 ∨ i = 154 ∨ i = 155) g0 K g10155 H locs := ⟨hW1, hW.2.1, hW.2.2⟩
            rw [hW.2.2.2.1 130 (by omega)] at hr10159
            refine q_istore_n (lv9 := [(1, .int r10159), (0, .ref (ad 129))]) hM dX12_pieceOfC_55 hl (by decide) rfl (fun ls hl => ?_)
            refine q_iload_n hM dX12_pieceOfC_56 (lv_at hl 0 rfl) ?_
            refine q_callS (As := [.int r10159]) (rest := []) hM hW.1 hR hC myX12_isCompared (kAW (v_6_0 (List.mem_of_getElem? (i := 12) rfl)) rfl) (a_X12_isCompared _ _ cA ad g10155 r10159 hW.2.1 hG) ⟨by decide, by decide⟩ rfl rfl hl.1 (Nat.le_of_ble_eq_true rfl) dX12_pieceOfC_57 (fun v g10162 H locs hp hW1 => ?_)
            obtain ⟨r10161, rfl, hr10161, rfl⟩ := hp
            have hW : WS ad cA (fun i k => (i = 129 ∧ (k = 3 ∨ k = 5 ∨ k = 7 ∨ k = 8 ∨ k = 9 ∨ k = 40)) ∨ i = 153 ∨ i = 154 ∨ i = 155) g0 K g10155 H locs := ⟨hW1, hW.2.1, hW.2.2⟩
            refine q_if_ne (tgt := 73) hM dX12_pieceOfC_60 (by decide) (rfl : r10161.toInt = r10161.toInt) (fun h60 => ?_) (fun h60 => ?_)
            · refine q_aload_n hM dX12_pieceOfC_73 (lv_at hl 1 rfl) ?_
              refine q_iload_n hM dX12_pieceOfC_74 (lv_at hl 0 rfl) ?_
              refine q_callV (As := [.int r10159]) (rest := []) hM hW.1 hR hC myX12_puts (kAW (v_5_12 (List.mem_of_getElem? (i := 14) rfl)) rfl) (rfl : vwCl[12]? = some (RX12, TX12, 86)) rfl lb_129.1 (shO hW.2.1 lb_129) (a_X12_puts _ _ cA ad g10155 r10159 v10134 v10137 hW.2.1 hG q10139 q10142 (by  omega) (by  omega) (by  omega)) ⟨by decide, by decide⟩ rfl rfl hl.1 (Nat.le_of_ble_eq_true rfl) dX12_pieceOfC_75 (fun v g10171 H locs hp hW1 => ?_)
              obtain ⟨v10164, v10165, rfl, hs1, hG, hf1, q10166, q10167, e10168, e10169, e10170⟩ := hp
              have f10172 : fld g10171 129 5 = .int v10135 := (hf1.1 129 5 (by omega)).trans q10140
              have f10173 : fld g10171 129 7 = .int v10136 := (hf1.1 129 7 (by omega)).trans q10141
              have f10174 : fld g10171 129 8 = .int v10138 := (hf1.1 129 8 (by omega)).trans q10143
              have f10175 : arI g10171 153 = arI g10155 153 := (hf1.2.1 153 (by omega)).trans (rfl : arI g10155 153 = arI g10155 153)
              have hW : WS ad cA (fun i k => (i = 129 ∧ (k = 3 ∨ k = 5 ∨ k = 7 ∨ k = 8 ∨ k = 9 ∨ k = 40)) ∨ i = 153 ∨ i = 154 ∨ i = 155) g0 K g10171 H locs := ⟨hW1, hs1, hW.2.2.tr hf1 (fun i k h => h.elim (fun h => (Or.inl (by omega))) (fun h => (Or.inr (Or.inr (Or.inr h)))))⟩
              have f10176 := e10170
              rw [(rfl : arI g10155 155 = arI g10155 155)] at f10176
              have jp := e10153 (by omega)
              have a55 := f10176
              refine q_aload_n hM dX12_pieceOfC_78 (lv_at hl 1 rfl) ?_
              refine q_callV (As := []) (rest := []) hM hW.1 hR hC myX12_value (kAW (v_5_12 (List.mem_of_getElem? (i := 2) rfl)) rfl) (rfl : vwCl[12]? = some (RX12, TX12, 86)) rfl lb_129.1 (shO hW.2.1 lb_129) (a_X12_value _ _ cA ad g10171 v10164 en v10135 v10136 v10165 v10138 sa hW.2.1 hG q10166 ((hW.2.2.1 129 4 (by omega)).trans h_en) f10172 f10173 q10167 f10174 (by  omega) (by  omega) (by  omega) (by  omega) (by  omega) (by  omega) (by  omega) (by rw [f10175, f10176]; exact JJ_push (e10153 (by omega)) rfl rfl (by have := bnd_c r10159; omega) (by omega)) (fun _ hv => by rw [f10176, upd_top (by omega) (by omega)] at hv; unfold isV at hv; omega)) ⟨by decide, by decide⟩ rfl rfl hl.1 (Nat.le_of_ble_eq_true rfl) dX12_pieceOfC_79 (fun v g10198 H locs hp hW1 => ?_)
              obtain ⟨v10177, v10178, v10179, v10180, v10181, rfl, hs1, hG, hf1, q10182, q10183, q10184, q10185, q10186, e10187, e10188, e10189, e10190, e10191, e10192, e10193, e10194, e10195, e10196, e10197⟩ := hp
              have hW : WS ad cA (fun i k => (i = 129 ∧ (k = 3 ∨ k = 5 ∨ k = 7 ∨ k = 8 ∨ k = 9 ∨ k = 40)) ∨ i = 153 ∨ i = 154 ∨ i = 155) g0 K g10198 H locs := ⟨hW1, hs1, hW.2.2.tr hf1 (fun i k h => h.elim (fun h => (Or.inl h)) (fun h => h.elim (fun h => (Or.inr (Or.inl h))) (fun h => h.elim (fun h => (Or.inr (Or.inr (Or.inl h)))) (fun h => (Or.inr (Or.inr (Or.inr h)))))))⟩
              refine q_aload_n hM dX12_pieceOfC_82 (lv_at hl 1 rfl) ?_
              refine q_callV (As := []) (rest := []) hM hW.1 hR hC myX12_isGood (kAW (v_5_8 (List.mem_of_getElem? (i := 11) rfl)) rfl) (rfl : vwCl[12]? = some (RX12, TX12, 86)) rfl lb_129.1 (shO hW.2.1 lb_129) (a_X12_isGood _ _ cA ad g10198 v10178 hW.2.1 hG q10183) ⟨by decide, by decide⟩ rfl rfl hl.1 (Nat.le_of_ble_eq_true rfl) dX12_pieceOfC_83 (fun v g10200 H locs hp hW1 => ?_)
              obtain ⟨r10199, rfl, hr10199, rfl⟩ := hp
              have hW : WS ad cA (fun i k => (i = 129 ∧ (k = 3 ∨ k = 5 ∨ k = 7 ∨ k = 8 ∨ k = 9 ∨ k = 40)) ∨ i = 153 ∨ i = 154 ∨ i = 155) g0 K g10198 H locs := ⟨hW1, hW.2.1, hW.2.2⟩
              refine q_if_ne (tgt := 90) hM dX12_pieceOfC_86 (by decide) (rfl : r10199.toInt = r10199.toInt) (fun h86 => ?_) (fun h86 => ?_)
              · refine q_aload_n hM dX12_pieceOfC_90 (lv_at hl 1 rfl) ?_
                refine q_aload_n hM dX12_pieceOfC_91 (lv_at hl 1 rfl) ?_
                refine q_callV (As := []) (rest := [.ref (ad 129)]) hM hW.1 hR hC myX12_top (kAW (v_6_0 (List.mem_of_getElem? (i := 0) rfl)) rfl) (rfl : vwCl[12]? = some (RX12, TX12, 86)) rfl lb_129.1 (shO hW.2.1 lb_129) (a_X12_top _ _ cA ad g10198 v10180 hW.2.1 hG q10185 (by  omega)) ⟨by decide, by decide⟩ rfl rfl hl.1 (Nat.le_of_ble_eq_true rfl) dX12_pieceOfC_92 (fun v g10203 H locs hp hW1 => ?_)
                obtain ⟨r10202, rfl, hr10202, rfl⟩ := hp
                have hW : WS ad cA (fun i k => (i = 129 ∧ (k = 3 ∨ k = 5 ∨ k = 7 ∨ k = 8 ∨ k = 9 ∨ k = 40)) ∨ i = 153 ∨ i = 154 ∨ i = 155) g0 K g10198 H locs := ⟨hW1, hW.2.1, hW.2.2⟩
                have tp : r10202.toInt = r10159.toInt := by have q1 : 1 ≤ v10180.toInt := (by omega); have q2 := (hr10202.resolve_right (fun h9 => by omega)).2; rw [e10197 (by omega) _ (by omega), a55, upd_top (by omega) (by omega)] at q2; exact q2
                refine q_iconst (v := (0 : Int32)) hM dX12_pieceOfC_95 (by decide) ?_
                refine q_callV (As := [.int r10202, .int (0 : Int32)]) (rest := []) hM hW.1 hR hC myX12_emit (kAW (v_5_13 (List.mem_of_getElem? (i := 11) rfl)) rfl) (rfl : vwCl[12]? = some (RX12, TX12, 86)) rfl lb_129.1 (shO hW.2.1 lb_129) (a_X12_emit _ _ cA ad g10198 r10202 (0 : Int32) v10178 v10179 hW.2.1 hG q10183 q10184 (by have := kc_0; omega)) ⟨by decide, by decide⟩ rfl rfl hl.1 (Nat.le_of_ble_eq_true rfl) dX12_pieceOfC_96 (fun v g10207 H locs hp hW1 => ?_)
                obtain ⟨v10204, rfl, hs1, hG, hf1, q10205, e10206⟩ := hp
                have f10208 : fld g10207 129 3 = .int v10177 := (hf1.1 129 3 (by omega)).trans q10182
                have f10209 : fld g10207 129 5 = .int v10178 := (hf1.1 129 5 (by omega)).trans q10183
                have f10210 : fld g10207 129 9 = .int v10180 := (hf1.1 129 9 (by omega)).trans q10185
                have f10211 : fld g10207 129 8 = .int v10181 := (hf1.1 129 8 (by omega)).trans q10186
                have f10212 : arI g10207 155 = arI g10198 155 := (hf1.2.1 155 (by omega)).trans (rfl : arI g10198 155 = arI g10198 155)
                have hW : WS ad cA (fun i k => (i = 129 ∧ (k = 3 ∨ k = 5 ∨ k = 7 ∨ k = 8 ∨ k = 9 ∨ k = 40)) ∨ i = 153 ∨ i = 154 ∨ i = 155) g0 K g10207 H locs := ⟨hW1, hs1, hW.2.2.tr hf1 (fun i k h => h.elim (fun h => (Or.inl (by omega))) (fun h => h.elim (fun h => (Or.inr (Or.inl h))) (fun h => (Or.inr (Or.inr (Or.inl h))))))⟩
                have em10213 := e10206.resolve_right (fun h9 => h9.1 (by omega))
                have f10214 := em10213.2.2
                have em102139 := em10213.2.1
                rw [(rfl : arI g10198 153 = arI g10198 153)] at f10214
                refine q_aload_n hM dX12_pieceOfC_99 (lv_at hl 1 rfl) ?_
                refine q_dup hM dX12_pieceOfC_100 rfl ?_
                refine w_get (v := .int v10180) hM hW FG_X12_281 lb_129 f10210 dX12_pieceOfC_101 ?_
                have bv10180 := hG.f f10210 rF_129_9 (by decide)
                refine q_iconst (v := (1 : Int32)) hM dX12_pieceOfC_104 (by decide) ?_
                refine q_isub hM dX12_pieceOfC_105 (fun z10215 hz10215 => ?_)
                first | have tz10215 := i_subT hz10215 (rfl : v10180.toInt = v10180.toInt) (kc_1 : (1 : Int32).toInt = 1) (by omega) (by omega) | skip
                refine w_put hM hW FP_X12_281 lb_129 (by omega) (Or.inl ⟨_, rfl⟩) rfl rfl dX12_pieceOfC_106 (fun g10216 H locs hW e1 e2 => ?_)
                have f10217 : fld g10216 129 3 = .int v10177 := (e2.1 129 3 (by unfold Only; omega)).trans f10208
                have f10218 : fld g10216 129 5 = .int v10178 := (e2.1 129 5 (by unfold Only; omega)).trans f10209
                have f10219 : fld g10216 129 8 = .int v10181 := (e2.1 129 8 (by unfold Only; omega)).trans f10211
                have f10220 : arI g10216 155 = arI g10198 155 := (e2.2.1 155 (by unfold Only; omega)).trans f10212
                have f10221 : fld g10216 129 7 = .int v10204 := (e2.1 129 7 (by unfold Only; omega)).trans q10205
                have f10222 : arI g10216 153 = upd (arI g10198 153) v10179.toNatClampNeg r10202 := (e2.2.1 153 (by unfold Only; omega)).trans f10214
                have f10223 : fld g10216 129 9 = .int z10215 := e1
                have hG := hG.put e1 e2 rF_129_9 (by decide) (by have := i_rng z10215; omega) (by have := i_rng z10215; omega)
                refine q_aload_n hM dX12_pieceOfC_109 (lv_at hl 1 rfl) ?_
                refine q_callV (As := []) (rest := []) hM hW.1 hR hC myX12_ends (kAW (v_6_0 (List.mem_of_getElem? (i := 15) rfl)) rfl) (rfl : vwCl[12]? = some (RX12, TX12, 86)) rfl lb_129.1 (shO hW.2.1 lb_129) (a_X12_ends _ _ cA ad g10216 v10178 v10204 z10215 v10181 sa hW.2.1 hG f10218 f10221 f10223 f10219 (by  omega) (by  omega) (by  omega) (by rw [f10222, f10220]; exact JJ_bin (e10196 (by omega)) rfl rfl (by omega) (by omega) (by omega) (by omega) (by omega)) (by rw [f10220]; exact CS_eq (CS_mono cs1 (by have := cs1.2.1; omega) (by omega)) (fun j hj => by rw [e10197 (by omega) j (by omega), a55]; exact upd_low (by omega)))) ⟨by decide, by decide⟩ rfl rfl hl.1 (Nat.le_of_ble_eq_true rfl) dX12_pieceOfC_110 (fun v g10237 H locs hp hW1 => ?_)
                obtain ⟨v10224, v10225, v10226, rfl, hs1, hG, hf1, q10227, q10228, q10229, e10230, e10231, e10232, e10233, e10234, e10235, e10236⟩ := hp
                have f10238 : fld g10237 129 3 = .int v10177 := (hf1.1 129 3 (by omega)).trans f10217
                have f10239 : fld g10237 129 5 = .int v10178 := (hf1.1 129 5 (by omega)).trans f10218
                have f10240 : arI g10237 155 = arI g10198 155 := (hf1.2.1 155 (by omega)).trans f10220
                have hW : WS ad cA (fun i k => (i = 129 ∧ (k = 3 ∨ k = 5 ∨ k = 7 ∨ k = 8 ∨ k = 9 ∨ k = 40)) ∨ i = 153 ∨ i = 154 ∨ i = 155) g0 K g10237 H locs := ⟨hW1, hs1, hW.2.2.tr hf1 (fun i k h => h.elim (fun h => (Or.inl (by omega))) (fun h => h.elim (fun h => (Or.inr (Or.inl h))) (fun h => (Or.inr (Or.inr (Or.inl h))))))⟩
                exact hE _ _ _ _ _ hW.1 ⟨v10177, v10178, v10224, v10225, v10226, rfl, hW.2.1, hG, hW.2.2, f10238, f10239, q10227, q10228, q10229, (by omega), (by omega), (by omega), (by omega), (by omega), (by omega), (by omega), (by omega), (fun q => by have h9 := e10235; rw [← (hf1.2.1 155 (by omega))] at h9; exact h9), (fun q => by have h9 := e10236; rw [← (hf1.2.1 155 (by omega))] at h9; exact h9)⟩ dX12_pieceOfC_113
              · exact hE _ _ _ _ _ hW.1 ⟨v10177, v10178, v10179, v10180, v10181, rfl, hW.2.1, hG, hW.2.2, q10182, q10183, q10184, q10185, q10186, (by omega), (by omega), (by omega), (by omega), (by omega), (by omega), (by omega), (by omega), (fun q => absurd q (by omega)), (fun q => absurd q (by omega))⟩ dX12_pieceOfC_89
            · refine q_aload_n hM dX12_pieceOfC_63 (lv_at hl 1 rfl) ?_
              refine q_iconst (v := (1 : Int32)) hM dX12_pieceOfC_64 (by decide) ?_
              refine q_aload_n hM dX12_pieceOfC_65 (lv_at hl 1 rfl) ?_
              refine w_get (v := .int v10134) hM hW FG_X12_173 lb_129 q10139 dX12_pieceOfC_66 ?_
              have bv10134 := hG.f q10139 rF_129_3 (by decide)
              refine q_callV (As := [.int (1 : Int32), .int v10134]) (rest := []) hM hW.1 hR hC myX12_wrongs (kAW (v_5_9 (List.mem_of_getElem? (i := 11) rfl)) rfl) (rfl : vwCl[12]? = some (RX12, TX12, 86)) rfl lb_129.1 (shO hW.2.1 lb_129) (a_X12_wrongs _ _ cA ad g10155 (1 : Int32) v10134 v10135 hW.2.1 hG q10140 (by have := kc_1; omega) (by have := kc_1; omega) (by have := kc_1; omega) (by have := kc_1; omega)) ⟨by decide, by decide⟩ rfl rfl hl.1 (Nat.le_of_ble_eq_true rfl) dX12_pieceOfC_69 (fun v g10246 H locs hp hW1 => ?_)
              obtain ⟨v10243, rfl, hs1, hG, hf1, q10244, e10245⟩ := hp
              have f10247 : fld g10246 129 3 = .int v10134 := (hf1.1 129 3 (by omega)).trans q10139
              have f10248 : fld g10246 129 7 = .int v10136 := (hf1.1 129 7 (by omega)).trans q10141
              have f10249 : fld g10246 129 9 = .int v10137 := (hf1.1 129 9 (by omega)).trans q10142
              have f10250 : fld g10246 129 8 = .int v10138 := (hf1.1 129 8 (by omega)).trans q10143
              have f10251 : arI g10246 153 = arI g10155 153 := (hf1.2.1 153 (by omega)).trans (rfl : arI g10155 153 = arI g10155 153)
              have f10252 : arI g10246 155 = arI g10155 155 := (hf1.2.1 155 (by omega)).trans (rfl : arI g10155 155 = arI g10155 155)
              have hW : WS ad cA (fun i k => (i = 129 ∧ (k = 3 ∨ k = 5 ∨ k = 7 ∨ k = 8 ∨ k = 9 ∨ k = 40)) ∨ i = 153 ∨ i = 154 ∨ i = 155) g0 K g10246 H locs := ⟨hW1, hs1, hW.2.2.tr hf1 (fun i k h => (Or.inl (by omega)))⟩
              exact hE _ _ _ _ _ hW.1 ⟨v10134, v10243, v10136, v10137, v10138, rfl, hW.2.1, hG, hW.2.2, f10247, q10244, f10248, f10249, f10250, (by omega), (by omega), (by omega), (by omega), (by omega), (by omega), (by omega), (by omega), (fun q => absurd q (by omega)), (fun q => absurd q (by omega))⟩ dX12_pieceOfC_72
          · exact hE _ _ _ _ _ hW.1 ⟨v10134, v10135, v10136, v10137, v10138, rfl, hW.2.1, hG, hW.2.2, q10139, q10140, q10141, q10142, q10143, (by omega), (by omega), (by omega), (by omega), (by omega), (by omega), (by omega), (by omega), (fun q => absurd q (by omega)), (fun q => absurd q (by omega))⟩ dX12_pieceOfC_50
      · refine q_aload_n hM dX12_pieceOfC_7 (lv_at hl 0 rfl) ?_
        refine q_callV (As := []) (rest := []) hM hW.1 hR hC myX12_here (kAW (v_5_9 (List.mem_of_getElem? (i := 3) rfl)) rfl) (rfl : vwCl[12]? = some (RX12, TX12, 86)) rfl lb_129.1 (shO hW.2.1 lb_129) (a_X12_here _ _ cA ad g9 pp en hW.2.1 hG c0_129_3 ((hW.2.2.1 129 4 (by omega)).trans h_en) (by  omega) (by  omega)) ⟨by decide, by decide⟩ rfl rfl hl.1 (Nat.le_of_ble_eq_true rfl) dX12_pieceOfC_8 (fun v g10256 H locs hp hW1 => ?_)
        obtain ⟨r10255, rfl, hr10255, rfl⟩ := hp
        have hW : WS ad cA (fun i k => (i = 129 ∧ (k = 3 ∨ k = 5 ∨ k = 7 ∨ k = 8 ∨ k = 9 ∨ k = 40)) ∨ i = 153 ∨ i = 154 ∨ i = 155) g0 K g9 H locs := ⟨hW1, hW.2.1, hW.2.2⟩
        rw [hW.2.2.2.1 130 (by omega)] at hr10255
        refine q_bipush (v := (33 : Int32)) hM dX12_pieceOfC_11 (by decide) ?_
        refine q_icmp_eq (tgt := 25) hM dX12_pieceOfC_13 (by decide) (rfl : r10255.toInt = r10255.toInt) (kc_33 : (33 : Int32).toInt = 33) (fun h13 => ?_) (fun h13 => ?_)
        · refine q_aload_n hM dX12_pieceOfC_25 (lv_at hl 0 rfl) ?_
          refine q_callV (As := []) (rest := []) hM hW.1 hR hC myX12_opens (kAW (v_5_12 (List.mem_of_getElem? (i := 10) rfl)) rfl) (rfl : vwCl[12]? = some (RX12, TX12, 86)) rfl lb_129.1 (shO hW.2.1 lb_129) (a_X12_opens _ _ cA ad g9 pp en bb ss oo hW.2.1 hG c0_129_3 ((hW.2.2.1 129 4 (by omega)).trans h_en) c0_129_5 c0_129_9 c0_129_8 (by  omega) (by  omega) (by  omega) (by  omega) (by  omega) (by  omega)) ⟨by decide, by decide⟩ rfl rfl hl.1 (Nat.le_of_ble_eq_true rfl) dX12_pieceOfC_26 (fun v g10271 H locs hp hW1 => ?_)
          obtain ⟨v10258, v10259, v10260, v10261, rfl, hs1, hG, hf1, q10262, q10263, q10264, q10265, e10266, e10267, e10268, e10269, e10270⟩ := hp
          have f10272 : fld g10271 129 7 = .int co := (hf1.1 129 7 (by omega)).trans c0_129_7
          have f10273 : arI g10271 153 = arI g9 153 := (hf1.2.1 153 (by omega)).trans (rfl : arI g9 153 = arI g9 153)
          have hW : WS ad cA (fun i k => (i = 129 ∧ (k = 3 ∨ k = 5 ∨ k = 7 ∨ k = 8 ∨ k = 9 ∨ k = 40)) ∨ i = 153 ∨ i = 154 ∨ i = 155) g0 K g10271 H locs := ⟨hW1, hs1, hW.2.2.tr hf1 (fun i k h => h.elim (fun h => (Or.inl (by omega))) (fun h => (Or.inr (Or.inr (Or.inr h)))))⟩
          have f10274 := e10270
          rw [← hf1.2.1 130 (by omega), hW.2.2.2.1 130 (by omega)] at f10274
          rw [(rfl : arI g9 155 = arI g9 155)] at f10274
          refine q_goto (tgt := 0) hM dX12_pieceOfC_29 (by decide) ?_
          exact ih0 v10258 v10259 v10260 v10261 _ _ _ _ (by omega) hG (by omega) (by omega) (by omega) (by omega) (by omega) (by omega) (by omega) (fun q => by rw [f10273, f10274]; exact JJ_push (i0_8 (by omega)) rfl rfl (by have := bnd_c (hr (arI g0 130) pp en); omega) (by omega)) (fun q => by rw [f10274]; exact CS_push (i0_9 (by omega)) rfl rfl (by omega) (by omega)) q10262 q10263 q10264 q10265 f10272 (lv_sub hl [0] rfl) hW
        · refine q_aload_n hM dX12_pieceOfC_16 (lv_at hl 0 rfl) ?_
          refine q_callV (As := []) (rest := []) hM hW.1 hR hC myX12_here (kAW (v_5_9 (List.mem_of_getElem? (i := 3) rfl)) rfl) (rfl : vwCl[12]? = some (RX12, TX12, 86)) rfl lb_129.1 (shO hW.2.1 lb_129) (a_X12_here _ _ cA ad g9 pp en hW.2.1 hG c0_129_3 ((hW.2.2.1 129 4 (by omega)).trans h_en) (by  omega) (by  omega)) ⟨by decide, by decide⟩ rfl rfl hl.1 (Nat.le_of_ble_eq_true rfl) dX12_pieceOfC_17 (fun v g10277 H locs hp hW1 => ?_)
          obtain ⟨r10276, rfl, hr10276, rfl⟩ := hp
          have hW : WS ad cA (fun i k => (i = 129 ∧ (k = 3 ∨ k = 5 ∨ k = 7 ∨ k = 8 ∨ k = 9 ∨ k = 40)) ∨ i = 153 ∨ i = 154 ∨ i = 155) g0 K g9 H locs := ⟨hW1, hW.2.1, hW.2.2⟩
          rw [hW.2.2.2.1 130 (by omega)] at hr10276
          refine q_bipush (v := (40 : Int32)) hM dX12_pieceOfC_20 (by decide) ?_
          refine q_icmp_ne (tgt := 32) hM dX12_pieceOfC_22 (by decide) (rfl : r10276.toInt = r10276.toInt) (kc_40 : (40 : Int32).toInt = 40) (fun h22 => ?_) (fun h22 => ?_)
          · refine q_aload_n hM dX12_pieceOfC_32 (lv_at hl 0 rfl) ?_
            refine q_callV (As := []) (rest := []) hM hW.1 hR hC myX12_isGood (kAW (v_5_8 (List.mem_of_getElem? (i := 11) rfl)) rfl) (rfl : vwCl[12]? = some (RX12, TX12, 86)) rfl lb_129.1 (shO hW.2.1 lb_129) (a_X12_isGood _ _ cA ad g9 bb hW.2.1 hG c0_129_5) ⟨by decide, by decide⟩ rfl rfl hl.1 (Nat.le_of_ble_eq_true rfl) dX12_pieceOfC_33 (fun v g10280 H locs hp hW1 => ?_)
            obtain ⟨r10279, rfl, hr10279, rfl⟩ := hp
            have hW : WS ad cA (fun i k => (i = 129 ∧ (k = 3 ∨ k = 5 ∨ k = 7 ∨ k = 8 ∨ k = 9 ∨ k = 40)) ∨ i = 153 ∨ i = 154 ∨ i = 155) g0 K g9 H locs := ⟨hW1, hW.2.1, hW.2.2⟩
            refine q_if_eq (tgt := 43) hM dX12_pieceOfC_36 (by decide) (rfl : r10279.toInt = r10279.toInt) (fun h36 => ?_) (fun h36 => ?_)
            · refine q_aload_n hM dX12_pieceOfC_43 (lv_at hl 0 rfl) ?_
              refine q_callV (As := []) (rest := []) hM hW.1 hR hC myX12_isGood (kAW (v_5_8 (List.mem_of_getElem? (i := 11) rfl)) rfl) (rfl : vwCl[12]? = some (RX12, TX12, 86)) rfl lb_129.1 (shO hW.2.1 lb_129) (a_X12_isGood _ _ cA ad g9 bb hW.2.1 hG c0_129_5) ⟨by decide, by decide⟩ rfl rfl hl.1 (Nat.le_of_ble_eq_true rfl) dX12_pieceOfC_44 (fun v g10283 H locs hp hW1 => ?_)
              obtain ⟨r10282, rfl, hr10282, rfl⟩ := hp
              have hW : WS ad cA (fun i k => (i = 129 ∧ (k = 3 ∨ k = 5 ∨ k = 7 ∨ k = 8 ∨ k = 9 ∨ k = 40)) ∨ i = 153 ∨ i = 154 ∨ i = 155) g0 K g9 H locs := ⟨hW1, hW.2.1, hW.2.2⟩
              refine q_if_ne (tgt := 51) hM dX12_pieceOfC_47 (by decide) (rfl : r10282.toInt = r10282.toInt) (fun h47 => ?_) (fun h47 => ?_)
              · omega
              · exact hE _ _ _ _ _ hW.1 ⟨pp, bb, co, ss, oo, rfl, hW.2.1, hG, hW.2.2, c0_129_3, c0_129_5, c0_129_7, c0_129_9, c0_129_8, (by omega), (by omega), (by omega), (by omega), (by omega), (by omega), (by omega), (by omega), (fun q => absurd q (by omega)), (fun q => absurd q (by omega))⟩ dX12_pieceOfC_50
            · refine q_aload_n hM dX12_pieceOfC_39 (lv_at hl 0 rfl) ?_
              refine q_callV (As := []) (rest := []) hM hW.1 hR hC myX12_value (kAW (v_5_12 (List.mem_of_getElem? (i := 2) rfl)) rfl) (rfl : vwCl[12]? = some (RX12, TX12, 86)) rfl lb_129.1 (shO hW.2.1 lb_129) (a_X12_value _ _ cA ad g9 pp en bb co ss oo sa hW.2.1 hG c0_129_3 ((hW.2.2.1 129 4 (by omega)).trans h_en) c0_129_5 c0_129_7 c0_129_9 c0_129_8 (by  omega) (by  omega) (by  omega) (by  omega) (by  omega) (by  omega) (by  omega) (i0_8 (by omega)) (fun _ hv => by have c9 := CS_top (i0_9 (by omega)); unfold isV at hv; omega)) ⟨by decide, by decide⟩ rfl rfl hl.1 (Nat.le_of_ble_eq_true rfl) dX12_pieceOfC_40 (fun v g10308 H locs hp hW1 => ?_)
              obtain ⟨v10287, v10288, v10289, v10290, v10291, rfl, hs1, hG, hf1, q10292, q10293, q10294, q10295, q10296, e10297, e10298, e10299, e10300, e10301, e10302, e10303, e10304, e10305, e10306, e10307⟩ := hp
              have hW : WS ad cA (fun i k => (i = 129 ∧ (k = 3 ∨ k = 5 ∨ k = 7 ∨ k = 8 ∨ k = 9 ∨ k = 40)) ∨ i = 153 ∨ i = 154 ∨ i = 155) g0 K g10308 H locs := ⟨hW1, hs1, hW.2.2.tr hf1 (fun i k h => h.elim (fun h => (Or.inl h)) (fun h => h.elim (fun h => (Or.inr (Or.inl h))) (fun h => h.elim (fun h => (Or.inr (Or.inr (Or.inl h)))) (fun h => (Or.inr (Or.inr (Or.inr h)))))))⟩
              refine q_aload_n hM dX12_pieceOfC_43 (lv_at hl 0 rfl) ?_
              refine q_callV (As := []) (rest := []) hM hW.1 hR hC myX12_isGood (kAW (v_5_8 (List.mem_of_getElem? (i := 11) rfl)) rfl) (rfl : vwCl[12]? = some (RX12, TX12, 86)) rfl lb_129.1 (shO hW.2.1 lb_129) (a_X12_isGood _ _ cA ad g10308 v10288 hW.2.1 hG q10293) ⟨by decide, by decide⟩ rfl rfl hl.1 (Nat.le_of_ble_eq_true rfl) dX12_pieceOfC_44 (fun v g10310 H locs hp hW1 => ?_)
              obtain ⟨r10309, rfl, hr10309, rfl⟩ := hp
              have hW : WS ad cA (fun i k => (i = 129 ∧ (k = 3 ∨ k = 5 ∨ k = 7 ∨ k = 8 ∨ k = 9 ∨ k = 40)) ∨ i = 153 ∨ i = 154 ∨ i = 155) g0 K g10308 H locs := ⟨hW1, hW.2.1, hW.2.2⟩
              refine q_if_ne (tgt := 51) hM dX12_pieceOfC_47 (by decide) (rfl : r10309.toInt = r10309.toInt) (fun h47 => ?_) (fun h47 => ?_)
              · have cs1 : CS (arI g10308 155) v10290.toInt := by rw [show v10290.toInt = ss.toInt by omega]; exact CS_eq (i0_9 (by omega)) (e10307 (by omega))
                refine q_aload_n hM dX12_pieceOfC_51 (lv_at hl 0 rfl) ?_
                refine q_callV (As := []) (rest := []) hM hW.1 hR hC myX12_here (kAW (v_5_9 (List.mem_of_getElem? (i := 3) rfl)) rfl) (rfl : vwCl[12]? = some (RX12, TX12, 86)) rfl lb_129.1 (shO hW.2.1 lb_129) (a_X12_here _ _ cA ad g10308 v10287 en hW.2.1 hG q10292 ((hW.2.2.1 129 4 (by omega)).trans h_en) (by  omega) (by  omega)) ⟨by decide, by decide⟩ rfl rfl hl.1 (Nat.le_of_ble_eq_true rfl) dX12_pieceOfC_52 (fun v g10313 H locs hp hW1 => ?_)
                obtain ⟨r10312, rfl, hr10312, rfl⟩ := hp
                have hW : WS ad cA (fun i k => (i = 129 ∧ (k = 3 ∨ k = 5 ∨ k = 7 ∨ k = 8 ∨ k = 9 ∨ k = 40)) ∨ i = 153 ∨ i = 154 ∨ i = 155) g0 K g10308 H locs := ⟨hW1, hW.2.1, hW.2.2⟩
                rw [hW.2.2.2.1 130 (by omega)] at hr10312
                refine q_istore_n (lv9 := [(1, .int r10312), (0, .ref (ad 129))]) hM dX12_pieceOfC_55 hl (by decide) rfl (fun ls hl => ?_)
                refine q_iload_n hM dX12_pieceOfC_56 (lv_at hl 0 rfl) ?_
                refine q_callS (As := [.int r10312]) (rest := []) hM hW.1 hR hC myX12_isCompared (kAW (v_6_0 (List.mem_of_getElem? (i := 12) rfl)) rfl) (a_X12_isCompared _ _ cA ad g10308 r10312 hW.2.1 hG) ⟨by decide, by decide⟩ rfl rfl hl.1 (Nat.le_of_ble_eq_true rfl) dX12_pieceOfC_57 (fun v g10315 H locs hp hW1 => ?_)
                obtain ⟨r10314, rfl, hr10314, rfl⟩ := hp
                have hW : WS ad cA (fun i k => (i = 129 ∧ (k = 3 ∨ k = 5 ∨ k = 7 ∨ k = 8 ∨ k = 9 ∨ k = 40)) ∨ i = 153 ∨ i = 154 ∨ i = 155) g0 K g10308 H locs := ⟨hW1, hW.2.1, hW.2.2⟩
                refine q_if_ne (tgt := 73) hM dX12_pieceOfC_60 (by decide) (rfl : r10314.toInt = r10314.toInt) (fun h60 => ?_) (fun h60 => ?_)
                · refine q_aload_n hM dX12_pieceOfC_73 (lv_at hl 1 rfl) ?_
                  refine q_iload_n hM dX12_pieceOfC_74 (lv_at hl 0 rfl) ?_
                  refine q_callV (As := [.int r10312]) (rest := []) hM hW.1 hR hC myX12_puts (kAW (v_5_12 (List.mem_of_getElem? (i := 14) rfl)) rfl) (rfl : vwCl[12]? = some (RX12, TX12, 86)) rfl lb_129.1 (shO hW.2.1 lb_129) (a_X12_puts _ _ cA ad g10308 r10312 v10287 v10290 hW.2.1 hG q10292 q10295 (by  omega) (by  omega) (by  omega)) ⟨by decide, by decide⟩ rfl rfl hl.1 (Nat.le_of_ble_eq_true rfl) dX12_pieceOfC_75 (fun v g10324 H locs hp hW1 => ?_)
                  obtain ⟨v10317, v10318, rfl, hs1, hG, hf1, q10319, q10320, e10321, e10322, e10323⟩ := hp
                  have f10325 : fld g10324 129 5 = .int v10288 := (hf1.1 129 5 (by omega)).trans q10293
                  have f10326 : fld g10324 129 7 = .int v10289 := (hf1.1 129 7 (by omega)).trans q10294
                  have f10327 : fld g10324 129 8 = .int v10291 := (hf1.1 129 8 (by omega)).trans q10296
                  have f10328 : arI g10324 153 = arI g10308 153 := (hf1.2.1 153 (by omega)).trans (rfl : arI g10308 153 = arI g10308 153)
                  have hW : WS ad cA (fun i k => (i = 129 ∧ (k = 3 ∨ k = 5 ∨ k = 7 ∨ k = 8 ∨ k = 9 ∨ k = 40)) ∨ i = 153 ∨ i = 154 ∨ i = 155) g0 K g10324 H locs := ⟨hW1, hs1, hW.2.2.tr hf1 (fun i k h => h.elim (fun h => (Or.inl (by omega))) (fun h => (Or.inr (Or.inr (Or.inr h)))))⟩
                  have f10329 := e10323
                  rw [(rfl : arI g10308 155 = arI g10308 155)] at f10329
                  have jp := e10306 (by omega)
                  have a55 := f10329
                  refine q_aload_n hM dX12_pieceOfC_78 (lv_at hl 1 rfl) ?_
                  refine q_callV (As := []) (rest := []) hM hW.1 hR hC myX12_value (kAW (v_5_12 (List.mem_of_getElem? (i := 2) rfl)) rfl) (rfl : vwCl[12]? = some (RX12, TX12, 86)) rfl lb_129.1 (shO hW.2.1 lb_129) (a_X12_value _ _ cA ad g10324 v10317 en v10288 v10289 v10318 v10291 sa hW.2.1 hG q10319 ((hW.2.2.1 129 4 (by omega)).trans h_en) f10325 f10326 q10320 f10327 (by  omega) (by  omega) (by  omega) (by  omega) (by  omega) (by  omega) (by  omega) (by rw [f10328, f10329]; exact JJ_push (e10306 (by omega)) rfl rfl (by have := bnd_c r10312; omega) (by omega)) (fun _ hv => by rw [f10329, upd_top (by omega) (by omega)] at hv; unfold isV at hv; omega)) ⟨by decide, by decide⟩ rfl rfl hl.1 (Nat.le_of_ble_eq_true rfl) dX12_pieceOfC_79 (fun v g10351 H locs hp hW1 => ?_)
                  obtain ⟨v10330, v10331, v10332, v10333, v10334, rfl, hs1, hG, hf1, q10335, q10336, q10337, q10338, q10339, e10340, e10341, e10342, e10343, e10344, e10345, e10346, e10347, e10348, e10349, e10350⟩ := hp
                  have hW : WS ad cA (fun i k => (i = 129 ∧ (k = 3 ∨ k = 5 ∨ k = 7 ∨ k = 8 ∨ k = 9 ∨ k = 40)) ∨ i = 153 ∨ i = 154 ∨ i = 155) g0 K g10351 H locs := ⟨hW1, hs1, hW.2.2.tr hf1 (fun i k h => h.elim (fun h => (Or.inl h)) (fun h => h.elim (fun h => (Or.inr (Or.inl h))) (fun h => h.elim (fun h => (Or.inr (Or.inr (Or.inl h)))) (fun h => (Or.inr (Or.inr (Or.inr h)))))))⟩
                  refine q_aload_n hM dX12_pieceOfC_82 (lv_at hl 1 rfl) ?_
                  refine q_callV (As := []) (rest := []) hM hW.1 hR hC myX12_isGood (kAW (v_5_8 (List.mem_of_getElem? (i := 11) rfl)) rfl) (rfl : vwCl[12]? = some (RX12, TX12, 86)) rfl lb_129.1 (shO hW.2.1 lb_129) (a_X12_isGood _ _ cA ad g10351 v10331 hW.2.1 hG q10336) ⟨by decide, by decide⟩ rfl rfl hl.1 (Nat.le_of_ble_eq_true rfl) dX12_pieceOfC_83 (fun v g10353 H locs hp hW1 => ?_)
                  obtain ⟨r10352, rfl, hr10352, rfl⟩ := hp
                  have hW : WS ad cA (fun i k => (i = 129 ∧ (k = 3 ∨ k = 5 ∨ k = 7 ∨ k = 8 ∨ k = 9 ∨ k = 40)) ∨ i = 153 ∨ i = 154 ∨ i = 155) g0 K g10351 H locs := ⟨hW1, hW.2.1, hW.2.2⟩
                  refine q_if_ne (tgt := 90) hM dX12_pieceOfC_86 (by decide) (rfl : r10352.toInt = r10352.toInt) (fun h86 => ?_) (fun h86 => ?_)
                  · refine q_aload_n hM dX12_pieceOfC_90 (lv_at hl 1 rfl) ?_
                    refine q_aload_n hM dX12_pieceOfC_91 (lv_at hl 1 rfl) ?_
                    refine q_callV (As := []) (rest := [.ref (ad 129)]) hM hW.1 hR hC myX12_top (kAW (v_6_0 (List.mem_of_getElem? (i := 0) rfl)) rfl) (rfl : vwCl[12]? = some (RX12, TX12, 86)) rfl lb_129.1 (shO hW.2.1 lb_129) (a_X12_top _ _ cA ad g10351 v10333 hW.2.1 hG q10338 (by  omega)) ⟨by decide, by decide⟩ rfl rfl hl.1 (Nat.le_of_ble_eq_true rfl) dX12_pieceOfC_92 (fun v g10356 H locs hp hW1 => ?_)
                    obtain ⟨r10355, rfl, hr10355, rfl⟩ := hp
                    have hW : WS ad cA (fun i k => (i = 129 ∧ (k = 3 ∨ k = 5 ∨ k = 7 ∨ k = 8 ∨ k = 9 ∨ k = 40)) ∨ i = 153 ∨ i = 154 ∨ i = 155) g0 K g10351 H locs := ⟨hW1, hW.2.1, hW.2.2⟩
                    have tp : r10355.toInt = r10312.toInt := by have q1 : 1 ≤ v10333.toInt := (by omega); have q2 := (hr10355.resolve_right (fun h9 => by omega)).2; rw [e10350 (by omega) _ (by omega), a55, upd_top (by omega) (by omega)] at q2; exact q2
                    refine q_iconst (v := (0 : Int32)) hM dX12_pieceOfC_95 (by decide) ?_
                    refine q_callV (As := [.int r10355, .int (0 : Int32)]) (rest := []) hM hW.1 hR hC myX12_emit (kAW (v_5_13 (List.mem_of_getElem? (i := 11) rfl)) rfl) (rfl : vwCl[12]? = some (RX12, TX12, 86)) rfl lb_129.1 (shO hW.2.1 lb_129) (a_X12_emit _ _ cA ad g10351 r10355 (0 : Int32) v10331 v10332 hW.2.1 hG q10336 q10337 (by have := kc_0; omega)) ⟨by decide, by decide⟩ rfl rfl hl.1 (Nat.le_of_ble_eq_true rfl) dX12_pieceOfC_96 (fun v g10360 H locs hp hW1 => ?_)
                    obtain ⟨v10357, rfl, hs1, hG, hf1, q10358, e10359⟩ := hp
                    have f10361 : fld g10360 129 3 = .int v10330 := (hf1.1 129 3 (by omega)).trans q10335
                    have f10362 : fld g10360 129 5 = .int v10331 := (hf1.1 129 5 (by omega)).trans q10336
                    have f10363 : fld g10360 129 9 = .int v10333 := (hf1.1 129 9 (by omega)).trans q10338
                    have f10364 : fld g10360 129 8 = .int v10334 := (hf1.1 129 8 (by omega)).trans q10339
                    have f10365 : arI g10360 155 = arI g10351 155 := (hf1.2.1 155 (by omega)).trans (rfl : arI g10351 155 = arI g10351 155)
                    have hW : WS ad cA (fun i k => (i = 129 ∧ (k = 3 ∨ k = 5 ∨ k = 7 ∨ k = 8 ∨ k = 9 ∨ k = 40)) ∨ i = 153 ∨ i = 154 ∨ i = 155) g0 K g10360 H locs := ⟨hW1, hs1, hW.2.2.tr hf1 (fun i k h => h.elim (fun h => (Or.inl (by omega))) (fun h => h.elim (fun h => (Or.inr (Or.inl h))) (fun h => (Or.inr (Or.inr (Or.inl h))))))⟩
                    have em10366 := e10359.resolve_right (fun h9 => h9.1 (by omega))
                    have f10367 := em10366.2.2
                    have em103669 := em10366.2.1
                    rw [(rfl : arI g10351 153 = arI g10351 153)] at f10367
                    refine q_aload_n hM dX12_pieceOfC_99 (lv_at hl 1 rfl) ?_
                    refine q_dup hM dX12_pieceOfC_100 rfl ?_
                    refine w_get (v := .int v10333) hM hW FG_X12_281 lb_129 f10363 dX12_pieceOfC_101 ?_
                    have bv10333 := hG.f f10363 rF_129_9 (by decide)
                    refine q_iconst (v := (1 : Int32)) hM dX12_pieceOfC_104 (by decide) ?_
                    refine q_isub hM dX12_pieceOfC_105 (fun z10368 hz10368 => ?_)
                    first | have tz10368 := i_subT hz10368 (rfl : v10333.toInt = v10333.toInt) (kc_1 : (1 : Int32).toInt = 1) (by omega) (by omega) | skip
                    refine w_put hM hW FP_X12_281 lb_129 (by omega) (Or.inl ⟨_, rfl⟩) rfl rfl dX12_pieceOfC_106 (fun g10369 H locs hW e1 e2 => ?_)
                    have f10370 : fld g10369 129 3 = .int v10330 := (e2.1 129 3 (by unfold Only; omega)).trans f10361
                    have f10371 : fld g10369 129 5 = .int v10331 := (e2.1 129 5 (by unfold Only; omega)).trans f10362
                    have f10372 : fld g10369 129 8 = .int v10334 := (e2.1 129 8 (by unfold Only; omega)).trans f10364
                    have f10373 : arI g10369 155 = arI g10351 155 := (e2.2.1 155 (by unfold Only; omega)).trans f10365
                    have f10374 : fld g10369 129 7 = .int v10357 := (e2.1 129 7 (by unfold Only; omega)).trans q10358
                    have f10375 : arI g10369 153 = upd (arI g10351 153) v10332.toNatClampNeg r10355 := (e2.2.1 153 (by unfold Only; omega)).trans f10367
                    have f10376 : fld g10369 129 9 = .int z10368 := e1
                    have hG := hG.put e1 e2 rF_129_9 (by decide) (by have := i_rng z10368; omega) (by have := i_rng z10368; omega)
                    refine q_aload_n hM dX12_pieceOfC_109 (lv_at hl 1 rfl) ?_
                    refine q_callV (As := []) (rest := []) hM hW.1 hR hC myX12_ends (kAW (v_6_0 (List.mem_of_getElem? (i := 15) rfl)) rfl) (rfl : vwCl[12]? = some (RX12, TX12, 86)) rfl lb_129.1 (shO hW.2.1 lb_129) (a_X12_ends _ _ cA ad g10369 v10331 v10357 z10368 v10334 sa hW.2.1 hG f10371 f10374 f10376 f10372 (by  omega) (by  omega) (by  omega) (by rw [f10375, f10373]; exact JJ_bin (e10349 (by omega)) rfl rfl (by omega) (by omega) (by omega) (by omega) (by omega)) (by rw [f10373]; exact CS_eq (CS_mono cs1 (by have := cs1.2.1; omega) (by omega)) (fun j hj => by rw [e10350 (by omega) j (by omega), a55]; exact upd_low (by omega)))) ⟨by decide, by decide⟩ rfl rfl hl.1 (Nat.le_of_ble_eq_true rfl) dX12_pieceOfC_110 (fun v g10390 H locs hp hW1 => ?_)
                    obtain ⟨v10377, v10378, v10379, rfl, hs1, hG, hf1, q10380, q10381, q10382, e10383, e10384, e10385, e10386, e10387, e10388, e10389⟩ := hp
                    have f10391 : fld g10390 129 3 = .int v10330 := (hf1.1 129 3 (by omega)).trans f10370
                    have f10392 : fld g10390 129 5 = .int v10331 := (hf1.1 129 5 (by omega)).trans f10371
                    have f10393 : arI g10390 155 = arI g10351 155 := (hf1.2.1 155 (by omega)).trans f10373
                    have hW : WS ad cA (fun i k => (i = 129 ∧ (k = 3 ∨ k = 5 ∨ k = 7 ∨ k = 8 ∨ k = 9 ∨ k = 40)) ∨ i = 153 ∨ i = 154 ∨ i = 155) g0 K g10390 H locs := ⟨hW1, hs1, hW.2.2.tr hf1 (fun i k h => h.elim (fun h => (Or.inl (by omega))) (fun h => h.elim (fun h => (Or.inr (Or.inl h))) (fun h => (Or.inr (Or.inr (Or.inl h))))))⟩
                    exact hE _ _ _ _ _ hW.1 ⟨v10330, v10331, v10377, v10378, v10379, rfl, hW.2.1, hG, hW.2.2, f10391, f10392, q10380, q10381, q10382, (by omega), (by omega), (by omega), (by omega), (by omega), (by omega), (by omega), (by omega), (fun q => by have h9 := e10388; rw [← (hf1.2.1 155 (by omega))] at h9; exact h9), (fun q => by have h9 := e10389; rw [← (hf1.2.1 155 (by omega))] at h9; exact h9)⟩ dX12_pieceOfC_113
                  · exact hE _ _ _ _ _ hW.1 ⟨v10330, v10331, v10332, v10333, v10334, rfl, hW.2.1, hG, hW.2.2, q10335, q10336, q10337, q10338, q10339, (by omega), (by omega), (by omega), (by omega), (by omega), (by omega), (by omega), (by omega), (fun q => absurd q (by omega)), (fun q => absurd q (by omega))⟩ dX12_pieceOfC_89
                · refine q_aload_n hM dX12_pieceOfC_63 (lv_at hl 1 rfl) ?_
                  refine q_iconst (v := (1 : Int32)) hM dX12_pieceOfC_64 (by decide) ?_
                  refine q_aload_n hM dX12_pieceOfC_65 (lv_at hl 1 rfl) ?_
                  refine w_get (v := .int v10287) hM hW FG_X12_173 lb_129 q10292 dX12_pieceOfC_66 ?_
                  have bv10287 := hG.f q10292 rF_129_3 (by decide)
                  refine q_callV (As := [.int (1 : Int32), .int v10287]) (rest := []) hM hW.1 hR hC myX12_wrongs (kAW (v_5_9 (List.mem_of_getElem? (i := 11) rfl)) rfl) (rfl : vwCl[12]? = some (RX12, TX12, 86)) rfl lb_129.1 (shO hW.2.1 lb_129) (a_X12_wrongs _ _ cA ad g10308 (1 : Int32) v10287 v10288 hW.2.1 hG q10293 (by have := kc_1; omega) (by have := kc_1; omega) (by have := kc_1; omega) (by have := kc_1; omega)) ⟨by decide, by decide⟩ rfl rfl hl.1 (Nat.le_of_ble_eq_true rfl) dX12_pieceOfC_69 (fun v g10399 H locs hp hW1 => ?_)
                  obtain ⟨v10396, rfl, hs1, hG, hf1, q10397, e10398⟩ := hp
                  have f10400 : fld g10399 129 3 = .int v10287 := (hf1.1 129 3 (by omega)).trans q10292
                  have f10401 : fld g10399 129 7 = .int v10289 := (hf1.1 129 7 (by omega)).trans q10294
                  have f10402 : fld g10399 129 9 = .int v10290 := (hf1.1 129 9 (by omega)).trans q10295
                  have f10403 : fld g10399 129 8 = .int v10291 := (hf1.1 129 8 (by omega)).trans q10296
                  have f10404 : arI g10399 153 = arI g10308 153 := (hf1.2.1 153 (by omega)).trans (rfl : arI g10308 153 = arI g10308 153)
                  have f10405 : arI g10399 155 = arI g10308 155 := (hf1.2.1 155 (by omega)).trans (rfl : arI g10308 155 = arI g10308 155)
                  have hW : WS ad cA (fun i k => (i = 129 ∧ (k = 3 ∨ k = 5 ∨ k = 7 ∨ k = 8 ∨ k = 9 ∨ k = 40)) ∨ i = 153 ∨ i = 154 ∨ i = 155) g0 K g10399 H locs := ⟨hW1, hs1, hW.2.2.tr hf1 (fun i k h => (Or.inl (by omega)))⟩
                  exact hE _ _ _ _ _ hW.1 ⟨v10287, v10396, v10289, v10290, v10291, rfl, hW.2.1, hG, hW.2.2, f10400, q10397, f10401, f10402, f10403, (by omega), (by omega), (by omega), (by omega), (by omega), (by omega), (by omega), (by omega), (fun q => absurd q (by omega)), (fun q => absurd q (by omega))⟩ dX12_pieceOfC_72
              · exact hE _ _ _ _ _ hW.1 ⟨v10287, v10288, v10289, v10290, v10291, rfl, hW.2.1, hG, hW.2.2, q10292, q10293, q10294, q10295, q10296, (by omega), (by omega), (by omega), (by omega), (by omega), (by omega), (by omega), (by omega), (fun q => absurd q (by omega)), (fun q => absurd q (by omega))⟩ dX12_pieceOfC_50
          · refine q_aload_n hM dX12_pieceOfC_25 (lv_at hl 0 rfl) ?_
            refine q_callV (As := []) (rest := []) hM hW.1 hR hC myX12_opens (kAW (v_5_12 (List.mem_of_getElem? (i := 10) rfl)) rfl) (rfl : vwCl[12]? = some (RX12, TX12, 86)) rfl lb_129.1 (shO hW.2.1 lb_129) (a_X12_opens _ _ cA ad g9 pp en bb ss oo hW.2.1 hG c0_129_3 ((hW.2.2.1 129 4 (by omega)).trans h_en) c0_129_5 c0_129_9 c0_129_8 (by  omega) (by  omega) (by  omega) (by  omega) (by  omega) (by  omega)) ⟨by decide, by decide⟩ rfl rfl hl.1 (Nat.le_of_ble_eq_true rfl) dX12_pieceOfC_26 (fun v g10421 H locs hp hW1 => ?_)
            obtain ⟨v10408, v10409, v10410, v10411, rfl, hs1, hG, hf1, q10412, q10413, q10414, q10415, e10416, e10417, e10418, e10419, e10420⟩ := hp
            have f10422 : fld g10421 129 7 = .int co := (hf1.1 129 7 (by omega)).trans c0_129_7
            have f10423 : arI g10421 153 = arI g9 153 := (hf1.2.1 153 (by omega)).trans (rfl : arI g9 153 = arI g9 153)
            have hW : WS ad cA (fun i k => (i = 129 ∧ (k = 3 ∨ k = 5 ∨ k = 7 ∨ k = 8 ∨ k = 9 ∨ k = 40)) ∨ i = 153 ∨ i = 154 ∨ i = 155) g0 K g10421 H locs := ⟨hW1, hs1, hW.2.2.tr hf1 (fun i k h => h.elim (fun h => (Or.inl (by omega))) (fun h => (Or.inr (Or.inr (Or.inr h)))))⟩
            have f10424 := e10420
            rw [← hf1.2.1 130 (by omega), hW.2.2.2.1 130 (by omega)] at f10424
            rw [(rfl : arI g9 155 = arI g9 155)] at f10424
            refine q_goto (tgt := 0) hM dX12_pieceOfC_29 (by decide) ?_
            exact ih0 v10408 v10409 v10410 v10411 _ _ _ _ (by omega) hG (by omega) (by omega) (by omega) (by omega) (by omega) (by omega) (by omega) (fun q => by rw [f10423, f10424]; exact JJ_push (i0_8 (by omega)) rfl rfl (by have := bnd_c (hr (arI g0 130) pp en); omega) (by omega)) (fun q => by rw [f10424]; exact CS_push (i0_9 (by omega)) rfl rfl (by omega) (by omega)) q10412 q10413 q10414 q10415 f10422 (lv_sub hl [0] rfl) hW
  exact L0 _ pl bd sk op _ _ _ _ (Nat.lt_succ_self _) hG (by omega) (by omega) (by omega) (by omega) (by omega) (by omega) (by omega) (fun _ => hJ) (fun _ => hK9) f10117 f10118 f10121 f10120 f10119 (lv_sub hl [0] rfl) hW
