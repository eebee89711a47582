set_option maxRecDepth 100000 in
set_option maxHeartbeats 4000000 in
theorem lc_tried {K : KT} {cA : Nat → ClassId} {ad : Nat → Nat} {b L : Nat} {xs : Nat → Int32} {H : Heap} {locs : List Loc} {ls : Array Slot} {g : Nat → va_E} {i : Int32} (hM : MB K cA code 4 R_law) (hXB : XB K b L xs) (hL : L ≤ 3072) (hR : HasRoom K 2048 84000) (hC : Cells K 600000 7302250) (hP : PI ad cA g) (hRl : RP g) (hi0 : 0 ≤ i.toInt) (hi : i.toInt + 6 ≤ L) (hW : WB NN ad K g H locs) (hl : lv_has ls 4 [(3, .int i), (2, .ref (ad 129)), (1, .ref (ad 0)), (0, .ref b)]) (kk : ∀ (g : Nat → va_E) (H : Heap) (locs : List Loc) (ls : Array Slot), PI ad cA g → RP g → WB NN ad K g H locs → lv_has ls 4 [(3, .int i), (2, .ref (ad 129)), (1, .ref (ad 0)), (0, .ref b)] → XX K 600000 7302250 H locs 1457 ls []) : XX K 600000 7302250 H locs 566 ls [] := by
  have hLn : L < 1000000 := by omega
  obtain ⟨lw, lwn, hlc, h13, h14⟩ := id hP.2.2.1
  refine q_aload_n hM dL_law_566 (lv_at hl 2 rfl) ?_
  refine q_aload_n hM dL_law_567 (lv_at hl 3 rfl) ?_
  refine q_iload_n hM dL_law_568 (lv_at hl 0 rfl) ?_
  refine q_iconst (v := (1 : Int32)) hM dL_law_569 (by decide) ?_
  refine q_iadd hM dL_law_570 (fun z13671 hz13671 => ?_)
  have tz13671 := i_addT hz13671 (rfl : i.toInt = i.toInt) (kc_1 : (1 : Int32).toInt = 1) (by omega) (by omega)
  refine s_iald z13671.toInt.toNat hM hW hXB (by omega) (by omega) (by omega) dL_law_571 ?_
  refine q_top (fun a13672 ha13672 => ?_)
  refine q_aload_n hM dL_law_572 (lv_at hl 3 rfl) ?_
  refine q_iload_n hM dL_law_573 (lv_at hl 0 rfl) ?_
  refine q_iconst (v := (2 : Int32)) hM dL_law_574 (by decide) ?_
  refine q_iadd hM dL_law_575 (fun z13673 hz13673 => ?_)
  have tz13673 := i_addT hz13673 (rfl : i.toInt = i.toInt) (kc_2 : (2 : Int32).toInt = 2) (by omega) (by omega)
  refine s_iald z13673.toInt.toNat hM hW hXB (by omega) (by omega) (by omega) dL_law_576 ?_
  refine q_top (fun a13674 ha13674 => ?_)
  refine q_callV (As := [.int a13672, .int a13674]) (rest := []) hM hW hR hC myX11_tried (kAW (v_2_14 (List.mem_of_getElem? (i := 13) rfl)) rfl) (rfl : vwCl[11]? = some (RX11, TX11, 16)) rfl lb_0.1 (shO hP.1 lb_0) (p_X11_tried _ _ cA ad g a13672 a13674 lw hP.1 hP.2.1 (by unfold isLw; omega) h13) ⟨by decide, by decide⟩ rfl rfl hl.1 (Nat.le_of_ble_eq_true rfl) dL_law_577 (fun v g1 H locs hp hW => ?_)
  obtain ⟨r1, rfl, hs1, hG1, hf1⟩ := hp
  have hP0 := hP
  have hP : PI ad cA g1 := PI_fr hP0 hs1 hG1 hf1 (by omega) (by omega) (by omega) (by omega) (by omega) (by omega) (by omega) (by omega) (by omega)
  refine q_pop hM dL_law_580 rfl ?_
  refine q_aload_n hM dL_law_581 (lv_at hl 1 rfl) ?_
  refine q_aload_n hM dL_law_582 (lv_at hl 3 rfl) ?_
  refine q_iload_n hM dL_law_583 (lv_at hl 0 rfl) ?_
  refine q_iconst (v := (1 : Int32)) hM dL_law_584 (by decide) ?_
  refine q_iadd hM dL_law_585 (fun z13675 hz13675 => ?_)
  have tz13675 := i_addT hz13675 (rfl : i.toInt = i.toInt) (kc_1 : (1 : Int32).toInt = 1) (by omega) (by omega)
  refine s_iald z13675.toInt.toNat hM hW hXB (by omega) (by omega) (by omega) dL_law_586 ?_
  refine q_top (fun a13676 ha13676 => ?_)
  refine q_aload_n hM dL_law_587 (lv_at hl 3 rfl) ?_
  refine q_iload_n hM dL_law_588 (lv_at hl 0 rfl) ?_
  refine q_iconst (v := (2 : Int32)) hM dL_law_589 (by decide) ?_
  refine q_iadd hM dL_law_590 (fun z13677 hz13677 => ?_)
  have tz13677 := i_addT hz13677 (rfl : i.toInt = i.toInt) (kc_2 : (2 : Int32).toInt = 2) (by omega) (by omega)
  refine s_iald z13677.toInt.toNat hM hW hXB (by omega) (by omega) (by omega) dL_law_591 ?_
  refine q_top (fun a13678 ha13678 => ?_)
  refine q_callV (As := [.int a13676, .int a13678]) (rest := []) hM hW hR hC myX12_tried (kAW (v_6_9 (List.mem_of_getElem? (i := 9) rfl)) rfl) (rfl : vwCl[12]? = some (RX12, TX12, 86)) rfl lb_129.1 (shO hP.1 lb_129) (s_X12_tried _ _ cA ad g1 a13676 a13678 (fI g1 129 56) hP.1 hP.2.1 (shI hP.1 lb_129 (by decide) (by decide)) hP.2.2.2.1.1 (fun q hq => by rw [hf1.2.1 158 (by omega)]; exact SM_01 hRl.2.1 q hq)) ⟨by decide, by decide⟩ rfl rfl hl.1 (Nat.le_of_ble_eq_true rfl) dL_law_592 (fun v g2 H locs hp hW => ?_)
  obtain ⟨m0, r2, rfl, hs2, hG2, hf2, cm0, cm1, cm2, cm3, cm4⟩ := hp
  have hP1 := hP
  have hP : PI ad cA g2 := PI_fr hP1 hs2 hG2 hf2 (by first | decide | omega) (by first | decide | omega) (by first | decide | omega) (by first | decide | omega) (by first | decide | omega) (by first | decide | omega) (by first | decide | omega) (by first | decide | omega) (by first | decide | omega)
  have qa13676 : a13676 = a13672 := by rw [ha13676, ha13672]; congr 1; omega
  have qa13678 : a13678 = a13674 := by rw [ha13678, ha13674]; congr 1; omega
  first | rw [qa13676] at cm0 | skip
  first | rw [qa13678] at cm0 | skip
  first | rw [qa13676] at cm1 | skip
  first | rw [qa13678] at cm1 | skip
  first | rw [qa13676] at cm2 | skip
  first | rw [qa13678] at cm2 | skip
  first | rw [qa13676] at cm3 | skip
  first | rw [qa13678] at cm3 | skip
  first | rw [qa13676] at cm4 | skip
  first | rw [qa13678] at cm4 | skip
  refine q_pop hM dL_law_595 rfl ?_
  refine q_goto (tgt := 1457) hM dL_law_596 (by decide) ?_
  exact kk _ _ _ _ hP ⟨(by rw [show fI g2 3 2 = fI g 3 2 from (FRf hf1 hf2 (by omega) (by first | decide | omega)), show arI g2 131 = arI g 131 from ((hf2.2.1 131 (by first | decide | omega)).trans (hf1.2.1 131 (by omega)))]; exact hRl.1), (by rw [show fI g2 18 3 = fI g 18 3 from (FRf hf1 hf2 (by omega) (by first | decide | omega))]; exact SM_cg hRl.2.1 (fun q hq => (cm1 q hq).trans (congrFun (hf1.2.1 158 (by omega)) q))), (by rw [show fI g2 30 3 = fI g 30 3 from (FRf hf1 hf2 (by omega) (by first | decide | omega))]; exact SM_cg hRl.2.2.1 (fun q hq => (cm2 _ (by omega)).trans (congrFun (hf1.2.1 162 (by omega)) (8 + q)))), (((FRf hf1 hf2 (by omega) (by first | decide | omega))).trans (hRl.2.2.2.1.trans ((FRf hf1 hf2 (by omega) (by first | decide | omega))).symm)), ((FRf hf1 hf2 (by omega) (by first | decide | omega)).trans (hRl.2.2.2.2.1.trans ((FR1f hf1 (by omega)).symm.trans (cm4.symm.trans (fI_of cm0).symm)))), ((FRf hf1 hf2 (by omega) (by first | decide | omega)).trans (hRl.2.2.2.2.2.trans ((congrFun (hf1.2.1 166 (by omega)) 1).symm.trans cm3.symm)))⟩ hW hl

set_option maxRecDepth 100000 in
set_option maxHeartbeats 4000000 in
theorem lc_other {K : KT} {cA : Nat → ClassId} {ad : Nat → Nat} {b L : Nat} {xs : Nat → Int32} {H : Heap} {locs : List Loc} {ls : Array Slot} {g : Nat → va_E} {i : Int32} (hM : MB K cA code 4 R_law) (hXB : XB K b L xs) (hL : L ≤ 3072) (hR : HasRoom K 2048 84000) (hC : Cells K 600000 7302250) (hP : PI ad cA g) (hRl : RP g) (hi0 : 0 ≤ i.toInt) (hi : i.toInt + 6 ≤ L) (hW : WB NN ad K g H locs) (hl : lv_has ls 4 [(3, .int i), (2, .ref (ad 129)), (1, .ref (ad 0)), (0, .ref b)]) (kk : ∀ (g : Nat → va_E) (H : Heap) (locs : List Loc) (ls : Array Slot), PI ad cA g → RP g → WB NN ad K g H locs → lv_has ls 4 [(3, .int i), (2, .ref (ad 129)), (1, .ref (ad 0)), (0, .ref b)] → XX K 600000 7302250 H locs 1457 ls []) : XX K 600000 7302250 H locs 599 ls [] := by
  have hLn : L < 1000000 := by omega
  obtain ⟨lw, lwn, hlc, h13, h14⟩ := id hP.2.2.1
  refine q_aload_n hM dL_law_599 (lv_at hl 2 rfl) ?_
  refine q_aload_n hM dL_law_600 (lv_at hl 3 rfl) ?_
  refine q_iload_n hM dL_law_601 (lv_at hl 0 rfl) ?_
  refine q_iconst (v := (1 : Int32)) hM dL_law_602 (by decide) ?_
  refine q_iadd hM dL_law_603 (fun z13679 hz13679 => ?_)
  have tz13679 := i_addT hz13679 (rfl : i.toInt = i.toInt) (kc_1 : (1 : Int32).toInt = 1) (by omega) (by omega)
  refine s_iald z13679.toInt.toNat hM hW hXB (by omega) (by omega) (by omega) dL_law_604 ?_
  refine q_top (fun a13680 ha13680 => ?_)
  refine q_aload_n hM dL_law_605 (lv_at hl 3 rfl) ?_
  refine q_iload_n hM dL_law_606 (lv_at hl 0 rfl) ?_
  refine q_iconst (v := (2 : Int32)) hM dL_law_607 (by decide) ?_
  refine q_iadd hM dL_law_608 (fun z13681 hz13681 => ?_)
  have tz13681 := i_addT hz13681 (rfl : i.toInt = i.toInt) (kc_2 : (2 : Int32).toInt = 2) (by omega) (by omega)
  refine s_iald z13681.toInt.toNat hM hW hXB (by omega) (by omega) (by omega) dL_law_609 ?_
  refine q_top (fun a13682 ha13682 => ?_)
  refine q_callV (As := [.int a13680, .int a13682]) (rest := []) hM hW hR hC myX11_other (kAW (v_3_1 (List.mem_of_getElem? (i := 8) rfl)) rfl) (rfl : vwCl[11]? = some (RX11, TX11, 16)) rfl lb_0.1 (shO hP.1 lb_0) (p_X11_other _ _ cA ad g a13680 a13682  hP.1 hP.2.1) ⟨by decide, by decide⟩ rfl rfl hl.1 (Nat.le_of_ble_eq_true rfl) dL_law_610 (fun v g1 H locs hp hW => ?_)
  obtain ⟨r1, rfl, hs1, hG1, hf1⟩ := hp
  have hP0 := hP
  have hP : PI ad cA g1 := PI_fr hP0 hs1 hG1 hf1 (by first | decide | omega) (by first | decide | omega) (by first | decide | omega) (by first | decide | omega) (by first | decide | omega) (by first | decide | omega) (by first | decide | omega) (by first | decide | omega) (by first | decide | omega)
  refine q_pop hM dL_law_613 rfl ?_
  refine q_aload_n hM dL_law_614 (lv_at hl 1 rfl) ?_
  refine q_aload_n hM dL_law_615 (lv_at hl 3 rfl) ?_
  refine q_iload_n hM dL_law_616 (lv_at hl 0 rfl) ?_
  refine q_iconst (v := (1 : Int32)) hM dL_law_617 (by decide) ?_
  refine q_iadd hM dL_law_618 (fun z13683 hz13683 => ?_)
  have tz13683 := i_addT hz13683 (rfl : i.toInt = i.toInt) (kc_1 : (1 : Int32).toInt = 1) (by omega) (by omega)
  refine s_iald z13683.toInt.toNat hM hW hXB (by omega) (by omega) (by omega) dL_law_619 ?_
  refine q_top (fun a13684 ha13684 => ?_)
  refine q_aload_n hM dL_law_620 (lv_at hl 3 rfl) ?_
  refine q_iload_n hM dL_law_621 (lv_at hl 0 rfl) ?_
  refine q_iconst (v := (2 : Int32)) hM dL_law_622 (by decide) ?_
  refine q_iadd hM dL_law_623 (fun z13685 hz13685 => ?_)
  have tz13685 := i_addT hz13685 (rfl : i.toInt = i.toInt) (kc_2 : (2 : Int32).toInt = 2) (by omega) (by omega)
  refine s_iald z13685.toInt.toNat hM hW hXB (by omega) (by omega) (by omega) dL_law_624 ?_
  refine q_top (fun a13686 ha13686 => ?_)
  refine q_callV (As := [.int a13684, .int a13686]) (rest := []) hM hW hR hC myX12_other (kAW (v_6_10 (List.mem_of_getElem? (i := 14) rfl)) rfl) (rfl : vwCl[12]? = some (RX12, TX12, 86)) rfl lb_129.1 (shO hP.1 lb_129) (s_X12_other _ _ cA ad g1 a13684 a13686 (fI g1 129 56) hP.1 hP.2.1 (shI hP.1 lb_129 (by decide) (by decide)) hP.2.2.2.1.1 (fun q hq => by rw [hf1.2.1 158 (by first | decide | omega)]; exact SM_01 hRl.2.1 q hq)) ⟨by decide, by decide⟩ rfl rfl hl.1 (Nat.le_of_ble_eq_true rfl) dL_law_625 (fun v g2 H locs hp hW => ?_)
  obtain ⟨m0, r2, rfl, hs2, hG2, hf2, cm0, cm1, cm2, cm3, cm4⟩ := hp
  have hP1 := hP
  have hP : PI ad cA g2 := PI_fr hP1 hs2 hG2 hf2 (by first | decide | omega) (by first | decide | omega) (by first | decide | omega) (by first | decide | omega) (by first | decide | omega) (by first | decide | omega) (by first | decide | omega) (by first | decide | omega) (by first | decide | omega)
  have qa13684 : a13684 = a13680 := by rw [ha13684, ha13680]; congr 1; omega
  have qa13686 : a13686 = a13682 := by rw [ha13686, ha13682]; congr 1; omega
  first | rw [qa13684] at cm0 | skip
  first | rw [qa13686] at cm0 | skip
  first | rw [qa13684] at cm1 | skip
  first | rw [qa13686] at cm1 | skip
  first | rw [qa13684] at cm2 | skip
  first | rw [qa13686] at cm2 | skip
  first | rw [qa13684] at cm3 | skip
  first | rw [qa13686] at cm3 | skip
  first | rw [qa13684] at cm4 | skip
  first | rw [qa13686] at cm4 | skip
  refine q_pop hM dL_law_628 rfl ?_
  refine q_goto (tgt := 1457) hM dL_law_629 (by decide) ?_
  exact kk _ _ _ _ hP ⟨(by rw [show fI g2 3 2 = fI g 3 2 from (FRf hf1 hf2 (by first | decide | omega) (by first | decide | omega)), show arI g2 131 = arI g 131 from ((hf2.2.1 131 (by first | decide | omega)).trans (hf1.2.1 131 (by first | decide | omega)))]; exact hRl.1), (by rw [show fI g2 18 3 = fI g 18 3 from (FRf hf1 hf2 (by first | decide | omega) (by first | decide | omega))]; exact SM_cg hRl.2.1 (fun q hq => (cm1 q hq).trans (congrFun (hf1.2.1 158 (by first | decide | omega)) q))), (by rw [show fI g2 30 3 = fI g 30 3 from (FRf hf1 hf2 (by first | decide | omega) (by first | decide | omega))]; exact SM_cg hRl.2.2.1 (fun q hq => (cm2 _ (by omega)).trans (congrFun (hf1.2.1 162 (by first | decide | omega)) (8 + q)))), (((FRf hf1 hf2 (by first | decide | omega) (by first | decide | omega))).trans (hRl.2.2.2.1.trans ((FRf hf1 hf2 (by first | decide | omega) (by first | decide | omega))).symm)), ((FRf hf1 hf2 (by first | decide | omega) (by first | decide | omega)).trans (hRl.2.2.2.2.1.trans ((FR1f hf1 (by first | decide | omega)).symm.trans (cm4.symm.trans (fI_of cm0).symm)))), ((FRf hf1 hf2 (by first | decide | omega) (by first | decide | omega)).trans (hRl.2.2.2.2.2.trans ((congrFun (hf1.2.1 166 (by first | decide | omega)) 1).symm.trans cm3.symm)))⟩ hW hl

set_option maxRecDepth 100000 in
set_option maxHeartbeats 4000000 in
theorem lc_copy {K : KT} {cA : Nat → ClassId} {ad : Nat → Nat} {b L : Nat} {xs : Nat → Int32} {H : Heap} {locs : List Loc} {ls : Array Slot} {g : Nat → va_E} {i : Int32} (hM : MB K cA code 4 R_law) (hXB : XB K b L xs) (hL : L ≤ 3072) (hR : HasRoom K 2048 84000) (hC : Cells K 600000 7302250) (hP : PI ad cA g) (hRl : RP g) (hi0 : 0 ≤ i.toInt) (hi : i.toInt + 6 ≤ L) (hW : WB NN ad K g H locs) (hl : lv_has ls 4 [(3, .int i), (2, .ref (ad 129)), (1, .ref (ad 0)), (0, .ref b)]) (kk : ∀ (g : Nat → va_E) (H : Heap) (locs : List Loc) (ls : Array Slot), PI ad cA g → RP g → WB NN ad K g H locs → lv_has ls 4 [(3, .int i), (2, .ref (ad 129)), (1, .ref (ad 0)), (0, .ref b)] → XX K 600000 7302250 H locs 1457 ls []) : XX K 600000 7302250 H locs 632 ls [] := by
  have hLn : L < 1000000 := by omega
  obtain ⟨lw, lwn, hlc, h13, h14⟩ := id hP.2.2.1
  refine q_aload_n hM dL_law_632 (lv_at hl 2 rfl) ?_
  refine q_callV (As := []) (rest := []) hM hW hR hC myX11_copy (kAW (v_3_1 (List.mem_of_getElem? (i := 12) rfl)) rfl) (rfl : vwCl[11]? = some (RX11, TX11, 16)) rfl lb_0.1 (shO hP.1 lb_0) (p_X11_copy _ _ cA ad g  lw hP.1 hP.2.1 (by unfold isLw; omega) h13) ⟨by decide, by decide⟩ rfl rfl hl.1 (Nat.le_of_ble_eq_true rfl) dL_law_633 (fun v g1 H locs hp hW => ?_)
  obtain ⟨r1, rfl, hs1, hG1, hf1⟩ := hp
  have hP0 := hP
  have hP : PI ad cA g1 := PI_fr hP0 hs1 hG1 hf1 (by first | decide | omega) (by first | decide | omega) (by first | decide | omega) (by first | decide | omega) (by first | decide | omega) (by first | decide | omega) (by first | decide | omega) (by first | decide | omega) (by first | decide | omega)
  refine q_pop hM dL_law_636 rfl ?_
  refine q_aload_n hM dL_law_637 (lv_at hl 1 rfl) ?_
  refine q_callV (As := []) (rest := []) hM hW hR hC myX12_copy (kAW (v_6_1 (List.mem_of_getElem? (i := 11) rfl)) rfl) (rfl : vwCl[12]? = some (RX12, TX12, 86)) rfl lb_129.1 (shO hP.1 lb_129) (p_X12_copy _ _ cA ad g1  (fI g1 129 32) hP.1 hP.2.1 (shI hP.1 lb_129 (by decide) (by decide)) hP.2.2.2.1) ⟨by decide, by decide⟩ rfl rfl hl.1 (Nat.le_of_ble_eq_true rfl) dL_law_638 (fun v g2 H locs hp hW => ?_)
  obtain ⟨r2, rfl, hs2, hG2, hf2, ha2⟩ := hp
  have hP1 := hP
  have hP : PI ad cA g2 := by
    obtain ⟨lw9, lwn9, c9, h139, h149⟩ := hP1.2.2.1
    exact ⟨hs2, hG2, ⟨lw9, lwn9, c9, (hf2.1 0 13 (by omega)).trans h139, (hf2.1 0 14 (by omega)).trans h149⟩, ha2, TB_fr hP1.2.2.2.2 hf2 (by omega)⟩
  refine q_pop hM dL_law_641 rfl ?_
  refine q_goto (tgt := 1457) hM dL_law_642 (by decide) ?_
  exact kk _ _ _ _ hP ⟨(by rw [show fI g2 3 2 = fI g 3 2 from (FRf hf1 hf2 (by first | decide | omega) (by first | decide | omega)), show arI g2 131 = arI g 131 from ((hf2.2.1 131 (by first | decide | omega)).trans (hf1.2.1 131 (by first | decide | omega)))]; exact hRl.1), (by rw [show fI g2 18 3 = fI g 18 3 from (FRf hf1 hf2 (by first | decide | omega) (by first | decide | omega)), show arI g2 158 = arI g 158 from ((hf2.2.1 158 (by first | decide | omega)).trans (hf1.2.1 158 (by first | decide | omega)))]; exact hRl.2.1), (by rw [show fI g2 30 3 = fI g 30 3 from (FRf hf1 hf2 (by first | decide | omega) (by first | decide | omega)), show arI g2 162 = arI g 162 from ((hf2.2.1 162 (by first | decide | omega)).trans (hf1.2.1 162 (by first | decide | omega)))]; exact hRl.2.2.1), (((FRf hf1 hf2 (by first | decide | omega) (by first | decide | omega))).trans (hRl.2.2.2.1.trans ((FRf hf1 hf2 (by first | decide | omega) (by first | decide | omega))).symm)), (((FRf hf1 hf2 (by first | decide | omega) (by first | decide | omega))).trans (hRl.2.2.2.2.1.trans ((FRf hf1 hf2 (by first | decide | omega) (by first | decide | omega))).symm)), (((FRf hf1 hf2 (by first | decide | omega) (by first | decide | omega))).trans (hRl.2.2.2.2.2.trans (congrFun ((hf2.2.1 166 (by first | decide | omega)).trans (hf1.2.1 166 (by first | decide | omega))) 1).symm))⟩ hW hl

set_option maxRecDepth 100000 in
set_option maxHeartbeats 4000000 in
theorem lc_first {K : KT} {cA : Nat → ClassId} {ad : Nat → Nat} {b L : Nat} {xs : Nat → Int32} {H : Heap} {locs : List Loc} {ls : Array Slot} {g : Nat → va_E} {i : Int32} (hM : MB K cA code 4 R_law) (hXB : XB K b L xs) (hL : L ≤ 3072) (hR : HasRoom K 2048 84000) (hC : Cells K 600000 7302250) (hP : PI ad cA g) (hRl : RP g) (hi0 : 0 ≤ i.toInt) (hi : i.toInt + 6 ≤ L) (hW : WB NN ad K g H locs) (hl : lv_has ls 4 [(3, .int i), (2, .ref (ad 129)), (1, .ref (ad 0)), (0, .ref b)]) (kk : ∀ (g : Nat → va_E) (H : Heap) (locs : List Loc) (ls : Array Slot), PI ad cA g → RP g → WB NN ad K g H locs → lv_has ls 4 [(3, .int i), (2, .ref (ad 129)), (1, .ref (ad 0)), (0, .ref b)] → XX K 600000 7302250 H locs 1457 ls []) : XX K 600000 7302250 H locs 645 ls [] := by
  have hLn : L < 1000000 := by omega
  obtain ⟨lw, lwn, hlc, h13, h14⟩ := id hP.2.2.1
  refine q_aload_n hM dL_law_645 (lv_at hl 2 rfl) ?_
  refine q_aload_n hM dL_law_646 (lv_at hl 3 rfl) ?_
  refine q_iload_n hM dL_law_647 (lv_at hl 0 rfl) ?_
  refine q_iconst (v := (1 : Int32)) hM dL_law_648 (by decide) ?_
  refine q_iadd hM dL_law_649 (fun z13687 hz13687 => ?_)
  have tz13687 := i_addT hz13687 (rfl : i.toInt = i.toInt) (kc_1 : (1 : Int32).toInt = 1) (by omega) (by omega)
  refine s_iald z13687.toInt.toNat hM hW hXB (by omega) (by omega) (by omega) dL_law_650 ?_
  refine q_top (fun a13688 ha13688 => ?_)
  refine q_aload_n hM dL_law_651 (lv_at hl 3 rfl) ?_
  refine q_iload_n hM dL_law_652 (lv_at hl 0 rfl) ?_
  refine q_iconst (v := (2 : Int32)) hM dL_law_653 (by decide) ?_
  refine q_iadd hM dL_law_654 (fun z13689 hz13689 => ?_)
  have tz13689 := i_addT hz13689 (rfl : i.toInt = i.toInt) (kc_2 : (2 : Int32).toInt = 2) (by omega) (by omega)
  refine s_iald z13689.toInt.toNat hM hW hXB (by omega) (by omega) (by omega) dL_law_655 ?_
  refine q_top (fun a13690 ha13690 => ?_)
  refine q_aload_n hM dL_law_656 (lv_at hl 3 rfl) ?_
  refine q_iload_n hM dL_law_657 (lv_at hl 0 rfl) ?_
  refine q_iconst (v := (3 : Int32)) hM dL_law_658 (by decide) ?_
  refine q_iadd hM dL_law_659 (fun z13691 hz13691 => ?_)
  have tz13691 := i_addT hz13691 (rfl : i.toInt = i.toInt) (kc_3 : (3 : Int32).toInt = 3) (by omega) (by omega)
  refine s_iald z13691.toInt.toNat hM hW hXB (by omega) (by omega) (by omega) dL_law_660 ?_
  refine q_top (fun a13692 ha13692 => ?_)
  refine q_callV (As := [.int a13688, .int a13690, .int a13692]) (rest := []) hM hW hR hC myX11_first (kAW (v_3_2 (List.mem_of_getElem? (i := 4) rfl)) rfl) (rfl : vwCl[11]? = some (RX11, TX11, 16)) rfl lb_0.1 (shO hP.1 lb_0) (p_X11_first _ _ cA ad g a13688 a13690 a13692 lw hP.1 hP.2.1 (by unfold isLw; omega) h13) ⟨by decide, by decide⟩ rfl rfl hl.1 (Nat.le_of_ble_eq_true rfl) dL_law_661 (fun v g1 H locs hp hW => ?_)
  obtain ⟨r1, rfl, hs1, hG1, hf1⟩ := hp
  have hP0 := hP
  have hP : PI ad cA g1 := PI_fr hP0 hs1 hG1 hf1 (by omega) (by omega) (by omega) (by omega) (by omega) (by omega) (by omega) (by omega) (by omega)
  refine q_pop hM dL_law_664 rfl ?_
  refine q_aload_n hM dL_law_665 (lv_at hl 1 rfl) ?_
  refine q_aload_n hM dL_law_666 (lv_at hl 3 rfl) ?_
  refine q_iload_n hM dL_law_667 (lv_at hl 0 rfl) ?_
  refine q_iconst (v := (1 : Int32)) hM dL_law_668 (by decide) ?_
  refine q_iadd hM dL_law_669 (fun z13693 hz13693 => ?_)
  have tz13693 := i_addT hz13693 (rfl : i.toInt = i.toInt) (kc_1 : (1 : Int32).toInt = 1) (by omega) (by omega)
  refine s_iald z13693.toInt.toNat hM hW hXB (by omega) (by omega) (by omega) dL_law_670 ?_
  refine q_top (fun a13694 ha13694 => ?_)
  refine q_aload_n hM dL_law_671 (lv_at hl 3 rfl) ?_
  refine q_iload_n hM dL_law_672 (lv_at hl 0 rfl) ?_
  refine q_iconst (v := (2 : Int32)) hM dL_law_673 (by decide) ?_
  refine q_iadd hM dL_law_674 (fun z13695 hz13695 => ?_)
  have tz13695 := i_addT hz13695 (rfl : i.toInt = i.toInt) (kc_2 : (2 : Int32).toInt = 2) (by omega) (by omega)
  refine s_iald z13695.toInt.toNat hM hW hXB (by omega) (by omega) (by omega) dL_law_675 ?_
  refine q_top (fun a13696 ha13696 => ?_)
  refine q_aload_n hM dL_law_676 (lv_at hl 3 rfl) ?_
  refine q_iload_n hM dL_law_677 (lv_at hl 0 rfl) ?_
  refine q_iconst (v := (3 : Int32)) hM dL_law_678 (by decide) ?_
  refine q_iadd hM dL_law_679 (fun z13697 hz13697 => ?_)
  have tz13697 := i_addT hz13697 (rfl : i.toInt = i.toInt) (kc_3 : (3 : Int32).toInt = 3) (by omega) (by omega)
  refine s_iald z13697.toInt.toNat hM hW hXB (by omega) (by omega) (by omega) dL_law_680 ?_
  refine q_top (fun a13698 ha13698 => ?_)
  refine q_callV (As := [.int a13694, .int a13696, .int a13698]) (rest := []) hM hW hR hC myX12_first (kAW (v_6_11 (List.mem_of_getElem? (i := 2) rfl)) rfl) (rfl : vwCl[12]? = some (RX12, TX12, 86)) rfl lb_129.1 (shO hP.1 lb_129) (s_X12_first _ _ cA ad g1 a13694 a13696 a13698 (fI g1 129 56) hP.1 hP.2.1 (shI hP.1 lb_129 (by decide) (by decide)) hP.2.2.2.1.1 (fun q hq => by rw [hf1.2.1 158 (by omega)]; exact SM_01 hRl.2.1 q hq)) ⟨by decide, by decide⟩ rfl rfl hl.1 (Nat.le_of_ble_eq_true rfl) dL_law_681 (fun v g2 H locs hp hW => ?_)
  obtain ⟨m0, r2, rfl, hs2, hG2, hf2, cm0, cm1, cm2, cm3, cm4⟩ := hp
  have hP1 := hP
  have hP : PI ad cA g2 := PI_fr hP1 hs2 hG2 hf2 (by first | decide | omega) (by first | decide | omega) (by first | decide | omega) (by first | decide | omega) (by first | decide | omega) (by first | decide | omega) (by first | decide | omega) (by first | decide | omega) (by first | decide | omega)
  have qa13694 : a13694 = a13688 := by rw [ha13694, ha13688]; congr 1; omega
  have qa13696 : a13696 = a13690 := by rw [ha13696, ha13690]; congr 1; omega
  have qa13698 : a13698 = a13692 := by rw [ha13698, ha13692]; congr 1; omega
  first | rw [qa13694] at cm0 | skip
  first | rw [qa13696] at cm0 | skip
  first | rw [qa13698] at cm0 | skip
  first | rw [qa13694] at cm1 | skip
  first | rw [qa13696] at cm1 | skip
  first | rw [qa13698] at cm1 | skip
  first | rw [qa13694] at cm2 | skip
  first | rw [qa13696] at cm2 | skip
  first | rw [qa13698] at cm2 | skip
  first | rw [qa13694] at cm3 | skip
  first | rw [qa13696] at cm3 | skip
  first | rw [qa13698] at cm3 | skip
  first | rw [qa13694] at cm4 | skip
  first | rw [qa13696] at cm4 | skip
  first | rw [qa13698] at cm4 | skip
  refine q_pop hM dL_law_684 rfl ?_
  refine q_goto (tgt := 1457) hM dL_law_685 (by decide) ?_
  exact kk _ _ _ _ hP ⟨(by rw [show fI g2 3 2 = fI g 3 2 from (FRf hf1 hf2 (by omega) (by first | decide | omega)), show arI g2 131 = arI g 131 from ((hf2.2.1 131 (by first | decide | omega)).trans (hf1.2.1 131 (by omega)))]; exact hRl.1), (by rw [show fI g2 18 3 = fI g 18 3 from (FRf hf1 hf2 (by omega) (by first | decide | omega))]; exact SM_cg hRl.2.1 (fun q hq => (cm1 q hq).trans (congrFun (hf1.2.1 158 (by omega)) q))), (by rw [show fI g2 30 3 = fI g 30 3 from (FRf hf1 hf2 (by omega) (by first | decide | omega))]; exact SM_cg hRl.2.2.1 (fun q hq => (cm2 _ (by omega)).trans (congrFun (hf1.2.1 162 (by omega)) (8 + q)))), (((FRf hf1 hf2 (by omega) (by first | decide | omega))).trans (hRl.2.2.2.1.trans ((FRf hf1 hf2 (by omega) (by first | decide | omega))).symm)), ((FRf hf1 hf2 (by omega) (by first | decide | omega)).trans (hRl.2.2.2.2.1.trans ((FR1f hf1 (by omega)).symm.trans (cm4.symm.trans (fI_of cm0).symm)))), ((FRf hf1 hf2 (by omega) (by first | decide | omega)).trans (hRl.2.2.2.2.2.trans ((congrFun (hf1.2.1 166 (by omega)) 1).symm.trans cm3.symm)))⟩ hW hl

set_option maxRecDepth 100000 in
set_option maxHeartbeats 4000000 in
theorem lc_does {K : KT} {cA : Nat → ClassId} {ad : Nat → Nat} {b L : Nat} {xs : Nat → Int32} {H : Heap} {locs : List Loc} {ls : Array Slot} {g : Nat → va_E} {i : Int32} (hM : MB K cA code 4 R_law) (hXB : XB K b L xs) (hL : L ≤ 3072) (hR : HasRoom K 2048 84000) (hC : Cells K 600000 7302250) (hP : PI ad cA g) (hRl : RP g) (hi0 : 0 ≤ i.toInt) (hi : i.toInt + 6 ≤ L) (hW : WB NN ad K g H locs) (hl : lv_has ls 4 [(3, .int i), (2, .ref (ad 129)), (1, .ref (ad 0)), (0, .ref b)]) (kk : ∀ (g : Nat → va_E) (H : Heap) (locs : List Loc) (ls : Array Slot), PI ad cA g → RP g → WB NN ad K g H locs → lv_has ls 4 [(3, .int i), (2, .ref (ad 129)), (1, .ref (ad 0)), (0, .ref b)] → XX K 600000 7302250 H locs 1457 ls []) : XX K 600000 7302250 H locs 688 ls [] := by
  have hLn : L < 1000000 := by omega
  obtain ⟨lw, lwn, hlc, h13, h14⟩ := id hP.2.2.1
  refine q_aload_n hM dL_law_688 (lv_at hl 2 rfl) ?_
  refine q_aload_n hM dL_law_689 (lv_at hl 3 rfl) ?_
  refine q_iload_n hM dL_law_690 (lv_at hl 0 rfl) ?_
  refine q_iconst (v := (1 : Int32)) hM dL_law_691 (by decide) ?_
  refine q_iadd hM dL_law_692 (fun z13699 hz13699 => ?_)
  have tz13699 := i_addT hz13699 (rfl : i.toInt = i.toInt) (kc_1 : (1 : Int32).toInt = 1) (by omega) (by omega)
  refine s_iald z13699.toInt.toNat hM hW hXB (by omega) (by omega) (by omega) dL_law_693 ?_
  refine q_top (fun a13700 ha13700 => ?_)
  refine q_aload_n hM dL_law_694 (lv_at hl 3 rfl) ?_
  refine q_iload_n hM dL_law_695 (lv_at hl 0 rfl) ?_
  refine q_iconst (v := (2 : Int32)) hM dL_law_696 (by decide) ?_
  refine q_iadd hM dL_law_697 (fun z13701 hz13701 => ?_)
  have tz13701 := i_addT hz13701 (rfl : i.toInt = i.toInt) (kc_2 : (2 : Int32).toInt = 2) (by omega) (by omega)
  refine s_iald z13701.toInt.toNat hM hW hXB (by omega) (by omega) (by omega) dL_law_698 ?_
  refine q_top (fun a13702 ha13702 => ?_)
  refine q_callV (As := [.int a13700, .int a13702]) (rest := []) hM hW hR hC myX11_does (kAW (v_3_2 (List.mem_of_getElem? (i := 8) rfl)) rfl) (rfl : vwCl[11]? = some (RX11, TX11, 16)) rfl lb_0.1 (shO hP.1 lb_0) (p_X11_does _ _ cA ad g a13700 a13702 lw hP.1 hP.2.1 (by unfold isLw; omega) h13) ⟨by decide, by decide⟩ rfl rfl hl.1 (Nat.le_of_ble_eq_true rfl) dL_law_699 (fun v g1 H locs hp hW => ?_)
  obtain ⟨r1, rfl, hs1, hG1, hf1⟩ := hp
  have hP0 := hP
  have hP : PI ad cA g1 := PI_fr hP0 hs1 hG1 hf1 (by omega) (by omega) (by omega) (by omega) (by omega) (by omega) (by omega) (by omega) (by omega)
  refine q_pop hM dL_law_702 rfl ?_
  refine q_aload_n hM dL_law_703 (lv_at hl 1 rfl) ?_
  refine q_aload_n hM dL_law_704 (lv_at hl 3 rfl) ?_
  refine q_iload_n hM dL_law_705 (lv_at hl 0 rfl) ?_
  refine q_iconst (v := (1 : Int32)) hM dL_law_706 (by decide) ?_
  refine q_iadd hM dL_law_707 (fun z13703 hz13703 => ?_)
  have tz13703 := i_addT hz13703 (rfl : i.toInt = i.toInt) (kc_1 : (1 : Int32).toInt = 1) (by omega) (by omega)
  refine s_iald z13703.toInt.toNat hM hW hXB (by omega) (by omega) (by omega) dL_law_708 ?_
  refine q_top (fun a13704 ha13704 => ?_)
  refine q_aload_n hM dL_law_709 (lv_at hl 3 rfl) ?_
  refine q_iload_n hM dL_law_710 (lv_at hl 0 rfl) ?_
  refine q_iconst (v := (2 : Int32)) hM dL_law_711 (by decide) ?_
  refine q_iadd hM dL_law_712 (fun z13705 hz13705 => ?_)
  have tz13705 := i_addT hz13705 (rfl : i.toInt = i.toInt) (kc_2 : (2 : Int32).toInt = 2) (by omega) (by omega)
  refine s_iald z13705.toInt.toNat hM hW hXB (by omega) (by omega) (by omega) dL_law_713 ?_
  refine q_top (fun a13706 ha13706 => ?_)
  refine q_callV (As := [.int a13704, .int a13706]) (rest := []) hM hW hR hC myX12_does (kAW (v_6_3 (List.mem_of_getElem? (i := 3) rfl)) rfl) (rfl : vwCl[12]? = some (RX12, TX12, 86)) rfl lb_129.1 (shO hP.1 lb_129) (p_X12_does _ _ cA ad g1 a13704 a13706 hP.1 hP.2.1 hP.2.2.2.1.1) ⟨by decide, by decide⟩ rfl rfl hl.1 (Nat.le_of_ble_eq_true rfl) dL_law_714 (fun v g2 H locs hp hW => ?_)
  obtain ⟨r2, rfl, hs2, hG2, hf2⟩ := hp
  have hP1 := hP
  have hP : PI ad cA g2 := PI_fr hP1 hs2 hG2 hf2 (by first | decide | omega) (by first | decide | omega) (by first | decide | omega) (by first | decide | omega) (by first | decide | omega) (by first | decide | omega) (by first | decide | omega) (by first | decide | omega) (by first | decide | omega)
  have qa13704 : a13704 = a13700 := by rw [ha13704, ha13700]; congr 1; omega
  have qa13706 : a13706 = a13702 := by rw [ha13706, ha13702]; congr 1; omega
  refine q_pop hM dL_law_717 rfl ?_
  refine q_goto (tgt := 1457) hM dL_law_718 (by decide) ?_
  exact kk _ _ _ _ hP ⟨(by rw [show fI g2 3 2 = fI g 3 2 from (FRf hf1 hf2 (by omega) (by first | decide | omega)), show arI g2 131 = arI g 131 from ((hf2.2.1 131 (by first | decide | omega)).trans (hf1.2.1 131 (by omega)))]; exact hRl.1), (by rw [show fI g2 18 3 = fI g 18 3 from (FRf hf1 hf2 (by omega) (by first | decide | omega)), show arI g2 158 = arI g 158 from ((hf2.2.1 158 (by first | decide | omega)).trans (hf1.2.1 158 (by omega)))]; exact hRl.2.1), (by rw [show fI g2 30 3 = fI g 30 3 from (FRf hf1 hf2 (by omega) (by first | decide | omega)), show arI g2 162 = arI g 162 from ((hf2.2.1 162 (by first | decide | omega)).trans (hf1.2.1 162 (by omega)))]; exact hRl.2.2.1), (((FRf hf1 hf2 (by omega) (by first | decide | omega))).trans (hRl.2.2.2.1.trans ((FRf hf1 hf2 (by omega) (by first | decide | omega))).symm)), (((FRf hf1 hf2 (by omega) (by first | decide | omega))).trans (hRl.2.2.2.2.1.trans ((FRf hf1 hf2 (by omega) (by first | decide | omega))).symm)), (((FRf hf1 hf2 (by omega) (by first | decide | omega))).trans (hRl.2.2.2.2.2.trans (congrFun ((hf2.2.1 166 (by first | decide | omega)).trans (hf1.2.1 166 (by omega))) 1).symm))⟩ hW hl

set_option maxRecDepth 100000 in
set_option maxHeartbeats 4000000 in
theorem lc_pupilIs {K : KT} {cA : Nat → ClassId} {ad : Nat → Nat} {b L : Nat} {xs : Nat → Int32} {H : Heap} {locs : List Loc} {ls : Array Slot} {g : Nat → va_E} {i : Int32} (hM : MB K cA code 4 R_law) (hXB : XB K b L xs) (hL : L ≤ 3072) (hR : HasRoom K 2048 84000) (hC : Cells K 600000 7302250) (hP : PI ad cA g) (hRl : RP g) (hi0 : 0 ≤ i.toInt) (hi : i.toInt + 6 ≤ L) (hW : WB NN ad K g H locs) (hl : lv_has ls 4 [(3, .int i), (2, .ref (ad 129)), (1, .ref (ad 0)), (0, .ref b)]) (kk : ∀ (g : Nat → va_E) (H : Heap) (locs : List Loc) (ls : Array Slot), PI ad cA g → RP g → WB NN ad K g H locs → lv_has ls 4 [(3, .int i), (2, .ref (ad 129)), (1, .ref (ad 0)), (0, .ref b)] → XX K 600000 7302250 H locs 1457 ls []) : XX K 600000 7302250 H locs 721 ls [] := by
  have hLn : L < 1000000 := by omega
  obtain ⟨lw, lwn, hlc, h13, h14⟩ := id hP.2.2.1
  refine q_aload_n hM dL_law_721 (lv_at hl 2 rfl) ?_
  refine q_aload_n hM dL_law_722 (lv_at hl 3 rfl) ?_
  refine q_iload_n hM dL_law_723 (lv_at hl 0 rfl) ?_
  refine q_iconst (v := (1 : Int32)) hM dL_law_724 (by decide) ?_
  refine q_iadd hM dL_law_725 (fun z13707 hz13707 => ?_)
  have tz13707 := i_addT hz13707 (rfl : i.toInt = i.toInt) (kc_1 : (1 : Int32).toInt = 1) (by omega) (by omega)
  refine s_iald z13707.toInt.toNat hM hW hXB (by omega) (by omega) (by omega) dL_law_726 ?_
  refine q_top (fun a13708 ha13708 => ?_)
  refine q_aload_n hM dL_law_727 (lv_at hl 3 rfl) ?_
  refine q_iload_n hM dL_law_728 (lv_at hl 0 rfl) ?_
  refine q_iconst (v := (2 : Int32)) hM dL_law_729 (by decide) ?_
  refine q_iadd hM dL_law_730 (fun z13709 hz13709 => ?_)
  have tz13709 := i_addT hz13709 (rfl : i.toInt = i.toInt) (kc_2 : (2 : Int32).toInt = 2) (by omega) (by omega)
  refine s_iald z13709.toInt.toNat hM hW hXB (by omega) (by omega) (by omega) dL_law_731 ?_
  refine q_top (fun a13710 ha13710 => ?_)
  refine q_callV (As := [.int a13708, .int a13710]) (rest := []) hM hW hR hC myX11_pupilIs (kAW (v_3_2 (List.mem_of_getElem? (i := 13) rfl)) rfl) (rfl : vwCl[11]? = some (RX11, TX11, 16)) rfl lb_0.1 (shO hP.1 lb_0) (p_X11_pupilIs _ _ cA ad g a13708 a13710  hP.1 hP.2.1) ⟨by decide, by decide⟩ rfl rfl hl.1 (Nat.le_of_ble_eq_true rfl) dL_law_732 (fun v g1 H locs hp hW => ?_)
  obtain ⟨r1, rfl, hs1, hG1, hf1⟩ := hp
  have hP0 := hP
  have hP : PI ad cA g1 := PI_fr hP0 hs1 hG1 hf1 (fun h => h) (fun h => h) (fun h => h) (fun h => h) (fun h => h) (fun h => h) (fun h => h) (fun h => h) (fun h => h)
  refine q_pop hM dL_law_735 rfl ?_
  refine q_aload_n hM dL_law_736 (lv_at hl 1 rfl) ?_
  refine q_aload_n hM dL_law_737 (lv_at hl 3 rfl) ?_
  refine q_iload_n hM dL_law_738 (lv_at hl 0 rfl) ?_
  refine q_iconst (v := (1 : Int32)) hM dL_law_739 (by decide) ?_
  refine q_iadd hM dL_law_740 (fun z13711 hz13711 => ?_)
  have tz13711 := i_addT hz13711 (rfl : i.toInt = i.toInt) (kc_1 : (1 : Int32).toInt = 1) (by omega) (by omega)
  refine s_iald z13711.toInt.toNat hM hW hXB (by omega) (by omega) (by omega) dL_law_741 ?_
  refine q_top (fun a13712 ha13712 => ?_)
  refine q_aload_n hM dL_law_742 (lv_at hl 3 rfl) ?_
  refine q_iload_n hM dL_law_743 (lv_at hl 0 rfl) ?_
  refine q_iconst (v := (2 : Int32)) hM dL_law_744 (by decide) ?_
  refine q_iadd hM dL_law_745 (fun z13713 hz13713 => ?_)
  have tz13713 := i_addT hz13713 (rfl : i.toInt = i.toInt) (kc_2 : (2 : Int32).toInt = 2) (by omega) (by omega)
  refine s_iald z13713.toInt.toNat hM hW hXB (by omega) (by omega) (by omega) dL_law_746 ?_
  refine q_top (fun a13714 ha13714 => ?_)
  refine q_callV (As := [.int a13712, .int a13714]) (rest := []) hM hW hR hC myX12_pupilIs (kAW (v_6_11 (List.mem_of_getElem? (i := 6) rfl)) rfl) (rfl : vwCl[12]? = some (RX12, TX12, 86)) rfl lb_129.1 (shO hP.1 lb_129) (p_X12_pupilIs _ _ cA ad g1 a13712 a13714 hP.1 hP.2.1) ⟨by decide, by decide⟩ rfl rfl hl.1 (Nat.le_of_ble_eq_true rfl) dL_law_747 (fun v g2 H locs hp hW => ?_)
  obtain ⟨r2, rfl, hs2, hG2, hf2⟩ := hp
  have hP1 := hP
  have hP : PI ad cA g2 := PI_fr hP1 hs2 hG2 hf2 (fun h => h) (fun h => h) (fun h => h) (fun h => h) (fun h => h) (fun h => h) (fun h => h) (fun h => h) (fun h => h)
  have qa13712 : a13712 = a13708 := by rw [ha13712, ha13708]; congr 1; omega
  have qa13714 : a13714 = a13710 := by rw [ha13714, ha13710]; congr 1; omega
  refine q_pop hM dL_law_750 rfl ?_
  refine q_goto (tgt := 1457) hM dL_law_751 (by decide) ?_
  exact kk _ _ _ _ hP ⟨(by rw [show fI g2 3 2 = fI g 3 2 from (FRf hf1 hf2 (fun h => h) (fun h => h)), show arI g2 131 = arI g 131 from ((hf2.2.1 131 (fun h => h)).trans (hf1.2.1 131 (fun h => h)))]; exact hRl.1), (by rw [show fI g2 18 3 = fI g 18 3 from (FRf hf1 hf2 (fun h => h) (fun h => h)), show arI g2 158 = arI g 158 from ((hf2.2.1 158 (fun h => h)).trans (hf1.2.1 158 (fun h => h)))]; exact hRl.2.1), (by rw [show fI g2 30 3 = fI g 30 3 from (FRf hf1 hf2 (fun h => h) (fun h => h)), show arI g2 162 = arI g 162 from ((hf2.2.1 162 (fun h => h)).trans (hf1.2.1 162 (fun h => h)))]; exact hRl.2.2.1), (((FRf hf1 hf2 (fun h => h) (fun h => h))).trans (hRl.2.2.2.1.trans ((FRf hf1 hf2 (fun h => h) (fun h => h))).symm)), (((FRf hf1 hf2 (fun h => h) (fun h => h))).trans (hRl.2.2.2.2.1.trans ((FRf hf1 hf2 (fun h => h) (fun h => h))).symm)), (((FRf hf1 hf2 (fun h => h) (fun h => h))).trans (hRl.2.2.2.2.2.trans (congrFun ((hf2.2.1 166 (fun h => h)).trans (hf1.2.1 166 (fun h => h))) 1).symm))⟩ hW hl

set_option maxRecDepth 100000 in
set_option maxHeartbeats 4000000 in
theorem lc_strength {K : KT} {cA : Nat → ClassId} {ad : Nat → Nat} {b L : Nat} {xs : Nat → Int32} {H : Heap} {locs : List Loc} {ls : Array Slot} {g : Nat → va_E} {i : Int32} (hM : MB K cA code 4 R_law) (hXB : XB K b L xs) (hL : L ≤ 3072) (hR : HasRoom K 2048 84000) (hC : Cells K 600000 7302250) (hP : PI ad cA g) (hRl : RP g) (hi0 : 0 ≤ i.toInt) (hi : i.toInt + 6 ≤ L) (hW : WB NN ad K g H locs) (hl : lv_has ls 4 [(3, .int i), (2, .ref (ad 129)), (1, .ref (ad 0)), (0, .ref b)]) (kk : ∀ (g : Nat → va_E) (H : Heap) (locs : List Loc) (ls : Array Slot), PI ad cA g → RP g → WB NN ad K g H locs → lv_has ls 4 [(3, .int i), (2, .ref (ad 129)), (1, .ref (ad 0)), (0, .ref b)] → XX K 600000 7302250 H locs 1457 ls []) : XX K 600000 7302250 H locs 754 ls [] := by
  have hLn : L < 1000000 := by omega
  obtain ⟨lw, lwn, hlc, h13, h14⟩ := id hP.2.2.1
  refine q_aload_n hM dL_law_754 (lv_at hl 2 rfl) ?_
  refine q_aload_n hM dL_law_755 (lv_at hl 3 rfl) ?_
  refine q_iload_n hM dL_law_756 (lv_at hl 0 rfl) ?_
  refine q_iconst (v := (1 : Int32)) hM dL_law_757 (by decide) ?_
  refine q_iadd hM dL_law_758 (fun z13715 hz13715 => ?_)
  have tz13715 := i_addT hz13715 (rfl : i.toInt = i.toInt) (kc_1 : (1 : Int32).toInt = 1) (by omega) (by omega)
  refine s_iald z13715.toInt.toNat hM hW hXB (by omega) (by omega) (by omega) dL_law_759 ?_
  refine q_top (fun a13716 ha13716 => ?_)
  refine q_aload_n hM dL_law_760 (lv_at hl 3 rfl) ?_
  refine q_iload_n hM dL_law_761 (lv_at hl 0 rfl) ?_
  refine q_iconst (v := (2 : Int32)) hM dL_law_762 (by decide) ?_
  refine q_iadd hM dL_law_763 (fun z13717 hz13717 => ?_)
  have tz13717 := i_addT hz13717 (rfl : i.toInt = i.toInt) (kc_2 : (2 : Int32).toInt = 2) (by omega) (by omega)
  refine s_iald z13717.toInt.toNat hM hW hXB (by omega) (by omega) (by omega) dL_law_764 ?_
  refine q_top (fun a13718 ha13718 => ?_)
  refine q_callV (As := [.int a13716, .int a13718]) (rest := []) hM hW hR hC myX11_strength (kAW (v_3_3 (List.mem_of_getElem? (i := 9) rfl)) rfl) (rfl : vwCl[11]? = some (RX11, TX11, 16)) rfl lb_0.1 (shO hP.1 lb_0) (p_X11_strength _ _ cA ad g a13716 a13718  hP.1 hP.2.1) ⟨by decide, by decide⟩ rfl rfl hl.1 (Nat.le_of_ble_eq_true rfl) dL_law_765 (fun v g1 H locs hp hW => ?_)
  obtain ⟨r1, rfl, hs1, hG1, hf1⟩ := hp
  have hP0 := hP
  have hP : PI ad cA g1 := PI_fr hP0 hs1 hG1 hf1 (fun h => h) (fun h => h) (fun h => h) (fun h => h) (fun h => h) (fun h => h) (fun h => h) (fun h => h) (fun h => h)
  refine q_pop hM dL_law_768 rfl ?_
  refine q_aload_n hM dL_law_769 (lv_at hl 1 rfl) ?_
  refine q_aload_n hM dL_law_770 (lv_at hl 3 rfl) ?_
  refine q_iload_n hM dL_law_771 (lv_at hl 0 rfl) ?_
  refine q_iconst (v := (1 : Int32)) hM dL_law_772 (by decide) ?_
  refine q_iadd hM dL_law_773 (fun z13719 hz13719 => ?_)
  have tz13719 := i_addT hz13719 (rfl : i.toInt = i.toInt) (kc_1 : (1 : Int32).toInt = 1) (by omega) (by omega)
  refine s_iald z13719.toInt.toNat hM hW hXB (by omega) (by omega) (by omega) dL_law_774 ?_
  refine q_top (fun a13720 ha13720 => ?_)
  refine q_aload_n hM dL_law_775 (lv_at hl 3 rfl) ?_
  refine q_iload_n hM dL_law_776 (lv_at hl 0 rfl) ?_
  refine q_iconst (v := (2 : Int32)) hM dL_law_777 (by decide) ?_
  refine q_iadd hM dL_law_778 (fun z13721 hz13721 => ?_)
  have tz13721 := i_addT hz13721 (rfl : i.toInt = i.toInt) (kc_2 : (2 : Int32).toInt = 2) (by omega) (by omega)
  refine s_iald z13721.toInt.toNat hM hW hXB (by omega) (by omega) (by omega) dL_law_779 ?_
  refine q_top (fun a13722 ha13722 => ?_)
  refine q_callV (As := [.int a13720, .int a13722]) (rest := []) hM hW hR hC myX12_strength (kAW (v_6_12 (List.mem_of_getElem? (i := 2) rfl)) rfl) (rfl : vwCl[12]? = some (RX12, TX12, 86)) rfl lb_129.1 (shO hP.1 lb_129) (p_X12_strength _ _ cA ad g1 a13720 a13722 hP.1 hP.2.1) ⟨by decide, by decide⟩ rfl rfl hl.1 (Nat.le_of_ble_eq_true rfl) dL_law_780 (fun v g2 H locs hp hW => ?_)
  obtain ⟨r2, rfl, hs2, hG2, hf2⟩ := hp
  have hP1 := hP
  have hP : PI ad cA g2 := PI_fr hP1 hs2 hG2 hf2 (fun h => h) (fun h => h) (fun h => h) (fun h => h) (fun h => h) (fun h => h) (fun h => h) (fun h => h) (fun h => h)
  have qa13720 : a13720 = a13716 := by rw [ha13720, ha13716]; congr 1; omega
  have qa13722 : a13722 = a13718 := by rw [ha13722, ha13718]; congr 1; omega
  refine q_pop hM dL_law_783 rfl ?_
  refine q_goto (tgt := 1457) hM dL_law_784 (by decide) ?_
  exact kk _ _ _ _ hP ⟨(by rw [show fI g2 3 2 = fI g 3 2 from (FRf hf1 hf2 (fun h => h) (fun h => h)), show arI g2 131 = arI g 131 from ((hf2.2.1 131 (fun h => h)).trans (hf1.2.1 131 (fun h => h)))]; exact hRl.1), (by rw [show fI g2 18 3 = fI g 18 3 from (FRf hf1 hf2 (fun h => h) (fun h => h)), show arI g2 158 = arI g 158 from ((hf2.2.1 158 (fun h => h)).trans (hf1.2.1 158 (fun h => h)))]; exact hRl.2.1), (by rw [show fI g2 30 3 = fI g 30 3 from (FRf hf1 hf2 (fun h => h) (fun h => h)), show arI g2 162 = arI g 162 from ((hf2.2.1 162 (fun h => h)).trans (hf1.2.1 162 (fun h => h)))]; exact hRl.2.2.1), (((FRf hf1 hf2 (fun h => h) (fun h => h))).trans (hRl.2.2.2.1.trans ((FRf hf1 hf2 (fun h => h) (fun h => h))).symm)), (((FRf hf1 hf2 (fun h => h) (fun h => h))).trans (hRl.2.2.2.2.1.trans ((FRf hf1 hf2 (fun h => h) (fun h => h))).symm)), (((FRf hf1 hf2 (fun h => h) (fun h => h))).trans (hRl.2.2.2.2.2.trans (congrFun ((hf2.2.1 166 (fun h => h)).trans (hf1.2.1 166 (fun h => h))) 1).symm))⟩ hW hl

set_option maxRecDepth 100000 in
set_option maxHeartbeats 4000000 in
theorem lc_heard {K : KT} {cA : Nat → ClassId} {ad : Nat → Nat} {b L : Nat} {xs : Nat → Int32} {H : Heap} {locs : List Loc} {ls : Array Slot} {g : Nat → va_E} {i : Int32} (hM : MB K cA code 4 R_law) (hXB : XB K b L xs) (hL : L ≤ 3072) (hR : HasRoom K 2048 84000) (hC : Cells K 600000 7302250) (hP : PI ad cA g) (hRl : RP g) (hi0 : 0 ≤ i.toInt) (hi : i.toInt + 6 ≤ L) (hW : WB NN ad K g H locs) (hl : lv_has ls 4 [(3, .int i), (2, .ref (ad 129)), (1, .ref (ad 0)), (0, .ref b)]) (kk : ∀ (g : Nat → va_E) (H : Heap) (locs : List Loc) (ls : Array Slot), PI ad cA g → RP g → WB NN ad K g H locs → lv_has ls 4 [(3, .int i), (2, .ref (ad 129)), (1, .ref (ad 0)), (0, .ref b)] → XX K 600000 7302250 H locs 1457 ls []) : XX K 600000 7302250 H locs 787 ls [] := by
  have hLn : L < 1000000 := by omega
  obtain ⟨lw, lwn, hlc, h13, h14⟩ := id hP.2.2.1
  refine q_aload_n hM dL_law_787 (lv_at hl 2 rfl) ?_
  refine q_aload_n hM dL_law_788 (lv_at hl 3 rfl) ?_
  refine q_iload_n hM dL_law_789 (lv_at hl 0 rfl) ?_
  refine q_iconst (v := (1 : Int32)) hM dL_law_790 (by decide) ?_
  refine q_iadd hM dL_law_791 (fun z13723 hz13723 => ?_)
  have tz13723 := i_addT hz13723 (rfl : i.toInt = i.toInt) (kc_1 : (1 : Int32).toInt = 1) (by omega) (by omega)
  refine s_iald z13723.toInt.toNat hM hW hXB (by omega) (by omega) (by omega) dL_law_792 ?_
  refine q_top (fun a13724 ha13724 => ?_)
  refine q_aload_n hM dL_law_793 (lv_at hl 3 rfl) ?_
  refine q_iload_n hM dL_law_794 (lv_at hl 0 rfl) ?_
  refine q_iconst (v := (2 : Int32)) hM dL_law_795 (by decide) ?_
  refine q_iadd hM dL_law_796 (fun z13725 hz13725 => ?_)
  have tz13725 := i_addT hz13725 (rfl : i.toInt = i.toInt) (kc_2 : (2 : Int32).toInt = 2) (by omega) (by omega)
  refine s_iald z13725.toInt.toNat hM hW hXB (by omega) (by omega) (by omega) dL_law_797 ?_
  refine q_top (fun a13726 ha13726 => ?_)
  refine q_callV (As := [.int a13724, .int a13726]) (rest := []) hM hW hR hC myX11_heard (kAW (v_3_3 (List.mem_of_getElem? (i := 13) rfl)) rfl) (rfl : vwCl[11]? = some (RX11, TX11, 16)) rfl lb_0.1 (shO hP.1 lb_0) (p_X11_heard _ _ cA ad g a13724 a13726  hP.1 hP.2.1) ⟨by decide, by decide⟩ rfl rfl hl.1 (Nat.le_of_ble_eq_true rfl) dL_law_798 (fun v g1 H locs hp hW => ?_)
  obtain ⟨r1, rfl, hs1, hG1, hf1⟩ := hp
  have hP0 := hP
  have hP : PI ad cA g1 := PI_fr hP0 hs1 hG1 hf1 (fun h => h) (fun h => h) (fun h => h) (fun h => h) (fun h => h) (fun h => h) (fun h => h) (fun h => h) (fun h => h)
  refine q_pop hM dL_law_801 rfl ?_
  refine q_aload_n hM dL_law_802 (lv_at hl 1 rfl) ?_
  refine q_aload_n hM dL_law_803 (lv_at hl 3 rfl) ?_
  refine q_iload_n hM dL_law_804 (lv_at hl 0 rfl) ?_
  refine q_iconst (v := (1 : Int32)) hM dL_law_805 (by decide) ?_
  refine q_iadd hM dL_law_806 (fun z13727 hz13727 => ?_)
  have tz13727 := i_addT hz13727 (rfl : i.toInt = i.toInt) (kc_1 : (1 : Int32).toInt = 1) (by omega) (by omega)
  refine s_iald z13727.toInt.toNat hM hW hXB (by omega) (by omega) (by omega) dL_law_807 ?_
  refine q_top (fun a13728 ha13728 => ?_)
  refine q_aload_n hM dL_law_808 (lv_at hl 3 rfl) ?_
  refine q_iload_n hM dL_law_809 (lv_at hl 0 rfl) ?_
  refine q_iconst (v := (2 : Int32)) hM dL_law_810 (by decide) ?_
  refine q_iadd hM dL_law_811 (fun z13729 hz13729 => ?_)
  have tz13729 := i_addT hz13729 (rfl : i.toInt = i.toInt) (kc_2 : (2 : Int32).toInt = 2) (by omega) (by omega)
  refine s_iald z13729.toInt.toNat hM hW hXB (by omega) (by omega) (by omega) dL_law_812 ?_
  refine q_top (fun a13730 ha13730 => ?_)
  refine q_callV (As := [.int a13728, .int a13730]) (rest := []) hM hW hR hC myX12_heard (kAW (v_6_7 (List.mem_of_getElem? (i := 1) rfl)) rfl) (rfl : vwCl[12]? = some (RX12, TX12, 86)) rfl lb_129.1 (shO hP.1 lb_129) (p_X12_heard _ _ cA ad g1 a13728 a13730 hP.1 hP.2.1) ⟨by decide, by decide⟩ rfl rfl hl.1 (Nat.le_of_ble_eq_true rfl) dL_law_813 (fun v g2 H locs hp hW => ?_)
  obtain ⟨r2, rfl, hs2, hG2, hf2⟩ := hp
  have hP1 := hP
  have hP : PI ad cA g2 := PI_fr hP1 hs2 hG2 hf2 (fun h => h) (fun h => h) (fun h => h) (fun h => h) (fun h => h) (fun h => h) (fun h => h) (fun h => h) (fun h => h)
  have qa13728 : a13728 = a13724 := by rw [ha13728, ha13724]; congr 1; omega
  have qa13730 : a13730 = a13726 := by rw [ha13730, ha13726]; congr 1; omega
  refine q_pop hM dL_law_816 rfl ?_
  refine q_goto (tgt := 1457) hM dL_law_817 (by decide) ?_
  exact kk _ _ _ _ hP ⟨(by rw [show fI g2 3 2 = fI g 3 2 from (FRf hf1 hf2 (fun h => h) (fun h => h)), show arI g2 131 = arI g 131 from ((hf2.2.1 131 (fun h => h)).trans (hf1.2.1 131 (fun h => h)))]; exact hRl.1), (by rw [show fI g2 18 3 = fI g 18 3 from (FRf hf1 hf2 (fun h => h) (fun h => h)), show arI g2 158 = arI g 158 from ((hf2.2.1 158 (fun h => h)).trans (hf1.2.1 158 (fun h => h)))]; exact hRl.2.1), (by rw [show fI g2 30 3 = fI g 30 3 from (FRf hf1 hf2 (fun h => h) (fun h => h)), show arI g2 162 = arI g 162 from ((hf2.2.1 162 (fun h => h)).trans (hf1.2.1 162 (fun h => h)))]; exact hRl.2.2.1), (((FRf hf1 hf2 (fun h => h) (fun h => h))).trans (hRl.2.2.2.1.trans ((FRf hf1 hf2 (fun h => h) (fun h => h))).symm)), (((FRf hf1 hf2 (fun h => h) (fun h => h))).trans (hRl.2.2.2.2.1.trans ((FRf hf1 hf2 (fun h => h) (fun h => h))).symm)), (((FRf hf1 hf2 (fun h => h) (fun h => h))).trans (hRl.2.2.2.2.2.trans (congrFun ((hf2.2.1 166 (fun h => h)).trans (hf1.2.1 166 (fun h => h))) 1).symm))⟩ hW hl

set_option maxRecDepth 100000 in
set_option maxHeartbeats 4000000 in
theorem lc_order {K : KT} {cA : Nat → ClassId} {ad : Nat → Nat} {b L : Nat} {xs : Nat → Int32} {H : Heap} {locs : List Loc} {ls : Array Slot} {g : Nat → va_E} {i : Int32} (hM : MB K cA code 4 R_law) (hXB : XB K b L xs) (hL : L ≤ 3072) (hR : HasRoom K 2048 84000) (hC : Cells K 600000 7302250) (hP : PI ad cA g) (hRl : RP g) (hi0 : 0 ≤ i.toInt) (hi : i.toInt + 6 ≤ L) (hW : WB NN ad K g H locs) (hl : lv_has ls 4 [(3, .int i), (2, .ref (ad 129)), (1, .ref (ad 0)), (0, .ref b)]) (kk : ∀ (g : Nat → va_E) (H : Heap) (locs : List Loc) (ls : Array Slot), PI ad cA g → RP g → WB NN ad K g H locs → lv_has ls 4 [(3, .int i), (2, .ref (ad 129)), (1, .ref (ad 0)), (0, .ref b)] → XX K 600000 7302250 H locs 1457 ls []) : XX K 600000 7302250 H locs 820 ls [] := by
  have hLn : L < 1000000 := by omega
  obtain ⟨lw, lwn, hlc, h13, h14⟩ := id hP.2.2.1
  refine q_aload_n hM dL_law_820 (lv_at hl 2 rfl) ?_
  refine q_aload_n hM dL_law_821 (lv_at hl 3 rfl) ?_
  refine q_iload_n hM dL_law_822 (lv_at hl 0 rfl) ?_
  refine q_iconst (v := (1 : Int32)) hM dL_law_823 (by decide) ?_
  refine q_iadd hM dL_law_824 (fun z13731 hz13731 => ?_)
  have tz13731 := i_addT hz13731 (rfl : i.toInt = i.toInt) (kc_1 : (1 : Int32).toInt = 1) (by omega) (by omega)
  refine s_iald z13731.toInt.toNat hM hW hXB (by omega) (by omega) (by omega) dL_law_825 ?_
  refine q_top (fun a13732 ha13732 => ?_)
  refine q_aload_n hM dL_law_826 (lv_at hl 3 rfl) ?_
  refine q_iload_n hM dL_law_827 (lv_at hl 0 rfl) ?_
  refine q_iconst (v := (2 : Int32)) hM dL_law_828 (by decide) ?_
  refine q_iadd hM dL_law_829 (fun z13733 hz13733 => ?_)
  have tz13733 := i_addT hz13733 (rfl : i.toInt = i.toInt) (kc_2 : (2 : Int32).toInt = 2) (by omega) (by omega)
  refine s_iald z13733.toInt.toNat hM hW hXB (by omega) (by omega) (by omega) dL_law_830 ?_
  refine q_top (fun a13734 ha13734 => ?_)
  refine q_aload_n hM dL_law_831 (lv_at hl 3 rfl) ?_
  refine q_iload_n hM dL_law_832 (lv_at hl 0 rfl) ?_
  refine q_iconst (v := (3 : Int32)) hM dL_law_833 (by decide) ?_
  refine q_iadd hM dL_law_834 (fun z13735 hz13735 => ?_)
  have tz13735 := i_addT hz13735 (rfl : i.toInt = i.toInt) (kc_3 : (3 : Int32).toInt = 3) (by omega) (by omega)
  refine s_iald z13735.toInt.toNat hM hW hXB (by omega) (by omega) (by omega) dL_law_835 ?_
  refine q_top (fun a13736 ha13736 => ?_)
  refine q_aload_n hM dL_law_836 (lv_at hl 3 rfl) ?_
  refine q_iload_n hM dL_law_837 (lv_at hl 0 rfl) ?_
  refine q_iconst (v := (4 : Int32)) hM dL_law_838 (by decide) ?_
  refine q_iadd hM dL_law_839 (fun z13737 hz13737 => ?_)
  have tz13737 := i_addT hz13737 (rfl : i.toInt = i.toInt) (kc_4 : (4 : Int32).toInt = 4) (by omega) (by omega)
  refine s_iald z13737.toInt.toNat hM hW hXB (by omega) (by omega) (by omega) dL_law_840 ?_
  refine q_top (fun a13738 ha13738 => ?_)
  refine q_aload_n hM dL_law_841 (lv_at hl 3 rfl) ?_
  refine q_iload_n hM dL_law_842 (lv_at hl 0 rfl) ?_
  refine q_iconst (v := (5 : Int32)) hM dL_law_843 (by decide) ?_
  refine q_iadd hM dL_law_844 (fun z13739 hz13739 => ?_)
  have tz13739 := i_addT hz13739 (rfl : i.toInt = i.toInt) (kc_5 : (5 : Int32).toInt = 5) (by omega) (by omega)
  refine s_iald z13739.toInt.toNat hM hW hXB (by omega) (by omega) (by omega) dL_law_845 ?_
  refine q_top (fun a13740 ha13740 => ?_)
  refine q_callV (As := [.int a13732, .int a13734, .int a13736, .int a13738, .int a13740]) (rest := []) hM hW hR hC myX11_order (kAW (v_3_4 (List.mem_of_getElem? (i := 2) rfl)) rfl) (rfl : vwCl[11]? = some (RX11, TX11, 16)) rfl lb_0.1 (shO hP.1 lb_0) (p_X11_order _ _ cA ad g a13732 a13734 a13736 a13738 a13740 lw hP.1 hP.2.1 (by unfold isLw; omega) h13) ⟨by decide, by decide⟩ rfl rfl hl.1 (Nat.le_of_ble_eq_true rfl) dL_law_846 (fun v g1 H locs hp hW => ?_)
  obtain ⟨r1, rfl, hs1, hG1, hf1⟩ := hp
  have hP0 := hP
  have hP : PI ad cA g1 := PI_fr hP0 hs1 hG1 hf1 (by omega) (by omega) (by omega) (by omega) (by omega) (by omega) (by omega) (by omega) (by omega)
  refine q_pop hM dL_law_849 rfl ?_
  refine q_aload_n hM dL_law_850 (lv_at hl 1 rfl) ?_
  refine q_aload_n hM dL_law_851 (lv_at hl 3 rfl) ?_
  refine q_iload_n hM dL_law_852 (lv_at hl 0 rfl) ?_
  refine q_iconst (v := (1 : Int32)) hM dL_law_853 (by decide) ?_
  refine q_iadd hM dL_law_854 (fun z13741 hz13741 => ?_)
  have tz13741 := i_addT hz13741 (rfl : i.toInt = i.toInt) (kc_1 : (1 : Int32).toInt = 1) (by omega) (by omega)
  refine s_iald z13741.toInt.toNat hM hW hXB (by omega) (by omega) (by omega) dL_law_855 ?_
  refine q_top (fun a13742 ha13742 => ?_)
  refine q_aload_n hM dL_law_856 (lv_at hl 3 rfl) ?_
  refine q_iload_n hM dL_law_857 (lv_at hl 0 rfl) ?_
  refine q_iconst (v := (2 : Int32)) hM dL_law_858 (by decide) ?_
  refine q_iadd hM dL_law_859 (fun z13743 hz13743 => ?_)
  have tz13743 := i_addT hz13743 (rfl : i.toInt = i.toInt) (kc_2 : (2 : Int32).toInt = 2) (by omega) (by omega)
  refine s_iald z13743.toInt.toNat hM hW hXB (by omega) (by omega) (by omega) dL_law_860 ?_
  refine q_top (fun a13744 ha13744 => ?_)
  refine q_aload_n hM dL_law_861 (lv_at hl 3 rfl) ?_
  refine q_iload_n hM dL_law_862 (lv_at hl 0 rfl) ?_
  refine q_iconst (v := (3 : Int32)) hM dL_law_863 (by decide) ?_
  refine q_iadd hM dL_law_864 (fun z13745 hz13745 => ?_)
  have tz13745 := i_addT hz13745 (rfl : i.toInt = i.toInt) (kc_3 : (3 : Int32).toInt = 3) (by omega) (by omega)
  refine s_iald z13745.toInt.toNat hM hW hXB (by omega) (by omega) (by omega) dL_law_865 ?_
  refine q_top (fun a13746 ha13746 => ?_)
  refine q_aload_n hM dL_law_866 (lv_at hl 3 rfl) ?_
  refine q_iload_n hM dL_law_867 (lv_at hl 0 rfl) ?_
  refine q_iconst (v := (4 : Int32)) hM dL_law_868 (by decide) ?_
  refine q_iadd hM dL_law_869 (fun z13747 hz13747 => ?_)
  have tz13747 := i_addT hz13747 (rfl : i.toInt = i.toInt) (kc_4 : (4 : Int32).toInt = 4) (by omega) (by omega)
  refine s_iald z13747.toInt.toNat hM hW hXB (by omega) (by omega) (by omega) dL_law_870 ?_
  refine q_top (fun a13748 ha13748 => ?_)
  refine q_aload_n hM dL_law_871 (lv_at hl 3 rfl) ?_
  refine q_iload_n hM dL_law_872 (lv_at hl 0 rfl) ?_
  refine q_iconst (v := (5 : Int32)) hM dL_law_873 (by decide) ?_
  refine q_iadd hM dL_law_874 (fun z13749 hz13749 => ?_)
  have tz13749 := i_addT hz13749 (rfl : i.toInt = i.toInt) (kc_5 : (5 : Int32).toInt = 5) (by omega) (by omega)
  refine s_iald z13749.toInt.toNat hM hW hXB (by omega) (by omega) (by omega) dL_law_875 ?_
  refine q_top (fun a13750 ha13750 => ?_)
  refine q_callV (As := [.int a13742, .int a13744, .int a13746, .int a13748, .int a13750]) (rest := []) hM hW hR hC myX12_order (kAW (v_6_12 (List.mem_of_getElem? (i := 6) rfl)) rfl) (rfl : vwCl[12]? = some (RX12, TX12, 86)) rfl lb_129.1 (shO hP.1 lb_129) (p_X12_order _ _ cA ad g1 a13742 a13744 a13746 a13748 a13750 hP.1 hP.2.1 hP.2.2.2.1.1) ⟨by decide, by decide⟩ rfl rfl hl.1 (Nat.le_of_ble_eq_true rfl) dL_law_876 (fun v g2 H locs hp hW => ?_)
  obtain ⟨r2, rfl, hs2, hG2, hf2⟩ := hp
  have hP1 := hP
  have hP : PI ad cA g2 := PI_fr hP1 hs2 hG2 hf2 (by first | decide | omega) (by first | decide | omega) (by first | decide | omega) (by first | decide | omega) (by first | decide | omega) (by first | decide | omega) (by first | decide | omega) (by first | decide | omega) (by first | decide | omega)
  have qa13742 : a13742 = a13732 := by rw [ha13742, ha13732]; congr 1; omega
  have qa13744 : a13744 = a13734 := by rw [ha13744, ha13734]; congr 1; omega
  have qa13746 : a13746 = a13736 := by rw [ha13746, ha13736]; congr 1; omega
  have qa13748 : a13748 = a13738 := by rw [ha13748, ha13738]; congr 1; omega
  have qa13750 : a13750 = a13740 := by rw [ha13750, ha13740]; congr 1; omega
  refine q_pop hM dL_law_879 rfl ?_
  refine q_goto (tgt := 1457) hM dL_law_880 (by decide) ?_
  exact kk _ _ _ _ hP ⟨(by rw [show fI g2 3 2 = fI g 3 2 from (FRf hf1 hf2 (by omega) (by first | decide | omega)), show arI g2 131 = arI g 131 from ((hf2.2.1 131 (by first | decide | omega)).trans (hf1.2.1 131 (by omega)))]; exact hRl.1), (by rw [show fI g2 18 3 = fI g 18 3 from (FRf hf1 hf2 (by omega) (by first | decide | omega)), show arI g2 158 = arI g 158 from ((hf2.2.1 158 (by first | decide | omega)).trans (hf1.2.1 158 (by omega)))]; exact hRl.2.1), (by rw [show fI g2 30 3 = fI g 30 3 from (FRf hf1 hf2 (by omega) (by first | decide | omega)), show arI g2 162 = arI g 162 from ((hf2.2.1 162 (by first | decide | omega)).trans (hf1.2.1 162 (by omega)))]; exact hRl.2.2.1), (((FRf hf1 hf2 (by omega) (by first | decide | omega))).trans (hRl.2.2.2.1.trans ((FRf hf1 hf2 (by omega) (by first | decide | omega))).symm)), (((FRf hf1 hf2 (by omega) (by first | decide | omega))).trans (hRl.2.2.2.2.1.trans ((FRf hf1 hf2 (by omega) (by first | decide | omega))).symm)), (((FRf hf1 hf2 (by omega) (by first | decide | omega))).trans (hRl.2.2.2.2.2.trans (congrFun ((hf2.2.1 166 (by first | decide | omega)).trans (hf1.2.1 166 (by omega))) 1).symm))⟩ hW hl

set_option maxRecDepth 100000 in
set_option maxHeartbeats 4000000 in
theorem lc_still {K : KT} {cA : Nat → ClassId} {ad : Nat → Nat} {b L : Nat} {xs : Nat → Int32} {H : Heap} {locs : List Loc} {ls : Array Slot} {g : Nat → va_E} {i : Int32} (hM : MB K cA code 4 R_law) (hXB : XB K b L xs) (hL : L ≤ 3072) (hR : HasRoom K 2048 84000) (hC : Cells K 600000 7302250) (hP : PI ad cA g) (hRl : RP g) (hi0 : 0 ≤ i.toInt) (hi : i.toInt + 6 ≤ L) (hW : WB NN ad K g H locs) (hl : lv_has ls 4 [(3, .int i), (2, .ref (ad 129)), (1, .ref (ad 0)), (0, .ref b)]) (kk : ∀ (g : Nat → va_E) (H : Heap) (locs : List Loc) (ls : Array Slot), PI ad cA g → RP g → WB NN ad K g H locs → lv_has ls 4 [(3, .int i), (2, .ref (ad 129)), (1, .ref (ad 0)), (0, .ref b)] → XX K 600000 7302250 H locs 1457 ls []) : XX K 600000 7302250 H locs 883 ls [] := by
  have hLn : L < 1000000 := by omega
  obtain ⟨lw, lwn, hlc, h13, h14⟩ := id hP.2.2.1
  refine q_aload_n hM dL_law_883 (lv_at hl 2 rfl) ?_
  refine q_aload_n hM dL_law_884 (lv_at hl 3 rfl) ?_
  refine q_iload_n hM dL_law_885 (lv_at hl 0 rfl) ?_
  refine q_iconst (v := (1 : Int32)) hM dL_law_886 (by decide) ?_
  refine q_iadd hM dL_law_887 (fun z13751 hz13751 => ?_)
  have tz13751 := i_addT hz13751 (rfl : i.toInt = i.toInt) (kc_1 : (1 : Int32).toInt = 1) (by omega) (by omega)
  refine s_iald z13751.toInt.toNat hM hW hXB (by omega) (by omega) (by omega) dL_law_888 ?_
  refine q_top (fun a13752 ha13752 => ?_)
  refine q_aload_n hM dL_law_889 (lv_at hl 3 rfl) ?_
  refine q_iload_n hM dL_law_890 (lv_at hl 0 rfl) ?_
  refine q_iconst (v := (2 : Int32)) hM dL_law_891 (by decide) ?_
  refine q_iadd hM dL_law_892 (fun z13753 hz13753 => ?_)
  have tz13753 := i_addT hz13753 (rfl : i.toInt = i.toInt) (kc_2 : (2 : Int32).toInt = 2) (by omega) (by omega)
  refine s_iald z13753.toInt.toNat hM hW hXB (by omega) (by omega) (by omega) dL_law_893 ?_
  refine q_top (fun a13754 ha13754 => ?_)
  refine q_aload_n hM dL_law_894 (lv_at hl 3 rfl) ?_
  refine q_iload_n hM dL_law_895 (lv_at hl 0 rfl) ?_
  refine q_iconst (v := (3 : Int32)) hM dL_law_896 (by decide) ?_
  refine q_iadd hM dL_law_897 (fun z13755 hz13755 => ?_)
  have tz13755 := i_addT hz13755 (rfl : i.toInt = i.toInt) (kc_3 : (3 : Int32).toInt = 3) (by omega) (by omega)
  refine s_iald z13755.toInt.toNat hM hW hXB (by omega) (by omega) (by omega) dL_law_898 ?_
  refine q_top (fun a13756 ha13756 => ?_)
  refine q_callV (As := [.int a13752, .int a13754, .int a13756]) (rest := []) hM hW hR hC myX11_still (kAW (v_3_6 (List.mem_of_getElem? (i := 8) rfl)) rfl) (rfl : vwCl[11]? = some (RX11, TX11, 16)) rfl lb_0.1 (shO hP.1 lb_0) (p_X11_still _ _ cA ad g a13752 a13754 a13756 lw hP.1 hP.2.1 (by unfold isLw; omega) h13) ⟨by decide, by decide⟩ rfl rfl hl.1 (Nat.le_of_ble_eq_true rfl) dL_law_899 (fun v g1 H locs hp hW => ?_)
  obtain ⟨r1, rfl, hs1, hG1, hf1⟩ := hp
  have hP0 := hP
  have hP : PI ad cA g1 := PI_fr hP0 hs1 hG1 hf1 (by omega) (by omega) (by omega) (by omega) (by omega) (by omega) (by omega) (by omega) (by omega)
  refine q_pop hM dL_law_902 rfl ?_
  refine q_aload_n hM dL_law_903 (lv_at hl 1 rfl) ?_
  refine q_aload_n hM dL_law_904 (lv_at hl 3 rfl) ?_
  refine q_iload_n hM dL_law_905 (lv_at hl 0 rfl) ?_
  refine q_iconst (v := (1 : Int32)) hM dL_law_906 (by decide) ?_
  refine q_iadd hM dL_law_907 (fun z13757 hz13757 => ?_)
  have tz13757 := i_addT hz13757 (rfl : i.toInt = i.toInt) (kc_1 : (1 : Int32).toInt = 1) (by omega) (by omega)
  refine s_iald z13757.toInt.toNat hM hW hXB (by omega) (by omega) (by omega) dL_law_908 ?_
  refine q_top (fun a13758 ha13758 => ?_)
  refine q_aload_n hM dL_law_909 (lv_at hl 3 rfl) ?_
  refine q_iload_n hM dL_law_910 (lv_at hl 0 rfl) ?_
  refine q_iconst (v := (2 : Int32)) hM dL_law_911 (by decide) ?_
  refine q_iadd hM dL_law_912 (fun z13759 hz13759 => ?_)
  have tz13759 := i_addT hz13759 (rfl : i.toInt = i.toInt) (kc_2 : (2 : Int32).toInt = 2) (by omega) (by omega)
  refine s_iald z13759.toInt.toNat hM hW hXB (by omega) (by omega) (by omega) dL_law_913 ?_
  refine q_top (fun a13760 ha13760 => ?_)
  refine q_aload_n hM dL_law_914 (lv_at hl 3 rfl) ?_
  refine q_iload_n hM dL_law_915 (lv_at hl 0 rfl) ?_
  refine q_iconst (v := (3 : Int32)) hM dL_law_916 (by decide) ?_
  refine q_iadd hM dL_law_917 (fun z13761 hz13761 => ?_)
  have tz13761 := i_addT hz13761 (rfl : i.toInt = i.toInt) (kc_3 : (3 : Int32).toInt = 3) (by omega) (by omega)
  refine s_iald z13761.toInt.toNat hM hW hXB (by omega) (by omega) (by omega) dL_law_918 ?_
  refine q_top (fun a13762 ha13762 => ?_)
  refine q_callV (As := [.int a13758, .int a13760, .int a13762]) (rest := []) hM hW hR hC myX12_still (kAW (v_6_14 (List.mem_of_getElem? (i := 14) rfl)) rfl) (rfl : vwCl[12]? = some (RX12, TX12, 86)) rfl lb_129.1 (shO hP.1 lb_129) (p_X12_still _ _ cA ad g1 a13758 a13760 a13762 hP.1 hP.2.1 hP.2.2.2.1.1) ⟨by decide, by decide⟩ rfl rfl hl.1 (Nat.le_of_ble_eq_true rfl) dL_law_919 (fun v g2 H locs hp hW => ?_)
  obtain ⟨r2, rfl, hs2, hG2, hf2⟩ := hp
  have hP1 := hP
  have hP : PI ad cA g2 := PI_fr hP1 hs2 hG2 hf2 (by first | decide | omega) (by first | decide | omega) (by first | decide | omega) (by first | decide | omega) (by first | decide | omega) (by first | decide | omega) (by first | decide | omega) (by first | decide | omega) (by first | decide | omega)
  have qa13758 : a13758 = a13752 := by rw [ha13758, ha13752]; congr 1; omega
  have qa13760 : a13760 = a13754 := by rw [ha13760, ha13754]; congr 1; omega
  have qa13762 : a13762 = a13756 := by rw [ha13762, ha13756]; congr 1; omega
  refine q_pop hM dL_law_922 rfl ?_
  refine q_goto (tgt := 1457) hM dL_law_923 (by decide) ?_
  exact kk _ _ _ _ hP ⟨(by rw [show fI g2 3 2 = fI g 3 2 from (FRf hf1 hf2 (by omega) (by first | decide | omega)), show arI g2 131 = arI g 131 from ((hf2.2.1 131 (by first | decide | omega)).trans (hf1.2.1 131 (by omega)))]; exact hRl.1), (by rw [show fI g2 18 3 = fI g 18 3 from (FRf hf1 hf2 (by omega) (by first | decide | omega)), show arI g2 158 = arI g 158 from ((hf2.2.1 158 (by first | decide | omega)).trans (hf1.2.1 158 (by omega)))]; exact hRl.2.1), (by rw [show fI g2 30 3 = fI g 30 3 from (FRf hf1 hf2 (by omega) (by first | decide | omega)), show arI g2 162 = arI g 162 from ((hf2.2.1 162 (by first | decide | omega)).trans (hf1.2.1 162 (by omega)))]; exact hRl.2.2.1), (((FRf hf1 hf2 (by omega) (by first | decide | omega))).trans (hRl.2.2.2.1.trans ((FRf hf1 hf2 (by omega) (by first | decide | omega))).symm)), (((FRf hf1 hf2 (by omega) (by first | decide | omega))).trans (hRl.2.2.2.2.1.trans ((FRf hf1 hf2 (by omega) (by first | decide | omega))).symm)), (((FRf hf1 hf2 (by omega) (by first | decide | omega))).trans (hRl.2.2.2.2.2.trans (congrFun ((hf2.2.1 166 (by first | decide | omega)).trans (hf1.2.1 166 (by omega))) 1).symm))⟩ hW hl

set_option maxRecDepth 100000 in
set_option maxHeartbeats 4000000 in
theorem lc_cut {K : KT} {cA : Nat → ClassId} {ad : Nat → Nat} {b L : Nat} {xs : Nat → Int32} {H : Heap} {locs : List Loc} {ls : Array Slot} {g : Nat → va_E} {i : Int32} (hM : MB K cA code 4 R_law) (hXB : XB K b L xs) (hL : L ≤ 3072) (hR : HasRoom K 2048 84000) (hC : Cells K 600000 7302250) (hP : PI ad cA g) (hRl : RP g) (hi0 : 0 ≤ i.toInt) (hi : i.toInt + 6 ≤ L) (hW : WB NN ad K g H locs) (hl : lv_has ls 4 [(3, .int i), (2, .ref (ad 129)), (1, .ref (ad 0)), (0, .ref b)]) (kk : ∀ (g : Nat → va_E) (H : Heap) (locs : List Loc) (ls : Array Slot), PI ad cA g → RP g → WB NN ad K g H locs → lv_has ls 4 [(3, .int i), (2, .ref (ad 129)), (1, .ref (ad 0)), (0, .ref b)] → XX K 600000 7302250 H locs 1457 ls []) : XX K 600000 7302250 H locs 926 ls [] := by
  have hLn : L < 1000000 := by omega
  obtain ⟨lw, lwn, hlc, h13, h14⟩ := id hP.2.2.1
  refine q_aload_n hM dL_law_926 (lv_at hl 2 rfl) ?_
  refine q_aload_n hM dL_law_927 (lv_at hl 3 rfl) ?_
  refine q_iload_n hM dL_law_928 (lv_at hl 0 rfl) ?_
  refine q_iconst (v := (1 : Int32)) hM dL_law_929 (by decide) ?_
  refine q_iadd hM dL_law_930 (fun z13763 hz13763 => ?_)
  have tz13763 := i_addT hz13763 (rfl : i.toInt = i.toInt) (kc_1 : (1 : Int32).toInt = 1) (by omega) (by omega)
  refine s_iald z13763.toInt.toNat hM hW hXB (by omega) (by omega) (by omega) dL_law_931 ?_
  refine q_top (fun a13764 ha13764 => ?_)
  refine q_aload_n hM dL_law_932 (lv_at hl 3 rfl) ?_
  refine q_iload_n hM dL_law_933 (lv_at hl 0 rfl) ?_
  refine q_iconst (v := (2 : Int32)) hM dL_law_934 (by decide) ?_
  refine q_iadd hM dL_law_935 (fun z13765 hz13765 => ?_)
  have tz13765 := i_addT hz13765 (rfl : i.toInt = i.toInt) (kc_2 : (2 : Int32).toInt = 2) (by omega) (by omega)
  refine s_iald z13765.toInt.toNat hM hW hXB (by omega) (by omega) (by omega) dL_law_936 ?_
  refine q_top (fun a13766 ha13766 => ?_)
  refine q_aload_n hM dL_law_937 (lv_at hl 3 rfl) ?_
  refine q_iload_n hM dL_law_938 (lv_at hl 0 rfl) ?_
  refine q_iconst (v := (3 : Int32)) hM dL_law_939 (by decide) ?_
  refine q_iadd hM dL_law_940 (fun z13767 hz13767 => ?_)
  have tz13767 := i_addT hz13767 (rfl : i.toInt = i.toInt) (kc_3 : (3 : Int32).toInt = 3) (by omega) (by omega)
  refine s_iald z13767.toInt.toNat hM hW hXB (by omega) (by omega) (by omega) dL_law_941 ?_
  refine q_top (fun a13768 ha13768 => ?_)
  refine q_callV (As := [.int a13764, .int a13766, .int a13768]) (rest := []) hM hW hR hC myX11_cut (kAW (v_3_7 (List.mem_of_getElem? (i := 2) rfl)) rfl) (rfl : vwCl[11]? = some (RX11, TX11, 16)) rfl lb_0.1 (shO hP.1 lb_0) (p_X11_cut _ _ cA ad g a13764 a13766 a13768  hP.1 hP.2.1) ⟨by decide, by decide⟩ rfl rfl hl.1 (Nat.le_of_ble_eq_true rfl) dL_law_942 (fun v g1 H locs hp hW => ?_)
  obtain ⟨r1, rfl, hs1, hG1, hf1⟩ := hp
  have hP0 := hP
  have hP : PI ad cA g1 := PI_fr hP0 hs1 hG1 hf1 (fun h => h) (fun h => h) (fun h => h) (fun h => h) (fun h => h) (fun h => h) (fun h => h) (fun h => h) (fun h => h)
  refine q_pop hM dL_law_945 rfl ?_
  refine q_aload_n hM dL_law_946 (lv_at hl 1 rfl) ?_
  refine q_aload_n hM dL_law_947 (lv_at hl 3 rfl) ?_
  refine q_iload_n hM dL_law_948 (lv_at hl 0 rfl) ?_
  refine q_iconst (v := (1 : Int32)) hM dL_law_949 (by decide) ?_
  refine q_iadd hM dL_law_950 (fun z13769 hz13769 => ?_)
  have tz13769 := i_addT hz13769 (rfl : i.toInt = i.toInt) (kc_1 : (1 : Int32).toInt = 1) (by omega) (by omega)
  refine s_iald z13769.toInt.toNat hM hW hXB (by omega) (by omega) (by omega) dL_law_951 ?_
  refine q_top (fun a13770 ha13770 => ?_)
  refine q_aload_n hM dL_law_952 (lv_at hl 3 rfl) ?_
  refine q_iload_n hM dL_law_953 (lv_at hl 0 rfl) ?_
  refine q_iconst (v := (2 : Int32)) hM dL_law_954 (by decide) ?_
  refine q_iadd hM dL_law_955 (fun z13771 hz13771 => ?_)
  have tz13771 := i_addT hz13771 (rfl : i.toInt = i.toInt) (kc_2 : (2 : Int32).toInt = 2) (by omega) (by omega)
  refine s_iald z13771.toInt.toNat hM hW hXB (by omega) (by omega) (by omega) dL_law_956 ?_
  refine q_top (fun a13772 ha13772 => ?_)
  refine q_aload_n hM dL_law_957 (lv_at hl 3 rfl) ?_
  refine q_iload_n hM dL_law_958 (lv_at hl 0 rfl) ?_
  refine q_iconst (v := (3 : Int32)) hM dL_law_959 (by decide) ?_
  refine q_iadd hM dL_law_960 (fun z13773 hz13773 => ?_)
  have tz13773 := i_addT hz13773 (rfl : i.toInt = i.toInt) (kc_3 : (3 : Int32).toInt = 3) (by omega) (by omega)
  refine s_iald z13773.toInt.toNat hM hW hXB (by omega) (by omega) (by omega) dL_law_961 ?_
  refine q_top (fun a13774 ha13774 => ?_)
  refine q_callV (As := [.int a13770, .int a13772, .int a13774]) (rest := []) hM hW hR hC myX12_cut (kAW (v_5_7 (List.mem_of_getElem? (i := 9) rfl)) rfl) (rfl : vwCl[12]? = some (RX12, TX12, 86)) rfl lb_129.1 (shO hP.1 lb_129) (p_X12_cut _ _ cA ad g1 a13770 a13772 a13774 hP.1 hP.2.1) ⟨by decide, by decide⟩ rfl rfl hl.1 (Nat.le_of_ble_eq_true rfl) dL_law_962 (fun v g2 H locs hp hW => ?_)
  obtain ⟨r2, rfl, hs2, hG2, hf2⟩ := hp
  have hP1 := hP
  have hP : PI ad cA g2 := PI_fr hP1 hs2 hG2 hf2 (fun h => h) (fun h => h) (fun h => h) (fun h => h) (fun h => h) (fun h => h) (fun h => h) (fun h => h) (fun h => h)
  have qa13770 : a13770 = a13764 := by rw [ha13770, ha13764]; congr 1; omega
  have qa13772 : a13772 = a13766 := by rw [ha13772, ha13766]; congr 1; omega
  have qa13774 : a13774 = a13768 := by rw [ha13774, ha13768]; congr 1; omega
  refine q_pop hM dL_law_965 rfl ?_
  refine q_goto (tgt := 1457) hM dL_law_966 (by decide) ?_
  exact kk _ _ _ _ hP ⟨(by rw [show fI g2 3 2 = fI g 3 2 from (FRf hf1 hf2 (fun h => h) (fun h => h)), show arI g2 131 = arI g 131 from ((hf2.2.1 131 (fun h => h)).trans (hf1.2.1 131 (fun h => h)))]; exact hRl.1), (by rw [show fI g2 18 3 = fI g 18 3 from (FRf hf1 hf2 (fun h => h) (fun h => h)), show arI g2 158 = arI g 158 from ((hf2.2.1 158 (fun h => h)).trans (hf1.2.1 158 (fun h => h)))]; exact hRl.2.1), (by rw [show fI g2 30 3 = fI g 30 3 from (FRf hf1 hf2 (fun h => h) (fun h => h)), show arI g2 162 = arI g 162 from ((hf2.2.1 162 (fun h => h)).trans (hf1.2.1 162 (fun h => h)))]; exact hRl.2.2.1), (((FRf hf1 hf2 (fun h => h) (fun h => h))).trans (hRl.2.2.2.1.trans ((FRf hf1 hf2 (fun h => h) (fun h => h))).symm)), (((FRf hf1 hf2 (fun h => h) (fun h => h))).trans (hRl.2.2.2.2.1.trans ((FRf hf1 hf2 (fun h => h) (fun h => h))).symm)), (((FRf hf1 hf2 (fun h => h) (fun h => h))).trans (hRl.2.2.2.2.2.trans (congrFun ((hf2.2.1 166 (fun h => h)).trans (hf1.2.1 166 (fun h => h))) 1).symm))⟩ hW hl
