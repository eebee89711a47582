set_option maxRecDepth 100000 in
set_option maxHeartbeats 4000000 in
theorem lc_tried {K : KT} {cA : Nat → ClassId} {ad : Nat → Nat} {b L : Nat} {xs : Nat → Int32} {H : Heap} {locs : List Loc} {ls : Array Slot} {g : Nat → va_E} {i : Int32} (hM : MB K cA code 4 R_law) (hXB : XB K b L xs) (hL : L ≤ 3072) (hR : HasRoom K 2048 84000) (hC : Cells K 600000 7302250) (hP : PI ad cA g) (hRl : RP g) (hi0 : 0 ≤ i.toInt) (hi : i.toInt + 6 ≤ L) (hW : WB NN ad K g H locs) (hl : lv_has ls 4 [(3, .int i), (2, .ref (ad 129)), (1, .ref (ad 0)), (0, .ref b)]) (kk : ∀ (g : Nat → va_E) (H : Heap) (locs : List Loc) (ls : Array Slot), PI ad cA g → RP g → WB NN ad K g H locs → lv_has ls 4 [(3, .int i), (2, .ref (ad 129)), (1, .ref (ad 0)), (0, .ref b)] → XX K 600000 7302250 H locs 1457 ls []) : XX K 600000 7302250 H locs 566 ls [] := by
  have hLn : L < 1000000 := by omega
  obtain ⟨lw, lwn, hlc, h13, h14⟩ := id hP.2.2.1
  refine q_aload_n hM dL_law_566 (lv_at hl 2 rfl) ?_
  refine q_aload_n hM dL_law_567 (lv_at hl 3 rfl) ?_
  refine q_iload_n hM dL_law_568 (lv_at hl 0 rfl) ?_
  refine q_iconst (v := (1 : Int32)) hM dL_law_569 (by decide) ?_
  refine q_iadd hM dL_law_570 (fun z13628 hz13628 => ?_)
  have tz13628 := i_addT hz13628 (rfl : i.toInt = i.toInt) (kc_1 : (1 : Int32).toInt = 1) (by omega) (by omega)
  refine s_iald z13628.toInt.toNat hM hW hXB (by omega) (by omega) (by omega) dL_law_571 ?_
  refine q_top (fun a13629 ha13629 => ?_)
  refine q_aload_n hM dL_law_572 (lv_at hl 3 rfl) ?_
  refine q_iload_n hM dL_law_573 (lv_at hl 0 rfl) ?_
  refine q_iconst (v := (2 : Int32)) hM dL_law_574 (by decide) ?_
  refine q_iadd hM dL_law_575 (fun z13630 hz13630 => ?_)
  have tz13630 := i_addT hz13630 (rfl : i.toInt = i.toInt) (kc_2 : (2 : Int32).toInt = 2) (by omega) (by omega)
  refine s_iald z13630.toInt.toNat hM hW hXB (by omega) (by omega) (by omega) dL_law_576 ?_
  refine q_top (fun a13631 ha13631 => ?_)
  refine q_callV (As := [.int a13629, .int a13631]) (rest := []) hM hW hR hC myX11_tried (kAW (v_2_14 (List.mem_of_getElem? (i := 13) rfl)) rfl) (rfl : vwCl[11]? = some (RX11, TX11, 16)) rfl lb_0.1 (shO hP.1 lb_0) (p_X11_tried _ _ cA ad g a13629 a13631 lw hP.1 hP.2.1 (by unfold isLw; omega) h13) ⟨by decide, by decide⟩ rfl rfl hl.1 (Nat.le_of_ble_eq_true rfl) dL_law_577 (fun v g1 H locs hp hW => ?_)
  obtain ⟨r1, rfl, hs1, hG1, hf1⟩ := hp
  have hP0 := hP
  have hP : PI ad cA g1 := PI_fr hP0 hs1 hG1 hf1 (by omega) (by omega) (by omega) (by omega) (by omega) (by omega) (by omega) (by omega) (by omega)
  refine q_pop hM dL_law_580 rfl ?_
  refine q_aload_n hM dL_law_581 (lv_at hl 1 rfl) ?_
  refine q_aload_n hM dL_law_582 (lv_at hl 3 rfl) ?_
  refine q_iload_n hM dL_law_583 (lv_at hl 0 rfl) ?_
  refine q_iconst (v := (1 : Int32)) hM dL_law_584 (by decide) ?_
  refine q_iadd hM dL_law_585 (fun z13632 hz13632 => ?_)
  have tz13632 := i_addT hz13632 (rfl : i.toInt = i.toInt) (kc_1 : (1 : Int32).toInt = 1) (by omega) (by omega)
  refine s_iald z13632.toInt.toNat hM hW hXB (by omega) (by omega) (by omega) dL_law_586 ?_
  refine q_top (fun a13633 ha13633 => ?_)
  refine q_aload_n hM dL_law_587 (lv_at hl 3 rfl) ?_
  refine q_iload_n hM dL_law_588 (lv_at hl 0 rfl) ?_
  refine q_iconst (v := (2 : Int32)) hM dL_law_589 (by decide) ?_
  refine q_iadd hM dL_law_590 (fun z13634 hz13634 => ?_)
  have tz13634 := i_addT hz13634 (rfl : i.toInt = i.toInt) (kc_2 : (2 : Int32).toInt = 2) (by omega) (by omega)
  refine s_iald z13634.toInt.toNat hM hW hXB (by omega) (by omega) (by omega) dL_law_591 ?_
  refine q_top (fun a13635 ha13635 => ?_)
  refine q_callV (As := [.int a13633, .int a13635]) (rest := []) hM hW hR hC myX12_tried (kAW (v_6_9 (List.mem_of_getElem? (i := 9) rfl)) rfl) (rfl : vwCl[12]? = some (RX12, TX12, 86)) rfl lb_129.1 (shO hP.1 lb_129) (s_X12_tried _ _ cA ad g1 a13633 a13635 (fI g1 129 56) hP.1 hP.2.1 (shI hP.1 lb_129 (by decide) (by decide)) hP.2.2.2.1.1 (fun q hq => by rw [hf1.2.1 158 (by omega)]; exact SM_01 hRl.2.1 q hq)) ⟨by decide, by decide⟩ rfl rfl hl.1 (Nat.le_of_ble_eq_true rfl) dL_law_592 (fun v g2 H locs hp hW => ?_)
  obtain ⟨m0, r2, rfl, hs2, hG2, hf2, cm0, cm1, cm2, cm3, cm4⟩ := hp
  have hP1 := hP
  have hP : PI ad cA g2 := PI_fr hP1 hs2 hG2 hf2 (by first | decide | omega) (by first | decide | omega) (by first | decide | omega) (by first | decide | omega) (by first | decide | omega) (by first | decide | omega) (by first | decide | omega) (by first | decide | omega) (by first | decide | omega)
  have qa13633 : a13633 = a13629 := by rw [ha13633, ha13629]; congr 1; omega
  have qa13635 : a13635 = a13631 := by rw [ha13635, ha13631]; congr 1; omega
  first | rw [qa13633] at cm0 | skip
  first | rw [qa13635] at cm0 | skip
  first | rw [qa13633] at cm1 | skip
  first | rw [qa13635] at cm1 | skip
  first | rw [qa13633] at cm2 | skip
  first | rw [qa13635] at cm2 | skip
  first | rw [qa13633] at cm3 | skip
  first | rw [qa13635] at cm3 | skip
  first | rw [qa13633] at cm4 | skip
  first | rw [qa13635] at cm4 | skip
  refine q_pop hM dL_law_595 rfl ?_
  refine q_goto (tgt := 1457) hM dL_law_596 (by decide) ?_
  exact kk _ _ _ _ hP ⟨(by rw [show fI g2 3 2 = fI g 3 2 from (FRf hf1 hf2 (by omega) (by first | decide | omega)), show arI g2 131 = arI g 131 from ((hf2.2.1 131 (by first | decide | omega)).trans (hf1.2.1 131 (by omega)))]; exact hRl.1), (by rw [show fI g2 18 3 = fI g 18 3 from (FRf hf1 hf2 (by omega) (by first | decide | omega))]; exact SM_cg hRl.2.1 (fun q hq => (cm1 q hq).trans (congrFun (hf1.2.1 158 (by omega)) q))), (by rw [show fI g2 30 3 = fI g 30 3 from (FRf hf1 hf2 (by omega) (by first | decide | omega))]; exact SM_cg hRl.2.2.1 (fun q hq => (cm2 _ (by omega)).trans (congrFun (hf1.2.1 162 (by omega)) (8 + q)))), (((FRf hf1 hf2 (by omega) (by first | decide | omega))).trans (hRl.2.2.2.1.trans ((FRf hf1 hf2 (by omega) (by first | decide | omega))).symm)), ((FRf hf1 hf2 (by omega) (by first | decide | omega)).trans (hRl.2.2.2.2.1.trans ((FR1f hf1 (by omega)).symm.trans (cm4.symm.trans (fI_of cm0).symm)))), ((FRf hf1 hf2 (by omega) (by first | decide | omega)).trans (hRl.2.2.2.2.2.trans ((congrFun (hf1.2.1 166 (by omega)) 1).symm.trans cm3.symm)))⟩ hW hl

set_option maxRecDepth 100000 in
set_option maxHeartbeats 4000000 in
theorem lc_other {K : KT} {cA : Nat → ClassId} {ad : Nat → Nat} {b L : Nat} {xs : Nat → Int32} {H : Heap} {locs : List Loc} {ls : Array Slot} {g : Nat → va_E} {i : Int32} (hM : MB K cA code 4 R_law) (hXB : XB K b L xs) (hL : L ≤ 3072) (hR : HasRoom K 2048 84000) (hC : Cells K 600000 7302250) (hP : PI ad cA g) (hRl : RP g) (hi0 : 0 ≤ i.toInt) (hi : i.toInt + 6 ≤ L) (hW : WB NN ad K g H locs) (hl : lv_has ls 4 [(3, .int i), (2, .ref (ad 129)), (1, .ref (ad 0)), (0, .ref b)]) (kk : ∀ (g : Nat → va_E) (H : Heap) (locs : List Loc) (ls : Array Slot), PI ad cA g → RP g → WB NN ad K g H locs → lv_has ls 4 [(3, .int i), (2, .ref (ad 129)), (1, .ref (ad 0)), (0, .ref b)] → XX K 600000 7302250 H locs 1457 ls []) : XX K 600000 7302250 H locs 599 ls [] := by
  have hLn : L < 1000000 := by omega
  obtain ⟨lw, lwn, hlc, h13, h14⟩ := id hP.2.2.1
  refine q_aload_n hM dL_law_599 (lv_at hl 2 rfl) ?_
  refine q_aload_n hM dL_law_600 (lv_at hl 3 rfl) ?_
  refine q_iload_n hM dL_law_601 (lv_at hl 0 rfl) ?_
  refine q_iconst (v := (1 : Int32)) hM dL_law_602 (by decide) ?_
  refine q_iadd hM dL_law_603 (fun z13636 hz13636 => ?_)
  have tz13636 := i_addT hz13636 (rfl : i.toInt = i.toInt) (kc_1 : (1 : Int32).toInt = 1) (by omega) (by omega)
  refine s_iald z13636.toInt.toNat hM hW hXB (by omega) (by omega) (by omega) dL_law_604 ?_
  refine q_top (fun a13637 ha13637 => ?_)
  refine q_aload_n hM dL_law_605 (lv_at hl 3 rfl) ?_
  refine q_iload_n hM dL_law_606 (lv_at hl 0 rfl) ?_
  refine q_iconst (v := (2 : Int32)) hM dL_law_607 (by decide) ?_
  refine q_iadd hM dL_law_608 (fun z13638 hz13638 => ?_)
  have tz13638 := i_addT hz13638 (rfl : i.toInt = i.toInt) (kc_2 : (2 : Int32).toInt = 2) (by omega) (by omega)
  refine s_iald z13638.toInt.toNat hM hW hXB (by omega) (by omega) (by omega) dL_law_609 ?_
  refine q_top (fun a13639 ha13639 => ?_)
  refine q_callV (As := [.int a13637, .int a13639]) (rest := []) hM hW hR hC myX11_other (kAW (v_3_1 (List.mem_of_getElem? (i := 8) rfl)) rfl) (rfl : vwCl[11]? = some (RX11, TX11, 16)) rfl lb_0.1 (shO hP.1 lb_0) (p_X11_other _ _ cA ad g a13637 a13639  hP.1 hP.2.1) ⟨by decide, by decide⟩ rfl rfl hl.1 (Nat.le_of_ble_eq_true rfl) dL_law_610 (fun v g1 H locs hp hW => ?_)
  obtain ⟨r1, rfl, hs1, hG1, hf1⟩ := hp
  have hP0 := hP
  have hP : PI ad cA g1 := PI_fr hP0 hs1 hG1 hf1 (by first | decide | omega) (by first | decide | omega) (by first | decide | omega) (by first | decide | omega) (by first | decide | omega) (by first | decide | omega) (by first | decide | omega) (by first | decide | omega) (by first | decide | omega)
  refine q_pop hM dL_law_613 rfl ?_
  refine q_aload_n hM dL_law_614 (lv_at hl 1 rfl) ?_
  refine q_aload_n hM dL_law_615 (lv_at hl 3 rfl) ?_
  refine q_iload_n hM dL_law_616 (lv_at hl 0 rfl) ?_
  refine q_iconst (v := (1 : Int32)) hM dL_law_617 (by decide) ?_
  refine q_iadd hM dL_law_618 (fun z13640 hz13640 => ?_)
  have tz13640 := i_addT hz13640 (rfl : i.toInt = i.toInt) (kc_1 : (1 : Int32).toInt = 1) (by omega) (by omega)
  refine s_iald z13640.toInt.toNat hM hW hXB (by omega) (by omega) (by omega) dL_law_619 ?_
  refine q_top (fun a13641 ha13641 => ?_)
  refine q_aload_n hM dL_law_620 (lv_at hl 3 rfl) ?_
  refine q_iload_n hM dL_law_621 (lv_at hl 0 rfl) ?_
  refine q_iconst (v := (2 : Int32)) hM dL_law_622 (by decide) ?_
  refine q_iadd hM dL_law_623 (fun z13642 hz13642 => ?_)
  have tz13642 := i_addT hz13642 (rfl : i.toInt = i.toInt) (kc_2 : (2 : Int32).toInt = 2) (by omega) (by omega)
  refine s_iald z13642.toInt.toNat hM hW hXB (by omega) (by omega) (by omega) dL_law_624 ?_
  refine q_top (fun a13643 ha13643 => ?_)
  refine q_callV (As := [.int a13641, .int a13643]) (rest := []) hM hW hR hC myX12_other (kAW (v_6_10 (List.mem_of_getElem? (i := 14) rfl)) rfl) (rfl : vwCl[12]? = some (RX12, TX12, 86)) rfl lb_129.1 (shO hP.1 lb_129) (s_X12_other _ _ cA ad g1 a13641 a13643 (fI g1 129 56) hP.1 hP.2.1 (shI hP.1 lb_129 (by decide) (by decide)) hP.2.2.2.1.1 (fun q hq => by rw [hf1.2.1 158 (by first | decide | omega)]; exact SM_01 hRl.2.1 q hq)) ⟨by decide, by decide⟩ rfl rfl hl.1 (Nat.le_of_ble_eq_true rfl) dL_law_625 (fun v g2 H locs hp hW => ?_)
  obtain ⟨m0, r2, rfl, hs2, hG2, hf2, cm0, cm1, cm2, cm3, cm4⟩ := hp
  have hP1 := hP
  have hP : PI ad cA g2 := PI_fr hP1 hs2 hG2 hf2 (by first | decide | omega) (by first | decide | omega) (by first | decide | omega) (by first | decide | omega) (by first | decide | omega) (by first | decide | omega) (by first | decide | omega) (by first | decide | omega) (by first | decide | omega)
  have qa13641 : a13641 = a13637 := by rw [ha13641, ha13637]; congr 1; omega
  have qa13643 : a13643 = a13639 := by rw [ha13643, ha13639]; congr 1; omega
  first | rw [qa13641] at cm0 | skip
  first | rw [qa13643] at cm0 | skip
  first | rw [qa13641] at cm1 | skip
  first | rw [qa13643] at cm1 | skip
  first | rw [qa13641] at cm2 | skip
  first | rw [qa13643] at cm2 | skip
  first | rw [qa13641] at cm3 | skip
  first | rw [qa13643] at cm3 | skip
  first | rw [qa13641] at cm4 | skip
  first | rw [qa13643] at cm4 | skip
  refine q_pop hM dL_law_628 rfl ?_
  refine q_goto (tgt := 1457) hM dL_law_629 (by decide) ?_
  exact kk _ _ _ _ hP ⟨(by rw [show fI g2 3 2 = fI g 3 2 from (FRf hf1 hf2 (by first | decide | omega) (by first | decide | omega)), show arI g2 131 = arI g 131 from ((hf2.2.1 131 (by first | decide | omega)).trans (hf1.2.1 131 (by first | decide | omega)))]; exact hRl.1), (by rw [show fI g2 18 3 = fI g 18 3 from (FRf hf1 hf2 (by first | decide | omega) (by first | decide | omega))]; exact SM_cg hRl.2.1 (fun q hq => (cm1 q hq).trans (congrFun (hf1.2.1 158 (by first | decide | omega)) q))), (by rw [show fI g2 30 3 = fI g 30 3 from (FRf hf1 hf2 (by first | decide | omega) (by first | decide | omega))]; exact SM_cg hRl.2.2.1 (fun q hq => (cm2 _ (by omega)).trans (congrFun (hf1.2.1 162 (by first | decide | omega)) (8 + q)))), (((FRf hf1 hf2 (by first | decide | omega) (by first | decide | omega))).trans (hRl.2.2.2.1.trans ((FRf hf1 hf2 (by first | decide | omega) (by first | decide | omega))).symm)), ((FRf hf1 hf2 (by first | decide | omega) (by first | decide | omega)).trans (hRl.2.2.2.2.1.trans ((FR1f hf1 (by first | decide | omega)).symm.trans (cm4.symm.trans (fI_of cm0).symm)))), ((FRf hf1 hf2 (by first | decide | omega) (by first | decide | omega)).trans (hRl.2.2.2.2.2.trans ((congrFun (hf1.2.1 166 (by first | decide | omega)) 1).symm.trans cm3.symm)))⟩ hW hl

set_option maxRecDepth 100000 in
set_option maxHeartbeats 4000000 in
theorem lc_copy {K : KT} {cA : Nat → ClassId} {ad : Nat → Nat} {b L : Nat} {xs : Nat → Int32} {H : Heap} {locs : List Loc} {ls : Array Slot} {g : Nat → va_E} {i : Int32} (hM : MB K cA code 4 R_law) (hXB : XB K b L xs) (hL : L ≤ 3072) (hR : HasRoom K 2048 84000) (hC : Cells K 600000 7302250) (hP : PI ad cA g) (hRl : RP g) (hi0 : 0 ≤ i.toInt) (hi : i.toInt + 6 ≤ L) (hW : WB NN ad K g H locs) (hl : lv_has ls 4 [(3, .int i), (2, .ref (ad 129)), (1, .ref (ad 0)), (0, .ref b)]) (kk : ∀ (g : Nat → va_E) (H : Heap) (locs : List Loc) (ls : Array Slot), PI ad cA g → RP g → WB NN ad K g H locs → lv_has ls 4 [(3, .int i), (2, .ref (ad 129)), (1, .ref (ad 0)), (0, .ref b)] → XX K 600000 7302250 H locs 1457 ls []) : XX K 600000 7302250 H locs 632 ls [] := by
  have hLn : L < 1000000 := by omega
  obtain ⟨lw, lwn, hlc, h13, h14⟩ := id hP.2.2.1
  refine q_aload_n hM dL_law_632 (lv_at hl 2 rfl) ?_
  refine q_callV (As := []) (rest := []) hM hW hR hC myX11_copy (kAW (v_3_1 (List.mem_of_getElem? (i := 12) rfl)) rfl) (rfl : vwCl[11]? = some (RX11, TX11, 16)) rfl lb_0.1 (shO hP.1 lb_0) (p_X11_copy _ _ cA ad g  lw hP.1 hP.2.1 (by unfold isLw; omega) h13) ⟨by decide, by decide⟩ rfl rfl hl.1 (Nat.le_of_ble_eq_true rfl) dL_law_633 (fun v g1 H locs hp hW => ?_)
  obtain ⟨r1, rfl, hs1, hG1, hf1⟩ := hp
  have hP0 := hP
  have hP : PI ad cA g1 := PI_fr hP0 hs1 hG1 hf1 (by first | decide | omega) (by first | decide | omega) (by first | decide | omega) (by first | decide | omega) (by first | decide | omega) (by first | decide | omega) (by first | decide | omega) (by first | decide | omega) (by first | decide | omega)
  refine q_pop hM dL_law_636 rfl ?_
  refine q_aload_n hM dL_law_637 (lv_at hl 1 rfl) ?_
  refine q_callV (As := []) (rest := []) hM hW hR hC myX12_copy (kAW (v_6_1 (List.mem_of_getElem? (i := 11) rfl)) rfl) (rfl : vwCl[12]? = some (RX12, TX12, 86)) rfl lb_129.1 (shO hP.1 lb_129) (p_X12_copy _ _ cA ad g1  (fI g1 129 32) hP.1 hP.2.1 (shI hP.1 lb_129 (by decide) (by decide)) hP.2.2.2.1) ⟨by decide, by decide⟩ rfl rfl hl.1 (Nat.le_of_ble_eq_true rfl) dL_law_638 (fun v g2 H locs hp hW => ?_)
  obtain ⟨r2, rfl, hs2, hG2, hf2, ha2⟩ := hp
  have hP1 := hP
  have hP : PI ad cA g2 := by
    obtain ⟨lw9, lwn9, c9, h139, h149⟩ := hP1.2.2.1
    exact ⟨hs2, hG2, ⟨lw9, lwn9, c9, (hf2.1 0 13 (by omega)).trans h139, (hf2.1 0 14 (by omega)).trans h149⟩, ha2, TB_fr hP1.2.2.2.2 hf2 (by omega)⟩
  refine q_pop hM dL_law_641 rfl ?_
  refine q_goto (tgt := 1457) hM dL_law_642 (by decide) ?_
  exact kk _ _ _ _ hP ⟨(by rw [show fI g2 3 2 = fI g 3 2 from (FRf hf1 hf2 (by first | decide | omega) (by first | decide | omega)), show arI g2 131 = arI g 131 from ((hf2.2.1 131 (by first | decide | omega)).trans (hf1.2.1 131 (by first | decide | omega)))]; exact hRl.1), (by rw [show fI g2 18 3 = fI g 18 3 from (FRf hf1 hf2 (by first | decide | omega) (by first | decide | omega)), show arI g2 158 = arI g 158 from ((hf2.2.1 158 (by first | decide | omega)).trans (hf1.2.1 158 (by first | decide | omega)))]; exact hRl.2.1), (by rw [show fI g2 30 3 = fI g 30 3 from (FRf hf1 hf2 (by first | decide | omega) (by first | decide | omega)), show arI g2 162 = arI g 162 from ((hf2.2.1 162 (by first | decide | omega)).trans (hf1.2.1 162 (by first | decide | omega)))]; exact hRl.2.2.1), (((FRf hf1 hf2 (by first | decide | omega) (by first | decide | omega))).trans (hRl.2.2.2.1.trans ((FRf hf1 hf2 (by first | decide | omega) (by first | decide | omega))).symm)), (((FRf hf1 hf2 (by first | decide | omega) (by first | decide | omega))).trans (hRl.2.2.2.2.1.trans ((FRf hf1 hf2 (by first | decide | omega) (by first | decide | omega))).symm)), (((FRf hf1 hf2 (by first | decide | omega) (by first | decide | omega))).trans (hRl.2.2.2.2.2.trans (congrFun ((hf2.2.1 166 (by first | decide | omega)).trans (hf1.2.1 166 (by first | decide | omega))) 1).symm))⟩ hW hl

set_option maxRecDepth 100000 in
set_option maxHeartbeats 4000000 in
theorem lc_first {K : KT} {cA : Nat → ClassId} {ad : Nat → Nat} {b L : Nat} {xs : Nat → Int32} {H : Heap} {locs : List Loc} {ls : Array Slot} {g : Nat → va_E} {i : Int32} (hM : MB K cA code 4 R_law) (hXB : XB K b L xs) (hL : L ≤ 3072) (hR : HasRoom K 2048 84000) (hC : Cells K 600000 7302250) (hP : PI ad cA g) (hRl : RP g) (hi0 : 0 ≤ i.toInt) (hi : i.toInt + 6 ≤ L) (hW : WB NN ad K g H locs) (hl : lv_has ls 4 [(3, .int i), (2, .ref (ad 129)), (1, .ref (ad 0)), (0, .ref b)]) (kk : ∀ (g : Nat → va_E) (H : Heap) (locs : List Loc) (ls : Array Slot), PI ad cA g → RP g → WB NN ad K g H locs → lv_has ls 4 [(3, .int i), (2, .ref (ad 129)), (1, .ref (ad 0)), (0, .ref b)] → XX K 600000 7302250 H locs 1457 ls []) : XX K 600000 7302250 H locs 645 ls [] := by
  have hLn : L < 1000000 := by omega
  obtain ⟨lw, lwn, hlc, h13, h14⟩ := id hP.2.2.1
  refine q_aload_n hM dL_law_645 (lv_at hl 2 rfl) ?_
  refine q_aload_n hM dL_law_646 (lv_at hl 3 rfl) ?_
  refine q_iload_n hM dL_law_647 (lv_at hl 0 rfl) ?_
  refine q_iconst (v := (1 : Int32)) hM dL_law_648 (by decide) ?_
  refine q_iadd hM dL_law_649 (fun z13644 hz13644 => ?_)
  have tz13644 := i_addT hz13644 (rfl : i.toInt = i.toInt) (kc_1 : (1 : Int32).toInt = 1) (by omega) (by omega)
  refine s_iald z13644.toInt.toNat hM hW hXB (by omega) (by omega) (by omega) dL_law_650 ?_
  refine q_top (fun a13645 ha13645 => ?_)
  refine q_aload_n hM dL_law_651 (lv_at hl 3 rfl) ?_
  refine q_iload_n hM dL_law_652 (lv_at hl 0 rfl) ?_
  refine q_iconst (v := (2 : Int32)) hM dL_law_653 (by decide) ?_
  refine q_iadd hM dL_law_654 (fun z13646 hz13646 => ?_)
  have tz13646 := i_addT hz13646 (rfl : i.toInt = i.toInt) (kc_2 : (2 : Int32).toInt = 2) (by omega) (by omega)
  refine s_iald z13646.toInt.toNat hM hW hXB (by omega) (by omega) (by omega) dL_law_655 ?_
  refine q_top (fun a13647 ha13647 => ?_)
  refine q_aload_n hM dL_law_656 (lv_at hl 3 rfl) ?_
  refine q_iload_n hM dL_law_657 (lv_at hl 0 rfl) ?_
  refine q_iconst (v := (3 : Int32)) hM dL_law_658 (by decide) ?_
  refine q_iadd hM dL_law_659 (fun z13648 hz13648 => ?_)
  have tz13648 := i_addT hz13648 (rfl : i.toInt = i.toInt) (kc_3 : (3 : Int32).toInt = 3) (by omega) (by omega)
  refine s_iald z13648.toInt.toNat hM hW hXB (by omega) (by omega) (by omega) dL_law_660 ?_
  refine q_top (fun a13649 ha13649 => ?_)
  refine q_callV (As := [.int a13645, .int a13647, .int a13649]) (rest := []) hM hW hR hC myX11_first (kAW (v_3_2 (List.mem_of_getElem? (i := 4) rfl)) rfl) (rfl : vwCl[11]? = some (RX11, TX11, 16)) rfl lb_0.1 (shO hP.1 lb_0) (p_X11_first _ _ cA ad g a13645 a13647 a13649 lw hP.1 hP.2.1 (by unfold isLw; omega) h13) ⟨by decide, by decide⟩ rfl rfl hl.1 (Nat.le_of_ble_eq_true rfl) dL_law_661 (fun v g1 H locs hp hW => ?_)
  obtain ⟨r1, rfl, hs1, hG1, hf1⟩ := hp
  have hP0 := hP
  have hP : PI ad cA g1 := PI_fr hP0 hs1 hG1 hf1 (by omega) (by omega) (by omega) (by omega) (by omega) (by omega) (by omega) (by omega) (by omega)
  refine q_pop hM dL_law_664 rfl ?_
  refine q_aload_n hM dL_law_665 (lv_at hl 1 rfl) ?_
  refine q_aload_n hM dL_law_666 (lv_at hl 3 rfl) ?_
  refine q_iload_n hM dL_law_667 (lv_at hl 0 rfl) ?_
  refine q_iconst (v := (1 : Int32)) hM dL_law_668 (by decide) ?_
  refine q_iadd hM dL_law_669 (fun z13650 hz13650 => ?_)
  have tz13650 := i_addT hz13650 (rfl : i.toInt = i.toInt) (kc_1 : (1 : Int32).toInt = 1) (by omega) (by omega)
  refine s_iald z13650.toInt.toNat hM hW hXB (by omega) (by omega) (by omega) dL_law_670 ?_
  refine q_top (fun a13651 ha13651 => ?_)
  refine q_aload_n hM dL_law_671 (lv_at hl 3 rfl) ?_
  refine q_iload_n hM dL_law_672 (lv_at hl 0 rfl) ?_
  refine q_iconst (v := (2 : Int32)) hM dL_law_673 (by decide) ?_
  refine q_iadd hM dL_law_674 (fun z13652 hz13652 => ?_)
  have tz13652 := i_addT hz13652 (rfl : i.toInt = i.toInt) (kc_2 : (2 : Int32).toInt = 2) (by omega) (by omega)
  refine s_iald z13652.toInt.toNat hM hW hXB (by omega) (by omega) (by omega) dL_law_675 ?_
  refine q_top (fun a13653 ha13653 => ?_)
  refine q_aload_n hM dL_law_676 (lv_at hl 3 rfl) ?_
  refine q_iload_n hM dL_law_677 (lv_at hl 0 rfl) ?_
  refine q_iconst (v := (3 : Int32)) hM dL_law_678 (by decide) ?_
  refine q_iadd hM dL_law_679 (fun z13654 hz13654 => ?_)
  have tz13654 := i_addT hz13654 (rfl : i.toInt = i.toInt) (kc_3 : (3 : Int32).toInt = 3) (by omega) (by omega)
  refine s_iald z13654.toInt.toNat hM hW hXB (by omega) (by omega) (by omega) dL_law_680 ?_
  refine q_top (fun a13655 ha13655 => ?_)
  refine q_callV (As := [.int a13651, .int a13653, .int a13655]) (rest := []) hM hW hR hC myX12_first (kAW (v_6_11 (List.mem_of_getElem? (i := 2) rfl)) rfl) (rfl : vwCl[12]? = some (RX12, TX12, 86)) rfl lb_129.1 (shO hP.1 lb_129) (s_X12_first _ _ cA ad g1 a13651 a13653 a13655 (fI g1 129 56) hP.1 hP.2.1 (shI hP.1 lb_129 (by decide) (by decide)) hP.2.2.2.1.1 (fun q hq => by rw [hf1.2.1 158 (by omega)]; exact SM_01 hRl.2.1 q hq)) ⟨by decide, by decide⟩ rfl rfl hl.1 (Nat.le_of_ble_eq_true rfl) dL_law_681 (fun v g2 H locs hp hW => ?_)
  obtain ⟨m0, r2, rfl, hs2, hG2, hf2, cm0, cm1, cm2, cm3, cm4⟩ := hp
  have hP1 := hP
  have hP : PI ad cA g2 := PI_fr hP1 hs2 hG2 hf2 (by first | decide | omega) (by first | decide | omega) (by first | decide | omega) (by first | decide | omega) (by first | decide | omega) (by first | decide | omega) (by first | decide | omega) (by first | decide | omega) (by first | decide | omega)
  have qa13651 : a13651 = a13645 := by rw [ha13651, ha13645]; congr 1; omega
  have qa13653 : a13653 = a13647 := by rw [ha13653, ha13647]; congr 1; omega
  have qa13655 : a13655 = a13649 := by rw [ha13655, ha13649]; congr 1; omega
  first | rw [qa13651] at cm0 | skip
  first | rw [qa13653] at cm0 | skip
  first | rw [qa13655] at cm0 | skip
  first | rw [qa13651] at cm1 | skip
  first | rw [qa13653] at cm1 | skip
  first | rw [qa13655] at cm1 | skip
  first | rw [qa13651] at cm2 | skip
  first | rw [qa13653] at cm2 | skip
  first | rw [qa13655] at cm2 | skip
  first | rw [qa13651] at cm3 | skip
  first | rw [qa13653] at cm3 | skip
  first | rw [qa13655] at cm3 | skip
  first | rw [qa13651] at cm4 | skip
  first | rw [qa13653] at cm4 | skip
  first | rw [qa13655] at cm4 | skip
  refine q_pop hM dL_law_684 rfl ?_
  refine q_goto (tgt := 1457) hM dL_law_685 (by decide) ?_
  exact kk _ _ _ _ hP ⟨(by rw [show fI g2 3 2 = fI g 3 2 from (FRf hf1 hf2 (by omega) (by first | decide | omega)), show arI g2 131 = arI g 131 from ((hf2.2.1 131 (by first | decide | omega)).trans (hf1.2.1 131 (by omega)))]; exact hRl.1), (by rw [show fI g2 18 3 = fI g 18 3 from (FRf hf1 hf2 (by omega) (by first | decide | omega))]; exact SM_cg hRl.2.1 (fun q hq => (cm1 q hq).trans (congrFun (hf1.2.1 158 (by omega)) q))), (by rw [show fI g2 30 3 = fI g 30 3 from (FRf hf1 hf2 (by omega) (by first | decide | omega))]; exact SM_cg hRl.2.2.1 (fun q hq => (cm2 _ (by omega)).trans (congrFun (hf1.2.1 162 (by omega)) (8 + q)))), (((FRf hf1 hf2 (by omega) (by first | decide | omega))).trans (hRl.2.2.2.1.trans ((FRf hf1 hf2 (by omega) (by first | decide | omega))).symm)), ((FRf hf1 hf2 (by omega) (by first | decide | omega)).trans (hRl.2.2.2.2.1.trans ((FR1f hf1 (by omega)).symm.trans (cm4.symm.trans (fI_of cm0).symm)))), ((FRf hf1 hf2 (by omega) (by first | decide | omega)).trans (hRl.2.2.2.2.2.trans ((congrFun (hf1.2.1 166 (by omega)) 1).symm.trans cm3.symm)))⟩ hW hl

set_option maxRecDepth 100000 in
set_option maxHeartbeats 4000000 in
theorem lc_does {K : KT} {cA : Nat → ClassId} {ad : Nat → Nat} {b L : Nat} {xs : Nat → Int32} {H : Heap} {locs : List Loc} {ls : Array Slot} {g : Nat → va_E} {i : Int32} (hM : MB K cA code 4 R_law) (hXB : XB K b L xs) (hL : L ≤ 3072) (hR : HasRoom K 2048 84000) (hC : Cells K 600000 7302250) (hP : PI ad cA g) (hRl : RP g) (hi0 : 0 ≤ i.toInt) (hi : i.toInt + 6 ≤ L) (hW : WB NN ad K g H locs) (hl : lv_has ls 4 [(3, .int i), (2, .ref (ad 129)), (1, .ref (ad 0)), (0, .ref b)]) (kk : ∀ (g : Nat → va_E) (H : Heap) (locs : List Loc) (ls : Array Slot), PI ad cA g → RP g → WB NN ad K g H locs → lv_has ls 4 [(3, .int i), (2, .ref (ad 129)), (1, .ref (ad 0)), (0, .ref b)] → XX K 600000 7302250 H locs 1457 ls []) : XX K 600000 7302250 H locs 688 ls [] := by
  have hLn : L < 1000000 := by omega
  obtain ⟨lw, lwn, hlc, h13, h14⟩ := id hP.2.2.1
  refine q_aload_n hM dL_law_688 (lv_at hl 2 rfl) ?_
  refine q_aload_n hM dL_law_689 (lv_at hl 3 rfl) ?_
  refine q_iload_n hM dL_law_690 (lv_at hl 0 rfl) ?_
  refine q_iconst (v := (1 : Int32)) hM dL_law_691 (by decide) ?_
  refine q_iadd hM dL_law_692 (fun z13656 hz13656 => ?_)
  have tz13656 := i_addT hz13656 (rfl : i.toInt = i.toInt) (kc_1 : (1 : Int32).toInt = 1) (by omega) (by omega)
  refine s_iald z13656.toInt.toNat hM hW hXB (by omega) (by omega) (by omega) dL_law_693 ?_
  refine q_top (fun a13657 ha13657 => ?_)
  refine q_aload_n hM dL_law_694 (lv_at hl 3 rfl) ?_
  refine q_iload_n hM dL_law_695 (lv_at hl 0 rfl) ?_
  refine q_iconst (v := (2 : Int32)) hM dL_law_696 (by decide) ?_
  refine q_iadd hM dL_law_697 (fun z13658 hz13658 => ?_)
  have tz13658 := i_addT hz13658 (rfl : i.toInt = i.toInt) (kc_2 : (2 : Int32).toInt = 2) (by omega) (by omega)
  refine s_iald z13658.toInt.toNat hM hW hXB (by omega) (by omega) (by omega) dL_law_698 ?_
  refine q_top (fun a13659 ha13659 => ?_)
  refine q_callV (As := [.int a13657, .int a13659]) (rest := []) hM hW hR hC myX11_does (kAW (v_3_2 (List.mem_of_getElem? (i := 8) rfl)) rfl) (rfl : vwCl[11]? = some (RX11, TX11, 16)) rfl lb_0.1 (shO hP.1 lb_0) (p_X11_does _ _ cA ad g a13657 a13659 lw hP.1 hP.2.1 (by unfold isLw; omega) h13) ⟨by decide, by decide⟩ rfl rfl hl.1 (Nat.le_of_ble_eq_true rfl) dL_law_699 (fun v g1 H locs hp hW => ?_)
  obtain ⟨r1, rfl, hs1, hG1, hf1⟩ := hp
  have hP0 := hP
  have hP : PI ad cA g1 := PI_fr hP0 hs1 hG1 hf1 (by omega) (by omega) (by omega) (by omega) (by omega) (by omega) (by omega) (by omega) (by omega)
  refine q_pop hM dL_law_702 rfl ?_
  refine q_aload_n hM dL_law_703 (lv_at hl 1 rfl) ?_
  refine q_aload_n hM dL_law_704 (lv_at hl 3 rfl) ?_
  refine q_iload_n hM dL_law_705 (lv_at hl 0 rfl) ?_
  refine q_iconst (v := (1 : Int32)) hM dL_law_706 (by decide) ?_
  refine q_iadd hM dL_law_707 (fun z13660 hz13660 => ?_)
  have tz13660 := i_addT hz13660 (rfl : i.toInt = i.toInt) (kc_1 : (1 : Int32).toInt = 1) (by omega) (by omega)
  refine s_iald z13660.toInt.toNat hM hW hXB (by omega) (by omega) (by omega) dL_law_708 ?_
  refine q_top (fun a13661 ha13661 => ?_)
  refine q_aload_n hM dL_law_709 (lv_at hl 3 rfl) ?_
  refine q_iload_n hM dL_law_710 (lv_at hl 0 rfl) ?_
  refine q_iconst (v := (2 : Int32)) hM dL_law_711 (by decide) ?_
  refine q_iadd hM dL_law_712 (fun z13662 hz13662 => ?_)
  have tz13662 := i_addT hz13662 (rfl : i.toInt = i.toInt) (kc_2 : (2 : Int32).toInt = 2) (by omega) (by omega)
  refine s_iald z13662.toInt.toNat hM hW hXB (by omega) (by omega) (by omega) dL_law_713 ?_
  refine q_top (fun a13663 ha13663 => ?_)
  refine q_callV (As := [.int a13661, .int a13663]) (rest := []) hM hW hR hC myX12_does (kAW (v_6_3 (List.mem_of_getElem? (i := 3) rfl)) rfl) (rfl : vwCl[12]? = some (RX12, TX12, 86)) rfl lb_129.1 (shO hP.1 lb_129) (p_X12_does _ _ cA ad g1 a13661 a13663 hP.1 hP.2.1 hP.2.2.2.1.1) ⟨by decide, by decide⟩ rfl rfl hl.1 (Nat.le_of_ble_eq_true rfl) dL_law_714 (fun v g2 H locs hp hW => ?_)
  obtain ⟨r2, rfl, hs2, hG2, hf2⟩ := hp
  have hP1 := hP
  have hP : PI ad cA g2 := PI_fr hP1 hs2 hG2 hf2 (by first | decide | omega) (by first | decide | omega) (by first | decide | omega) (by first | decide | omega) (by first | decide | omega) (by first | decide | omega) (by first | decide | omega) (by first | decide | omega) (by first | decide | omega)
  have qa13661 : a13661 = a13657 := by rw [ha13661, ha13657]; congr 1; omega
  have qa13663 : a13663 = a13659 := by rw [ha13663, ha13659]; congr 1; omega
  refine q_pop hM dL_law_717 rfl ?_
  refine q_goto (tgt := 1457) hM dL_law_718 (by decide) ?_
  exact kk _ _ _ _ hP ⟨(by rw [show fI g2 3 2 = fI g 3 2 from (FRf hf1 hf2 (by omega) (by first | decide | omega)), show arI g2 131 = arI g 131 from ((hf2.2.1 131 (by first | decide | omega)).trans (hf1.2.1 131 (by omega)))]; exact hRl.1), (by rw [show fI g2 18 3 = fI g 18 3 from (FRf hf1 hf2 (by omega) (by first | decide | omega)), show arI g2 158 = arI g 158 from ((hf2.2.1 158 (by first | decide | omega)).trans (hf1.2.1 158 (by omega)))]; exact hRl.2.1), (by rw [show fI g2 30 3 = fI g 30 3 from (FRf hf1 hf2 (by omega) (by first | decide | omega)), show arI g2 162 = arI g 162 from ((hf2.2.1 162 (by first | decide | omega)).trans (hf1.2.1 162 (by omega)))]; exact hRl.2.2.1), (((FRf hf1 hf2 (by omega) (by first | decide | omega))).trans (hRl.2.2.2.1.trans ((FRf hf1 hf2 (by omega) (by first | decide | omega))).symm)), (((FRf hf1 hf2 (by omega) (by first | decide | omega))).trans (hRl.2.2.2.2.1.trans ((FRf hf1 hf2 (by omega) (by first | decide | omega))).symm)), (((FRf hf1 hf2 (by omega) (by first | decide | omega))).trans (hRl.2.2.2.2.2.trans (congrFun ((hf2.2.1 166 (by first | decide | omega)).trans (hf1.2.1 166 (by omega))) 1).symm))⟩ hW hl

set_option maxRecDepth 100000 in
set_option maxHeartbeats 4000000 in
theorem lc_pupilIs {K : KT} {cA : Nat → ClassId} {ad : Nat → Nat} {b L : Nat} {xs : Nat → Int32} {H : Heap} {locs : List Loc} {ls : Array Slot} {g : Nat → va_E} {i : Int32} (hM : MB K cA code 4 R_law) (hXB : XB K b L xs) (hL : L ≤ 3072) (hR : HasRoom K 2048 84000) (hC : Cells K 600000 7302250) (hP : PI ad cA g) (hRl : RP g) (hi0 : 0 ≤ i.toInt) (hi : i.toInt + 6 ≤ L) (hW : WB NN ad K g H locs) (hl : lv_has ls 4 [(3, .int i), (2, .ref (ad 129)), (1, .ref (ad 0)), (0, .ref b)]) (kk : ∀ (g : Nat → va_E) (H : Heap) (locs : List Loc) (ls : Array Slot), PI ad cA g → RP g → WB NN ad K g H locs → lv_has ls 4 [(3, .int i), (2, .ref (ad 129)), (1, .ref (ad 0)), (0, .ref b)] → XX K 600000 7302250 H locs 1457 ls []) : XX K 600000 7302250 H locs 721 ls [] := by
  have hLn : L < 1000000 := by omega
  obtain ⟨lw, lwn, hlc, h13, h14⟩ := id hP.2.2.1
  refine q_aload_n hM dL_law_721 (lv_at hl 2 rfl) ?_
  refine q_aload_n hM dL_law_722 (lv_at hl 3 rfl) ?_
  refine q_iload_n hM dL_law_723 (lv_at hl 0 rfl) ?_
  refine q_iconst (v := (1 : Int32)) hM dL_law_724 (by decide) ?_
  refine q_iadd hM dL_law_725 (fun z13664 hz13664 => ?_)
  have tz13664 := i_addT hz13664 (rfl : i.toInt = i.toInt) (kc_1 : (1 : Int32).toInt = 1) (by omega) (by omega)
  refine s_iald z13664.toInt.toNat hM hW hXB (by omega) (by omega) (by omega) dL_law_726 ?_
  refine q_top (fun a13665 ha13665 => ?_)
  refine q_aload_n hM dL_law_727 (lv_at hl 3 rfl) ?_
  refine q_iload_n hM dL_law_728 (lv_at hl 0 rfl) ?_
  refine q_iconst (v := (2 : Int32)) hM dL_law_729 (by decide) ?_
  refine q_iadd hM dL_law_730 (fun z13666 hz13666 => ?_)
  have tz13666 := i_addT hz13666 (rfl : i.toInt = i.toInt) (kc_2 : (2 : Int32).toInt = 2) (by omega) (by omega)
  refine s_iald z13666.toInt.toNat hM hW hXB (by omega) (by omega) (by omega) dL_law_731 ?_
  refine q_top (fun a13667 ha13667 => ?_)
  refine q_callV (As := [.int a13665, .int a13667]) (rest := []) hM hW hR hC myX11_pupilIs (kAW (v_3_2 (List.mem_of_getElem? (i := 13) rfl)) rfl) (rfl : vwCl[11]? = some (RX11, TX11, 16)) rfl lb_0.1 (shO hP.1 lb_0) (p_X11_pupilIs _ _ cA ad g a13665 a13667  hP.1 hP.2.1) ⟨by decide, by decide⟩ rfl rfl hl.1 (Nat.le_of_ble_eq_true rfl) dL_law_732 (fun v g1 H locs hp hW => ?_)
  obtain ⟨r1, rfl, hs1, hG1, hf1⟩ := hp
  have hP0 := hP
  have hP : PI ad cA g1 := PI_fr hP0 hs1 hG1 hf1 (fun h => h) (fun h => h) (fun h => h) (fun h => h) (fun h => h) (fun h => h) (fun h => h) (fun h => h) (fun h => h)
  refine q_pop hM dL_law_735 rfl ?_
  refine q_aload_n hM dL_law_736 (lv_at hl 1 rfl) ?_
  refine q_aload_n hM dL_law_737 (lv_at hl 3 rfl) ?_
  refine q_iload_n hM dL_law_738 (lv_at hl 0 rfl) ?_
  refine q_iconst (v := (1 : Int32)) hM dL_law_739 (by decide) ?_
  refine q_iadd hM dL_law_740 (fun z13668 hz13668 => ?_)
  have tz13668 := i_addT hz13668 (rfl : i.toInt = i.toInt) (kc_1 : (1 : Int32).toInt = 1) (by omega) (by omega)
  refine s_iald z13668.toInt.toNat hM hW hXB (by omega) (by omega) (by omega) dL_law_741 ?_
  refine q_top (fun a13669 ha13669 => ?_)
  refine q_aload_n hM dL_law_742 (lv_at hl 3 rfl) ?_
  refine q_iload_n hM dL_law_743 (lv_at hl 0 rfl) ?_
  refine q_iconst (v := (2 : Int32)) hM dL_law_744 (by decide) ?_
  refine q_iadd hM dL_law_745 (fun z13670 hz13670 => ?_)
  have tz13670 := i_addT hz13670 (rfl : i.toInt = i.toInt) (kc_2 : (2 : Int32).toInt = 2) (by omega) (by omega)
  refine s_iald z13670.toInt.toNat hM hW hXB (by omega) (by omega) (by omega) dL_law_746 ?_
  refine q_top (fun a13671 ha13671 => ?_)
  refine q_callV (As := [.int a13669, .int a13671]) (rest := []) hM hW hR hC myX12_pupilIs (kAW (v_6_11 (List.mem_of_getElem? (i := 6) rfl)) rfl) (rfl : vwCl[12]? = some (RX12, TX12, 86)) rfl lb_129.1 (shO hP.1 lb_129) (p_X12_pupilIs _ _ cA ad g1 a13669 a13671 hP.1 hP.2.1) ⟨by decide, by decide⟩ rfl rfl hl.1 (Nat.le_of_ble_eq_true rfl) dL_law_747 (fun v g2 H locs hp hW => ?_)
  obtain ⟨r2, rfl, hs2, hG2, hf2⟩ := hp
  have hP1 := hP
  have hP : PI ad cA g2 := PI_fr hP1 hs2 hG2 hf2 (fun h => h) (fun h => h) (fun h => h) (fun h => h) (fun h => h) (fun h => h) (fun h => h) (fun h => h) (fun h => h)
  have qa13669 : a13669 = a13665 := by rw [ha13669, ha13665]; congr 1; omega
  have qa13671 : a13671 = a13667 := by rw [ha13671, ha13667]; congr 1; omega
  refine q_pop hM dL_law_750 rfl ?_
  refine q_goto (tgt := 1457) hM dL_law_751 (by decide) ?_
  exact kk _ _ _ _ hP ⟨(by rw [show fI g2 3 2 = fI g 3 2 from (FRf hf1 hf2 (fun h => h) (fun h => h)), show arI g2 131 = arI g 131 from ((hf2.2.1 131 (fun h => h)).trans (hf1.2.1 131 (fun h => h)))]; exact hRl.1), (by rw [show fI g2 18 3 = fI g 18 3 from (FRf hf1 hf2 (fun h => h) (fun h => h)), show arI g2 158 = arI g 158 from ((hf2.2.1 158 (fun h => h)).trans (hf1.2.1 158 (fun h => h)))]; exact hRl.2.1), (by rw [show fI g2 30 3 = fI g 30 3 from (FRf hf1 hf2 (fun h => h) (fun h => h)), show arI g2 162 = arI g 162 from ((hf2.2.1 162 (fun h => h)).trans (hf1.2.1 162 (fun h => h)))]; exact hRl.2.2.1), (((FRf hf1 hf2 (fun h => h) (fun h => h))).trans (hRl.2.2.2.1.trans ((FRf hf1 hf2 (fun h => h) (fun h => h))).symm)), (((FRf hf1 hf2 (fun h => h) (fun h => h))).trans (hRl.2.2.2.2.1.trans ((FRf hf1 hf2 (fun h => h) (fun h => h))).symm)), (((FRf hf1 hf2 (fun h => h) (fun h => h))).trans (hRl.2.2.2.2.2.trans (congrFun ((hf2.2.1 166 (fun h => h)).trans (hf1.2.1 166 (fun h => h))) 1).symm))⟩ hW hl

set_option maxRecDepth 100000 in
set_option maxHeartbeats 4000000 in
theorem lc_strength {K : KT} {cA : Nat → ClassId} {ad : Nat → Nat} {b L : Nat} {xs : Nat → Int32} {H : Heap} {locs : List Loc} {ls : Array Slot} {g : Nat → va_E} {i : Int32} (hM : MB K cA code 4 R_law) (hXB : XB K b L xs) (hL : L ≤ 3072) (hR : HasRoom K 2048 84000) (hC : Cells K 600000 7302250) (hP : PI ad cA g) (hRl : RP g) (hi0 : 0 ≤ i.toInt) (hi : i.toInt + 6 ≤ L) (hW : WB NN ad K g H locs) (hl : lv_has ls 4 [(3, .int i), (2, .ref (ad 129)), (1, .ref (ad 0)), (0, .ref b)]) (kk : ∀ (g : Nat → va_E) (H : Heap) (locs : List Loc) (ls : Array Slot), PI ad cA g → RP g → WB NN ad K g H locs → lv_has ls 4 [(3, .int i), (2, .ref (ad 129)), (1, .ref (ad 0)), (0, .ref b)] → XX K 600000 7302250 H locs 1457 ls []) : XX K 600000 7302250 H locs 754 ls [] := by
  have hLn : L < 1000000 := by omega
  obtain ⟨lw, lwn, hlc, h13, h14⟩ := id hP.2.2.1
  refine q_aload_n hM dL_law_754 (lv_at hl 2 rfl) ?_
  refine q_aload_n hM dL_law_755 (lv_at hl 3 rfl) ?_
  refine q_iload_n hM dL_law_756 (lv_at hl 0 rfl) ?_
  refine q_iconst (v := (1 : Int32)) hM dL_law_757 (by decide) ?_
  refine q_iadd hM dL_law_758 (fun z13672 hz13672 => ?_)
  have tz13672 := i_addT hz13672 (rfl : i.toInt = i.toInt) (kc_1 : (1 : Int32).toInt = 1) (by omega) (by omega)
  refine s_iald z13672.toInt.toNat hM hW hXB (by omega) (by omega) (by omega) dL_law_759 ?_
  refine q_top (fun a13673 ha13673 => ?_)
  refine q_aload_n hM dL_law_760 (lv_at hl 3 rfl) ?_
  refine q_iload_n hM dL_law_761 (lv_at hl 0 rfl) ?_
  refine q_iconst (v := (2 : Int32)) hM dL_law_762 (by decide) ?_
  refine q_iadd hM dL_law_763 (fun z13674 hz13674 => ?_)
  have tz13674 := i_addT hz13674 (rfl : i.toInt = i.toInt) (kc_2 : (2 : Int32).toInt = 2) (by omega) (by omega)
  refine s_iald z13674.toInt.toNat hM hW hXB (by omega) (by omega) (by omega) dL_law_764 ?_
  refine q_top (fun a13675 ha13675 => ?_)
  refine q_callV (As := [.int a13673, .int a13675]) (rest := []) hM hW hR hC myX11_strength (kAW (v_3_3 (List.mem_of_getElem? (i := 9) rfl)) rfl) (rfl : vwCl[11]? = some (RX11, TX11, 16)) rfl lb_0.1 (shO hP.1 lb_0) (p_X11_strength _ _ cA ad g a13673 a13675  hP.1 hP.2.1) ⟨by decide, by decide⟩ rfl rfl hl.1 (Nat.le_of_ble_eq_true rfl) dL_law_765 (fun v g1 H locs hp hW => ?_)
  obtain ⟨r1, rfl, hs1, hG1, hf1⟩ := hp
  have hP0 := hP
  have hP : PI ad cA g1 := PI_fr hP0 hs1 hG1 hf1 (fun h => h) (fun h => h) (fun h => h) (fun h => h) (fun h => h) (fun h => h) (fun h => h) (fun h => h) (fun h => h)
  refine q_pop hM dL_law_768 rfl ?_
  refine q_aload_n hM dL_law_769 (lv_at hl 1 rfl) ?_
  refine q_aload_n hM dL_law_770 (lv_at hl 3 rfl) ?_
  refine q_iload_n hM dL_law_771 (lv_at hl 0 rfl) ?_
  refine q_iconst (v := (1 : Int32)) hM dL_law_772 (by decide) ?_
  refine q_iadd hM dL_law_773 (fun z13676 hz13676 => ?_)
  have tz13676 := i_addT hz13676 (rfl : i.toInt = i.toInt) (kc_1 : (1 : Int32).toInt = 1) (by omega) (by omega)
  refine s_iald z13676.toInt.toNat hM hW hXB (by omega) (by omega) (by omega) dL_law_774 ?_
  refine q_top (fun a13677 ha13677 => ?_)
  refine q_aload_n hM dL_law_775 (lv_at hl 3 rfl) ?_
  refine q_iload_n hM dL_law_776 (lv_at hl 0 rfl) ?_
  refine q_iconst (v := (2 : Int32)) hM dL_law_777 (by decide) ?_
  refine q_iadd hM dL_law_778 (fun z13678 hz13678 => ?_)
  have tz13678 := i_addT hz13678 (rfl : i.toInt = i.toInt) (kc_2 : (2 : Int32).toInt = 2) (by omega) (by omega)
  refine s_iald z13678.toInt.toNat hM hW hXB (by omega) (by omega) (by omega) dL_law_779 ?_
  refine q_top (fun a13679 ha13679 => ?_)
  refine q_callV (As := [.int a13677, .int a13679]) (rest := []) hM hW hR hC myX12_strength (kAW (v_6_12 (List.mem_of_getElem? (i := 2) rfl)) rfl) (rfl : vwCl[12]? = some (RX12, TX12, 86)) rfl lb_129.1 (shO hP.1 lb_129) (p_X12_strength _ _ cA ad g1 a13677 a13679 hP.1 hP.2.1) ⟨by decide, by decide⟩ rfl rfl hl.1 (Nat.le_of_ble_eq_true rfl) dL_law_780 (fun v g2 H locs hp hW => ?_)
  obtain ⟨r2, rfl, hs2, hG2, hf2⟩ := hp
  have hP1 := hP
  have hP : PI ad cA g2 := PI_fr hP1 hs2 hG2 hf2 (fun h => h) (fun h => h) (fun h => h) (fun h => h) (fun h => h) (fun h => h) (fun h => h) (fun h => h) (fun h => h)
  have qa13677 : a13677 = a13673 := by rw [ha13677, ha13673]; congr 1; omega
  have qa13679 : a13679 = a13675 := by rw [ha13679, ha13675]; congr 1; omega
  refine q_pop hM dL_law_783 rfl ?_
  refine q_goto (tgt := 1457) hM dL_law_784 (by decide) ?_
  exact kk _ _ _ _ hP ⟨(by rw [show fI g2 3 2 = fI g 3 2 from (FRf hf1 hf2 (fun h => h) (fun h => h)), show arI g2 131 = arI g 131 from ((hf2.2.1 131 (fun h => h)).trans (hf1.2.1 131 (fun h => h)))]; exact hRl.1), (by rw [show fI g2 18 3 = fI g 18 3 from (FRf hf1 hf2 (fun h => h) (fun h => h)), show arI g2 158 = arI g 158 from ((hf2.2.1 158 (fun h => h)).trans (hf1.2.1 158 (fun h => h)))]; exact hRl.2.1), (by rw [show fI g2 30 3 = fI g 30 3 from (FRf hf1 hf2 (fun h => h) (fun h => h)), show arI g2 162 = arI g 162 from ((hf2.2.1 162 (fun h => h)).trans (hf1.2.1 162 (fun h => h)))]; exact hRl.2.2.1), (((FRf hf1 hf2 (fun h => h) (fun h => h))).trans (hRl.2.2.2.1.trans ((FRf hf1 hf2 (fun h => h) (fun h => h))).symm)), (((FRf hf1 hf2 (fun h => h) (fun h => h))).trans (hRl.2.2.2.2.1.trans ((FRf hf1 hf2 (fun h => h) (fun h => h))).symm)), (((FRf hf1 hf2 (fun h => h) (fun h => h))).trans (hRl.2.2.2.2.2.trans (congrFun ((hf2.2.1 166 (fun h => h)).trans (hf1.2.1 166 (fun h => h))) 1).symm))⟩ hW hl

set_option maxRecDepth 100000 in
set_option maxHeartbeats 4000000 in
theorem lc_heard {K : KT} {cA : Nat → ClassId} {ad : Nat → Nat} {b L : Nat} {xs : Nat → Int32} {H : Heap} {locs : List Loc} {ls : Array Slot} {g : Nat → va_E} {i : Int32} (hM : MB K cA code 4 R_law) (hXB : XB K b L xs) (hL : L ≤ 3072) (hR : HasRoom K 2048 84000) (hC : Cells K 600000 7302250) (hP : PI ad cA g) (hRl : RP g) (hi0 : 0 ≤ i.toInt) (hi : i.toInt + 6 ≤ L) (hW : WB NN ad K g H locs) (hl : lv_has ls 4 [(3, .int i), (2, .ref (ad 129)), (1, .ref (ad 0)), (0, .ref b)]) (kk : ∀ (g : Nat → va_E) (H : Heap) (locs : List Loc) (ls : Array Slot), PI ad cA g → RP g → WB NN ad K g H locs → lv_has ls 4 [(3, .int i), (2, .ref (ad 129)), (1, .ref (ad 0)), (0, .ref b)] → XX K 600000 7302250 H locs 1457 ls []) : XX K 600000 7302250 H locs 787 ls [] := by
  have hLn : L < 1000000 := by omega
  obtain ⟨lw, lwn, hlc, h13, h14⟩ := id hP.2.2.1
  refine q_aload_n hM dL_law_787 (lv_at hl 2 rfl) ?_
  refine q_aload_n hM dL_law_788 (lv_at hl 3 rfl) ?_
  refine q_iload_n hM dL_law_789 (lv_at hl 0 rfl) ?_
  refine q_iconst (v := (1 : Int32)) hM dL_law_790 (by decide) ?_
  refine q_iadd hM dL_law_791 (fun z13680 hz13680 => ?_)
  have tz13680 := i_addT hz13680 (rfl : i.toInt = i.toInt) (kc_1 : (1 : Int32).toInt = 1) (by omega) (by omega)
  refine s_iald z13680.toInt.toNat hM hW hXB (by omega) (by omega) (by omega) dL_law_792 ?_
  refine q_top (fun a13681 ha13681 => ?_)
  refine q_aload_n hM dL_law_793 (lv_at hl 3 rfl) ?_
  refine q_iload_n hM dL_law_794 (lv_at hl 0 rfl) ?_
  refine q_iconst (v := (2 : Int32)) hM dL_law_795 (by decide) ?_
  refine q_iadd hM dL_law_796 (fun z13682 hz13682 => ?_)
  have tz13682 := i_addT hz13682 (rfl : i.toInt = i.toInt) (kc_2 : (2 : Int32).toInt = 2) (by omega) (by omega)
  refine s_iald z13682.toInt.toNat hM hW hXB (by omega) (by omega) (by omega) dL_law_797 ?_
  refine q_top (fun a13683 ha13683 => ?_)
  refine q_callV (As := [.int a13681, .int a13683]) (rest := []) hM hW hR hC myX11_heard (kAW (v_3_3 (List.mem_of_getElem? (i := 13) rfl)) rfl) (rfl : vwCl[11]? = some (RX11, TX11, 16)) rfl lb_0.1 (shO hP.1 lb_0) (p_X11_heard _ _ cA ad g a13681 a13683  hP.1 hP.2.1) ⟨by decide, by decide⟩ rfl rfl hl.1 (Nat.le_of_ble_eq_true rfl) dL_law_798 (fun v g1 H locs hp hW => ?_)
  obtain ⟨r1, rfl, hs1, hG1, hf1⟩ := hp
  have hP0 := hP
  have hP : PI ad cA g1 := PI_fr hP0 hs1 hG1 hf1 (fun h => h) (fun h => h) (fun h => h) (fun h => h) (fun h => h) (fun h => h) (fun h => h) (fun h => h) (fun h => h)
  refine q_pop hM dL_law_801 rfl ?_
  refine q_aload_n hM dL_law_802 (lv_at hl 1 rfl) ?_
  refine q_aload_n hM dL_law_803 (lv_at hl 3 rfl) ?_
  refine q_iload_n hM dL_law_804 (lv_at hl 0 rfl) ?_
  refine q_iconst (v := (1 : Int32)) hM dL_law_805 (by decide) ?_
  refine q_iadd hM dL_law_806 (fun z13684 hz13684 => ?_)
  have tz13684 := i_addT hz13684 (rfl : i.toInt = i.toInt) (kc_1 : (1 : Int32).toInt = 1) (by omega) (by omega)
  refine s_iald z13684.toInt.toNat hM hW hXB (by omega) (by omega) (by omega) dL_law_807 ?_
  refine q_top (fun a13685 ha13685 => ?_)
  refine q_aload_n hM dL_law_808 (lv_at hl 3 rfl) ?_
  refine q_iload_n hM dL_law_809 (lv_at hl 0 rfl) ?_
  refine q_iconst (v := (2 : Int32)) hM dL_law_810 (by decide) ?_
  refine q_iadd hM dL_law_811 (fun z13686 hz13686 => ?_)
  have tz13686 := i_addT hz13686 (rfl : i.toInt = i.toInt) (kc_2 : (2 : Int32).toInt = 2) (by omega) (by omega)
  refine s_iald z13686.toInt.toNat hM hW hXB (by omega) (by omega) (by omega) dL_law_812 ?_
  refine q_top (fun a13687 ha13687 => ?_)
  refine q_callV (As := [.int a13685, .int a13687]) (rest := []) hM hW hR hC myX12_heard (kAW (v_6_7 (List.mem_of_getElem? (i := 1) rfl)) rfl) (rfl : vwCl[12]? = some (RX12, TX12, 86)) rfl lb_129.1 (shO hP.1 lb_129) (p_X12_heard _ _ cA ad g1 a13685 a13687 hP.1 hP.2.1) ⟨by decide, by decide⟩ rfl rfl hl.1 (Nat.le_of_ble_eq_true rfl) dL_law_813 (fun v g2 H locs hp hW => ?_)
  obtain ⟨r2, rfl, hs2, hG2, hf2⟩ := hp
  have hP1 := hP
  have hP : PI ad cA g2 := PI_fr hP1 hs2 hG2 hf2 (fun h => h) (fun h => h) (fun h => h) (fun h => h) (fun h => h) (fun h => h) (fun h => h) (fun h => h) (fun h => h)
  have qa13685 : a13685 = a13681 := by rw [ha13685, ha13681]; congr 1; omega
  have qa13687 : a13687 = a13683 := by rw [ha13687, ha13683]; congr 1; omega
  refine q_pop hM dL_law_816 rfl ?_
  refine q_goto (tgt := 1457) hM dL_law_817 (by decide) ?_
  exact kk _ _ _ _ hP ⟨(by rw [show fI g2 3 2 = fI g 3 2 from (FRf hf1 hf2 (fun h => h) (fun h => h)), show arI g2 131 = arI g 131 from ((hf2.2.1 131 (fun h => h)).trans (hf1.2.1 131 (fun h => h)))]; exact hRl.1), (by rw [show fI g2 18 3 = fI g 18 3 from (FRf hf1 hf2 (fun h => h) (fun h => h)), show arI g2 158 = arI g 158 from ((hf2.2.1 158 (fun h => h)).trans (hf1.2.1 158 (fun h => h)))]; exact hRl.2.1), (by rw [show fI g2 30 3 = fI g 30 3 from (FRf hf1 hf2 (fun h => h) (fun h => h)), show arI g2 162 = arI g 162 from ((hf2.2.1 162 (fun h => h)).trans (hf1.2.1 162 (fun h => h)))]; exact hRl.2.2.1), (((FRf hf1 hf2 (fun h => h) (fun h => h))).trans (hRl.2.2.2.1.trans ((FRf hf1 hf2 (fun h => h) (fun h => h))).symm)), (((FRf hf1 hf2 (fun h => h) (fun h => h))).trans (hRl.2.2.2.2.1.trans ((FRf hf1 hf2 (fun h => h) (fun h => h))).symm)), (((FRf hf1 hf2 (fun h => h) (fun h => h))).trans (hRl.2.2.2.2.2.trans (congrFun ((hf2.2.1 166 (fun h => h)).trans (hf1.2.1 166 (fun h => h))) 1).symm))⟩ hW hl

set_option maxRecDepth 100000 in
set_option maxHeartbeats 4000000 in
theorem lc_order {K : KT} {cA : Nat → ClassId} {ad : Nat → Nat} {b L : Nat} {xs : Nat → Int32} {H : Heap} {locs : List Loc} {ls : Array Slot} {g : Nat → va_E} {i : Int32} (hM : MB K cA code 4 R_law) (hXB : XB K b L xs) (hL : L ≤ 3072) (hR : HasRoom K 2048 84000) (hC : Cells K 600000 7302250) (hP : PI ad cA g) (hRl : RP g) (hi0 : 0 ≤ i.toInt) (hi : i.toInt + 6 ≤ L) (hW : WB NN ad K g H locs) (hl : lv_has ls 4 [(3, .int i), (2, .ref (ad 129)), (1, .ref (ad 0)), (0, .ref b)]) (kk : ∀ (g : Nat → va_E) (H : Heap) (locs : List Loc) (ls : Array Slot), PI ad cA g → RP g → WB NN ad K g H locs → lv_has ls 4 [(3, .int i), (2, .ref (ad 129)), (1, .ref (ad 0)), (0, .ref b)] → XX K 600000 7302250 H locs 1457 ls []) : XX K 600000 7302250 H locs 820 ls [] := by
  have hLn : L < 1000000 := by omega
  obtain ⟨lw, lwn, hlc, h13, h14⟩ := id hP.2.2.1
  refine q_aload_n hM dL_law_820 (lv_at hl 2 rfl) ?_
  refine q_aload_n hM dL_law_821 (lv_at hl 3 rfl) ?_
  refine q_iload_n hM dL_law_822 (lv_at hl 0 rfl) ?_
  refine q_iconst (v := (1 : Int32)) hM dL_law_823 (by decide) ?_
  refine q_iadd hM dL_law_824 (fun z13688 hz13688 => ?_)
  have tz13688 := i_addT hz13688 (rfl : i.toInt = i.toInt) (kc_1 : (1 : Int32).toInt = 1) (by omega) (by omega)
  refine s_iald z13688.toInt.toNat hM hW hXB (by omega) (by omega) (by omega) dL_law_825 ?_
  refine q_top (fun a13689 ha13689 => ?_)
  refine q_aload_n hM dL_law_826 (lv_at hl 3 rfl) ?_
  refine q_iload_n hM dL_law_827 (lv_at hl 0 rfl) ?_
  refine q_iconst (v := (2 : Int32)) hM dL_law_828 (by decide) ?_
  refine q_iadd hM dL_law_829 (fun z13690 hz13690 => ?_)
  have tz13690 := i_addT hz13690 (rfl : i.toInt = i.toInt) (kc_2 : (2 : Int32).toInt = 2) (by omega) (by omega)
  refine s_iald z13690.toInt.toNat hM hW hXB (by omega) (by omega) (by omega) dL_law_830 ?_
  refine q_top (fun a13691 ha13691 => ?_)
  refine q_aload_n hM dL_law_831 (lv_at hl 3 rfl) ?_
  refine q_iload_n hM dL_law_832 (lv_at hl 0 rfl) ?_
  refine q_iconst (v := (3 : Int32)) hM dL_law_833 (by decide) ?_
  refine q_iadd hM dL_law_834 (fun z13692 hz13692 => ?_)
  have tz13692 := i_addT hz13692 (rfl : i.toInt = i.toInt) (kc_3 : (3 : Int32).toInt = 3) (by omega) (by omega)
  refine s_iald z13692.toInt.toNat hM hW hXB (by omega) (by omega) (by omega) dL_law_835 ?_
  refine q_top (fun a13693 ha13693 => ?_)
  refine q_aload_n hM dL_law_836 (lv_at hl 3 rfl) ?_
  refine q_iload_n hM dL_law_837 (lv_at hl 0 rfl) ?_
  refine q_iconst (v := (4 : Int32)) hM dL_law_838 (by decide) ?_
  refine q_iadd hM dL_law_839 (fun z13694 hz13694 => ?_)
  have tz13694 := i_addT hz13694 (rfl : i.toInt = i.toInt) (kc_4 : (4 : Int32).toInt = 4) (by omega) (by omega)
  refine s_iald z13694.toInt.toNat hM hW hXB (by omega) (by omega) (by omega) dL_law_840 ?_
  refine q_top (fun a13695 ha13695 => ?_)
  refine q_aload_n hM dL_law_841 (lv_at hl 3 rfl) ?_
  refine q_iload_n hM dL_law_842 (lv_at hl 0 rfl) ?_
  refine q_iconst (v := (5 : Int32)) hM dL_law_843 (by decide) ?_
  refine q_iadd hM dL_law_844 (fun z13696 hz13696 => ?_)
  have tz13696 := i_addT hz13696 (rfl : i.toInt = i.toInt) (kc_5 : (5 : Int32).toInt = 5) (by omega) (by omega)
  refine s_iald z13696.toInt.toNat hM hW hXB (by omega) (by omega) (by omega) dL_law_845 ?_
  refine q_top (fun a13697 ha13697 => ?_)
  refine q_callV (As := [.int a13689, .int a13691, .int a13693, .int a13695, .int a13697]) (rest := []) hM hW hR hC myX11_order (kAW (v_3_4 (List.mem_of_getElem? (i := 2) rfl)) rfl) (rfl : vwCl[11]? = some (RX11, TX11, 16)) rfl lb_0.1 (shO hP.1 lb_0) (p_X11_order _ _ cA ad g a13689 a13691 a13693 a13695 a13697 lw hP.1 hP.2.1 (by unfold isLw; omega) h13) ⟨by decide, by decide⟩ rfl rfl hl.1 (Nat.le_of_ble_eq_true rfl) dL_law_846 (fun v g1 H locs hp hW => ?_)
  obtain ⟨r1, rfl, hs1, hG1, hf1⟩ := hp
  have hP0 := hP
  have hP : PI ad cA g1 := PI_fr hP0 hs1 hG1 hf1 (by omega) (by omega) (by omega) (by omega) (by omega) (by omega) (by omega) (by omega) (by omega)
  refine q_pop hM dL_law_849 rfl ?_
  refine q_aload_n hM dL_law_850 (lv_at hl 1 rfl) ?_
  refine q_aload_n hM dL_law_851 (lv_at hl 3 rfl) ?_
  refine q_iload_n hM dL_law_852 (lv_at hl 0 rfl) ?_
  refine q_iconst (v := (1 : Int32)) hM dL_law_853 (by decide) ?_
  refine q_iadd hM dL_law_854 (fun z13698 hz13698 => ?_)
  have tz13698 := i_addT hz13698 (rfl : i.toInt = i.toInt) (kc_1 : (1 : Int32).toInt = 1) (by omega) (by omega)
  refine s_iald z13698.toInt.toNat hM hW hXB (by omega) (by omega) (by omega) dL_law_855 ?_
  refine q_top (fun a13699 ha13699 => ?_)
  refine q_aload_n hM dL_law_856 (lv_at hl 3 rfl) ?_
  refine q_iload_n hM dL_law_857 (lv_at hl 0 rfl) ?_
  refine q_iconst (v := (2 : Int32)) hM dL_law_858 (by decide) ?_
  refine q_iadd hM dL_law_859 (fun z13700 hz13700 => ?_)
  have tz13700 := i_addT hz13700 (rfl : i.toInt = i.toInt) (kc_2 : (2 : Int32).toInt = 2) (by omega) (by omega)
  refine s_iald z13700.toInt.toNat hM hW hXB (by omega) (by omega) (by omega) dL_law_860 ?_
  refine q_top (fun a13701 ha13701 => ?_)
  refine q_aload_n hM dL_law_861 (lv_at hl 3 rfl) ?_
  refine q_iload_n hM dL_law_862 (lv_at hl 0 rfl) ?_
  refine q_iconst (v := (3 : Int32)) hM dL_law_863 (by decide) ?_
  refine q_iadd hM dL_law_864 (fun z13702 hz13702 => ?_)
  have tz13702 := i_addT hz13702 (rfl : i.toInt = i.toInt) (kc_3 : (3 : Int32).toInt = 3) (by omega) (by omega)
  refine s_iald z13702.toInt.toNat hM hW hXB (by omega) (by omega) (by omega) dL_law_865 ?_
  refine q_top (fun a13703 ha13703 => ?_)
  refine q_aload_n hM dL_law_866 (lv_at hl 3 rfl) ?_
  refine q_iload_n hM dL_law_867 (lv_at hl 0 rfl) ?_
  refine q_iconst (v := (4 : Int32)) hM dL_law_868 (by decide) ?_
  refine q_iadd hM dL_law_869 (fun z13704 hz13704 => ?_)
  have tz13704 := i_addT hz13704 (rfl : i.toInt = i.toInt) (kc_4 : (4 : Int32).toInt = 4) (by omega) (by omega)
  refine s_iald z13704.toInt.toNat hM hW hXB (by omega) (by omega) (by omega) dL_law_870 ?_
  refine q_top (fun a13705 ha13705 => ?_)
  refine q_aload_n hM dL_law_871 (lv_at hl 3 rfl) ?_
  refine q_iload_n hM dL_law_872 (lv_at hl 0 rfl) ?_
  refine q_iconst (v := (5 : Int32)) hM dL_law_873 (by decide) ?_
  refine q_iadd hM dL_law_874 (fun z13706 hz13706 => ?_)
  have tz13706 := i_addT hz13706 (rfl : i.toInt = i.toInt) (kc_5 : (5 : Int32).toInt = 5) (by omega) (by omega)
  refine s_iald z13706.toInt.toNat hM hW hXB (by omega) (by omega) (by omega) dL_law_875 ?_
  refine q_top (fun a13707 ha13707 => ?_)
  refine q_callV (As := [.int a13699, .int a13701, .int a13703, .int a13705, .int a13707]) (rest := []) hM hW hR hC myX12_order (kAW (v_6_12 (List.mem_of_getElem? (i := 6) rfl)) rfl) (rfl : vwCl[12]? = some (RX12, TX12, 86)) rfl lb_129.1 (shO hP.1 lb_129) (p_X12_order _ _ cA ad g1 a13699 a13701 a13703 a13705 a13707 hP.1 hP.2.1 hP.2.2.2.1.1) ⟨by decide, by decide⟩ rfl rfl hl.1 (Nat.le_of_ble_eq_true rfl) dL_law_876 (fun v g2 H locs hp hW => ?_)
  obtain ⟨r2, rfl, hs2, hG2, hf2⟩ := hp
  have hP1 := hP
  have hP : PI ad cA g2 := PI_fr hP1 hs2 hG2 hf2 (by first | decide | omega) (by first | decide | omega) (by first | decide | omega) (by first | decide | omega) (by first | decide | omega) (by first | decide | omega) (by first | decide | omega) (by first | decide | omega) (by first | decide | omega)
  have qa13699 : a13699 = a13689 := by rw [ha13699, ha13689]; congr 1; omega
  have qa13701 : a13701 = a13691 := by rw [ha13701, ha13691]; congr 1; omega
  have qa13703 : a13703 = a13693 := by rw [ha13703, ha13693]; congr 1; omega
  have qa13705 : a13705 = a13695 := by rw [ha13705, ha13695]; congr 1; omega
  have qa13707 : a13707 = a13697 := by rw [ha13707, ha13697]; congr 1; omega
  refine q_pop hM dL_law_879 rfl ?_
  refine q_goto (tgt := 1457) hM dL_law_880 (by decide) ?_
  exact kk _ _ _ _ hP ⟨(by rw [show fI g2 3 2 = fI g 3 2 from (FRf hf1 hf2 (by omega) (by first | decide | omega)), show arI g2 131 = arI g 131 from ((hf2.2.1 131 (by first | decide | omega)).trans (hf1.2.1 131 (by omega)))]; exact hRl.1), (by rw [show fI g2 18 3 = fI g 18 3 from (FRf hf1 hf2 (by omega) (by first | decide | omega)), show arI g2 158 = arI g 158 from ((hf2.2.1 158 (by first | decide | omega)).trans (hf1.2.1 158 (by omega)))]; exact hRl.2.1), (by rw [show fI g2 30 3 = fI g 30 3 from (FRf hf1 hf2 (by omega) (by first | decide | omega)), show arI g2 162 = arI g 162 from ((hf2.2.1 162 (by first | decide | omega)).trans (hf1.2.1 162 (by omega)))]; exact hRl.2.2.1), (((FRf hf1 hf2 (by omega) (by first | decide | omega))).trans (hRl.2.2.2.1.trans ((FRf hf1 hf2 (by omega) (by first | decide | omega))).symm)), (((FRf hf1 hf2 (by omega) (by first | decide | omega))).trans (hRl.2.2.2.2.1.trans ((FRf hf1 hf2 (by omega) (by first | decide | omega))).symm)), (((FRf hf1 hf2 (by omega) (by first | decide | omega))).trans (hRl.2.2.2.2.2.trans (congrFun ((hf2.2.1 166 (by first | decide | omega)).trans (hf1.2.1 166 (by omega))) 1).symm))⟩ hW hl

set_option maxRecDepth 100000 in
set_option maxHeartbeats 4000000 in
theorem lc_still {K : KT} {cA : Nat → ClassId} {ad : Nat → Nat} {b L : Nat} {xs : Nat → Int32} {H : Heap} {locs : List Loc} {ls : Array Slot} {g : Nat → va_E} {i : Int32} (hM : MB K cA code 4 R_law) (hXB : XB K b L xs) (hL : L ≤ 3072) (hR : HasRoom K 2048 84000) (hC : Cells K 600000 7302250) (hP : PI ad cA g) (hRl : RP g) (hi0 : 0 ≤ i.toInt) (hi : i.toInt + 6 ≤ L) (hW : WB NN ad K g H locs) (hl : lv_has ls 4 [(3, .int i), (2, .ref (ad 129)), (1, .ref (ad 0)), (0, .ref b)]) (kk : ∀ (g : Nat → va_E) (H : Heap) (locs : List Loc) (ls : Array Slot), PI ad cA g → RP g → WB NN ad K g H locs → lv_has ls 4 [(3, .int i), (2, .ref (ad 129)), (1, .ref (ad 0)), (0, .ref b)] → XX K 600000 7302250 H locs 1457 ls []) : XX K 600000 7302250 H locs 883 ls [] := by
  have hLn : L < 1000000 := by omega
  obtain ⟨lw, lwn, hlc, h13, h14⟩ := id hP.2.2.1
  refine q_aload_n hM dL_law_883 (lv_at hl 2 rfl) ?_
  refine q_aload_n hM dL_law_884 (lv_at hl 3 rfl) ?_
  refine q_iload_n hM dL_law_885 (lv_at hl 0 rfl) ?_
  refine q_iconst (v := (1 : Int32)) hM dL_law_886 (by decide) ?_
  refine q_iadd hM dL_law_887 (fun z13708 hz13708 => ?_)
  have tz13708 := i_addT hz13708 (rfl : i.toInt = i.toInt) (kc_1 : (1 : Int32).toInt = 1) (by omega) (by omega)
  refine s_iald z13708.toInt.toNat hM hW hXB (by omega) (by omega) (by omega) dL_law_888 ?_
  refine q_top (fun a13709 ha13709 => ?_)
  refine q_aload_n hM dL_law_889 (lv_at hl 3 rfl) ?_
  refine q_iload_n hM dL_law_890 (lv_at hl 0 rfl) ?_
  refine q_iconst (v := (2 : Int32)) hM dL_law_891 (by decide) ?_
  refine q_iadd hM dL_law_892 (fun z13710 hz13710 => ?_)
  have tz13710 := i_addT hz13710 (rfl : i.toInt = i.toInt) (kc_2 : (2 : Int32).toInt = 2) (by omega) (by omega)
  refine s_iald z13710.toInt.toNat hM hW hXB (by omega) (by omega) (by omega) dL_law_893 ?_
  refine q_top (fun a13711 ha13711 => ?_)
  refine q_aload_n hM dL_law_894 (lv_at hl 3 rfl) ?_
  refine q_iload_n hM dL_law_895 (lv_at hl 0 rfl) ?_
  refine q_iconst (v := (3 : Int32)) hM dL_law_896 (by decide) ?_
  refine q_iadd hM dL_law_897 (fun z13712 hz13712 => ?_)
  have tz13712 := i_addT hz13712 (rfl : i.toInt = i.toInt) (kc_3 : (3 : Int32).toInt = 3) (by omega) (by omega)
  refine s_iald z13712.toInt.toNat hM hW hXB (by omega) (by omega) (by omega) dL_law_898 ?_
  refine q_top (fun a13713 ha13713 => ?_)
  refine q_callV (As := [.int a13709, .int a13711, .int a13713]) (rest := []) hM hW hR hC myX11_still (kAW (v_3_6 (List.mem_of_getElem? (i := 8) rfl)) rfl) (rfl : vwCl[11]? = some (RX11, TX11, 16)) rfl lb_0.1 (shO hP.1 lb_0) (p_X11_still _ _ cA ad g a13709 a13711 a13713 lw hP.1 hP.2.1 (by unfold isLw; omega) h13) ⟨by decide, by decide⟩ rfl rfl hl.1 (Nat.le_of_ble_eq_true rfl) dL_law_899 (fun v g1 H locs hp hW => ?_)
  obtain ⟨r1, rfl, hs1, hG1, hf1⟩ := hp
  have hP0 := hP
  have hP : PI ad cA g1 := PI_fr hP0 hs1 hG1 hf1 (by omega) (by omega) (by omega) (by omega) (by omega) (by omega) (by omega) (by omega) (by omega)
  refine q_pop hM dL_law_902 rfl ?_
  refine q_aload_n hM dL_law_903 (lv_at hl 1 rfl) ?_
  refine q_aload_n hM dL_law_904 (lv_at hl 3 rfl) ?_
  refine q_iload_n hM dL_law_905 (lv_at hl 0 rfl) ?_
  refine q_iconst (v := (1 : Int32)) hM dL_law_906 (by decide) ?_
  refine q_iadd hM dL_law_907 (fun z13714 hz13714 => ?_)
  have tz13714 := i_addT hz13714 (rfl : i.toInt = i.toInt) (kc_1 : (1 : Int32).toInt = 1) (by omega) (by omega)
  refine s_iald z13714.toInt.toNat hM hW hXB (by omega) (by omega) (by omega) dL_law_908 ?_
  refine q_top (fun a13715 ha13715 => ?_)
  refine q_aload_n hM dL_law_909 (lv_at hl 3 rfl) ?_
  refine q_iload_n hM dL_law_910 (lv_at hl 0 rfl) ?_
  refine q_iconst (v := (2 : Int32)) hM dL_law_911 (by decide) ?_
  refine q_iadd hM dL_law_912 (fun z13716 hz13716 => ?_)
  have tz13716 := i_addT hz13716 (rfl : i.toInt = i.toInt) (kc_2 : (2 : Int32).toInt = 2) (by omega) (by omega)
  refine s_iald z13716.toInt.toNat hM hW hXB (by omega) (by omega) (by omega) dL_law_913 ?_
  refine q_top (fun a13717 ha13717 => ?_)
  refine q_aload_n hM dL_law_914 (lv_at hl 3 rfl) ?_
  refine q_iload_n hM dL_law_915 (lv_at hl 0 rfl) ?_
  refine q_iconst (v := (3 : Int32)) hM dL_law_916 (by decide) ?_
  refine q_iadd hM dL_law_917 (fun z13718 hz13718 => ?_)
  have tz13718 := i_addT hz13718 (rfl : i.toInt = i.toInt) (kc_3 : (3 : Int32).toInt = 3) (by omega) (by omega)
  refine s_iald z13718.toInt.toNat hM hW hXB (by omega) (by omega) (by omega) dL_law_918 ?_
  refine q_top (fun a13719 ha13719 => ?_)
  refine q_callV (As := [.int a13715, .int a13717, .int a13719]) (rest := []) hM hW hR hC myX12_still (kAW (v_6_14 (List.mem_of_getElem? (i := 14) rfl)) rfl) (rfl : vwCl[12]? = some (RX12, TX12, 86)) rfl lb_129.1 (shO hP.1 lb_129) (p_X12_still _ _ cA ad g1 a13715 a13717 a13719 hP.1 hP.2.1 hP.2.2.2.1.1) ⟨by decide, by decide⟩ rfl rfl hl.1 (Nat.le_of_ble_eq_true rfl) dL_law_919 (fun v g2 H locs hp hW => ?_)
  obtain ⟨r2, rfl, hs2, hG2, hf2⟩ := hp
  have hP1 := hP
  have hP : PI ad cA g2 := PI_fr hP1 hs2 hG2 hf2 (by first | decide | omega) (by first | decide | omega) (by first | decide | omega) (by first | decide | omega) (by first | decide | omega) (by first | decide | omega) (by first | decide | omega) (by first | decide | omega) (by first | decide | omega)
  have qa13715 : a13715 = a13709 := by rw [ha13715, ha13709]; congr 1; omega
  have qa13717 : a13717 = a13711 := by rw [ha13717, ha13711]; congr 1; omega
  have qa13719 : a13719 = a13713 := by rw [ha13719, ha13713]; congr 1; omega
  refine q_pop hM dL_law_922 rfl ?_
  refine q_goto (tgt := 1457) hM dL_law_923 (by decide) ?_
  exact kk _ _ _ _ hP ⟨(by rw [show fI g2 3 2 = fI g 3 2 from (FRf hf1 hf2 (by omega) (by first | decide | omega)), show arI g2 131 = arI g 131 from ((hf2.2.1 131 (by first | decide | omega)).trans (hf1.2.1 131 (by omega)))]; exact hRl.1), (by rw [show fI g2 18 3 = fI g 18 3 from (FRf hf1 hf2 (by omega) (by first | decide | omega)), show arI g2 158 = arI g 158 from ((hf2.2.1 158 (by first | decide | omega)).trans (hf1.2.1 158 (by omega)))]; exact hRl.2.1), (by rw [show fI g2 30 3 = fI g 30 3 from (FRf hf1 hf2 (by omega) (by first | decide | omega)), show arI g2 162 = arI g 162 from ((hf2.2.1 162 (by first | decide | omega)).trans (hf1.2.1 162 (by omega)))]; exact hRl.2.2.1), (((FRf hf1 hf2 (by omega) (by first | decide | omega))).trans (hRl.2.2.2.1.trans ((FRf hf1 hf2 (by omega) (by first | decide | omega))).symm)), (((FRf hf1 hf2 (by omega) (by first | decide | omega))).trans (hRl.2.2.2.2.1.trans ((FRf hf1 hf2 (by omega) (by first | decide | omega))).symm)), (((FRf hf1 hf2 (by omega) (by first | decide | omega))).trans (hRl.2.2.2.2.2.trans (congrFun ((hf2.2.1 166 (by first | decide | omega)).trans (hf1.2.1 166 (by omega))) 1).symm))⟩ hW hl

set_option maxRecDepth 100000 in
set_option maxHeartbeats 4000000 in
theorem lc_cut {K : KT} {cA : Nat → ClassId} {ad : Nat → Nat} {b L : Nat} {xs : Nat → Int32} {H : Heap} {locs : List Loc} {ls : Array Slot} {g : Nat → va_E} {i : Int32} (hM : MB K cA code 4 R_law) (hXB : XB K b L xs) (hL : L ≤ 3072) (hR : HasRoom K 2048 84000) (hC : Cells K 600000 7302250) (hP : PI ad cA g) (hRl : RP g) (hi0 : 0 ≤ i.toInt) (hi : i.toInt + 6 ≤ L) (hW : WB NN ad K g H locs) (hl : lv_has ls 4 [(3, .int i), (2, .ref (ad 129)), (1, .ref (ad 0)), (0, .ref b)]) (kk : ∀ (g : Nat → va_E) (H : Heap) (locs : List Loc) (ls : Array Slot), PI ad cA g → RP g → WB NN ad K g H locs → lv_has ls 4 [(3, .int i), (2, .ref (ad 129)), (1, .ref (ad 0)), (0, .ref b)] → XX K 600000 7302250 H locs 1457 ls []) : XX K 600000 7302250 H locs 926 ls [] := by
  have hLn : L < 1000000 := by omega
  obtain ⟨lw, lwn, hlc, h13, h14⟩ := id hP.2.2.1
  refine q_aload_n hM dL_law_926 (lv_at hl 2 rfl) ?_
  refine q_aload_n hM dL_law_927 (lv_at hl 3 rfl) ?_
  refine q_iload_n hM dL_law_928 (lv_at hl 0 rfl) ?_
  refine q_iconst (v := (1 : Int32)) hM dL_law_929 (by decide) ?_
  refine q_iadd hM dL_law_930 (fun z13720 hz13720 => ?_)
  have tz13720 := i_addT hz13720 (rfl : i.toInt = i.toInt) (kc_1 : (1 : Int32).toInt = 1) (by omega) (by omega)
  refine s_iald z13720.toInt.toNat hM hW hXB (by omega) (by omega) (by omega) dL_law_931 ?_
  refine q_top (fun a13721 ha13721 => ?_)
  refine q_aload_n hM dL_law_932 (lv_at hl 3 rfl) ?_
  refine q_iload_n hM dL_law_933 (lv_at hl 0 rfl) ?_
  refine q_iconst (v := (2 : Int32)) hM dL_law_934 (by decide) ?_
  refine q_iadd hM dL_law_935 (fun z13722 hz13722 => ?_)
  have tz13722 := i_addT hz13722 (rfl : i.toInt = i.toInt) (kc_2 : (2 : Int32).toInt = 2) (by omega) (by omega)
  refine s_iald z13722.toInt.toNat hM hW hXB (by omega) (by omega) (by omega) dL_law_936 ?_
  refine q_top (fun a13723 ha13723 => ?_)
  refine q_aload_n hM dL_law_937 (lv_at hl 3 rfl) ?_
  refine q_iload_n hM dL_law_938 (lv_at hl 0 rfl) ?_
  refine q_iconst (v := (3 : Int32)) hM dL_law_939 (by decide) ?_
  refine q_iadd hM dL_law_940 (fun z13724 hz13724 => ?_)
  have tz13724 := i_addT hz13724 (rfl : i.toInt = i.toInt) (kc_3 : (3 : Int32).toInt = 3) (by omega) (by omega)
  refine s_iald z13724.toInt.toNat hM hW hXB (by omega) (by omega) (by omega) dL_law_941 ?_
  refine q_top (fun a13725 ha13725 => ?_)
  refine q_callV (As := [.int a13721, .int a13723, .int a13725]) (rest := []) hM hW hR hC myX11_cut (kAW (v_3_7 (List.mem_of_getElem? (i := 2) rfl)) rfl) (rfl : vwCl[11]? = some (RX11, TX11, 16)) rfl lb_0.1 (shO hP.1 lb_0) (p_X11_cut _ _ cA ad g a13721 a13723 a13725  hP.1 hP.2.1) ⟨by decide, by decide⟩ rfl rfl hl.1 (Nat.le_of_ble_eq_true rfl) dL_law_942 (fun v g1 H locs hp hW => ?_)
  obtain ⟨r1, rfl, hs1, hG1, hf1⟩ := hp
  have hP0 := hP
  have hP : PI ad cA g1 := PI_fr hP0 hs1 hG1 hf1 (fun h => h) (fun h => h) (fun h => h) (fun h => h) (fun h => h) (fun h => h) (fun h => h) (fun h => h) (fun h => h)
  refine q_pop hM dL_law_945 rfl ?_
  refine q_aload_n hM dL_law_946 (lv_at hl 1 rfl) ?_
  refine q_aload_n hM dL_law_947 (lv_at hl 3 rfl) ?_
  refine q_iload_n hM dL_law_948 (lv_at hl 0 rfl) ?_
  refine q_iconst (v := (1 : Int32)) hM dL_law_949 (by decide) ?_
  refine q_iadd hM dL_law_950 (fun z13726 hz13726 => ?_)
  have tz13726 := i_addT hz13726 (rfl : i.toInt = i.toInt) (kc_1 : (1 : Int32).toInt = 1) (by omega) (by omega)
  refine s_iald z13726.toInt.toNat hM hW hXB (by omega) (by omega) (by omega) dL_law_951 ?_
  refine q_top (fun a13727 ha13727 => ?_)
  refine q_aload_n hM dL_law_952 (lv_at hl 3 rfl) ?_
  refine q_iload_n hM dL_law_953 (lv_at hl 0 rfl) ?_
  refine q_iconst (v := (2 : Int32)) hM dL_law_954 (by decide) ?_
  refine q_iadd hM dL_law_955 (fun z13728 hz13728 => ?_)
  have tz13728 := i_addT hz13728 (rfl : i.toInt = i.toInt) (kc_2 : (2 : Int32).toInt = 2) (by omega) (by omega)
  refine s_iald z13728.toInt.toNat hM hW hXB (by omega) (by omega) (by omega) dL_law_956 ?_
  refine q_top (fun a13729 ha13729 => ?_)
  refine q_aload_n hM dL_law_957 (lv_at hl 3 rfl) ?_
  refine q_iload_n hM dL_law_958 (lv_at hl 0 rfl) ?_
  refine q_iconst (v := (3 : Int32)) hM dL_law_959 (by decide) ?_
  refine q_iadd hM dL_law_960 (fun z13730 hz13730 => ?_)
  have tz13730 := i_addT hz13730 (rfl : i.toInt = i.toInt) (kc_3 : (3 : Int32).toInt = 3) (by omega) (by omega)
  refine s_iald z13730.toInt.toNat hM hW hXB (by omega) (by omega) (by omega) dL_law_961 ?_
  refine q_top (fun a13731 ha13731 => ?_)
  refine q_callV (As := [.int a13727, .int a13729, .int a13731]) (rest := []) hM hW hR hC myX12_cut (kAW (v_5_7 (List.mem_of_getElem? (i := 9) rfl)) rfl) (rfl : vwCl[12]? = some (RX12, TX12, 86)) rfl lb_129.1 (shO hP.1 lb_129) (p_X12_cut _ _ cA ad g1 a13727 a13729 a13731 hP.1 hP.2.1) ⟨by decide, by decide⟩ rfl rfl hl.1 (Nat.le_of_ble_eq_true rfl) dL_law_962 (fun v g2 H locs hp hW => ?_)
  obtain ⟨r2, rfl, hs2, hG2, hf2⟩ := hp
  have hP1 := hP
  have hP : PI ad cA g2 := PI_fr hP1 hs2 hG2 hf2 (fun h => h) (fun h => h) (fun h => h) (fun h => h) (fun h => h) (fun h => h) (fun h => h) (fun h => h) (fun h => h)
  have qa13727 : a13727 = a13721 := by rw [ha13727, ha13721]; congr 1; omega
  have qa13729 : a13729 = a13723 := by rw [ha13729, ha13723]; congr 1; omega
  have qa13731 : a13731 = a13725 := by rw [ha13731, ha13725]; congr 1; omega
  refine q_pop hM dL_law_965 rfl ?_
  refine q_goto (tgt := 1457) hM dL_law_966 (by decide) ?_
  exact kk _ _ _ _ hP ⟨(by rw [show fI g2 3 2 = fI g 3 2 from (FRf hf1 hf2 (fun h => h) (fun h => h)), show arI g2 131 = arI g 131 from ((hf2.2.1 131 (fun h => h)).trans (hf1.2.1 131 (fun h => h)))]; exact hRl.1), (by rw [show fI g2 18 3 = fI g 18 3 from (FRf hf1 hf2 (fun h => h) (fun h => h)), show arI g2 158 = arI g 158 from ((hf2.2.1 158 (fun h => h)).trans (hf1.2.1 158 (fun h => h)))]; exact hRl.2.1), (by rw [show fI g2 30 3 = fI g 30 3 from (FRf hf1 hf2 (fun h => h) (fun h => h)), show arI g2 162 = arI g 162 from ((hf2.2.1 162 (fun h => h)).trans (hf1.2.1 162 (fun h => h)))]; exact hRl.2.2.1), (((FRf hf1 hf2 (fun h => h) (fun h => h))).trans (hRl.2.2.2.1.trans ((FRf hf1 hf2 (fun h => h) (fun h => h))).symm)), (((FRf hf1 hf2 (fun h => h) (fun h => h))).trans (hRl.2.2.2.2.1.trans ((FRf hf1 hf2 (fun h => h) (fun h => h))).symm)), (((FRf hf1 hf2 (fun h => h) (fun h => h))).trans (hRl.2.2.2.2.2.trans (congrFun ((hf2.2.1 166 (fun h => h)).trans (hf1.2.1 166 (fun h => h))) 1).symm))⟩ hW hl
