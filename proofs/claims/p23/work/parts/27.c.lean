set_option maxRecDepth 100000 in
set_option maxHeartbeats 4000000 in
theorem lc_other {K : KT} {cA : Nat → ClassId} {ad : Nat → Nat} {b L : Nat} {xs : Nat → Int32} {H : Heap} {locs : List Loc} {ls : Array Slot} {g : Nat → va_E} {i : Int32} (hM : MB K cA code 4 R_law) (hXB : XB K b L xs) (hL : L ≤ 3072) (hR : HasRoom K 2048 84000) (hC : Cells K 600000 7302250) (hP : PI ad cA g) (hRl : RQ g) (hi0 : 0 ≤ i.toInt) (hi : i.toInt + 6 ≤ L) (hW : WB NN ad K g H locs) (hl : lv_has ls 4 [(3, .int i), (2, .ref (ad 129)), (1, .ref (ad 0)), (0, .ref b)]) (kk : ∀ (g : Nat → va_E) (H : Heap) (locs : List Loc) (ls : Array Slot), PI ad cA g → RQ g → WB NN ad K g H locs → lv_has ls 4 [(3, .int i), (2, .ref (ad 129)), (1, .ref (ad 0)), (0, .ref b)] → XX K 600000 7302250 H locs 1457 ls []) : XX K 600000 7302250 H locs 599 ls [] := by
  have hLn : L < 1000000 := by omega
  obtain ⟨lw, lwn, hlc, h13, h14⟩ := id hP.2.2.1
  refine q_aload_n hM dL_law_599 (lv_at hl 2 rfl) ?_
  refine q_aload_n hM dL_law_600 (lv_at hl 3 rfl) ?_
  refine q_iload_n hM dL_law_601 (lv_at hl 0 rfl) ?_
  refine q_iconst (v := (1 : Int32)) hM dL_law_602 (by decide) ?_
  refine q_iadd hM dL_law_603 (fun z13758 hz13758 => ?_)
  have tz13758 := i_addT hz13758 (rfl : i.toInt = i.toInt) (kc_1 : (1 : Int32).toInt = 1) (by omega) (by omega)
  refine s_iald z13758.toInt.toNat hM hW hXB (by omega) (by omega) (by omega) dL_law_604 ?_
  refine q_top (fun a13759 ha13759 => ?_)
  refine q_aload_n hM dL_law_605 (lv_at hl 3 rfl) ?_
  refine q_iload_n hM dL_law_606 (lv_at hl 0 rfl) ?_
  refine q_iconst (v := (2 : Int32)) hM dL_law_607 (by decide) ?_
  refine q_iadd hM dL_law_608 (fun z13760 hz13760 => ?_)
  have tz13760 := i_addT hz13760 (rfl : i.toInt = i.toInt) (kc_2 : (2 : Int32).toInt = 2) (by omega) (by omega)
  refine s_iald z13760.toInt.toNat hM hW hXB (by omega) (by omega) (by omega) dL_law_609 ?_
  refine q_top (fun a13761 ha13761 => ?_)
  refine q_callV (As := [.int a13759, .int a13761]) (rest := []) hM hW hR hC myX11_other (kAW (v_3_1 (List.mem_of_getElem? (i := 8) rfl)) rfl) (rfl : vwCl[11]? = some (RX11, TX11, 16)) rfl lb_0.1 (shO hP.1 lb_0) (p_X11_other _ _ cA ad g a13759 a13761  hP.1 hP.2.1) ⟨by decide, by decide⟩ rfl rfl hl.1 (Nat.le_of_ble_eq_true rfl) dL_law_610 (fun v g1 H locs hp hW => ?_)
  obtain ⟨r1, rfl, hs1, hG1, hf1⟩ := hp
  have hP0 := hP
  have hP : PI ad cA g1 := PI_fr hP0 hs1 hG1 hf1 (by omega) (by omega) (by omega) (by omega) (by omega) (by omega) (by omega) (by omega) (by omega)
  refine q_pop hM dL_law_613 rfl ?_
  refine q_aload_n hM dL_law_614 (lv_at hl 1 rfl) ?_
  refine q_aload_n hM dL_law_615 (lv_at hl 3 rfl) ?_
  refine q_iload_n hM dL_law_616 (lv_at hl 0 rfl) ?_
  refine q_iconst (v := (1 : Int32)) hM dL_law_617 (by decide) ?_
  refine q_iadd hM dL_law_618 (fun z13762 hz13762 => ?_)
  have tz13762 := i_addT hz13762 (rfl : i.toInt = i.toInt) (kc_1 : (1 : Int32).toInt = 1) (by omega) (by omega)
  refine s_iald z13762.toInt.toNat hM hW hXB (by omega) (by omega) (by omega) dL_law_619 ?_
  refine q_top (fun a13763 ha13763 => ?_)
  refine q_aload_n hM dL_law_620 (lv_at hl 3 rfl) ?_
  refine q_iload_n hM dL_law_621 (lv_at hl 0 rfl) ?_
  refine q_iconst (v := (2 : Int32)) hM dL_law_622 (by decide) ?_
  refine q_iadd hM dL_law_623 (fun z13764 hz13764 => ?_)
  have tz13764 := i_addT hz13764 (rfl : i.toInt = i.toInt) (kc_2 : (2 : Int32).toInt = 2) (by omega) (by omega)
  refine s_iald z13764.toInt.toNat hM hW hXB (by omega) (by omega) (by omega) dL_law_624 ?_
  refine q_top (fun a13765 ha13765 => ?_)
  refine q_callV (As := [.int a13763, .int a13765]) (rest := []) hM hW hR hC myX12_other (kAW (v_6_10 (List.mem_of_getElem? (i := 14) rfl)) rfl) (rfl : vwCl[12]? = some (RX12, TX12, 86)) rfl lb_129.1 (shO hP.1 lb_129) (s_X12_other _ _ cA ad g1 a13763 a13765 (fI g1 129 56) hP.1 hP.2.1 (shI hP.1 lb_129 (by decide) (by decide)) hP.2.2.2.1.1 (fun q hq => by rw [hf1.2.1 158 (by omega)]; exact SM_01 hRl.1.2.1 q hq)) ⟨by decide, by decide⟩ rfl rfl hl.1 (Nat.le_of_ble_eq_true rfl) dL_law_625 (fun v g2 H locs hp hW => ?_)
  obtain ⟨m0, r2, rfl, hs2, hG2, hf2, cm0, cm1, cm2, cm3, cm4⟩ := hp
  have hP1 := hP
  have hP : PI ad cA g2 := PI_fr hP1 hs2 hG2 hf2 (by omega) (by omega) (by omega) (by omega) (by omega) (by omega) (by omega) (by omega) (by omega)
  have qa13763 : a13763 = a13759 := by rw [ha13763, ha13759]; congr 1; omega
  have qa13765 : a13765 = a13761 := by rw [ha13765, ha13761]; congr 1; omega
  first | rw [qa13763] at cm0 | skip
  first | rw [qa13765] at cm0 | skip
  first | rw [qa13763] at cm1 | skip
  first | rw [qa13765] at cm1 | skip
  first | rw [qa13763] at cm2 | skip
  first | rw [qa13765] at cm2 | skip
  first | rw [qa13763] at cm3 | skip
  first | rw [qa13765] at cm3 | skip
  first | rw [qa13763] at cm4 | skip
  first | rw [qa13765] at cm4 | skip
  refine q_pop hM dL_law_628 rfl ?_
  refine q_goto (tgt := 1457) hM dL_law_629 (by decide) ?_
  exact kk _ _ _ _ hP ⟨⟨(by rw [show fI g2 3 2 = fI g 3 2 from (FRf hf1 hf2 (by omega) (by omega)), show arI g2 131 = arI g 131 from ((hf2.2.1 131 (by omega)).trans (hf1.2.1 131 (by omega)))]; exact hRl.1.1), (by rw [show fI g2 18 3 = fI g 18 3 from (FRf hf1 hf2 (by omega) (by omega))]; exact SM_cg hRl.1.2.1 (fun q hq => (cm1 q hq).trans (congrFun (hf1.2.1 158 (by omega)) q))), (by rw [show fI g2 30 3 = fI g 30 3 from (FRf hf1 hf2 (by omega) (by omega))]; exact SM_cg hRl.1.2.2.1 (fun q hq => (cm2 _ (by omega)).trans (congrFun (hf1.2.1 162 (by omega)) (8 + q)))), (((FRf hf1 hf2 (by omega) (by omega))).trans (hRl.1.2.2.2.1.trans ((FRf hf1 hf2 (by omega) (by omega))).symm)), ((FRf hf1 hf2 (by omega) (by omega)).trans (hRl.1.2.2.2.2.1.trans ((FR1f hf1 (by omega)).symm.trans (cm4.symm.trans (fI_of cm0).symm)))), ((FRf hf1 hf2 (by omega) (by omega)).trans (hRl.1.2.2.2.2.2.trans ((congrFun (hf1.2.1 166 (by omega)) 1).symm.trans cm3.symm)))⟩, (fun k j hk hj => (congrFun ((hf2.2.1 (6 + 1 * k) (by omega)).trans (hf1.2.1 (6 + 1 * k) (by omega))) j).trans ((hRl.2 k j hk hj).trans (congrFun ((hf2.2.1 133 (by omega)).trans (hf1.2.1 133 (by omega))) _).symm))⟩ hW hl

set_option maxRecDepth 100000 in
set_option maxHeartbeats 4000000 in
theorem lc_copy {K : KT} {cA : Nat → ClassId} {ad : Nat → Nat} {b L : Nat} {xs : Nat → Int32} {H : Heap} {locs : List Loc} {ls : Array Slot} {g : Nat → va_E} {i : Int32} (hM : MB K cA code 4 R_law) (hXB : XB K b L xs) (hL : L ≤ 3072) (hR : HasRoom K 2048 84000) (hC : Cells K 600000 7302250) (hP : PI ad cA g) (hRl : RQ g) (hi0 : 0 ≤ i.toInt) (hi : i.toInt + 6 ≤ L) (hW : WB NN ad K g H locs) (hl : lv_has ls 4 [(3, .int i), (2, .ref (ad 129)), (1, .ref (ad 0)), (0, .ref b)]) (kk : ∀ (g : Nat → va_E) (H : Heap) (locs : List Loc) (ls : Array Slot), PI ad cA g → RQ g → WB NN ad K g H locs → lv_has ls 4 [(3, .int i), (2, .ref (ad 129)), (1, .ref (ad 0)), (0, .ref b)] → XX K 600000 7302250 H locs 1457 ls []) : XX K 600000 7302250 H locs 632 ls [] := by
  have hLn : L < 1000000 := by omega
  obtain ⟨lw, lwn, hlc, h13, h14⟩ := id hP.2.2.1
  refine q_aload_n hM dL_law_632 (lv_at hl 2 rfl) ?_
  refine q_callV (As := []) (rest := []) hM hW hR hC myX11_copy (kAW (v_3_1 (List.mem_of_getElem? (i := 12) rfl)) rfl) (rfl : vwCl[11]? = some (RX11, TX11, 16)) rfl lb_0.1 (shO hP.1 lb_0) (p_X11_copy _ _ cA ad g  lw hP.1 hP.2.1 (by unfold isLw; omega) h13) ⟨by decide, by decide⟩ rfl rfl hl.1 (Nat.le_of_ble_eq_true rfl) dL_law_633 (fun v g1 H locs hp hW => ?_)
  obtain ⟨r1, rfl, hs1, hG1, hf1⟩ := hp
  have hP0 := hP
  have hP : PI ad cA g1 := PI_fr hP0 hs1 hG1 hf1 (by omega) (by omega) (by omega) (by omega) (by omega) (by omega) (by omega) (by omega) (by omega)
  refine q_pop hM dL_law_636 rfl ?_
  refine q_aload_n hM dL_law_637 (lv_at hl 1 rfl) ?_
  refine q_callV (As := []) (rest := []) hM hW hR hC myX12_copy (kAW (v_6_1 (List.mem_of_getElem? (i := 11) rfl)) rfl) (rfl : vwCl[12]? = some (RX12, TX12, 86)) rfl lb_129.1 (shO hP.1 lb_129) (p_X12_copy _ _ cA ad g1  (fI g1 129 32) hP.1 hP.2.1 (shI hP.1 lb_129 (by decide) (by decide)) hP.2.2.2.1) ⟨by decide, by decide⟩ rfl rfl hl.1 (Nat.le_of_ble_eq_true rfl) dL_law_638 (fun v g2 H locs hp hW => ?_)
  obtain ⟨r2, rfl, hs2, hG2, hf2, ha2⟩ := hp
  have hP1 := hP
  have hP : PI ad cA g2 := by
    obtain ⟨lw9, lwn9, c9, h139, h149⟩ := hP1.2.2.1
    exact ⟨hs2, hG2, ⟨lw9, lwn9, c9, (hf2.1 0 13 (by omega)).trans h139, (hf2.1 0 14 (by omega)).trans h149⟩, ha2, TB_fr hP1.2.2.2.2 hf2 (by omega)⟩
  refine q_pop hM dL_law_641 rfl ?_
  refine q_goto (tgt := 1457) hM dL_law_642 (by decide) ?_
  exact kk _ _ _ _ hP ⟨⟨(by rw [show fI g2 3 2 = fI g 3 2 from (FRf hf1 hf2 (by omega) (by omega)), show arI g2 131 = arI g 131 from ((hf2.2.1 131 (by omega)).trans (hf1.2.1 131 (by omega)))]; exact hRl.1.1), (by rw [show fI g2 18 3 = fI g 18 3 from (FRf hf1 hf2 (by omega) (by omega)), show arI g2 158 = arI g 158 from ((hf2.2.1 158 (by omega)).trans (hf1.2.1 158 (by omega)))]; exact hRl.1.2.1), (by rw [show fI g2 30 3 = fI g 30 3 from (FRf hf1 hf2 (by omega) (by omega)), show arI g2 162 = arI g 162 from ((hf2.2.1 162 (by omega)).trans (hf1.2.1 162 (by omega)))]; exact hRl.1.2.2.1), (((FRf hf1 hf2 (by omega) (by omega))).trans (hRl.1.2.2.2.1.trans ((FRf hf1 hf2 (by omega) (by omega))).symm)), (((FRf hf1 hf2 (by omega) (by omega))).trans (hRl.1.2.2.2.2.1.trans ((FRf hf1 hf2 (by omega) (by omega))).symm)), (((FRf hf1 hf2 (by omega) (by omega))).trans (hRl.1.2.2.2.2.2.trans (congrFun ((hf2.2.1 166 (by omega)).trans (hf1.2.1 166 (by omega))) 1).symm))⟩, (fun k j hk hj => (congrFun ((hf2.2.1 (6 + 1 * k) (by omega)).trans (hf1.2.1 (6 + 1 * k) (by omega))) j).trans ((hRl.2 k j hk hj).trans (congrFun ((hf2.2.1 133 (by omega)).trans (hf1.2.1 133 (by omega))) _).symm))⟩ hW hl

set_option maxRecDepth 100000 in
set_option maxHeartbeats 4000000 in
theorem lc_first {K : KT} {cA : Nat → ClassId} {ad : Nat → Nat} {b L : Nat} {xs : Nat → Int32} {H : Heap} {locs : List Loc} {ls : Array Slot} {g : Nat → va_E} {i : Int32} (hM : MB K cA code 4 R_law) (hXB : XB K b L xs) (hL : L ≤ 3072) (hR : HasRoom K 2048 84000) (hC : Cells K 600000 7302250) (hP : PI ad cA g) (hRl : RQ g) (hi0 : 0 ≤ i.toInt) (hi : i.toInt + 6 ≤ L) (hW : WB NN ad K g H locs) (hl : lv_has ls 4 [(3, .int i), (2, .ref (ad 129)), (1, .ref (ad 0)), (0, .ref b)]) (kk : ∀ (g : Nat → va_E) (H : Heap) (locs : List Loc) (ls : Array Slot), PI ad cA g → RQ g → WB NN ad K g H locs → lv_has ls 4 [(3, .int i), (2, .ref (ad 129)), (1, .ref (ad 0)), (0, .ref b)] → XX K 600000 7302250 H locs 1457 ls []) : XX K 600000 7302250 H locs 645 ls [] := by
  have hLn : L < 1000000 := by omega
  obtain ⟨lw, lwn, hlc, h13, h14⟩ := id hP.2.2.1
  refine q_aload_n hM dL_law_645 (lv_at hl 2 rfl) ?_
  refine q_aload_n hM dL_law_646 (lv_at hl 3 rfl) ?_
  refine q_iload_n hM dL_law_647 (lv_at hl 0 rfl) ?_
  refine q_iconst (v := (1 : Int32)) hM dL_law_648 (by decide) ?_
  refine q_iadd hM dL_law_649 (fun z13766 hz13766 => ?_)
  have tz13766 := i_addT hz13766 (rfl : i.toInt = i.toInt) (kc_1 : (1 : Int32).toInt = 1) (by omega) (by omega)
  refine s_iald z13766.toInt.toNat hM hW hXB (by omega) (by omega) (by omega) dL_law_650 ?_
  refine q_top (fun a13767 ha13767 => ?_)
  refine q_aload_n hM dL_law_651 (lv_at hl 3 rfl) ?_
  refine q_iload_n hM dL_law_652 (lv_at hl 0 rfl) ?_
  refine q_iconst (v := (2 : Int32)) hM dL_law_653 (by decide) ?_
  refine q_iadd hM dL_law_654 (fun z13768 hz13768 => ?_)
  have tz13768 := i_addT hz13768 (rfl : i.toInt = i.toInt) (kc_2 : (2 : Int32).toInt = 2) (by omega) (by omega)
  refine s_iald z13768.toInt.toNat hM hW hXB (by omega) (by omega) (by omega) dL_law_655 ?_
  refine q_top (fun a13769 ha13769 => ?_)
  refine q_aload_n hM dL_law_656 (lv_at hl 3 rfl) ?_
  refine q_iload_n hM dL_law_657 (lv_at hl 0 rfl) ?_
  refine q_iconst (v := (3 : Int32)) hM dL_law_658 (by decide) ?_
  refine q_iadd hM dL_law_659 (fun z13770 hz13770 => ?_)
  have tz13770 := i_addT hz13770 (rfl : i.toInt = i.toInt) (kc_3 : (3 : Int32).toInt = 3) (by omega) (by omega)
  refine s_iald z13770.toInt.toNat hM hW hXB (by omega) (by omega) (by omega) dL_law_660 ?_
  refine q_top (fun a13771 ha13771 => ?_)
  refine q_callV (As := [.int a13767, .int a13769, .int a13771]) (rest := []) hM hW hR hC myX11_first (kAW (v_3_2 (List.mem_of_getElem? (i := 4) rfl)) rfl) (rfl : vwCl[11]? = some (RX11, TX11, 16)) rfl lb_0.1 (shO hP.1 lb_0) (p_X11_first _ _ cA ad g a13767 a13769 a13771 lw hP.1 hP.2.1 (by unfold isLw; omega) h13) ⟨by decide, by decide⟩ rfl rfl hl.1 (Nat.le_of_ble_eq_true rfl) dL_law_661 (fun v g1 H locs hp hW => ?_)
  obtain ⟨r1, rfl, hs1, hG1, hf1⟩ := hp
  have hP0 := hP
  have hP : PI ad cA g1 := PI_fr hP0 hs1 hG1 hf1 (by omega) (by omega) (by omega) (by omega) (by omega) (by omega) (by omega) (by omega) (by omega)
  refine q_pop hM dL_law_664 rfl ?_
  refine q_aload_n hM dL_law_665 (lv_at hl 1 rfl) ?_
  refine q_aload_n hM dL_law_666 (lv_at hl 3 rfl) ?_
  refine q_iload_n hM dL_law_667 (lv_at hl 0 rfl) ?_
  refine q_iconst (v := (1 : Int32)) hM dL_law_668 (by decide) ?_
  refine q_iadd hM dL_law_669 (fun z13772 hz13772 => ?_)
  have tz13772 := i_addT hz13772 (rfl : i.toInt = i.toInt) (kc_1 : (1 : Int32).toInt = 1) (by omega) (by omega)
  refine s_iald z13772.toInt.toNat hM hW hXB (by omega) (by omega) (by omega) dL_law_670 ?_
  refine q_top (fun a13773 ha13773 => ?_)
  refine q_aload_n hM dL_law_671 (lv_at hl 3 rfl) ?_
  refine q_iload_n hM dL_law_672 (lv_at hl 0 rfl) ?_
  refine q_iconst (v := (2 : Int32)) hM dL_law_673 (by decide) ?_
  refine q_iadd hM dL_law_674 (fun z13774 hz13774 => ?_)
  have tz13774 := i_addT hz13774 (rfl : i.toInt = i.toInt) (kc_2 : (2 : Int32).toInt = 2) (by omega) (by omega)
  refine s_iald z13774.toInt.toNat hM hW hXB (by omega) (by omega) (by omega) dL_law_675 ?_
  refine q_top (fun a13775 ha13775 => ?_)
  refine q_aload_n hM dL_law_676 (lv_at hl 3 rfl) ?_
  refine q_iload_n hM dL_law_677 (lv_at hl 0 rfl) ?_
  refine q_iconst (v := (3 : Int32)) hM dL_law_678 (by decide) ?_
  refine q_iadd hM dL_law_679 (fun z13776 hz13776 => ?_)
  have tz13776 := i_addT hz13776 (rfl : i.toInt = i.toInt) (kc_3 : (3 : Int32).toInt = 3) (by omega) (by omega)
  refine s_iald z13776.toInt.toNat hM hW hXB (by omega) (by omega) (by omega) dL_law_680 ?_
  refine q_top (fun a13777 ha13777 => ?_)
  refine q_callV (As := [.int a13773, .int a13775, .int a13777]) (rest := []) hM hW hR hC myX12_first (kAW (v_6_11 (List.mem_of_getElem? (i := 2) rfl)) rfl) (rfl : vwCl[12]? = some (RX12, TX12, 86)) rfl lb_129.1 (shO hP.1 lb_129) (s_X12_first _ _ cA ad g1 a13773 a13775 a13777 (fI g1 129 56) hP.1 hP.2.1 (shI hP.1 lb_129 (by decide) (by decide)) hP.2.2.2.1.1 (fun q hq => by rw [hf1.2.1 158 (by omega)]; exact SM_01 hRl.1.2.1 q hq)) ⟨by decide, by decide⟩ rfl rfl hl.1 (Nat.le_of_ble_eq_true rfl) dL_law_681 (fun v g2 H locs hp hW => ?_)
  obtain ⟨m0, r2, rfl, hs2, hG2, hf2, cm0, cm1, cm2, cm3, cm4⟩ := hp
  have hP1 := hP
  have hP : PI ad cA g2 := PI_fr hP1 hs2 hG2 hf2 (by omega) (by omega) (by omega) (by omega) (by omega) (by omega) (by omega) (by omega) (by omega)
  have qa13773 : a13773 = a13767 := by rw [ha13773, ha13767]; congr 1; omega
  have qa13775 : a13775 = a13769 := by rw [ha13775, ha13769]; congr 1; omega
  have qa13777 : a13777 = a13771 := by rw [ha13777, ha13771]; congr 1; omega
  first | rw [qa13773] at cm0 | skip
  first | rw [qa13775] at cm0 | skip
  first | rw [qa13777] at cm0 | skip
  first | rw [qa13773] at cm1 | skip
  first | rw [qa13775] at cm1 | skip
  first | rw [qa13777] at cm1 | skip
  first | rw [qa13773] at cm2 | skip
  first | rw [qa13775] at cm2 | skip
  first | rw [qa13777] at cm2 | skip
  first | rw [qa13773] at cm3 | skip
  first | rw [qa13775] at cm3 | skip
  first | rw [qa13777] at cm3 | skip
  first | rw [qa13773] at cm4 | skip
  first | rw [qa13775] at cm4 | skip
  first | rw [qa13777] at cm4 | skip
  refine q_pop hM dL_law_684 rfl ?_
  refine q_goto (tgt := 1457) hM dL_law_685 (by decide) ?_
  exact kk _ _ _ _ hP ⟨⟨(by rw [show fI g2 3 2 = fI g 3 2 from (FRf hf1 hf2 (by omega) (by omega)), show arI g2 131 = arI g 131 from ((hf2.2.1 131 (by omega)).trans (hf1.2.1 131 (by omega)))]; exact hRl.1.1), (by rw [show fI g2 18 3 = fI g 18 3 from (FRf hf1 hf2 (by omega) (by omega))]; exact SM_cg hRl.1.2.1 (fun q hq => (cm1 q hq).trans (congrFun (hf1.2.1 158 (by omega)) q))), (by rw [show fI g2 30 3 = fI g 30 3 from (FRf hf1 hf2 (by omega) (by omega))]; exact SM_cg hRl.1.2.2.1 (fun q hq => (cm2 _ (by omega)).trans (congrFun (hf1.2.1 162 (by omega)) (8 + q)))), (((FRf hf1 hf2 (by omega) (by omega))).trans (hRl.1.2.2.2.1.trans ((FRf hf1 hf2 (by omega) (by omega))).symm)), ((FRf hf1 hf2 (by omega) (by omega)).trans (hRl.1.2.2.2.2.1.trans ((FR1f hf1 (by omega)).symm.trans (cm4.symm.trans (fI_of cm0).symm)))), ((FRf hf1 hf2 (by omega) (by omega)).trans (hRl.1.2.2.2.2.2.trans ((congrFun (hf1.2.1 166 (by omega)) 1).symm.trans cm3.symm)))⟩, (fun k j hk hj => (congrFun ((hf2.2.1 (6 + 1 * k) (by omega)).trans (hf1.2.1 (6 + 1 * k) (by omega))) j).trans ((hRl.2 k j hk hj).trans (congrFun ((hf2.2.1 133 (by omega)).trans (hf1.2.1 133 (by omega))) _).symm))⟩ hW hl

set_option maxRecDepth 100000 in
set_option maxHeartbeats 4000000 in
theorem lc_does {K : KT} {cA : Nat → ClassId} {ad : Nat → Nat} {b L : Nat} {xs : Nat → Int32} {H : Heap} {locs : List Loc} {ls : Array Slot} {g : Nat → va_E} {i : Int32} (hM : MB K cA code 4 R_law) (hXB : XB K b L xs) (hL : L ≤ 3072) (hR : HasRoom K 2048 84000) (hC : Cells K 600000 7302250) (hP : PI ad cA g) (hRl : RQ g) (hi0 : 0 ≤ i.toInt) (hi : i.toInt + 6 ≤ L) (hW : WB NN ad K g H locs) (hl : lv_has ls 4 [(3, .int i), (2, .ref (ad 129)), (1, .ref (ad 0)), (0, .ref b)]) (kk : ∀ (g : Nat → va_E) (H : Heap) (locs : List Loc) (ls : Array Slot), PI ad cA g → RQ g → WB NN ad K g H locs → lv_has ls 4 [(3, .int i), (2, .ref (ad 129)), (1, .ref (ad 0)), (0, .ref b)] → XX K 600000 7302250 H locs 1457 ls []) : XX K 600000 7302250 H locs 688 ls [] := by
  have hLn : L < 1000000 := by omega
  obtain ⟨lw, lwn, hlc, h13, h14⟩ := id hP.2.2.1
  refine q_aload_n hM dL_law_688 (lv_at hl 2 rfl) ?_
  refine q_aload_n hM dL_law_689 (lv_at hl 3 rfl) ?_
  refine q_iload_n hM dL_law_690 (lv_at hl 0 rfl) ?_
  refine q_iconst (v := (1 : Int32)) hM dL_law_691 (by decide) ?_
  refine q_iadd hM dL_law_692 (fun z13778 hz13778 => ?_)
  have tz13778 := i_addT hz13778 (rfl : i.toInt = i.toInt) (kc_1 : (1 : Int32).toInt = 1) (by omega) (by omega)
  refine s_iald z13778.toInt.toNat hM hW hXB (by omega) (by omega) (by omega) dL_law_693 ?_
  refine q_top (fun a13779 ha13779 => ?_)
  refine q_aload_n hM dL_law_694 (lv_at hl 3 rfl) ?_
  refine q_iload_n hM dL_law_695 (lv_at hl 0 rfl) ?_
  refine q_iconst (v := (2 : Int32)) hM dL_law_696 (by decide) ?_
  refine q_iadd hM dL_law_697 (fun z13780 hz13780 => ?_)
  have tz13780 := i_addT hz13780 (rfl : i.toInt = i.toInt) (kc_2 : (2 : Int32).toInt = 2) (by omega) (by omega)
  refine s_iald z13780.toInt.toNat hM hW hXB (by omega) (by omega) (by omega) dL_law_698 ?_
  refine q_top (fun a13781 ha13781 => ?_)
  refine q_callV (As := [.int a13779, .int a13781]) (rest := []) hM hW hR hC myX11_does (kAW (v_3_2 (List.mem_of_getElem? (i := 8) rfl)) rfl) (rfl : vwCl[11]? = some (RX11, TX11, 16)) rfl lb_0.1 (shO hP.1 lb_0) (p_X11_does _ _ cA ad g a13779 a13781 lw hP.1 hP.2.1 (by unfold isLw; omega) h13) ⟨by decide, by decide⟩ rfl rfl hl.1 (Nat.le_of_ble_eq_true rfl) dL_law_699 (fun v g1 H locs hp hW => ?_)
  obtain ⟨r1, rfl, hs1, hG1, hf1⟩ := hp
  have hP0 := hP
  have hP : PI ad cA g1 := PI_fr hP0 hs1 hG1 hf1 (by omega) (by omega) (by omega) (by omega) (by omega) (by omega) (by omega) (by omega) (by omega)
  refine q_pop hM dL_law_702 rfl ?_
  refine q_aload_n hM dL_law_703 (lv_at hl 1 rfl) ?_
  refine q_aload_n hM dL_law_704 (lv_at hl 3 rfl) ?_
  refine q_iload_n hM dL_law_705 (lv_at hl 0 rfl) ?_
  refine q_iconst (v := (1 : Int32)) hM dL_law_706 (by decide) ?_
  refine q_iadd hM dL_law_707 (fun z13782 hz13782 => ?_)
  have tz13782 := i_addT hz13782 (rfl : i.toInt = i.toInt) (kc_1 : (1 : Int32).toInt = 1) (by omega) (by omega)
  refine s_iald z13782.toInt.toNat hM hW hXB (by omega) (by omega) (by omega) dL_law_708 ?_
  refine q_top (fun a13783 ha13783 => ?_)
  refine q_aload_n hM dL_law_709 (lv_at hl 3 rfl) ?_
  refine q_iload_n hM dL_law_710 (lv_at hl 0 rfl) ?_
  refine q_iconst (v := (2 : Int32)) hM dL_law_711 (by decide) ?_
  refine q_iadd hM dL_law_712 (fun z13784 hz13784 => ?_)
  have tz13784 := i_addT hz13784 (rfl : i.toInt = i.toInt) (kc_2 : (2 : Int32).toInt = 2) (by omega) (by omega)
  refine s_iald z13784.toInt.toNat hM hW hXB (by omega) (by omega) (by omega) dL_law_713 ?_
  refine q_top (fun a13785 ha13785 => ?_)
  refine q_callV (As := [.int a13783, .int a13785]) (rest := []) hM hW hR hC myX12_does (kAW (v_6_3 (List.mem_of_getElem? (i := 3) rfl)) rfl) (rfl : vwCl[12]? = some (RX12, TX12, 86)) rfl lb_129.1 (shO hP.1 lb_129) (p_X12_does _ _ cA ad g1 a13783 a13785 hP.1 hP.2.1 hP.2.2.2.1.1) ⟨by decide, by decide⟩ rfl rfl hl.1 (Nat.le_of_ble_eq_true rfl) dL_law_714 (fun v g2 H locs hp hW => ?_)
  obtain ⟨r2, rfl, hs2, hG2, hf2⟩ := hp
  have hP1 := hP
  have hP : PI ad cA g2 := PI_fr hP1 hs2 hG2 hf2 (by omega) (by omega) (by omega) (by omega) (by omega) (by omega) (by omega) (by omega) (by omega)
  have qa13783 : a13783 = a13779 := by rw [ha13783, ha13779]; congr 1; omega
  have qa13785 : a13785 = a13781 := by rw [ha13785, ha13781]; congr 1; omega
  refine q_pop hM dL_law_717 rfl ?_
  refine q_goto (tgt := 1457) hM dL_law_718 (by decide) ?_
  exact kk _ _ _ _ hP ⟨⟨(by rw [show fI g2 3 2 = fI g 3 2 from (FRf hf1 hf2 (by omega) (by omega)), show arI g2 131 = arI g 131 from ((hf2.2.1 131 (by omega)).trans (hf1.2.1 131 (by omega)))]; exact hRl.1.1), (by rw [show fI g2 18 3 = fI g 18 3 from (FRf hf1 hf2 (by omega) (by omega)), show arI g2 158 = arI g 158 from ((hf2.2.1 158 (by omega)).trans (hf1.2.1 158 (by omega)))]; exact hRl.1.2.1), (by rw [show fI g2 30 3 = fI g 30 3 from (FRf hf1 hf2 (by omega) (by omega)), show arI g2 162 = arI g 162 from ((hf2.2.1 162 (by omega)).trans (hf1.2.1 162 (by omega)))]; exact hRl.1.2.2.1), (((FRf hf1 hf2 (by omega) (by omega))).trans (hRl.1.2.2.2.1.trans ((FRf hf1 hf2 (by omega) (by omega))).symm)), (((FRf hf1 hf2 (by omega) (by omega))).trans (hRl.1.2.2.2.2.1.trans ((FRf hf1 hf2 (by omega) (by omega))).symm)), (((FRf hf1 hf2 (by omega) (by omega))).trans (hRl.1.2.2.2.2.2.trans (congrFun ((hf2.2.1 166 (by omega)).trans (hf1.2.1 166 (by omega))) 1).symm))⟩, (fun k j hk hj => (congrFun ((hf2.2.1 (6 + 1 * k) (by omega)).trans (hf1.2.1 (6 + 1 * k) (by omega))) j).trans ((hRl.2 k j hk hj).trans (congrFun ((hf2.2.1 133 (by omega)).trans (hf1.2.1 133 (by omega))) _).symm))⟩ hW hl

set_option maxRecDepth 100000 in
set_option maxHeartbeats 4000000 in
theorem lc_pupilIs {K : KT} {cA : Nat → ClassId} {ad : Nat → Nat} {b L : Nat} {xs : Nat → Int32} {H : Heap} {locs : List Loc} {ls : Array Slot} {g : Nat → va_E} {i : Int32} (hM : MB K cA code 4 R_law) (hXB : XB K b L xs) (hL : L ≤ 3072) (hR : HasRoom K 2048 84000) (hC : Cells K 600000 7302250) (hP : PI ad cA g) (hRl : RQ g) (hi0 : 0 ≤ i.toInt) (hi : i.toInt + 6 ≤ L) (hW : WB NN ad K g H locs) (hl : lv_has ls 4 [(3, .int i), (2, .ref (ad 129)), (1, .ref (ad 0)), (0, .ref b)]) (kk : ∀ (g : Nat → va_E) (H : Heap) (locs : List Loc) (ls : Array Slot), PI ad cA g → RQ g → WB NN ad K g H locs → lv_has ls 4 [(3, .int i), (2, .ref (ad 129)), (1, .ref (ad 0)), (0, .ref b)] → XX K 600000 7302250 H locs 1457 ls []) : XX K 600000 7302250 H locs 721 ls [] := by
  have hLn : L < 1000000 := by omega
  obtain ⟨lw, lwn, hlc, h13, h14⟩ := id hP.2.2.1
  refine q_aload_n hM dL_law_721 (lv_at hl 2 rfl) ?_
  refine q_aload_n hM dL_law_722 (lv_at hl 3 rfl) ?_
  refine q_iload_n hM dL_law_723 (lv_at hl 0 rfl) ?_
  refine q_iconst (v := (1 : Int32)) hM dL_law_724 (by decide) ?_
  refine q_iadd hM dL_law_725 (fun z13786 hz13786 => ?_)
  have tz13786 := i_addT hz13786 (rfl : i.toInt = i.toInt) (kc_1 : (1 : Int32).toInt = 1) (by omega) (by omega)
  refine s_iald z13786.toInt.toNat hM hW hXB (by omega) (by omega) (by omega) dL_law_726 ?_
  refine q_top (fun a13787 ha13787 => ?_)
  refine q_aload_n hM dL_law_727 (lv_at hl 3 rfl) ?_
  refine q_iload_n hM dL_law_728 (lv_at hl 0 rfl) ?_
  refine q_iconst (v := (2 : Int32)) hM dL_law_729 (by decide) ?_
  refine q_iadd hM dL_law_730 (fun z13788 hz13788 => ?_)
  have tz13788 := i_addT hz13788 (rfl : i.toInt = i.toInt) (kc_2 : (2 : Int32).toInt = 2) (by omega) (by omega)
  refine s_iald z13788.toInt.toNat hM hW hXB (by omega) (by omega) (by omega) dL_law_731 ?_
  refine q_top (fun a13789 ha13789 => ?_)
  refine q_callV (As := [.int a13787, .int a13789]) (rest := []) hM hW hR hC myX11_pupilIs (kAW (v_3_2 (List.mem_of_getElem? (i := 13) rfl)) rfl) (rfl : vwCl[11]? = some (RX11, TX11, 16)) rfl lb_0.1 (shO hP.1 lb_0) (p_X11_pupilIs _ _ cA ad g a13787 a13789  hP.1 hP.2.1) ⟨by decide, by decide⟩ rfl rfl hl.1 (Nat.le_of_ble_eq_true rfl) dL_law_732 (fun v g1 H locs hp hW => ?_)
  obtain ⟨r1, rfl, hs1, hG1, hf1⟩ := hp
  have hP0 := hP
  have hP : PI ad cA g1 := PI_fr hP0 hs1 hG1 hf1 (fun h => h) (fun h => h) (fun h => h) (fun h => h) (fun h => h) (fun h => h) (fun h => h) (fun h => h) (fun h => h)
  refine q_pop hM dL_law_735 rfl ?_
  refine q_aload_n hM dL_law_736 (lv_at hl 1 rfl) ?_
  refine q_aload_n hM dL_law_737 (lv_at hl 3 rfl) ?_
  refine q_iload_n hM dL_law_738 (lv_at hl 0 rfl) ?_
  refine q_iconst (v := (1 : Int32)) hM dL_law_739 (by decide) ?_
  refine q_iadd hM dL_law_740 (fun z13790 hz13790 => ?_)
  have tz13790 := i_addT hz13790 (rfl : i.toInt = i.toInt) (kc_1 : (1 : Int32).toInt = 1) (by omega) (by omega)
  refine s_iald z13790.toInt.toNat hM hW hXB (by omega) (by omega) (by omega) dL_law_741 ?_
  refine q_top (fun a13791 ha13791 => ?_)
  refine q_aload_n hM dL_law_742 (lv_at hl 3 rfl) ?_
  refine q_iload_n hM dL_law_743 (lv_at hl 0 rfl) ?_
  refine q_iconst (v := (2 : Int32)) hM dL_law_744 (by decide) ?_
  refine q_iadd hM dL_law_745 (fun z13792 hz13792 => ?_)
  have tz13792 := i_addT hz13792 (rfl : i.toInt = i.toInt) (kc_2 : (2 : Int32).toInt = 2) (by omega) (by omega)
  refine s_iald z13792.toInt.toNat hM hW hXB (by omega) (by omega) (by omega) dL_law_746 ?_
  refine q_top (fun a13793 ha13793 => ?_)
  refine q_callV (As := [.int a13791, .int a13793]) (rest := []) hM hW hR hC myX12_pupilIs (kAW (v_6_11 (List.mem_of_getElem? (i := 6) rfl)) rfl) (rfl : vwCl[12]? = some (RX12, TX12, 86)) rfl lb_129.1 (shO hP.1 lb_129) (p_X12_pupilIs _ _ cA ad g1 a13791 a13793 hP.1 hP.2.1) ⟨by decide, by decide⟩ rfl rfl hl.1 (Nat.le_of_ble_eq_true rfl) dL_law_747 (fun v g2 H locs hp hW => ?_)
  obtain ⟨r2, rfl, hs2, hG2, hf2⟩ := hp
  have hP1 := hP
  have hP : PI ad cA g2 := PI_fr hP1 hs2 hG2 hf2 (fun h => h) (fun h => h) (fun h => h) (fun h => h) (fun h => h) (fun h => h) (fun h => h) (fun h => h) (fun h => h)
  have qa13791 : a13791 = a13787 := by rw [ha13791, ha13787]; congr 1; omega
  have qa13793 : a13793 = a13789 := by rw [ha13793, ha13789]; congr 1; omega
  refine q_pop hM dL_law_750 rfl ?_
  refine q_goto (tgt := 1457) hM dL_law_751 (by decide) ?_
  exact kk _ _ _ _ hP ⟨⟨(by rw [show fI g2 3 2 = fI g 3 2 from (FRf hf1 hf2 (fun h => h) (fun h => h)), show arI g2 131 = arI g 131 from ((hf2.2.1 131 (fun h => h)).trans (hf1.2.1 131 (fun h => h)))]; exact hRl.1.1), (by rw [show fI g2 18 3 = fI g 18 3 from (FRf hf1 hf2 (fun h => h) (fun h => h)), show arI g2 158 = arI g 158 from ((hf2.2.1 158 (fun h => h)).trans (hf1.2.1 158 (fun h => h)))]; exact hRl.1.2.1), (by rw [show fI g2 30 3 = fI g 30 3 from (FRf hf1 hf2 (fun h => h) (fun h => h)), show arI g2 162 = arI g 162 from ((hf2.2.1 162 (fun h => h)).trans (hf1.2.1 162 (fun h => h)))]; exact hRl.1.2.2.1), (((FRf hf1 hf2 (fun h => h) (fun h => h))).trans (hRl.1.2.2.2.1.trans ((FRf hf1 hf2 (fun h => h) (fun h => h))).symm)), (((FRf hf1 hf2 (fun h => h) (fun h => h))).trans (hRl.1.2.2.2.2.1.trans ((FRf hf1 hf2 (fun h => h) (fun h => h))).symm)), (((FRf hf1 hf2 (fun h => h) (fun h => h))).trans (hRl.1.2.2.2.2.2.trans (congrFun ((hf2.2.1 166 (fun h => h)).trans (hf1.2.1 166 (fun h => h))) 1).symm))⟩, (fun k j hk hj => (congrFun ((hf2.2.1 (6 + 1 * k) (fun h => h)).trans (hf1.2.1 (6 + 1 * k) (fun h => h))) j).trans ((hRl.2 k j hk hj).trans (congrFun ((hf2.2.1 133 (fun h => h)).trans (hf1.2.1 133 (fun h => h))) _).symm))⟩ hW hl

set_option maxRecDepth 100000 in
set_option maxHeartbeats 4000000 in
theorem lc_strength {K : KT} {cA : Nat → ClassId} {ad : Nat → Nat} {b L : Nat} {xs : Nat → Int32} {H : Heap} {locs : List Loc} {ls : Array Slot} {g : Nat → va_E} {i : Int32} (hM : MB K cA code 4 R_law) (hXB : XB K b L xs) (hL : L ≤ 3072) (hR : HasRoom K 2048 84000) (hC : Cells K 600000 7302250) (hP : PI ad cA g) (hRl : RQ g) (hi0 : 0 ≤ i.toInt) (hi : i.toInt + 6 ≤ L) (hW : WB NN ad K g H locs) (hl : lv_has ls 4 [(3, .int i), (2, .ref (ad 129)), (1, .ref (ad 0)), (0, .ref b)]) (kk : ∀ (g : Nat → va_E) (H : Heap) (locs : List Loc) (ls : Array Slot), PI ad cA g → RQ g → WB NN ad K g H locs → lv_has ls 4 [(3, .int i), (2, .ref (ad 129)), (1, .ref (ad 0)), (0, .ref b)] → XX K 600000 7302250 H locs 1457 ls []) : XX K 600000 7302250 H locs 754 ls [] := by
  have hLn : L < 1000000 := by omega
  obtain ⟨lw, lwn, hlc, h13, h14⟩ := id hP.2.2.1
  refine q_aload_n hM dL_law_754 (lv_at hl 2 rfl) ?_
  refine q_aload_n hM dL_law_755 (lv_at hl 3 rfl) ?_
  refine q_iload_n hM dL_law_756 (lv_at hl 0 rfl) ?_
  refine q_iconst (v := (1 : Int32)) hM dL_law_757 (by decide) ?_
  refine q_iadd hM dL_law_758 (fun z13794 hz13794 => ?_)
  have tz13794 := i_addT hz13794 (rfl : i.toInt = i.toInt) (kc_1 : (1 : Int32).toInt = 1) (by omega) (by omega)
  refine s_iald z13794.toInt.toNat hM hW hXB (by omega) (by omega) (by omega) dL_law_759 ?_
  refine q_top (fun a13795 ha13795 => ?_)
  refine q_aload_n hM dL_law_760 (lv_at hl 3 rfl) ?_
  refine q_iload_n hM dL_law_761 (lv_at hl 0 rfl) ?_
  refine q_iconst (v := (2 : Int32)) hM dL_law_762 (by decide) ?_
  refine q_iadd hM dL_law_763 (fun z13796 hz13796 => ?_)
  have tz13796 := i_addT hz13796 (rfl : i.toInt = i.toInt) (kc_2 : (2 : Int32).toInt = 2) (by omega) (by omega)
  refine s_iald z13796.toInt.toNat hM hW hXB (by omega) (by omega) (by omega) dL_law_764 ?_
  refine q_top (fun a13797 ha13797 => ?_)
  refine q_callV (As := [.int a13795, .int a13797]) (rest := []) hM hW hR hC myX11_strength (kAW (v_3_3 (List.mem_of_getElem? (i := 9) rfl)) rfl) (rfl : vwCl[11]? = some (RX11, TX11, 16)) rfl lb_0.1 (shO hP.1 lb_0) (p_X11_strength _ _ cA ad g a13795 a13797  hP.1 hP.2.1) ⟨by decide, by decide⟩ rfl rfl hl.1 (Nat.le_of_ble_eq_true rfl) dL_law_765 (fun v g1 H locs hp hW => ?_)
  obtain ⟨r1, rfl, hs1, hG1, hf1⟩ := hp
  have hP0 := hP
  have hP : PI ad cA g1 := PI_fr hP0 hs1 hG1 hf1 (fun h => h) (fun h => h) (fun h => h) (fun h => h) (fun h => h) (fun h => h) (fun h => h) (fun h => h) (fun h => h)
  refine q_pop hM dL_law_768 rfl ?_
  refine q_aload_n hM dL_law_769 (lv_at hl 1 rfl) ?_
  refine q_aload_n hM dL_law_770 (lv_at hl 3 rfl) ?_
  refine q_iload_n hM dL_law_771 (lv_at hl 0 rfl) ?_
  refine q_iconst (v := (1 : Int32)) hM dL_law_772 (by decide) ?_
  refine q_iadd hM dL_law_773 (fun z13798 hz13798 => ?_)
  have tz13798 := i_addT hz13798 (rfl : i.toInt = i.toInt) (kc_1 : (1 : Int32).toInt = 1) (by omega) (by omega)
  refine s_iald z13798.toInt.toNat hM hW hXB (by omega) (by omega) (by omega) dL_law_774 ?_
  refine q_top (fun a13799 ha13799 => ?_)
  refine q_aload_n hM dL_law_775 (lv_at hl 3 rfl) ?_
  refine q_iload_n hM dL_law_776 (lv_at hl 0 rfl) ?_
  refine q_iconst (v := (2 : Int32)) hM dL_law_777 (by decide) ?_
  refine q_iadd hM dL_law_778 (fun z13800 hz13800 => ?_)
  have tz13800 := i_addT hz13800 (rfl : i.toInt = i.toInt) (kc_2 : (2 : Int32).toInt = 2) (by omega) (by omega)
  refine s_iald z13800.toInt.toNat hM hW hXB (by omega) (by omega) (by omega) dL_law_779 ?_
  refine q_top (fun a13801 ha13801 => ?_)
  refine q_callV (As := [.int a13799, .int a13801]) (rest := []) hM hW hR hC myX12_strength (kAW (v_6_12 (List.mem_of_getElem? (i := 2) rfl)) rfl) (rfl : vwCl[12]? = some (RX12, TX12, 86)) rfl lb_129.1 (shO hP.1 lb_129) (p_X12_strength _ _ cA ad g1 a13799 a13801 hP.1 hP.2.1) ⟨by decide, by decide⟩ rfl rfl hl.1 (Nat.le_of_ble_eq_true rfl) dL_law_780 (fun v g2 H locs hp hW => ?_)
  obtain ⟨r2, rfl, hs2, hG2, hf2⟩ := hp
  have hP1 := hP
  have hP : PI ad cA g2 := PI_fr hP1 hs2 hG2 hf2 (fun h => h) (fun h => h) (fun h => h) (fun h => h) (fun h => h) (fun h => h) (fun h => h) (fun h => h) (fun h => h)
  have qa13799 : a13799 = a13795 := by rw [ha13799, ha13795]; congr 1; omega
  have qa13801 : a13801 = a13797 := by rw [ha13801, ha13797]; congr 1; omega
  refine q_pop hM dL_law_783 rfl ?_
  refine q_goto (tgt := 1457) hM dL_law_784 (by decide) ?_
  exact kk _ _ _ _ hP ⟨⟨(by rw [show fI g2 3 2 = fI g 3 2 from (FRf hf1 hf2 (fun h => h) (fun h => h)), show arI g2 131 = arI g 131 from ((hf2.2.1 131 (fun h => h)).trans (hf1.2.1 131 (fun h => h)))]; exact hRl.1.1), (by rw [show fI g2 18 3 = fI g 18 3 from (FRf hf1 hf2 (fun h => h) (fun h => h)), show arI g2 158 = arI g 158 from ((hf2.2.1 158 (fun h => h)).trans (hf1.2.1 158 (fun h => h)))]; exact hRl.1.2.1), (by rw [show fI g2 30 3 = fI g 30 3 from (FRf hf1 hf2 (fun h => h) (fun h => h)), show arI g2 162 = arI g 162 from ((hf2.2.1 162 (fun h => h)).trans (hf1.2.1 162 (fun h => h)))]; exact hRl.1.2.2.1), (((FRf hf1 hf2 (fun h => h) (fun h => h))).trans (hRl.1.2.2.2.1.trans ((FRf hf1 hf2 (fun h => h) (fun h => h))).symm)), (((FRf hf1 hf2 (fun h => h) (fun h => h))).trans (hRl.1.2.2.2.2.1.trans ((FRf hf1 hf2 (fun h => h) (fun h => h))).symm)), (((FRf hf1 hf2 (fun h => h) (fun h => h))).trans (hRl.1.2.2.2.2.2.trans (congrFun ((hf2.2.1 166 (fun h => h)).trans (hf1.2.1 166 (fun h => h))) 1).symm))⟩, (fun k j hk hj => (congrFun ((hf2.2.1 (6 + 1 * k) (fun h => h)).trans (hf1.2.1 (6 + 1 * k) (fun h => h))) j).trans ((hRl.2 k j hk hj).trans (congrFun ((hf2.2.1 133 (fun h => h)).trans (hf1.2.1 133 (fun h => h))) _).symm))⟩ hW hl

set_option maxRecDepth 100000 in
set_option maxHeartbeats 4000000 in
theorem lc_heard {K : KT} {cA : Nat → ClassId} {ad : Nat → Nat} {b L : Nat} {xs : Nat → Int32} {H : Heap} {locs : List Loc} {ls : Array Slot} {g : Nat → va_E} {i : Int32} (hM : MB K cA code 4 R_law) (hXB : XB K b L xs) (hL : L ≤ 3072) (hR : HasRoom K 2048 84000) (hC : Cells K 600000 7302250) (hP : PI ad cA g) (hRl : RQ g) (hi0 : 0 ≤ i.toInt) (hi : i.toInt + 6 ≤ L) (hW : WB NN ad K g H locs) (hl : lv_has ls 4 [(3, .int i), (2, .ref (ad 129)), (1, .ref (ad 0)), (0, .ref b)]) (kk : ∀ (g : Nat → va_E) (H : Heap) (locs : List Loc) (ls : Array Slot), PI ad cA g → RQ g → WB NN ad K g H locs → lv_has ls 4 [(3, .int i), (2, .ref (ad 129)), (1, .ref (ad 0)), (0, .ref b)] → XX K 600000 7302250 H locs 1457 ls []) : XX K 600000 7302250 H locs 787 ls [] := by
  have hLn : L < 1000000 := by omega
  obtain ⟨lw, lwn, hlc, h13, h14⟩ := id hP.2.2.1
  refine q_aload_n hM dL_law_787 (lv_at hl 2 rfl) ?_
  refine q_aload_n hM dL_law_788 (lv_at hl 3 rfl) ?_
  refine q_iload_n hM dL_law_789 (lv_at hl 0 rfl) ?_
  refine q_iconst (v := (1 : Int32)) hM dL_law_790 (by decide) ?_
  refine q_iadd hM dL_law_791 (fun z13802 hz13802 => ?_)
  have tz13802 := i_addT hz13802 (rfl : i.toInt = i.toInt) (kc_1 : (1 : Int32).toInt = 1) (by omega) (by omega)
  refine s_iald z13802.toInt.toNat hM hW hXB (by omega) (by omega) (by omega) dL_law_792 ?_
  refine q_top (fun a13803 ha13803 => ?_)
  refine q_aload_n hM dL_law_793 (lv_at hl 3 rfl) ?_
  refine q_iload_n hM dL_law_794 (lv_at hl 0 rfl) ?_
  refine q_iconst (v := (2 : Int32)) hM dL_law_795 (by decide) ?_
  refine q_iadd hM dL_law_796 (fun z13804 hz13804 => ?_)
  have tz13804 := i_addT hz13804 (rfl : i.toInt = i.toInt) (kc_2 : (2 : Int32).toInt = 2) (by omega) (by omega)
  refine s_iald z13804.toInt.toNat hM hW hXB (by omega) (by omega) (by omega) dL_law_797 ?_
  refine q_top (fun a13805 ha13805 => ?_)
  refine q_callV (As := [.int a13803, .int a13805]) (rest := []) hM hW hR hC myX11_heard (kAW (v_3_3 (List.mem_of_getElem? (i := 13) rfl)) rfl) (rfl : vwCl[11]? = some (RX11, TX11, 16)) rfl lb_0.1 (shO hP.1 lb_0) (p_X11_heard _ _ cA ad g a13803 a13805  hP.1 hP.2.1) ⟨by decide, by decide⟩ rfl rfl hl.1 (Nat.le_of_ble_eq_true rfl) dL_law_798 (fun v g1 H locs hp hW => ?_)
  obtain ⟨r1, rfl, hs1, hG1, hf1⟩ := hp
  have hP0 := hP
  have hP : PI ad cA g1 := PI_fr hP0 hs1 hG1 hf1 (fun h => h) (fun h => h) (fun h => h) (fun h => h) (fun h => h) (fun h => h) (fun h => h) (fun h => h) (fun h => h)
  refine q_pop hM dL_law_801 rfl ?_
  refine q_aload_n hM dL_law_802 (lv_at hl 1 rfl) ?_
  refine q_aload_n hM dL_law_803 (lv_at hl 3 rfl) ?_
  refine q_iload_n hM dL_law_804 (lv_at hl 0 rfl) ?_
  refine q_iconst (v := (1 : Int32)) hM dL_law_805 (by decide) ?_
  refine q_iadd hM dL_law_806 (fun z13806 hz13806 => ?_)
  have tz13806 := i_addT hz13806 (rfl : i.toInt = i.toInt) (kc_1 : (1 : Int32).toInt = 1) (by omega) (by omega)
  refine s_iald z13806.toInt.toNat hM hW hXB (by omega) (by omega) (by omega) dL_law_807 ?_
  refine q_top (fun a13807 ha13807 => ?_)
  refine q_aload_n hM dL_law_808 (lv_at hl 3 rfl) ?_
  refine q_iload_n hM dL_law_809 (lv_at hl 0 rfl) ?_
  refine q_iconst (v := (2 : Int32)) hM dL_law_810 (by decide) ?_
  refine q_iadd hM dL_law_811 (fun z13808 hz13808 => ?_)
  have tz13808 := i_addT hz13808 (rfl : i.toInt = i.toInt) (kc_2 : (2 : Int32).toInt = 2) (by omega) (by omega)
  refine s_iald z13808.toInt.toNat hM hW hXB (by omega) (by omega) (by omega) dL_law_812 ?_
  refine q_top (fun a13809 ha13809 => ?_)
  refine q_callV (As := [.int a13807, .int a13809]) (rest := []) hM hW hR hC myX12_heard (kAW (v_6_7 (List.mem_of_getElem? (i := 1) rfl)) rfl) (rfl : vwCl[12]? = some (RX12, TX12, 86)) rfl lb_129.1 (shO hP.1 lb_129) (p_X12_heard _ _ cA ad g1 a13807 a13809 hP.1 hP.2.1) ⟨by decide, by decide⟩ rfl rfl hl.1 (Nat.le_of_ble_eq_true rfl) dL_law_813 (fun v g2 H locs hp hW => ?_)
  obtain ⟨r2, rfl, hs2, hG2, hf2⟩ := hp
  have hP1 := hP
  have hP : PI ad cA g2 := PI_fr hP1 hs2 hG2 hf2 (fun h => h) (fun h => h) (fun h => h) (fun h => h) (fun h => h) (fun h => h) (fun h => h) (fun h => h) (fun h => h)
  have qa13807 : a13807 = a13803 := by rw [ha13807, ha13803]; congr 1; omega
  have qa13809 : a13809 = a13805 := by rw [ha13809, ha13805]; congr 1; omega
  refine q_pop hM dL_law_816 rfl ?_
  refine q_goto (tgt := 1457) hM dL_law_817 (by decide) ?_
  exact kk _ _ _ _ hP ⟨⟨(by rw [show fI g2 3 2 = fI g 3 2 from (FRf hf1 hf2 (fun h => h) (fun h => h)), show arI g2 131 = arI g 131 from ((hf2.2.1 131 (fun h => h)).trans (hf1.2.1 131 (fun h => h)))]; exact hRl.1.1), (by rw [show fI g2 18 3 = fI g 18 3 from (FRf hf1 hf2 (fun h => h) (fun h => h)), show arI g2 158 = arI g 158 from ((hf2.2.1 158 (fun h => h)).trans (hf1.2.1 158 (fun h => h)))]; exact hRl.1.2.1), (by rw [show fI g2 30 3 = fI g 30 3 from (FRf hf1 hf2 (fun h => h) (fun h => h)), show arI g2 162 = arI g 162 from ((hf2.2.1 162 (fun h => h)).trans (hf1.2.1 162 (fun h => h)))]; exact hRl.1.2.2.1), (((FRf hf1 hf2 (fun h => h) (fun h => h))).trans (hRl.1.2.2.2.1.trans ((FRf hf1 hf2 (fun h => h) (fun h => h))).symm)), (((FRf hf1 hf2 (fun h => h) (fun h => h))).trans (hRl.1.2.2.2.2.1.trans ((FRf hf1 hf2 (fun h => h) (fun h => h))).symm)), (((FRf hf1 hf2 (fun h => h) (fun h => h))).trans (hRl.1.2.2.2.2.2.trans (congrFun ((hf2.2.1 166 (fun h => h)).trans (hf1.2.1 166 (fun h => h))) 1).symm))⟩, (fun k j hk hj => (congrFun ((hf2.2.1 (6 + 1 * k) (fun h => h)).trans (hf1.2.1 (6 + 1 * k) (fun h => h))) j).trans ((hRl.2 k j hk hj).trans (congrFun ((hf2.2.1 133 (fun h => h)).trans (hf1.2.1 133 (fun h => h))) _).symm))⟩ hW hl

set_option maxRecDepth 100000 in
set_option maxHeartbeats 4000000 in
theorem lc_order {K : KT} {cA : Nat → ClassId} {ad : Nat → Nat} {b L : Nat} {xs : Nat → Int32} {H : Heap} {locs : List Loc} {ls : Array Slot} {g : Nat → va_E} {i : Int32} (hM : MB K cA code 4 R_law) (hXB : XB K b L xs) (hL : L ≤ 3072) (hR : HasRoom K 2048 84000) (hC : Cells K 600000 7302250) (hP : PI ad cA g) (hRl : RQ g) (hi0 : 0 ≤ i.toInt) (hi : i.toInt + 6 ≤ L) (hW : WB NN ad K g H locs) (hl : lv_has ls 4 [(3, .int i), (2, .ref (ad 129)), (1, .ref (ad 0)), (0, .ref b)]) (kk : ∀ (g : Nat → va_E) (H : Heap) (locs : List Loc) (ls : Array Slot), PI ad cA g → RQ g → WB NN ad K g H locs → lv_has ls 4 [(3, .int i), (2, .ref (ad 129)), (1, .ref (ad 0)), (0, .ref b)] → XX K 600000 7302250 H locs 1457 ls []) : XX K 600000 7302250 H locs 820 ls [] := by
  have hLn : L < 1000000 := by omega
  obtain ⟨lw, lwn, hlc, h13, h14⟩ := id hP.2.2.1
  refine q_aload_n hM dL_law_820 (lv_at hl 2 rfl) ?_
  refine q_aload_n hM dL_law_821 (lv_at hl 3 rfl) ?_
  refine q_iload_n hM dL_law_822 (lv_at hl 0 rfl) ?_
  refine q_iconst (v := (1 : Int32)) hM dL_law_823 (by decide) ?_
  refine q_iadd hM dL_law_824 (fun z13810 hz13810 => ?_)
  have tz13810 := i_addT hz13810 (rfl : i.toInt = i.toInt) (kc_1 : (1 : Int32).toInt = 1) (by omega) (by omega)
  refine s_iald z13810.toInt.toNat hM hW hXB (by omega) (by omega) (by omega) dL_law_825 ?_
  refine q_top (fun a13811 ha13811 => ?_)
  refine q_aload_n hM dL_law_826 (lv_at hl 3 rfl) ?_
  refine q_iload_n hM dL_law_827 (lv_at hl 0 rfl) ?_
  refine q_iconst (v := (2 : Int32)) hM dL_law_828 (by decide) ?_
  refine q_iadd hM dL_law_829 (fun z13812 hz13812 => ?_)
  have tz13812 := i_addT hz13812 (rfl : i.toInt = i.toInt) (kc_2 : (2 : Int32).toInt = 2) (by omega) (by omega)
  refine s_iald z13812.toInt.toNat hM hW hXB (by omega) (by omega) (by omega) dL_law_830 ?_
  refine q_top (fun a13813 ha13813 => ?_)
  refine q_aload_n hM dL_law_831 (lv_at hl 3 rfl) ?_
  refine q_iload_n hM dL_law_832 (lv_at hl 0 rfl) ?_
  refine q_iconst (v := (3 : Int32)) hM dL_law_833 (by decide) ?_
  refine q_iadd hM dL_law_834 (fun z13814 hz13814 => ?_)
  have tz13814 := i_addT hz13814 (rfl : i.toInt = i.toInt) (kc_3 : (3 : Int32).toInt = 3) (by omega) (by omega)
  refine s_iald z13814.toInt.toNat hM hW hXB (by omega) (by omega) (by omega) dL_law_835 ?_
  refine q_top (fun a13815 ha13815 => ?_)
  refine q_aload_n hM dL_law_836 (lv_at hl 3 rfl) ?_
  refine q_iload_n hM dL_law_837 (lv_at hl 0 rfl) ?_
  refine q_iconst (v := (4 : Int32)) hM dL_law_838 (by decide) ?_
  refine q_iadd hM dL_law_839 (fun z13816 hz13816 => ?_)
  have tz13816 := i_addT hz13816 (rfl : i.toInt = i.toInt) (kc_4 : (4 : Int32).toInt = 4) (by omega) (by omega)
  refine s_iald z13816.toInt.toNat hM hW hXB (by omega) (by omega) (by omega) dL_law_840 ?_
  refine q_top (fun a13817 ha13817 => ?_)
  refine q_aload_n hM dL_law_841 (lv_at hl 3 rfl) ?_
  refine q_iload_n hM dL_law_842 (lv_at hl 0 rfl) ?_
  refine q_iconst (v := (5 : Int32)) hM dL_law_843 (by decide) ?_
  refine q_iadd hM dL_law_844 (fun z13818 hz13818 => ?_)
  have tz13818 := i_addT hz13818 (rfl : i.toInt = i.toInt) (kc_5 : (5 : Int32).toInt = 5) (by omega) (by omega)
  refine s_iald z13818.toInt.toNat hM hW hXB (by omega) (by omega) (by omega) dL_law_845 ?_
  refine q_top (fun a13819 ha13819 => ?_)
  refine q_callV (As := [.int a13811, .int a13813, .int a13815, .int a13817, .int a13819]) (rest := []) hM hW hR hC myX11_order (kAW (v_3_4 (List.mem_of_getElem? (i := 2) rfl)) rfl) (rfl : vwCl[11]? = some (RX11, TX11, 16)) rfl lb_0.1 (shO hP.1 lb_0) (p_X11_order _ _ cA ad g a13811 a13813 a13815 a13817 a13819 lw hP.1 hP.2.1 (by unfold isLw; omega) h13) ⟨by decide, by decide⟩ rfl rfl hl.1 (Nat.le_of_ble_eq_true rfl) dL_law_846 (fun v g1 H locs hp hW => ?_)
  obtain ⟨r1, rfl, hs1, hG1, hf1⟩ := hp
  have hP0 := hP
  have hP : PI ad cA g1 := PI_fr hP0 hs1 hG1 hf1 (by omega) (by omega) (by omega) (by omega) (by omega) (by omega) (by omega) (by omega) (by omega)
  refine q_pop hM dL_law_849 rfl ?_
  refine q_aload_n hM dL_law_850 (lv_at hl 1 rfl) ?_
  refine q_aload_n hM dL_law_851 (lv_at hl 3 rfl) ?_
  refine q_iload_n hM dL_law_852 (lv_at hl 0 rfl) ?_
  refine q_iconst (v := (1 : Int32)) hM dL_law_853 (by decide) ?_
  refine q_iadd hM dL_law_854 (fun z13820 hz13820 => ?_)
  have tz13820 := i_addT hz13820 (rfl : i.toInt = i.toInt) (kc_1 : (1 : Int32).toInt = 1) (by omega) (by omega)
  refine s_iald z13820.toInt.toNat hM hW hXB (by omega) (by omega) (by omega) dL_law_855 ?_
  refine q_top (fun a13821 ha13821 => ?_)
  refine q_aload_n hM dL_law_856 (lv_at hl 3 rfl) ?_
  refine q_iload_n hM dL_law_857 (lv_at hl 0 rfl) ?_
  refine q_iconst (v := (2 : Int32)) hM dL_law_858 (by decide) ?_
  refine q_iadd hM dL_law_859 (fun z13822 hz13822 => ?_)
  have tz13822 := i_addT hz13822 (rfl : i.toInt = i.toInt) (kc_2 : (2 : Int32).toInt = 2) (by omega) (by omega)
  refine s_iald z13822.toInt.toNat hM hW hXB (by omega) (by omega) (by omega) dL_law_860 ?_
  refine q_top (fun a13823 ha13823 => ?_)
  refine q_aload_n hM dL_law_861 (lv_at hl 3 rfl) ?_
  refine q_iload_n hM dL_law_862 (lv_at hl 0 rfl) ?_
  refine q_iconst (v := (3 : Int32)) hM dL_law_863 (by decide) ?_
  refine q_iadd hM dL_law_864 (fun z13824 hz13824 => ?_)
  have tz13824 := i_addT hz13824 (rfl : i.toInt = i.toInt) (kc_3 : (3 : Int32).toInt = 3) (by omega) (by omega)
  refine s_iald z13824.toInt.toNat hM hW hXB (by omega) (by omega) (by omega) dL_law_865 ?_
  refine q_top (fun a13825 ha13825 => ?_)
  refine q_aload_n hM dL_law_866 (lv_at hl 3 rfl) ?_
  refine q_iload_n hM dL_law_867 (lv_at hl 0 rfl) ?_
  refine q_iconst (v := (4 : Int32)) hM dL_law_868 (by decide) ?_
  refine q_iadd hM dL_law_869 (fun z13826 hz13826 => ?_)
  have tz13826 := i_addT hz13826 (rfl : i.toInt = i.toInt) (kc_4 : (4 : Int32).toInt = 4) (by omega) (by omega)
  refine s_iald z13826.toInt.toNat hM hW hXB (by omega) (by omega) (by omega) dL_law_870 ?_
  refine q_top (fun a13827 ha13827 => ?_)
  refine q_aload_n hM dL_law_871 (lv_at hl 3 rfl) ?_
  refine q_iload_n hM dL_law_872 (lv_at hl 0 rfl) ?_
  refine q_iconst (v := (5 : Int32)) hM dL_law_873 (by decide) ?_
  refine q_iadd hM dL_law_874 (fun z13828 hz13828 => ?_)
  have tz13828 := i_addT hz13828 (rfl : i.toInt = i.toInt) (kc_5 : (5 : Int32).toInt = 5) (by omega) (by omega)
  refine s_iald z13828.toInt.toNat hM hW hXB (by omega) (by omega) (by omega) dL_law_875 ?_
  refine q_top (fun a13829 ha13829 => ?_)
  refine q_callV (As := [.int a13821, .int a13823, .int a13825, .int a13827, .int a13829]) (rest := []) hM hW hR hC myX12_order (kAW (v_6_12 (List.mem_of_getElem? (i := 6) rfl)) rfl) (rfl : vwCl[12]? = some (RX12, TX12, 86)) rfl lb_129.1 (shO hP.1 lb_129) (p_X12_order _ _ cA ad g1 a13821 a13823 a13825 a13827 a13829 hP.1 hP.2.1 hP.2.2.2.1.1) ⟨by decide, by decide⟩ rfl rfl hl.1 (Nat.le_of_ble_eq_true rfl) dL_law_876 (fun v g2 H locs hp hW => ?_)
  obtain ⟨r2, rfl, hs2, hG2, hf2⟩ := hp
  have hP1 := hP
  have hP : PI ad cA g2 := PI_fr hP1 hs2 hG2 hf2 (by omega) (by omega) (by omega) (by omega) (by omega) (by omega) (by omega) (by omega) (by omega)
  have qa13821 : a13821 = a13811 := by rw [ha13821, ha13811]; congr 1; omega
  have qa13823 : a13823 = a13813 := by rw [ha13823, ha13813]; congr 1; omega
  have qa13825 : a13825 = a13815 := by rw [ha13825, ha13815]; congr 1; omega
  have qa13827 : a13827 = a13817 := by rw [ha13827, ha13817]; congr 1; omega
  have qa13829 : a13829 = a13819 := by rw [ha13829, ha13819]; congr 1; omega
  refine q_pop hM dL_law_879 rfl ?_
  refine q_goto (tgt := 1457) hM dL_law_880 (by decide) ?_
  exact kk _ _ _ _ hP ⟨⟨(by rw [show fI g2 3 2 = fI g 3 2 from (FRf hf1 hf2 (by omega) (by omega)), show arI g2 131 = arI g 131 from ((hf2.2.1 131 (by omega)).trans (hf1.2.1 131 (by omega)))]; exact hRl.1.1), (by rw [show fI g2 18 3 = fI g 18 3 from (FRf hf1 hf2 (by omega) (by omega)), show arI g2 158 = arI g 158 from ((hf2.2.1 158 (by omega)).trans (hf1.2.1 158 (by omega)))]; exact hRl.1.2.1), (by rw [show fI g2 30 3 = fI g 30 3 from (FRf hf1 hf2 (by omega) (by omega)), show arI g2 162 = arI g 162 from ((hf2.2.1 162 (by omega)).trans (hf1.2.1 162 (by omega)))]; exact hRl.1.2.2.1), (((FRf hf1 hf2 (by omega) (by omega))).trans (hRl.1.2.2.2.1.trans ((FRf hf1 hf2 (by omega) (by omega))).symm)), (((FRf hf1 hf2 (by omega) (by omega))).trans (hRl.1.2.2.2.2.1.trans ((FRf hf1 hf2 (by omega) (by omega))).symm)), (((FRf hf1 hf2 (by omega) (by omega))).trans (hRl.1.2.2.2.2.2.trans (congrFun ((hf2.2.1 166 (by omega)).trans (hf1.2.1 166 (by omega))) 1).symm))⟩, (fun k j hk hj => (congrFun ((hf2.2.1 (6 + 1 * k) (by omega)).trans (hf1.2.1 (6 + 1 * k) (by omega))) j).trans ((hRl.2 k j hk hj).trans (congrFun ((hf2.2.1 133 (by omega)).trans (hf1.2.1 133 (by omega))) _).symm))⟩ hW hl

set_option maxRecDepth 100000 in
set_option maxHeartbeats 4000000 in
theorem lc_still {K : KT} {cA : Nat → ClassId} {ad : Nat → Nat} {b L : Nat} {xs : Nat → Int32} {H : Heap} {locs : List Loc} {ls : Array Slot} {g : Nat → va_E} {i : Int32} (hM : MB K cA code 4 R_law) (hXB : XB K b L xs) (hL : L ≤ 3072) (hR : HasRoom K 2048 84000) (hC : Cells K 600000 7302250) (hP : PI ad cA g) (hRl : RQ g) (hi0 : 0 ≤ i.toInt) (hi : i.toInt + 6 ≤ L) (hW : WB NN ad K g H locs) (hl : lv_has ls 4 [(3, .int i), (2, .ref (ad 129)), (1, .ref (ad 0)), (0, .ref b)]) (kk : ∀ (g : Nat → va_E) (H : Heap) (locs : List Loc) (ls : Array Slot), PI ad cA g → RQ g → WB NN ad K g H locs → lv_has ls 4 [(3, .int i), (2, .ref (ad 129)), (1, .ref (ad 0)), (0, .ref b)] → XX K 600000 7302250 H locs 1457 ls []) : XX K 600000 7302250 H locs 883 ls [] := by
  have hLn : L < 1000000 := by omega
  obtain ⟨lw, lwn, hlc, h13, h14⟩ := id hP.2.2.1
  refine q_aload_n hM dL_law_883 (lv_at hl 2 rfl) ?_
  refine q_aload_n hM dL_law_884 (lv_at hl 3 rfl) ?_
  refine q_iload_n hM dL_law_885 (lv_at hl 0 rfl) ?_
  refine q_iconst (v := (1 : Int32)) hM dL_law_886 (by decide) ?_
  refine q_iadd hM dL_law_887 (fun z13830 hz13830 => ?_)
  have tz13830 := i_addT hz13830 (rfl : i.toInt = i.toInt) (kc_1 : (1 : Int32).toInt = 1) (by omega) (by omega)
  refine s_iald z13830.toInt.toNat hM hW hXB (by omega) (by omega) (by omega) dL_law_888 ?_
  refine q_top (fun a13831 ha13831 => ?_)
  refine q_aload_n hM dL_law_889 (lv_at hl 3 rfl) ?_
  refine q_iload_n hM dL_law_890 (lv_at hl 0 rfl) ?_
  refine q_iconst (v := (2 : Int32)) hM dL_law_891 (by decide) ?_
  refine q_iadd hM dL_law_892 (fun z13832 hz13832 => ?_)
  have tz13832 := i_addT hz13832 (rfl : i.toInt = i.toInt) (kc_2 : (2 : Int32).toInt = 2) (by omega) (by omega)
  refine s_iald z13832.toInt.toNat hM hW hXB (by omega) (by omega) (by omega) dL_law_893 ?_
  refine q_top (fun a13833 ha13833 => ?_)
  refine q_aload_n hM dL_law_894 (lv_at hl 3 rfl) ?_
  refine q_iload_n hM dL_law_895 (lv_at hl 0 rfl) ?_
  refine q_iconst (v := (3 : Int32)) hM dL_law_896 (by decide) ?_
  refine q_iadd hM dL_law_897 (fun z13834 hz13834 => ?_)
  have tz13834 := i_addT hz13834 (rfl : i.toInt = i.toInt) (kc_3 : (3 : Int32).toInt = 3) (by omega) (by omega)
  refine s_iald z13834.toInt.toNat hM hW hXB (by omega) (by omega) (by omega) dL_law_898 ?_
  refine q_top (fun a13835 ha13835 => ?_)
  refine q_callV (As := [.int a13831, .int a13833, .int a13835]) (rest := []) hM hW hR hC myX11_still (kAW (v_3_6 (List.mem_of_getElem? (i := 8) rfl)) rfl) (rfl : vwCl[11]? = some (RX11, TX11, 16)) rfl lb_0.1 (shO hP.1 lb_0) (p_X11_still _ _ cA ad g a13831 a13833 a13835 lw hP.1 hP.2.1 (by unfold isLw; omega) h13) ⟨by decide, by decide⟩ rfl rfl hl.1 (Nat.le_of_ble_eq_true rfl) dL_law_899 (fun v g1 H locs hp hW => ?_)
  obtain ⟨r1, rfl, hs1, hG1, hf1⟩ := hp
  have hP0 := hP
  have hP : PI ad cA g1 := PI_fr hP0 hs1 hG1 hf1 (by omega) (by omega) (by omega) (by omega) (by omega) (by omega) (by omega) (by omega) (by omega)
  refine q_pop hM dL_law_902 rfl ?_
  refine q_aload_n hM dL_law_903 (lv_at hl 1 rfl) ?_
  refine q_aload_n hM dL_law_904 (lv_at hl 3 rfl) ?_
  refine q_iload_n hM dL_law_905 (lv_at hl 0 rfl) ?_
  refine q_iconst (v := (1 : Int32)) hM dL_law_906 (by decide) ?_
  refine q_iadd hM dL_law_907 (fun z13836 hz13836 => ?_)
  have tz13836 := i_addT hz13836 (rfl : i.toInt = i.toInt) (kc_1 : (1 : Int32).toInt = 1) (by omega) (by omega)
  refine s_iald z13836.toInt.toNat hM hW hXB (by omega) (by omega) (by omega) dL_law_908 ?_
  refine q_top (fun a13837 ha13837 => ?_)
  refine q_aload_n hM dL_law_909 (lv_at hl 3 rfl) ?_
  refine q_iload_n hM dL_law_910 (lv_at hl 0 rfl) ?_
  refine q_iconst (v := (2 : Int32)) hM dL_law_911 (by decide) ?_
  refine q_iadd hM dL_law_912 (fun z13838 hz13838 => ?_)
  have tz13838 := i_addT hz13838 (rfl : i.toInt = i.toInt) (kc_2 : (2 : Int32).toInt = 2) (by omega) (by omega)
  refine s_iald z13838.toInt.toNat hM hW hXB (by omega) (by omega) (by omega) dL_law_913 ?_
  refine q_top (fun a13839 ha13839 => ?_)
  refine q_aload_n hM dL_law_914 (lv_at hl 3 rfl) ?_
  refine q_iload_n hM dL_law_915 (lv_at hl 0 rfl) ?_
  refine q_iconst (v := (3 : Int32)) hM dL_law_916 (by decide) ?_
  refine q_iadd hM dL_law_917 (fun z13840 hz13840 => ?_)
  have tz13840 := i_addT hz13840 (rfl : i.toInt = i.toInt) (kc_3 : (3 : Int32).toInt = 3) (by omega) (by omega)
  refine s_iald z13840.toInt.toNat hM hW hXB (by omega) (by omega) (by omega) dL_law_918 ?_
  refine q_top (fun a13841 ha13841 => ?_)
  refine q_callV (As := [.int a13837, .int a13839, .int a13841]) (rest := []) hM hW hR hC myX12_still (kAW (v_6_14 (List.mem_of_getElem? (i := 14) rfl)) rfl) (rfl : vwCl[12]? = some (RX12, TX12, 86)) rfl lb_129.1 (shO hP.1 lb_129) (p_X12_still _ _ cA ad g1 a13837 a13839 a13841 hP.1 hP.2.1 hP.2.2.2.1.1) ⟨by decide, by decide⟩ rfl rfl hl.1 (Nat.le_of_ble_eq_true rfl) dL_law_919 (fun v g2 H locs hp hW => ?_)
  obtain ⟨r2, rfl, hs2, hG2, hf2⟩ := hp
  have hP1 := hP
  have hP : PI ad cA g2 := PI_fr hP1 hs2 hG2 hf2 (by omega) (by omega) (by omega) (by omega) (by omega) (by omega) (by omega) (by omega) (by omega)
  have qa13837 : a13837 = a13831 := by rw [ha13837, ha13831]; congr 1; omega
  have qa13839 : a13839 = a13833 := by rw [ha13839, ha13833]; congr 1; omega
  have qa13841 : a13841 = a13835 := by rw [ha13841, ha13835]; congr 1; omega
  refine q_pop hM dL_law_922 rfl ?_
  refine q_goto (tgt := 1457) hM dL_law_923 (by decide) ?_
  exact kk _ _ _ _ hP ⟨⟨(by rw [show fI g2 3 2 = fI g 3 2 from (FRf hf1 hf2 (by omega) (by omega)), show arI g2 131 = arI g 131 from ((hf2.2.1 131 (by omega)).trans (hf1.2.1 131 (by omega)))]; exact hRl.1.1), (by rw [show fI g2 18 3 = fI g 18 3 from (FRf hf1 hf2 (by omega) (by omega)), show arI g2 158 = arI g 158 from ((hf2.2.1 158 (by omega)).trans (hf1.2.1 158 (by omega)))]; exact hRl.1.2.1), (by rw [show fI g2 30 3 = fI g 30 3 from (FRf hf1 hf2 (by omega) (by omega)), show arI g2 162 = arI g 162 from ((hf2.2.1 162 (by omega)).trans (hf1.2.1 162 (by omega)))]; exact hRl.1.2.2.1), (((FRf hf1 hf2 (by omega) (by omega))).trans (hRl.1.2.2.2.1.trans ((FRf hf1 hf2 (by omega) (by omega))).symm)), (((FRf hf1 hf2 (by omega) (by omega))).trans (hRl.1.2.2.2.2.1.trans ((FRf hf1 hf2 (by omega) (by omega))).symm)), (((FRf hf1 hf2 (by omega) (by omega))).trans (hRl.1.2.2.2.2.2.trans (congrFun ((hf2.2.1 166 (by omega)).trans (hf1.2.1 166 (by omega))) 1).symm))⟩, (fun k j hk hj => (congrFun ((hf2.2.1 (6 + 1 * k) (by omega)).trans (hf1.2.1 (6 + 1 * k) (by omega))) j).trans ((hRl.2 k j hk hj).trans (congrFun ((hf2.2.1 133 (by omega)).trans (hf1.2.1 133 (by omega))) _).symm))⟩ hW hl

set_option maxRecDepth 100000 in
set_option maxHeartbeats 4000000 in
theorem lc_cut {K : KT} {cA : Nat → ClassId} {ad : Nat → Nat} {b L : Nat} {xs : Nat → Int32} {H : Heap} {locs : List Loc} {ls : Array Slot} {g : Nat → va_E} {i : Int32} (hM : MB K cA code 4 R_law) (hXB : XB K b L xs) (hL : L ≤ 3072) (hR : HasRoom K 2048 84000) (hC : Cells K 600000 7302250) (hP : PI ad cA g) (hRl : RQ g) (hi0 : 0 ≤ i.toInt) (hi : i.toInt + 6 ≤ L) (hW : WB NN ad K g H locs) (hl : lv_has ls 4 [(3, .int i), (2, .ref (ad 129)), (1, .ref (ad 0)), (0, .ref b)]) (kk : ∀ (g : Nat → va_E) (H : Heap) (locs : List Loc) (ls : Array Slot), PI ad cA g → RQ g → WB NN ad K g H locs → lv_has ls 4 [(3, .int i), (2, .ref (ad 129)), (1, .ref (ad 0)), (0, .ref b)] → XX K 600000 7302250 H locs 1457 ls []) : XX K 600000 7302250 H locs 926 ls [] := by
  have hLn : L < 1000000 := by omega
  obtain ⟨lw, lwn, hlc, h13, h14⟩ := id hP.2.2.1
  refine q_aload_n hM dL_law_926 (lv_at hl 2 rfl) ?_
  refine q_aload_n hM dL_law_927 (lv_at hl 3 rfl) ?_
  refine q_iload_n hM dL_law_928 (lv_at hl 0 rfl) ?_
  refine q_iconst (v := (1 : Int32)) hM dL_law_929 (by decide) ?_
  refine q_iadd hM dL_law_930 (fun z13842 hz13842 => ?_)
  have tz13842 := i_addT hz13842 (rfl : i.toInt = i.toInt) (kc_1 : (1 : Int32).toInt = 1) (by omega) (by omega)
  refine s_iald z13842.toInt.toNat hM hW hXB (by omega) (by omega) (by omega) dL_law_931 ?_
  refine q_top (fun a13843 ha13843 => ?_)
  refine q_aload_n hM dL_law_932 (lv_at hl 3 rfl) ?_
  refine q_iload_n hM dL_law_933 (lv_at hl 0 rfl) ?_
  refine q_iconst (v := (2 : Int32)) hM dL_law_934 (by decide) ?_
  refine q_iadd hM dL_law_935 (fun z13844 hz13844 => ?_)
  have tz13844 := i_addT hz13844 (rfl : i.toInt = i.toInt) (kc_2 : (2 : Int32).toInt = 2) (by omega) (by omega)
  refine s_iald z13844.toInt.toNat hM hW hXB (by omega) (by omega) (by omega) dL_law_936 ?_
  refine q_top (fun a13845 ha13845 => ?_)
  refine q_aload_n hM dL_law_937 (lv_at hl 3 rfl) ?_
  refine q_iload_n hM dL_law_938 (lv_at hl 0 rfl) ?_
  refine q_iconst (v := (3 : Int32)) hM dL_law_939 (by decide) ?_
  refine q_iadd hM dL_law_940 (fun z13846 hz13846 => ?_)
  have tz13846 := i_addT hz13846 (rfl : i.toInt = i.toInt) (kc_3 : (3 : Int32).toInt = 3) (by omega) (by omega)
  refine s_iald z13846.toInt.toNat hM hW hXB (by omega) (by omega) (by omega) dL_law_941 ?_
  refine q_top (fun a13847 ha13847 => ?_)
  refine q_callV (As := [.int a13843, .int a13845, .int a13847]) (rest := []) hM hW hR hC myX11_cut (kAW (v_3_7 (List.mem_of_getElem? (i := 2) rfl)) rfl) (rfl : vwCl[11]? = some (RX11, TX11, 16)) rfl lb_0.1 (shO hP.1 lb_0) (p_X11_cut _ _ cA ad g a13843 a13845 a13847  hP.1 hP.2.1) ⟨by decide, by decide⟩ rfl rfl hl.1 (Nat.le_of_ble_eq_true rfl) dL_law_942 (fun v g1 H locs hp hW => ?_)
  obtain ⟨r1, rfl, hs1, hG1, hf1⟩ := hp
  have hP0 := hP
  have hP : PI ad cA g1 := PI_fr hP0 hs1 hG1 hf1 (fun h => h) (fun h => h) (fun h => h) (fun h => h) (fun h => h) (fun h => h) (fun h => h) (fun h => h) (fun h => h)
  refine q_pop hM dL_law_945 rfl ?_
  refine q_aload_n hM dL_law_946 (lv_at hl 1 rfl) ?_
  refine q_aload_n hM dL_law_947 (lv_at hl 3 rfl) ?_
  refine q_iload_n hM dL_law_948 (lv_at hl 0 rfl) ?_
  refine q_iconst (v := (1 : Int32)) hM dL_law_949 (by decide) ?_
  refine q_iadd hM dL_law_950 (fun z13848 hz13848 => ?_)
  have tz13848 := i_addT hz13848 (rfl : i.toInt = i.toInt) (kc_1 : (1 : Int32).toInt = 1) (by omega) (by omega)
  refine s_iald z13848.toInt.toNat hM hW hXB (by omega) (by omega) (by omega) dL_law_951 ?_
  refine q_top (fun a13849 ha13849 => ?_)
  refine q_aload_n hM dL_law_952 (lv_at hl 3 rfl) ?_
  refine q_iload_n hM dL_law_953 (lv_at hl 0 rfl) ?_
  refine q_iconst (v := (2 : Int32)) hM dL_law_954 (by decide) ?_
  refine q_iadd hM dL_law_955 (fun z13850 hz13850 => ?_)
  have tz13850 := i_addT hz13850 (rfl : i.toInt = i.toInt) (kc_2 : (2 : Int32).toInt = 2) (by omega) (by omega)
  refine s_iald z13850.toInt.toNat hM hW hXB (by omega) (by omega) (by omega) dL_law_956 ?_
  refine q_top (fun a13851 ha13851 => ?_)
  refine q_aload_n hM dL_law_957 (lv_at hl 3 rfl) ?_
  refine q_iload_n hM dL_law_958 (lv_at hl 0 rfl) ?_
  refine q_iconst (v := (3 : Int32)) hM dL_law_959 (by decide) ?_
  refine q_iadd hM dL_law_960 (fun z13852 hz13852 => ?_)
  have tz13852 := i_addT hz13852 (rfl : i.toInt = i.toInt) (kc_3 : (3 : Int32).toInt = 3) (by omega) (by omega)
  refine s_iald z13852.toInt.toNat hM hW hXB (by omega) (by omega) (by omega) dL_law_961 ?_
  refine q_top (fun a13853 ha13853 => ?_)
  refine q_callV (As := [.int a13849, .int a13851, .int a13853]) (rest := []) hM hW hR hC myX12_cut (kAW (v_5_7 (List.mem_of_getElem? (i := 9) rfl)) rfl) (rfl : vwCl[12]? = some (RX12, TX12, 86)) rfl lb_129.1 (shO hP.1 lb_129) (p_X12_cut _ _ cA ad g1 a13849 a13851 a13853 hP.1 hP.2.1) ⟨by decide, by decide⟩ rfl rfl hl.1 (Nat.le_of_ble_eq_true rfl) dL_law_962 (fun v g2 H locs hp hW => ?_)
  obtain ⟨r2, rfl, hs2, hG2, hf2⟩ := hp
  have hP1 := hP
  have hP : PI ad cA g2 := PI_fr hP1 hs2 hG2 hf2 (fun h => h) (fun h => h) (fun h => h) (fun h => h) (fun h => h) (fun h => h) (fun h => h) (fun h => h) (fun h => h)
  have qa13849 : a13849 = a13843 := by rw [ha13849, ha13843]; congr 1; omega
  have qa13851 : a13851 = a13845 := by rw [ha13851, ha13845]; congr 1; omega
  have qa13853 : a13853 = a13847 := by rw [ha13853, ha13847]; congr 1; omega
  refine q_pop hM dL_law_965 rfl ?_
  refine q_goto (tgt := 1457) hM dL_law_966 (by decide) ?_
  exact kk _ _ _ _ hP ⟨⟨(by rw [show fI g2 3 2 = fI g 3 2 from (FRf hf1 hf2 (fun h => h) (fun h => h)), show arI g2 131 = arI g 131 from ((hf2.2.1 131 (fun h => h)).trans (hf1.2.1 131 (fun h => h)))]; exact hRl.1.1), (by rw [show fI g2 18 3 = fI g 18 3 from (FRf hf1 hf2 (fun h => h) (fun h => h)), show arI g2 158 = arI g 158 from ((hf2.2.1 158 (fun h => h)).trans (hf1.2.1 158 (fun h => h)))]; exact hRl.1.2.1), (by rw [show fI g2 30 3 = fI g 30 3 from (FRf hf1 hf2 (fun h => h) (fun h => h)), show arI g2 162 = arI g 162 from ((hf2.2.1 162 (fun h => h)).trans (hf1.2.1 162 (fun h => h)))]; exact hRl.1.2.2.1), (((FRf hf1 hf2 (fun h => h) (fun h => h))).trans (hRl.1.2.2.2.1.trans ((FRf hf1 hf2 (fun h => h) (fun h => h))).symm)), (((FRf hf1 hf2 (fun h => h) (fun h => h))).trans (hRl.1.2.2.2.2.1.trans ((FRf hf1 hf2 (fun h => h) (fun h => h))).symm)), (((FRf hf1 hf2 (fun h => h) (fun h => h))).trans (hRl.1.2.2.2.2.2.trans (congrFun ((hf2.2.1 166 (fun h => h)).trans (hf1.2.1 166 (fun h => h))) 1).symm))⟩, (fun k j hk hj => (congrFun ((hf2.2.1 (6 + 1 * k) (fun h => h)).trans (hf1.2.1 (6 + 1 * k) (fun h => h))) j).trans ((hRl.2 k j hk hj).trans (congrFun ((hf2.2.1 133 (fun h => h)).trans (hf1.2.1 133 (fun h => h))) _).symm))⟩ hW hl

set_option maxRecDepth 100000 in
set_option maxHeartbeats 4000000 in
theorem lc_recalls {K : KT} {cA : Nat → ClassId} {ad : Nat → Nat} {b L : Nat} {xs : Nat → Int32} {H : Heap} {locs : List Loc} {ls : Array Slot} {g : Nat → va_E} {i : Int32} (hM : MB K cA code 4 R_law) (hXB : XB K b L xs) (hL : L ≤ 3072) (hR : HasRoom K 2048 84000) (hC : Cells K 600000 7302250) (hP : PI ad cA g) (hRl : RQ g) (hi0 : 0 ≤ i.toInt) (hi : i.toInt + 6 ≤ L) (hW : WB NN ad K g H locs) (hl : lv_has ls 4 [(3, .int i), (2, .ref (ad 129)), (1, .ref (ad 0)), (0, .ref b)]) (kk : ∀ (g : Nat → va_E) (H : Heap) (locs : List Loc) (ls : Array Slot), PI ad cA g → RQ g → WB NN ad K g H locs → lv_has ls 4 [(3, .int i), (2, .ref (ad 129)), (1, .ref (ad 0)), (0, .ref b)] → XX K 600000 7302250 H locs 1457 ls []) : XX K 600000 7302250 H locs 969 ls [] := by
  have hLn : L < 1000000 := by omega
  obtain ⟨lw, lwn, hlc, h13, h14⟩ := id hP.2.2.1
  refine q_aload_n hM dL_law_969 (lv_at hl 2 rfl) ?_
  refine q_aload_n hM dL_law_970 (lv_at hl 3 rfl) ?_
  refine q_iload_n hM dL_law_971 (lv_at hl 0 rfl) ?_
  refine q_iconst (v := (1 : Int32)) hM dL_law_972 (by decide) ?_
  refine q_iadd hM dL_law_973 (fun z13854 hz13854 => ?_)
  have tz13854 := i_addT hz13854 (rfl : i.toInt = i.toInt) (kc_1 : (1 : Int32).toInt = 1) (by omega) (by omega)
  refine s_iald z13854.toInt.toNat hM hW hXB (by omega) (by omega) (by omega) dL_law_974 ?_
  refine q_top (fun a13855 ha13855 => ?_)
  refine q_callV (As := [.int a13855]) (rest := []) hM hW hR hC myX11_recalls (kAW (v_3_8 (List.mem_of_getElem? (i := 5) rfl)) rfl) (rfl : vwCl[11]? = some (RX11, TX11, 16)) rfl lb_0.1 (shO hP.1 lb_0) (s_X11_recalls _ _ cA ad g a13855 (fI g 3 2)  hP.1 hP.2.1 (shI hP.1 lb_3 (by decide) (by decide))) ⟨by decide, by decide⟩ rfl rfl hl.1 (Nat.le_of_ble_eq_true rfl) dL_law_975 (fun v g1 H locs hp hW => ?_)
  obtain ⟨r1, rfl, hs1, hG1, hf1, ha1⟩ := hp
  have hP0 := hP
  have hP : PI ad cA g1 := PI_fr hP0 hs1 hG1 hf1 (fun h => h) (fun h => h) (fun h => h) (fun h => h) (fun h => h) (fun h => h) (fun h => h) (fun h => h) (fun h => h)
  refine q_aload_n hM dL_law_978 (lv_at hl 1 rfl) ?_
  refine q_aload_n hM dL_law_979 (lv_at hl 3 rfl) ?_
  refine q_iload_n hM dL_law_980 (lv_at hl 0 rfl) ?_
  refine q_iconst (v := (1 : Int32)) hM dL_law_981 (by decide) ?_
  refine q_iadd hM dL_law_982 (fun z13856 hz13856 => ?_)
  have tz13856 := i_addT hz13856 (rfl : i.toInt = i.toInt) (kc_1 : (1 : Int32).toInt = 1) (by omega) (by omega)
  refine s_iald z13856.toInt.toNat hM hW hXB (by omega) (by omega) (by omega) dL_law_983 ?_
  refine q_top (fun a13857 ha13857 => ?_)
  refine q_callV (As := [.int a13857]) (rest := [.int r1]) hM hW hR hC myX12_recalls (kAW (v_5_5 (List.mem_of_getElem? (i := 11) rfl)) rfl) (rfl : vwCl[12]? = some (RX12, TX12, 86)) rfl lb_129.1 (shO hP.1 lb_129) (s_X12_recalls _ _ cA ad g1 a13857 hP.1 hP.2.1) ⟨by decide, by decide⟩ rfl rfl hl.1 (Nat.le_of_ble_eq_true rfl) dL_law_984 (fun v g2 H locs hp hW => ?_)
  obtain ⟨r2, rfl, hs2, hG2, hf2, ha2⟩ := hp
  have hP1 := hP
  have hP : PI ad cA g2 := PI_fr hP1 hs2 hG2 hf2 (fun h => h) (fun h => h) (fun h => h) (fun h => h) (fun h => h) (fun h => h) (fun h => h) (fun h => h) (fun h => h)
  have qa13857 : a13857 = a13855 := by rw [ha13857, ha13855]; congr 1; omega
  first | rw [qa13857] at ha2 | skip
  have bk0 := (hP0.2.1).f (shI hP0.1 lb_3 (by decide) (by decide)) rF_3_2 (by decide)
  have sm0 : bi (fI g 3 2) a13855 = ti (arI g 131) 12 a13855 := SM_bi 12 hRl.1.1 (by omega) (by omega) (by decide) a13855
  rw [hf1.2.1 131 (fun h => h)] at ha2
  have lk5 : Lx g = Lm g1 := (LKr_eq hRl.2).trans (Lm_cg (hf1.2.1 133 (fun h => h))).symm
  rw [lk5] at ha1
  have k5 : r1.toInt = r2.toInt := by
    rcases ha1 with ⟨a1, b1⟩ | ⟨a1, b1⟩
    · rcases ha2 with ⟨a2, b2⟩ | ⟨a2, b2⟩
      · exact congrArg Int32.toInt (BS_eq b1 b2)
      · omega
    · rcases ha2 with ⟨a2, b2⟩ | ⟨a2, b2⟩
      · omega
      · omega
  refine q_icmp_eq (tgt := 1457) hM dL_law_987 (by decide) (rfl : r1.toInt = r1.toInt) (rfl : r2.toInt = r2.toInt) (fun hq => ?_) (fun hq => by omega)
  exact kk _ _ _ _ hP ⟨⟨(by rw [show fI g2 3 2 = fI g 3 2 from (FRf hf1 hf2 (fun h => h) (fun h => h)), show arI g2 131 = arI g 131 from ((hf2.2.1 131 (fun h => h)).trans (hf1.2.1 131 (fun h => h)))]; exact hRl.1.1), (by rw [show fI g2 18 3 = fI g 18 3 from (FRf hf1 hf2 (fun h => h) (fun h => h)), show arI g2 158 = arI g 158 from ((hf2.2.1 158 (fun h => h)).trans (hf1.2.1 158 (fun h => h)))]; exact hRl.1.2.1), (by rw [show fI g2 30 3 = fI g 30 3 from (FRf hf1 hf2 (fun h => h) (fun h => h)), show arI g2 162 = arI g 162 from ((hf2.2.1 162 (fun h => h)).trans (hf1.2.1 162 (fun h => h)))]; exact hRl.1.2.2.1), (((FRf hf1 hf2 (fun h => h) (fun h => h))).trans (hRl.1.2.2.2.1.trans ((FRf hf1 hf2 (fun h => h) (fun h => h))).symm)), (((FRf hf1 hf2 (fun h => h) (fun h => h))).trans (hRl.1.2.2.2.2.1.trans ((FRf hf1 hf2 (fun h => h) (fun h => h))).symm)), (((FRf hf1 hf2 (fun h => h) (fun h => h))).trans (hRl.1.2.2.2.2.2.trans (congrFun ((hf2.2.1 166 (fun h => h)).trans (hf1.2.1 166 (fun h => h))) 1).symm))⟩, (fun k j hk hj => (congrFun ((hf2.2.1 (6 + 1 * k) (fun h => h)).trans (hf1.2.1 (6 + 1 * k) (fun h => h))) j).trans ((hRl.2 k j hk hj).trans (congrFun ((hf2.2.1 133 (fun h => h)).trans (hf1.2.1 133 (fun h => h))) _).symm))⟩ hW hl
