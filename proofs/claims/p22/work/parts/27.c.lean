set_option maxRecDepth 100000 in
set_option maxHeartbeats 4000000 in
theorem lc_weeks {K : KT} {cA : Nat → ClassId} {ad : Nat → Nat} {b L : Nat} {xs : Nat → Int32} {H : Heap} {locs : List Loc} {ls : Array Slot} {g : Nat → va_E} {i : Int32} (hM : MB K cA code 4 R_law) (hXB : XB K b L xs) (hL : L ≤ 3072) (hR : HasRoom K 2048 84000) (hC : Cells K 600000 7302250) (hP : PI ad cA g) (hRl : RQ g) (hi0 : 0 ≤ i.toInt) (hi : i.toInt + 6 ≤ L) (hW : WB NN ad K g H locs) (hl : lv_has ls 4 [(3, .int i), (2, .ref (ad 129)), (1, .ref (ad 0)), (0, .ref b)]) (kk : ∀ (g : Nat → va_E) (H : Heap) (locs : List Loc) (ls : Array Slot), PI ad cA g → RQ g → WB NN ad K g H locs → lv_has ls 4 [(3, .int i), (2, .ref (ad 129)), (1, .ref (ad 0)), (0, .ref b)] → XX K 600000 7302250 H locs 1457 ls []) : XX K 600000 7302250 H locs 543 ls [] := by
  have hLn : L < 1000000 := by omega
  obtain ⟨lw, lwn, hlc, h13, h14⟩ := id hP.2.2.1
  refine q_aload_n hM dL_law_543 (lv_at hl 2 rfl) ?_
  refine q_aload_n hM dL_law_544 (lv_at hl 3 rfl) ?_
  refine q_iload_n hM dL_law_545 (lv_at hl 0 rfl) ?_
  refine q_iconst (v := (1 : Int32)) hM dL_law_546 (by decide) ?_
  refine q_iadd hM dL_law_547 (fun z13857 hz13857 => ?_)
  have tz13857 := i_addT hz13857 (rfl : i.toInt = i.toInt) (kc_1 : (1 : Int32).toInt = 1) (by omega) (by omega)
  refine s_iald z13857.toInt.toNat hM hW hXB (by omega) (by omega) (by omega) dL_law_548 ?_
  refine q_top (fun a13858 ha13858 => ?_)
  refine q_callV (As := [.int a13858]) (rest := []) hM hW hR hC myX11_weeks (kAW (v_2_9 (List.mem_of_getElem? (i := 7) rfl)) rfl) (rfl : vwCl[11]? = some (RX11, TX11, 16)) rfl lb_0.1 (shO hP.1 lb_0) (s_X11_weeks _ _ cA ad g a13858 (fI g 18 4) lw hP.1 hP.2.1 (by unfold isLw; omega) (shI hP.1 lb_18 (by decide) (by decide)) h13) ⟨by decide, by decide⟩ rfl rfl hl.1 (Nat.le_of_ble_eq_true rfl) dL_law_549 (fun v g1 H locs hp hW => ?_)
  obtain ⟨x0, r1, rfl, hs1, hG1, hf1, cx0, cx1⟩ := hp
  have hP0 := hP
  have hP : PI ad cA g1 := PI_fr hP0 hs1 hG1 hf1 (by omega) (by omega) (by omega) (by omega) (by omega) (by omega) (by omega) (by omega) (by omega)
  refine q_pop hM dL_law_552 rfl ?_
  refine q_aload_n hM dL_law_553 (lv_at hl 1 rfl) ?_
  refine q_aload_n hM dL_law_554 (lv_at hl 3 rfl) ?_
  refine q_iload_n hM dL_law_555 (lv_at hl 0 rfl) ?_
  refine q_iconst (v := (1 : Int32)) hM dL_law_556 (by decide) ?_
  refine q_iadd hM dL_law_557 (fun z13859 hz13859 => ?_)
  have tz13859 := i_addT hz13859 (rfl : i.toInt = i.toInt) (kc_1 : (1 : Int32).toInt = 1) (by omega) (by omega)
  refine s_iald z13859.toInt.toNat hM hW hXB (by omega) (by omega) (by omega) dL_law_558 ?_
  refine q_top (fun a13860 ha13860 => ?_)
  refine q_callV (As := [.int a13860]) (rest := []) hM hW hR hC myX12_weeks (kAW (v_6_7 (List.mem_of_getElem? (i := 9) rfl)) rfl) (rfl : vwCl[12]? = some (RX12, TX12, 86)) rfl lb_129.1 (shO hP.1 lb_129) (s_X12_weeks _ _ cA ad g1 a13860 (fI g1 129 56) hP.1 hP.2.1 (shI hP.1 lb_129 (by decide) (by decide)) hP.2.2.2.1.1) ⟨by decide, by decide⟩ rfl rfl hl.1 (Nat.le_of_ble_eq_true rfl) dL_law_559 (fun v g2 H locs hp hW => ?_)
  obtain ⟨m0, r2, rfl, hs2, hG2, hf2, cm0, cm1⟩ := hp
  have hP1 := hP
  have hP : PI ad cA g2 := PI_fr hP1 hs2 hG2 hf2 (by first | decide | omega) (by first | decide | omega) (by first | decide | omega) (by first | decide | omega) (by first | decide | omega) (by first | decide | omega) (by first | decide | omega) (by first | decide | omega) (by first | decide | omega)
  have qa13860 : a13860 = a13858 := by rw [ha13860, ha13858]; congr 1; omega
  first | rw [qa13860] at cm0 | skip
  first | rw [qa13860] at cm1 | skip
  refine q_pop hM dL_law_562 rfl ?_
  refine q_goto (tgt := 1457) hM dL_law_563 (by decide) ?_
  exact kk _ _ _ _ hP ⟨⟨(by rw [show fI g2 3 2 = fI g 3 2 from (FRf hf1 hf2 (by omega) (by first | decide | omega)), show arI g2 131 = arI g 131 from ((hf2.2.1 131 (by first | decide | omega)).trans (hf1.2.1 131 (by omega)))]; exact hRl.1.1), (by rw [show fI g2 18 3 = fI g 18 3 from (FRf hf1 hf2 (by omega) (by first | decide | omega)), show arI g2 158 = arI g 158 from ((hf2.2.1 158 (by first | decide | omega)).trans (hf1.2.1 158 (by omega)))]; exact hRl.1.2.1), (by rw [show fI g2 30 3 = fI g 30 3 from (FRf hf1 hf2 (by omega) (by first | decide | omega)), show arI g2 162 = arI g 162 from ((hf2.2.1 162 (by first | decide | omega)).trans (hf1.2.1 162 (by omega)))]; exact hRl.1.2.2.1), (((FRf hf1 hf2 (by omega) (by first | decide | omega))).trans (hRl.1.2.2.2.1.trans ((FRf hf1 hf2 (by omega) (by first | decide | omega))).symm)), (by
    rw [show fI g2 18 4 = x0 from ((FR1f hf2 (by first | decide | omega)).trans (fI_of cx0)), show fI g2 129 56 = m0 from fI_of cm0]
    have k5 : fI g1 129 56 = fI g 18 4 := (FR1f hf1 (by omega)).trans hRl.1.2.2.2.2.1.symm
    rw [k5] at cm1
    unfold WKr at cx1 cm1
    rcases cx1 with h1 | ⟨h1, e1⟩
    · rcases cm1 with h2 | ⟨h2, e2⟩
      · exact Int32.toInt_inj.mp (by omega)
      · exact absurd ⟨h1.1, h1.2.1⟩ h2
    · rcases cm1 with h2 | ⟨h2, e2⟩
      · exact absurd ⟨h2.1, h2.2.1⟩ h1
      · rw [e1, e2]), (((FRf hf1 hf2 (by omega) (by first | decide | omega))).trans (hRl.1.2.2.2.2.2.trans (congrFun ((hf2.2.1 166 (by first | decide | omega)).trans (hf1.2.1 166 (by omega))) 1).symm))⟩, (fun k j hk hj => (congrFun ((hf2.2.1 (6 + 1 * k) (by first | decide | omega)).trans (hf1.2.1 (6 + 1 * k) (by omega))) j).trans ((hRl.2 k j hk hj).trans (congrFun ((hf2.2.1 133 (by first | decide | omega)).trans (hf1.2.1 133 (by omega))) _).symm))⟩ hW hl

set_option maxRecDepth 100000 in
set_option maxHeartbeats 4000000 in
theorem lc_tried {K : KT} {cA : Nat → ClassId} {ad : Nat → Nat} {b L : Nat} {xs : Nat → Int32} {H : Heap} {locs : List Loc} {ls : Array Slot} {g : Nat → va_E} {i : Int32} (hM : MB K cA code 4 R_law) (hXB : XB K b L xs) (hL : L ≤ 3072) (hR : HasRoom K 2048 84000) (hC : Cells K 600000 7302250) (hP : PI ad cA g) (hRl : RQ g) (hi0 : 0 ≤ i.toInt) (hi : i.toInt + 6 ≤ L) (hW : WB NN ad K g H locs) (hl : lv_has ls 4 [(3, .int i), (2, .ref (ad 129)), (1, .ref (ad 0)), (0, .ref b)]) (kk : ∀ (g : Nat → va_E) (H : Heap) (locs : List Loc) (ls : Array Slot), PI ad cA g → RQ g → WB NN ad K g H locs → lv_has ls 4 [(3, .int i), (2, .ref (ad 129)), (1, .ref (ad 0)), (0, .ref b)] → XX K 600000 7302250 H locs 1457 ls []) : XX K 600000 7302250 H locs 566 ls [] := by
  have hLn : L < 1000000 := by omega
  obtain ⟨lw, lwn, hlc, h13, h14⟩ := id hP.2.2.1
  refine q_aload_n hM dL_law_566 (lv_at hl 2 rfl) ?_
  refine q_aload_n hM dL_law_567 (lv_at hl 3 rfl) ?_
  refine q_iload_n hM dL_law_568 (lv_at hl 0 rfl) ?_
  refine q_iconst (v := (1 : Int32)) hM dL_law_569 (by decide) ?_
  refine q_iadd hM dL_law_570 (fun z13861 hz13861 => ?_)
  have tz13861 := i_addT hz13861 (rfl : i.toInt = i.toInt) (kc_1 : (1 : Int32).toInt = 1) (by omega) (by omega)
  refine s_iald z13861.toInt.toNat hM hW hXB (by omega) (by omega) (by omega) dL_law_571 ?_
  refine q_top (fun a13862 ha13862 => ?_)
  refine q_aload_n hM dL_law_572 (lv_at hl 3 rfl) ?_
  refine q_iload_n hM dL_law_573 (lv_at hl 0 rfl) ?_
  refine q_iconst (v := (2 : Int32)) hM dL_law_574 (by decide) ?_
  refine q_iadd hM dL_law_575 (fun z13863 hz13863 => ?_)
  have tz13863 := i_addT hz13863 (rfl : i.toInt = i.toInt) (kc_2 : (2 : Int32).toInt = 2) (by omega) (by omega)
  refine s_iald z13863.toInt.toNat hM hW hXB (by omega) (by omega) (by omega) dL_law_576 ?_
  refine q_top (fun a13864 ha13864 => ?_)
  refine q_callV (As := [.int a13862, .int a13864]) (rest := []) hM hW hR hC myX11_tried (kAW (v_2_14 (List.mem_of_getElem? (i := 13) rfl)) rfl) (rfl : vwCl[11]? = some (RX11, TX11, 16)) rfl lb_0.1 (shO hP.1 lb_0) (p_X11_tried _ _ cA ad g a13862 a13864 lw hP.1 hP.2.1 (by unfold isLw; omega) h13) ⟨by decide, by decide⟩ rfl rfl hl.1 (Nat.le_of_ble_eq_true rfl) dL_law_577 (fun v g1 H locs hp hW => ?_)
  obtain ⟨r1, rfl, hs1, hG1, hf1⟩ := hp
  have hP0 := hP
  have hP : PI ad cA g1 := PI_fr hP0 hs1 hG1 hf1 (by omega) (by omega) (by omega) (by omega) (by omega) (by omega) (by omega) (by omega) (by omega)
  refine q_pop hM dL_law_580 rfl ?_
  refine q_aload_n hM dL_law_581 (lv_at hl 1 rfl) ?_
  refine q_aload_n hM dL_law_582 (lv_at hl 3 rfl) ?_
  refine q_iload_n hM dL_law_583 (lv_at hl 0 rfl) ?_
  refine q_iconst (v := (1 : Int32)) hM dL_law_584 (by decide) ?_
  refine q_iadd hM dL_law_585 (fun z13865 hz13865 => ?_)
  have tz13865 := i_addT hz13865 (rfl : i.toInt = i.toInt) (kc_1 : (1 : Int32).toInt = 1) (by omega) (by omega)
  refine s_iald z13865.toInt.toNat hM hW hXB (by omega) (by omega) (by omega) dL_law_586 ?_
  refine q_top (fun a13866 ha13866 => ?_)
  refine q_aload_n hM dL_law_587 (lv_at hl 3 rfl) ?_
  refine q_iload_n hM dL_law_588 (lv_at hl 0 rfl) ?_
  refine q_iconst (v := (2 : Int32)) hM dL_law_589 (by decide) ?_
  refine q_iadd hM dL_law_590 (fun z13867 hz13867 => ?_)
  have tz13867 := i_addT hz13867 (rfl : i.toInt = i.toInt) (kc_2 : (2 : Int32).toInt = 2) (by omega) (by omega)
  refine s_iald z13867.toInt.toNat hM hW hXB (by omega) (by omega) (by omega) dL_law_591 ?_
  refine q_top (fun a13868 ha13868 => ?_)
  refine q_callV (As := [.int a13866, .int a13868]) (rest := []) hM hW hR hC myX12_tried (kAW (v_6_9 (List.mem_of_getElem? (i := 9) rfl)) rfl) (rfl : vwCl[12]? = some (RX12, TX12, 86)) rfl lb_129.1 (shO hP.1 lb_129) (s_X12_tried _ _ cA ad g1 a13866 a13868 (fI g1 129 56) hP.1 hP.2.1 (shI hP.1 lb_129 (by decide) (by decide)) hP.2.2.2.1.1 (fun q hq => by rw [hf1.2.1 158 (by omega)]; exact SM_01 hRl.1.2.1 q hq)) ⟨by decide, by decide⟩ rfl rfl hl.1 (Nat.le_of_ble_eq_true rfl) dL_law_592 (fun v g2 H locs hp hW => ?_)
  obtain ⟨m0, r2, rfl, hs2, hG2, hf2, cm0, cm1, cm2, cm3, cm4⟩ := hp
  have hP1 := hP
  have hP : PI ad cA g2 := PI_fr hP1 hs2 hG2 hf2 (by first | decide | omega) (by first | decide | omega) (by first | decide | omega) (by first | decide | omega) (by first | decide | omega) (by first | decide | omega) (by first | decide | omega) (by first | decide | omega) (by first | decide | omega)
  have qa13866 : a13866 = a13862 := by rw [ha13866, ha13862]; congr 1; omega
  have qa13868 : a13868 = a13864 := by rw [ha13868, ha13864]; congr 1; omega
  first | rw [qa13866] at cm0 | skip
  first | rw [qa13868] at cm0 | skip
  first | rw [qa13866] at cm1 | skip
  first | rw [qa13868] at cm1 | skip
  first | rw [qa13866] at cm2 | skip
  first | rw [qa13868] at cm2 | skip
  first | rw [qa13866] at cm3 | skip
  first | rw [qa13868] at cm3 | skip
  first | rw [qa13866] at cm4 | skip
  first | rw [qa13868] at cm4 | skip
  refine q_pop hM dL_law_595 rfl ?_
  refine q_goto (tgt := 1457) hM dL_law_596 (by decide) ?_
  exact kk _ _ _ _ hP ⟨⟨(by rw [show fI g2 3 2 = fI g 3 2 from (FRf hf1 hf2 (by omega) (by first | decide | omega)), show arI g2 131 = arI g 131 from ((hf2.2.1 131 (by first | decide | omega)).trans (hf1.2.1 131 (by omega)))]; exact hRl.1.1), (by rw [show fI g2 18 3 = fI g 18 3 from (FRf hf1 hf2 (by omega) (by first | decide | omega))]; exact SM_cg hRl.1.2.1 (fun q hq => (cm1 q hq).trans (congrFun (hf1.2.1 158 (by omega)) q))), (by rw [show fI g2 30 3 = fI g 30 3 from (FRf hf1 hf2 (by omega) (by first | decide | omega))]; exact SM_cg hRl.1.2.2.1 (fun q hq => (cm2 _ (by omega)).trans (congrFun (hf1.2.1 162 (by omega)) (8 + q)))), (((FRf hf1 hf2 (by omega) (by first | decide | omega))).trans (hRl.1.2.2.2.1.trans ((FRf hf1 hf2 (by omega) (by first | decide | omega))).symm)), ((FRf hf1 hf2 (by omega) (by first | decide | omega)).trans (hRl.1.2.2.2.2.1.trans ((FR1f hf1 (by omega)).symm.trans (cm4.symm.trans (fI_of cm0).symm)))), ((FRf hf1 hf2 (by omega) (by first | decide | omega)).trans (hRl.1.2.2.2.2.2.trans ((congrFun (hf1.2.1 166 (by omega)) 1).symm.trans cm3.symm)))⟩, (fun k j hk hj => (congrFun ((hf2.2.1 (6 + 1 * k) (by first | decide | omega)).trans (hf1.2.1 (6 + 1 * k) (by omega))) j).trans ((hRl.2 k j hk hj).trans (congrFun ((hf2.2.1 133 (by first | decide | omega)).trans (hf1.2.1 133 (by omega))) _).symm))⟩ hW hl

set_option maxRecDepth 100000 in
set_option maxHeartbeats 4000000 in
theorem lc_other {K : KT} {cA : Nat → ClassId} {ad : Nat → Nat} {b L : Nat} {xs : Nat → Int32} {H : Heap} {locs : List Loc} {ls : Array Slot} {g : Nat → va_E} {i : Int32} (hM : MB K cA code 4 R_law) (hXB : XB K b L xs) (hL : L ≤ 3072) (hR : HasRoom K 2048 84000) (hC : Cells K 600000 7302250) (hP : PI ad cA g) (hRl : RQ g) (hi0 : 0 ≤ i.toInt) (hi : i.toInt + 6 ≤ L) (hW : WB NN ad K g H locs) (hl : lv_has ls 4 [(3, .int i), (2, .ref (ad 129)), (1, .ref (ad 0)), (0, .ref b)]) (kk : ∀ (g : Nat → va_E) (H : Heap) (locs : List Loc) (ls : Array Slot), PI ad cA g → RQ g → WB NN ad K g H locs → lv_has ls 4 [(3, .int i), (2, .ref (ad 129)), (1, .ref (ad 0)), (0, .ref b)] → XX K 600000 7302250 H locs 1457 ls []) : XX K 600000 7302250 H locs 599 ls [] := by
  have hLn : L < 1000000 := by omega
  obtain ⟨lw, lwn, hlc, h13, h14⟩ := id hP.2.2.1
  refine q_aload_n hM dL_law_599 (lv_at hl 2 rfl) ?_
  refine q_aload_n hM dL_law_600 (lv_at hl 3 rfl) ?_
  refine q_iload_n hM dL_law_601 (lv_at hl 0 rfl) ?_
  refine q_iconst (v := (1 : Int32)) hM dL_law_602 (by decide) ?_
  refine q_iadd hM dL_law_603 (fun z13869 hz13869 => ?_)
  have tz13869 := i_addT hz13869 (rfl : i.toInt = i.toInt) (kc_1 : (1 : Int32).toInt = 1) (by omega) (by omega)
  refine s_iald z13869.toInt.toNat hM hW hXB (by omega) (by omega) (by omega) dL_law_604 ?_
  refine q_top (fun a13870 ha13870 => ?_)
  refine q_aload_n hM dL_law_605 (lv_at hl 3 rfl) ?_
  refine q_iload_n hM dL_law_606 (lv_at hl 0 rfl) ?_
  refine q_iconst (v := (2 : Int32)) hM dL_law_607 (by decide) ?_
  refine q_iadd hM dL_law_608 (fun z13871 hz13871 => ?_)
  have tz13871 := i_addT hz13871 (rfl : i.toInt = i.toInt) (kc_2 : (2 : Int32).toInt = 2) (by omega) (by omega)
  refine s_iald z13871.toInt.toNat hM hW hXB (by omega) (by omega) (by omega) dL_law_609 ?_
  refine q_top (fun a13872 ha13872 => ?_)
  refine q_callV (As := [.int a13870, .int a13872]) (rest := []) hM hW hR hC myX11_other (kAW (v_3_1 (List.mem_of_getElem? (i := 8) rfl)) rfl) (rfl : vwCl[11]? = some (RX11, TX11, 16)) rfl lb_0.1 (shO hP.1 lb_0) (p_X11_other _ _ cA ad g a13870 a13872  hP.1 hP.2.1) ⟨by decide, by decide⟩ rfl rfl hl.1 (Nat.le_of_ble_eq_true rfl) dL_law_610 (fun v g1 H locs hp hW => ?_)
  obtain ⟨r1, rfl, hs1, hG1, hf1⟩ := hp
  have hP0 := hP
  have hP : PI ad cA g1 := PI_fr hP0 hs1 hG1 hf1 (by first | decide | omega) (by first | decide | omega) (by first | decide | omega) (by first | decide | omega) (by first | decide | omega) (by first | decide | omega) (by first | decide | omega) (by first | decide | omega) (by first | decide | omega)
  refine q_pop hM dL_law_613 rfl ?_
  refine q_aload_n hM dL_law_614 (lv_at hl 1 rfl) ?_
  refine q_aload_n hM dL_law_615 (lv_at hl 3 rfl) ?_
  refine q_iload_n hM dL_law_616 (lv_at hl 0 rfl) ?_
  refine q_iconst (v := (1 : Int32)) hM dL_law_617 (by decide) ?_
  refine q_iadd hM dL_law_618 (fun z13873 hz13873 => ?_)
  have tz13873 := i_addT hz13873 (rfl : i.toInt = i.toInt) (kc_1 : (1 : Int32).toInt = 1) (by omega) (by omega)
  refine s_iald z13873.toInt.toNat hM hW hXB (by omega) (by omega) (by omega) dL_law_619 ?_
  refine q_top (fun a13874 ha13874 => ?_)
  refine q_aload_n hM dL_law_620 (lv_at hl 3 rfl) ?_
  refine q_iload_n hM dL_law_621 (lv_at hl 0 rfl) ?_
  refine q_iconst (v := (2 : Int32)) hM dL_law_622 (by decide) ?_
  refine q_iadd hM dL_law_623 (fun z13875 hz13875 => ?_)
  have tz13875 := i_addT hz13875 (rfl : i.toInt = i.toInt) (kc_2 : (2 : Int32).toInt = 2) (by omega) (by omega)
  refine s_iald z13875.toInt.toNat hM hW hXB (by omega) (by omega) (by omega) dL_law_624 ?_
  refine q_top (fun a13876 ha13876 => ?_)
  refine q_callV (As := [.int a13874, .int a13876]) (rest := []) hM hW hR hC myX12_other (kAW (v_6_10 (List.mem_of_getElem? (i := 14) rfl)) rfl) (rfl : vwCl[12]? = some (RX12, TX12, 86)) rfl lb_129.1 (shO hP.1 lb_129) (s_X12_other _ _ cA ad g1 a13874 a13876 (fI g1 129 56) hP.1 hP.2.1 (shI hP.1 lb_129 (by decide) (by decide)) hP.2.2.2.1.1 (fun q hq => by rw [hf1.2.1 158 (by first | decide | omega)]; exact SM_01 hRl.1.2.1 q hq)) ⟨by decide, by decide⟩ rfl rfl hl.1 (Nat.le_of_ble_eq_true rfl) dL_law_625 (fun v g2 H locs hp hW => ?_)
  obtain ⟨m0, r2, rfl, hs2, hG2, hf2, cm0, cm1, cm2, cm3, cm4⟩ := hp
  have hP1 := hP
  have hP : PI ad cA g2 := PI_fr hP1 hs2 hG2 hf2 (by first | decide | omega) (by first | decide | omega) (by first | decide | omega) (by first | decide | omega) (by first | decide | omega) (by first | decide | omega) (by first | decide | omega) (by first | decide | omega) (by first | decide | omega)
  have qa13874 : a13874 = a13870 := by rw [ha13874, ha13870]; congr 1; omega
  have qa13876 : a13876 = a13872 := by rw [ha13876, ha13872]; congr 1; omega
  first | rw [qa13874] at cm0 | skip
  first | rw [qa13876] at cm0 | skip
  first | rw [qa13874] at cm1 | skip
  first | rw [qa13876] at cm1 | skip
  first | rw [qa13874] at cm2 | skip
  first | rw [qa13876] at cm2 | skip
  first | rw [qa13874] at cm3 | skip
  first | rw [qa13876] at cm3 | skip
  first | rw [qa13874] at cm4 | skip
  first | rw [qa13876] at cm4 | skip
  refine q_pop hM dL_law_628 rfl ?_
  refine q_goto (tgt := 1457) hM dL_law_629 (by decide) ?_
  exact kk _ _ _ _ hP ⟨⟨(by rw [show fI g2 3 2 = fI g 3 2 from (FRf hf1 hf2 (by first | decide | omega) (by first | decide | omega)), show arI g2 131 = arI g 131 from ((hf2.2.1 131 (by first | decide | omega)).trans (hf1.2.1 131 (by first | decide | omega)))]; exact hRl.1.1), (by rw [show fI g2 18 3 = fI g 18 3 from (FRf hf1 hf2 (by first | decide | omega) (by first | decide | omega))]; exact SM_cg hRl.1.2.1 (fun q hq => (cm1 q hq).trans (congrFun (hf1.2.1 158 (by first | decide | omega)) q))), (by rw [show fI g2 30 3 = fI g 30 3 from (FRf hf1 hf2 (by first | decide | omega) (by first | decide | omega))]; exact SM_cg hRl.1.2.2.1 (fun q hq => (cm2 _ (by omega)).trans (congrFun (hf1.2.1 162 (by first | decide | omega)) (8 + q)))), (((FRf hf1 hf2 (by first | decide | omega) (by first | decide | omega))).trans (hRl.1.2.2.2.1.trans ((FRf hf1 hf2 (by first | decide | omega) (by first | decide | omega))).symm)), ((FRf hf1 hf2 (by first | decide | omega) (by first | decide | omega)).trans (hRl.1.2.2.2.2.1.trans ((FR1f hf1 (by first | decide | omega)).symm.trans (cm4.symm.trans (fI_of cm0).symm)))), ((FRf hf1 hf2 (by first | decide | omega) (by first | decide | omega)).trans (hRl.1.2.2.2.2.2.trans ((congrFun (hf1.2.1 166 (by first | decide | omega)) 1).symm.trans cm3.symm)))⟩, (fun k j hk hj => (congrFun ((hf2.2.1 (6 + 1 * k) (by first | decide | omega)).trans (hf1.2.1 (6 + 1 * k) (by first | decide | omega))) j).trans ((hRl.2 k j hk hj).trans (congrFun ((hf2.2.1 133 (by first | decide | omega)).trans (hf1.2.1 133 (by first | decide | omega))) _).symm))⟩ hW hl

set_option maxRecDepth 100000 in
set_option maxHeartbeats 4000000 in
theorem lc_copy {K : KT} {cA : Nat → ClassId} {ad : Nat → Nat} {b L : Nat} {xs : Nat → Int32} {H : Heap} {locs : List Loc} {ls : Array Slot} {g : Nat → va_E} {i : Int32} (hM : MB K cA code 4 R_law) (hXB : XB K b L xs) (hL : L ≤ 3072) (hR : HasRoom K 2048 84000) (hC : Cells K 600000 7302250) (hP : PI ad cA g) (hRl : RQ g) (hi0 : 0 ≤ i.toInt) (hi : i.toInt + 6 ≤ L) (hW : WB NN ad K g H locs) (hl : lv_has ls 4 [(3, .int i), (2, .ref (ad 129)), (1, .ref (ad 0)), (0, .ref b)]) (kk : ∀ (g : Nat → va_E) (H : Heap) (locs : List Loc) (ls : Array Slot), PI ad cA g → RQ g → WB NN ad K g H locs → lv_has ls 4 [(3, .int i), (2, .ref (ad 129)), (1, .ref (ad 0)), (0, .ref b)] → XX K 600000 7302250 H locs 1457 ls []) : XX K 600000 7302250 H locs 632 ls [] := by
  have hLn : L < 1000000 := by omega
  obtain ⟨lw, lwn, hlc, h13, h14⟩ := id hP.2.2.1
  refine q_aload_n hM dL_law_632 (lv_at hl 2 rfl) ?_
  refine q_callV (As := []) (rest := []) hM hW hR hC myX11_copy (kAW (v_3_1 (List.mem_of_getElem? (i := 12) rfl)) rfl) (rfl : vwCl[11]? = some (RX11, TX11, 16)) rfl lb_0.1 (shO hP.1 lb_0) (p_X11_copy _ _ cA ad g  lw hP.1 hP.2.1 (by unfold isLw; omega) h13) ⟨by decide, by decide⟩ rfl rfl hl.1 (Nat.le_of_ble_eq_true rfl) dL_law_633 (fun v g1 H locs hp hW => ?_)
  obtain ⟨r1, rfl, hs1, hG1, hf1⟩ := hp
  have hP0 := hP
  have hP : PI ad cA g1 := PI_fr hP0 hs1 hG1 hf1 (by first | decide | omega) (by first | decide | omega) (by first | decide | omega) (by first | decide | omega) (by first | decide | omega) (by first | decide | omega) (by first | decide | omega) (by first | decide | omega) (by first | decide | omega)
  refine q_pop hM dL_law_636 rfl ?_
  refine q_aload_n hM dL_law_637 (lv_at hl 1 rfl) ?_
  refine q_callV (As := []) (rest := []) hM hW hR hC myX12_copy (kAW (v_6_1 (List.mem_of_getElem? (i := 11) rfl)) rfl) (rfl : vwCl[12]? = some (RX12, TX12, 86)) rfl lb_129.1 (shO hP.1 lb_129) (p_X12_copy _ _ cA ad g1  (fI g1 129 32) hP.1 hP.2.1 (shI hP.1 lb_129 (by decide) (by decide)) hP.2.2.2.1) ⟨by decide, by decide⟩ rfl rfl hl.1 (Nat.le_of_ble_eq_true rfl) dL_law_638 (fun v g2 H locs hp hW => ?_)
  obtain ⟨r2, rfl, hs2, hG2, hf2, ha2⟩ := hp
  have hP1 := hP
  have hP : PI ad cA g2 := by
    obtain ⟨lw9, lwn9, c9, h139, h149⟩ := hP1.2.2.1
    exact ⟨hs2, hG2, ⟨lw9, lwn9, c9, (hf2.1 0 13 (by omega)).trans h139, (hf2.1 0 14 (by omega)).trans h149⟩, ha2, TB_fr hP1.2.2.2.2 hf2 (by omega)⟩
  refine q_pop hM dL_law_641 rfl ?_
  refine q_goto (tgt := 1457) hM dL_law_642 (by decide) ?_
  exact kk _ _ _ _ hP ⟨⟨(by rw [show fI g2 3 2 = fI g 3 2 from (FRf hf1 hf2 (by first | decide | omega) (by first | decide | omega)), show arI g2 131 = arI g 131 from ((hf2.2.1 131 (by first | decide | omega)).trans (hf1.2.1 131 (by first | decide | omega)))]; exact hRl.1.1), (by rw [show fI g2 18 3 = fI g 18 3 from (FRf hf1 hf2 (by first | decide | omega) (by first | decide | omega)), show arI g2 158 = arI g 158 from ((hf2.2.1 158 (by first | decide | omega)).trans (hf1.2.1 158 (by first | decide | omega)))]; exact hRl.1.2.1), (by rw [show fI g2 30 3 = fI g 30 3 from (FRf hf1 hf2 (by first | decide | omega) (by first | decide | omega)), show arI g2 162 = arI g 162 from ((hf2.2.1 162 (by first | decide | omega)).trans (hf1.2.1 162 (by first | decide | omega)))]; exact hRl.1.2.2.1), (((FRf hf1 hf2 (by first | decide | omega) (by first | decide | omega))).trans (hRl.1.2.2.2.1.trans ((FRf hf1 hf2 (by first | decide | omega) (by first | decide | omega))).symm)), (((FRf hf1 hf2 (by first | decide | omega) (by first | decide | omega))).trans (hRl.1.2.2.2.2.1.trans ((FRf hf1 hf2 (by first | decide | omega) (by first | decide | omega))).symm)), (((FRf hf1 hf2 (by first | decide | omega) (by first | decide | omega))).trans (hRl.1.2.2.2.2.2.trans (congrFun ((hf2.2.1 166 (by first | decide | omega)).trans (hf1.2.1 166 (by first | decide | omega))) 1).symm))⟩, (fun k j hk hj => (congrFun ((hf2.2.1 (6 + 1 * k) (by first | decide | omega)).trans (hf1.2.1 (6 + 1 * k) (by first | decide | omega))) j).trans ((hRl.2 k j hk hj).trans (congrFun ((hf2.2.1 133 (by first | decide | omega)).trans (hf1.2.1 133 (by first | decide | omega))) _).symm))⟩ hW hl

set_option maxRecDepth 100000 in
set_option maxHeartbeats 4000000 in
theorem lc_first {K : KT} {cA : Nat → ClassId} {ad : Nat → Nat} {b L : Nat} {xs : Nat → Int32} {H : Heap} {locs : List Loc} {ls : Array Slot} {g : Nat → va_E} {i : Int32} (hM : MB K cA code 4 R_law) (hXB : XB K b L xs) (hL : L ≤ 3072) (hR : HasRoom K 2048 84000) (hC : Cells K 600000 7302250) (hP : PI ad cA g) (hRl : RQ g) (hi0 : 0 ≤ i.toInt) (hi : i.toInt + 6 ≤ L) (hW : WB NN ad K g H locs) (hl : lv_has ls 4 [(3, .int i), (2, .ref (ad 129)), (1, .ref (ad 0)), (0, .ref b)]) (kk : ∀ (g : Nat → va_E) (H : Heap) (locs : List Loc) (ls : Array Slot), PI ad cA g → RQ g → WB NN ad K g H locs → lv_has ls 4 [(3, .int i), (2, .ref (ad 129)), (1, .ref (ad 0)), (0, .ref b)] → XX K 600000 7302250 H locs 1457 ls []) : XX K 600000 7302250 H locs 645 ls [] := by
  have hLn : L < 1000000 := by omega
  obtain ⟨lw, lwn, hlc, h13, h14⟩ := id hP.2.2.1
  refine q_aload_n hM dL_law_645 (lv_at hl 2 rfl) ?_
  refine q_aload_n hM dL_law_646 (lv_at hl 3 rfl) ?_
  refine q_iload_n hM dL_law_647 (lv_at hl 0 rfl) ?_
  refine q_iconst (v := (1 : Int32)) hM dL_law_648 (by decide) ?_
  refine q_iadd hM dL_law_649 (fun z13877 hz13877 => ?_)
  have tz13877 := i_addT hz13877 (rfl : i.toInt = i.toInt) (kc_1 : (1 : Int32).toInt = 1) (by omega) (by omega)
  refine s_iald z13877.toInt.toNat hM hW hXB (by omega) (by omega) (by omega) dL_law_650 ?_
  refine q_top (fun a13878 ha13878 => ?_)
  refine q_aload_n hM dL_law_651 (lv_at hl 3 rfl) ?_
  refine q_iload_n hM dL_law_652 (lv_at hl 0 rfl) ?_
  refine q_iconst (v := (2 : Int32)) hM dL_law_653 (by decide) ?_
  refine q_iadd hM dL_law_654 (fun z13879 hz13879 => ?_)
  have tz13879 := i_addT hz13879 (rfl : i.toInt = i.toInt) (kc_2 : (2 : Int32).toInt = 2) (by omega) (by omega)
  refine s_iald z13879.toInt.toNat hM hW hXB (by omega) (by omega) (by omega) dL_law_655 ?_
  refine q_top (fun a13880 ha13880 => ?_)
  refine q_aload_n hM dL_law_656 (lv_at hl 3 rfl) ?_
  refine q_iload_n hM dL_law_657 (lv_at hl 0 rfl) ?_
  refine q_iconst (v := (3 : Int32)) hM dL_law_658 (by decide) ?_
  refine q_iadd hM dL_law_659 (fun z13881 hz13881 => ?_)
  have tz13881 := i_addT hz13881 (rfl : i.toInt = i.toInt) (kc_3 : (3 : Int32).toInt = 3) (by omega) (by omega)
  refine s_iald z13881.toInt.toNat hM hW hXB (by omega) (by omega) (by omega) dL_law_660 ?_
  refine q_top (fun a13882 ha13882 => ?_)
  refine q_callV (As := [.int a13878, .int a13880, .int a13882]) (rest := []) hM hW hR hC myX11_first (kAW (v_3_2 (List.mem_of_getElem? (i := 4) rfl)) rfl) (rfl : vwCl[11]? = some (RX11, TX11, 16)) rfl lb_0.1 (shO hP.1 lb_0) (p_X11_first _ _ cA ad g a13878 a13880 a13882 lw hP.1 hP.2.1 (by unfold isLw; omega) h13) ⟨by decide, by decide⟩ rfl rfl hl.1 (Nat.le_of_ble_eq_true rfl) dL_law_661 (fun v g1 H locs hp hW => ?_)
  obtain ⟨r1, rfl, hs1, hG1, hf1⟩ := hp
  have hP0 := hP
  have hP : PI ad cA g1 := PI_fr hP0 hs1 hG1 hf1 (by omega) (by omega) (by omega) (by omega) (by omega) (by omega) (by omega) (by omega) (by omega)
  refine q_pop hM dL_law_664 rfl ?_
  refine q_aload_n hM dL_law_665 (lv_at hl 1 rfl) ?_
  refine q_aload_n hM dL_law_666 (lv_at hl 3 rfl) ?_
  refine q_iload_n hM dL_law_667 (lv_at hl 0 rfl) ?_
  refine q_iconst (v := (1 : Int32)) hM dL_law_668 (by decide) ?_
  refine q_iadd hM dL_law_669 (fun z13883 hz13883 => ?_)
  have tz13883 := i_addT hz13883 (rfl : i.toInt = i.toInt) (kc_1 : (1 : Int32).toInt = 1) (by omega) (by omega)
  refine s_iald z13883.toInt.toNat hM hW hXB (by omega) (by omega) (by omega) dL_law_670 ?_
  refine q_top (fun a13884 ha13884 => ?_)
  refine q_aload_n hM dL_law_671 (lv_at hl 3 rfl) ?_
  refine q_iload_n hM dL_law_672 (lv_at hl 0 rfl) ?_
  refine q_iconst (v := (2 : Int32)) hM dL_law_673 (by decide) ?_
  refine q_iadd hM dL_law_674 (fun z13885 hz13885 => ?_)
  have tz13885 := i_addT hz13885 (rfl : i.toInt = i.toInt) (kc_2 : (2 : Int32).toInt = 2) (by omega) (by omega)
  refine s_iald z13885.toInt.toNat hM hW hXB (by omega) (by omega) (by omega) dL_law_675 ?_
  refine q_top (fun a13886 ha13886 => ?_)
  refine q_aload_n hM dL_law_676 (lv_at hl 3 rfl) ?_
  refine q_iload_n hM dL_law_677 (lv_at hl 0 rfl) ?_
  refine q_iconst (v := (3 : Int32)) hM dL_law_678 (by decide) ?_
  refine q_iadd hM dL_law_679 (fun z13887 hz13887 => ?_)
  have tz13887 := i_addT hz13887 (rfl : i.toInt = i.toInt) (kc_3 : (3 : Int32).toInt = 3) (by omega) (by omega)
  refine s_iald z13887.toInt.toNat hM hW hXB (by omega) (by omega) (by omega) dL_law_680 ?_
  refine q_top (fun a13888 ha13888 => ?_)
  refine q_callV (As := [.int a13884, .int a13886, .int a13888]) (rest := []) hM hW hR hC myX12_first (kAW (v_6_11 (List.mem_of_getElem? (i := 2) rfl)) rfl) (rfl : vwCl[12]? = some (RX12, TX12, 86)) rfl lb_129.1 (shO hP.1 lb_129) (s_X12_first _ _ cA ad g1 a13884 a13886 a13888 (fI g1 129 56) hP.1 hP.2.1 (shI hP.1 lb_129 (by decide) (by decide)) hP.2.2.2.1.1 (fun q hq => by rw [hf1.2.1 158 (by omega)]; exact SM_01 hRl.1.2.1 q hq)) ⟨by decide, by decide⟩ rfl rfl hl.1 (Nat.le_of_ble_eq_true rfl) dL_law_681 (fun v g2 H locs hp hW => ?_)
  obtain ⟨m0, r2, rfl, hs2, hG2, hf2, cm0, cm1, cm2, cm3, cm4⟩ := hp
  have hP1 := hP
  have hP : PI ad cA g2 := PI_fr hP1 hs2 hG2 hf2 (by first | decide | omega) (by first | decide | omega) (by first | decide | omega) (by first | decide | omega) (by first | decide | omega) (by first | decide | omega) (by first | decide | omega) (by first | decide | omega) (by first | decide | omega)
  have qa13884 : a13884 = a13878 := by rw [ha13884, ha13878]; congr 1; omega
  have qa13886 : a13886 = a13880 := by rw [ha13886, ha13880]; congr 1; omega
  have qa13888 : a13888 = a13882 := by rw [ha13888, ha13882]; congr 1; omega
  first | rw [qa13884] at cm0 | skip
  first | rw [qa13886] at cm0 | skip
  first | rw [qa13888] at cm0 | skip
  first | rw [qa13884] at cm1 | skip
  first | rw [qa13886] at cm1 | skip
  first | rw [qa13888] at cm1 | skip
  first | rw [qa13884] at cm2 | skip
  first | rw [qa13886] at cm2 | skip
  first | rw [qa13888] at cm2 | skip
  first | rw [qa13884] at cm3 | skip
  first | rw [qa13886] at cm3 | skip
  first | rw [qa13888] at cm3 | skip
  first | rw [qa13884] at cm4 | skip
  first | rw [qa13886] at cm4 | skip
  first | rw [qa13888] at cm4 | skip
  refine q_pop hM dL_law_684 rfl ?_
  refine q_goto (tgt := 1457) hM dL_law_685 (by decide) ?_
  exact kk _ _ _ _ hP ⟨⟨(by rw [show fI g2 3 2 = fI g 3 2 from (FRf hf1 hf2 (by omega) (by first | decide | omega)), show arI g2 131 = arI g 131 from ((hf2.2.1 131 (by first | decide | omega)).trans (hf1.2.1 131 (by omega)))]; exact hRl.1.1), (by rw [show fI g2 18 3 = fI g 18 3 from (FRf hf1 hf2 (by omega) (by first | decide | omega))]; exact SM_cg hRl.1.2.1 (fun q hq => (cm1 q hq).trans (congrFun (hf1.2.1 158 (by omega)) q))), (by rw [show fI g2 30 3 = fI g 30 3 from (FRf hf1 hf2 (by omega) (by first | decide | omega))]; exact SM_cg hRl.1.2.2.1 (fun q hq => (cm2 _ (by omega)).trans (congrFun (hf1.2.1 162 (by omega)) (8 + q)))), (((FRf hf1 hf2 (by omega) (by first | decide | omega))).trans (hRl.1.2.2.2.1.trans ((FRf hf1 hf2 (by omega) (by first | decide | omega))).symm)), ((FRf hf1 hf2 (by omega) (by first | decide | omega)).trans (hRl.1.2.2.2.2.1.trans ((FR1f hf1 (by omega)).symm.trans (cm4.symm.trans (fI_of cm0).symm)))), ((FRf hf1 hf2 (by omega) (by first | decide | omega)).trans (hRl.1.2.2.2.2.2.trans ((congrFun (hf1.2.1 166 (by omega)) 1).symm.trans cm3.symm)))⟩, (fun k j hk hj => (congrFun ((hf2.2.1 (6 + 1 * k) (by first | decide | omega)).trans (hf1.2.1 (6 + 1 * k) (by omega))) j).trans ((hRl.2 k j hk hj).trans (congrFun ((hf2.2.1 133 (by first | decide | omega)).trans (hf1.2.1 133 (by omega))) _).symm))⟩ hW hl

set_option maxRecDepth 100000 in
set_option maxHeartbeats 4000000 in
theorem lc_does {K : KT} {cA : Nat → ClassId} {ad : Nat → Nat} {b L : Nat} {xs : Nat → Int32} {H : Heap} {locs : List Loc} {ls : Array Slot} {g : Nat → va_E} {i : Int32} (hM : MB K cA code 4 R_law) (hXB : XB K b L xs) (hL : L ≤ 3072) (hR : HasRoom K 2048 84000) (hC : Cells K 600000 7302250) (hP : PI ad cA g) (hRl : RQ g) (hi0 : 0 ≤ i.toInt) (hi : i.toInt + 6 ≤ L) (hW : WB NN ad K g H locs) (hl : lv_has ls 4 [(3, .int i), (2, .ref (ad 129)), (1, .ref (ad 0)), (0, .ref b)]) (kk : ∀ (g : Nat → va_E) (H : Heap) (locs : List Loc) (ls : Array Slot), PI ad cA g → RQ g → WB NN ad K g H locs → lv_has ls 4 [(3, .int i), (2, .ref (ad 129)), (1, .ref (ad 0)), (0, .ref b)] → XX K 600000 7302250 H locs 1457 ls []) : XX K 600000 7302250 H locs 688 ls [] := by
  have hLn : L < 1000000 := by omega
  obtain ⟨lw, lwn, hlc, h13, h14⟩ := id hP.2.2.1
  refine q_aload_n hM dL_law_688 (lv_at hl 2 rfl) ?_
  refine q_aload_n hM dL_law_689 (lv_at hl 3 rfl) ?_
  refine q_iload_n hM dL_law_690 (lv_at hl 0 rfl) ?_
  refine q_iconst (v := (1 : Int32)) hM dL_law_691 (by decide) ?_
  refine q_iadd hM dL_law_692 (fun z13889 hz13889 => ?_)
  have tz13889 := i_addT hz13889 (rfl : i.toInt = i.toInt) (kc_1 : (1 : Int32).toInt = 1) (by omega) (by omega)
  refine s_iald z13889.toInt.toNat hM hW hXB (by omega) (by omega) (by omega) dL_law_693 ?_
  refine q_top (fun a13890 ha13890 => ?_)
  refine q_aload_n hM dL_law_694 (lv_at hl 3 rfl) ?_
  refine q_iload_n hM dL_law_695 (lv_at hl 0 rfl) ?_
  refine q_iconst (v := (2 : Int32)) hM dL_law_696 (by decide) ?_
  refine q_iadd hM dL_law_697 (fun z13891 hz13891 => ?_)
  have tz13891 := i_addT hz13891 (rfl : i.toInt = i.toInt) (kc_2 : (2 : Int32).toInt = 2) (by omega) (by omega)
  refine s_iald z13891.toInt.toNat hM hW hXB (by omega) (by omega) (by omega) dL_law_698 ?_
  refine q_top (fun a13892 ha13892 => ?_)
  refine q_callV (As := [.int a13890, .int a13892]) (rest := []) hM hW hR hC myX11_does (kAW (v_3_2 (List.mem_of_getElem? (i := 8) rfl)) rfl) (rfl : vwCl[11]? = some (RX11, TX11, 16)) rfl lb_0.1 (shO hP.1 lb_0) (p_X11_does _ _ cA ad g a13890 a13892 lw hP.1 hP.2.1 (by unfold isLw; omega) h13) ⟨by decide, by decide⟩ rfl rfl hl.1 (Nat.le_of_ble_eq_true rfl) dL_law_699 (fun v g1 H locs hp hW => ?_)
  obtain ⟨r1, rfl, hs1, hG1, hf1⟩ := hp
  have hP0 := hP
  have hP : PI ad cA g1 := PI_fr hP0 hs1 hG1 hf1 (by omega) (by omega) (by omega) (by omega) (by omega) (by omega) (by omega) (by omega) (by omega)
  refine q_pop hM dL_law_702 rfl ?_
  refine q_aload_n hM dL_law_703 (lv_at hl 1 rfl) ?_
  refine q_aload_n hM dL_law_704 (lv_at hl 3 rfl) ?_
  refine q_iload_n hM dL_law_705 (lv_at hl 0 rfl) ?_
  refine q_iconst (v := (1 : Int32)) hM dL_law_706 (by decide) ?_
  refine q_iadd hM dL_law_707 (fun z13893 hz13893 => ?_)
  have tz13893 := i_addT hz13893 (rfl : i.toInt = i.toInt) (kc_1 : (1 : Int32).toInt = 1) (by omega) (by omega)
  refine s_iald z13893.toInt.toNat hM hW hXB (by omega) (by omega) (by omega) dL_law_708 ?_
  refine q_top (fun a13894 ha13894 => ?_)
  refine q_aload_n hM dL_law_709 (lv_at hl 3 rfl) ?_
  refine q_iload_n hM dL_law_710 (lv_at hl 0 rfl) ?_
  refine q_iconst (v := (2 : Int32)) hM dL_law_711 (by decide) ?_
  refine q_iadd hM dL_law_712 (fun z13895 hz13895 => ?_)
  have tz13895 := i_addT hz13895 (rfl : i.toInt = i.toInt) (kc_2 : (2 : Int32).toInt = 2) (by omega) (by omega)
  refine s_iald z13895.toInt.toNat hM hW hXB (by omega) (by omega) (by omega) dL_law_713 ?_
  refine q_top (fun a13896 ha13896 => ?_)
  refine q_callV (As := [.int a13894, .int a13896]) (rest := []) hM hW hR hC myX12_does (kAW (v_6_3 (List.mem_of_getElem? (i := 3) rfl)) rfl) (rfl : vwCl[12]? = some (RX12, TX12, 86)) rfl lb_129.1 (shO hP.1 lb_129) (p_X12_does _ _ cA ad g1 a13894 a13896 hP.1 hP.2.1 hP.2.2.2.1.1) ⟨by decide, by decide⟩ rfl rfl hl.1 (Nat.le_of_ble_eq_true rfl) dL_law_714 (fun v g2 H locs hp hW => ?_)
  obtain ⟨r2, rfl, hs2, hG2, hf2⟩ := hp
  have hP1 := hP
  have hP : PI ad cA g2 := PI_fr hP1 hs2 hG2 hf2 (by first | decide | omega) (by first | decide | omega) (by first | decide | omega) (by first | decide | omega) (by first | decide | omega) (by first | decide | omega) (by first | decide | omega) (by first | decide | omega) (by first | decide | omega)
  have qa13894 : a13894 = a13890 := by rw [ha13894, ha13890]; congr 1; omega
  have qa13896 : a13896 = a13892 := by rw [ha13896, ha13892]; congr 1; omega
  refine q_pop hM dL_law_717 rfl ?_
  refine q_goto (tgt := 1457) hM dL_law_718 (by decide) ?_
  exact kk _ _ _ _ hP ⟨⟨(by rw [show fI g2 3 2 = fI g 3 2 from (FRf hf1 hf2 (by omega) (by first | decide | omega)), show arI g2 131 = arI g 131 from ((hf2.2.1 131 (by first | decide | omega)).trans (hf1.2.1 131 (by omega)))]; exact hRl.1.1), (by rw [show fI g2 18 3 = fI g 18 3 from (FRf hf1 hf2 (by omega) (by first | decide | omega)), show arI g2 158 = arI g 158 from ((hf2.2.1 158 (by first | decide | omega)).trans (hf1.2.1 158 (by omega)))]; exact hRl.1.2.1), (by rw [show fI g2 30 3 = fI g 30 3 from (FRf hf1 hf2 (by omega) (by first | decide | omega)), show arI g2 162 = arI g 162 from ((hf2.2.1 162 (by first | decide | omega)).trans (hf1.2.1 162 (by omega)))]; exact hRl.1.2.2.1), (((FRf hf1 hf2 (by omega) (by first | decide | omega))).trans (hRl.1.2.2.2.1.trans ((FRf hf1 hf2 (by omega) (by first | decide | omega))).symm)), (((FRf hf1 hf2 (by omega) (by first | decide | omega))).trans (hRl.1.2.2.2.2.1.trans ((FRf hf1 hf2 (by omega) (by first | decide | omega))).symm)), (((FRf hf1 hf2 (by omega) (by first | decide | omega))).trans (hRl.1.2.2.2.2.2.trans (congrFun ((hf2.2.1 166 (by first | decide | omega)).trans (hf1.2.1 166 (by omega))) 1).symm))⟩, (fun k j hk hj => (congrFun ((hf2.2.1 (6 + 1 * k) (by first | decide | omega)).trans (hf1.2.1 (6 + 1 * k) (by omega))) j).trans ((hRl.2 k j hk hj).trans (congrFun ((hf2.2.1 133 (by first | decide | omega)).trans (hf1.2.1 133 (by omega))) _).symm))⟩ hW hl

set_option maxRecDepth 100000 in
set_option maxHeartbeats 4000000 in
theorem lc_pupilIs {K : KT} {cA : Nat → ClassId} {ad : Nat → Nat} {b L : Nat} {xs : Nat → Int32} {H : Heap} {locs : List Loc} {ls : Array Slot} {g : Nat → va_E} {i : Int32} (hM : MB K cA code 4 R_law) (hXB : XB K b L xs) (hL : L ≤ 3072) (hR : HasRoom K 2048 84000) (hC : Cells K 600000 7302250) (hP : PI ad cA g) (hRl : RQ g) (hi0 : 0 ≤ i.toInt) (hi : i.toInt + 6 ≤ L) (hW : WB NN ad K g H locs) (hl : lv_has ls 4 [(3, .int i), (2, .ref (ad 129)), (1, .ref (ad 0)), (0, .ref b)]) (kk : ∀ (g : Nat → va_E) (H : Heap) (locs : List Loc) (ls : Array Slot), PI ad cA g → RQ g → WB NN ad K g H locs → lv_has ls 4 [(3, .int i), (2, .ref (ad 129)), (1, .ref (ad 0)), (0, .ref b)] → XX K 600000 7302250 H locs 1457 ls []) : XX K 600000 7302250 H locs 721 ls [] := by
  have hLn : L < 1000000 := by omega
  obtain ⟨lw, lwn, hlc, h13, h14⟩ := id hP.2.2.1
  refine q_aload_n hM dL_law_721 (lv_at hl 2 rfl) ?_
  refine q_aload_n hM dL_law_722 (lv_at hl 3 rfl) ?_
  refine q_iload_n hM dL_law_723 (lv_at hl 0 rfl) ?_
  refine q_iconst (v := (1 : Int32)) hM dL_law_724 (by decide) ?_
  refine q_iadd hM dL_law_725 (fun z13897 hz13897 => ?_)
  have tz13897 := i_addT hz13897 (rfl : i.toInt = i.toInt) (kc_1 : (1 : Int32).toInt = 1) (by omega) (by omega)
  refine s_iald z13897.toInt.toNat hM hW hXB (by omega) (by omega) (by omega) dL_law_726 ?_
  refine q_top (fun a13898 ha13898 => ?_)
  refine q_aload_n hM dL_law_727 (lv_at hl 3 rfl) ?_
  refine q_iload_n hM dL_law_728 (lv_at hl 0 rfl) ?_
  refine q_iconst (v := (2 : Int32)) hM dL_law_729 (by decide) ?_
  refine q_iadd hM dL_law_730 (fun z13899 hz13899 => ?_)
  have tz13899 := i_addT hz13899 (rfl : i.toInt = i.toInt) (kc_2 : (2 : Int32).toInt = 2) (by omega) (by omega)
  refine s_iald z13899.toInt.toNat hM hW hXB (by omega) (by omega) (by omega) dL_law_731 ?_
  refine q_top (fun a13900 ha13900 => ?_)
  refine q_callV (As := [.int a13898, .int a13900]) (rest := []) hM hW hR hC myX11_pupilIs (kAW (v_3_2 (List.mem_of_getElem? (i := 13) rfl)) rfl) (rfl : vwCl[11]? = some (RX11, TX11, 16)) rfl lb_0.1 (shO hP.1 lb_0) (p_X11_pupilIs _ _ cA ad g a13898 a13900  hP.1 hP.2.1) ⟨by decide, by decide⟩ rfl rfl hl.1 (Nat.le_of_ble_eq_true rfl) dL_law_732 (fun v g1 H locs hp hW => ?_)
  obtain ⟨r1, rfl, hs1, hG1, hf1⟩ := hp
  have hP0 := hP
  have hP : PI ad cA g1 := PI_fr hP0 hs1 hG1 hf1 (fun h => h) (fun h => h) (fun h => h) (fun h => h) (fun h => h) (fun h => h) (fun h => h) (fun h => h) (fun h => h)
  refine q_pop hM dL_law_735 rfl ?_
  refine q_aload_n hM dL_law_736 (lv_at hl 1 rfl) ?_
  refine q_aload_n hM dL_law_737 (lv_at hl 3 rfl) ?_
  refine q_iload_n hM dL_law_738 (lv_at hl 0 rfl) ?_
  refine q_iconst (v := (1 : Int32)) hM dL_law_739 (by decide) ?_
  refine q_iadd hM dL_law_740 (fun z13901 hz13901 => ?_)
  have tz13901 := i_addT hz13901 (rfl : i.toInt = i.toInt) (kc_1 : (1 : Int32).toInt = 1) (by omega) (by omega)
  refine s_iald z13901.toInt.toNat hM hW hXB (by omega) (by omega) (by omega) dL_law_741 ?_
  refine q_top (fun a13902 ha13902 => ?_)
  refine q_aload_n hM dL_law_742 (lv_at hl 3 rfl) ?_
  refine q_iload_n hM dL_law_743 (lv_at hl 0 rfl) ?_
  refine q_iconst (v := (2 : Int32)) hM dL_law_744 (by decide) ?_
  refine q_iadd hM dL_law_745 (fun z13903 hz13903 => ?_)
  have tz13903 := i_addT hz13903 (rfl : i.toInt = i.toInt) (kc_2 : (2 : Int32).toInt = 2) (by omega) (by omega)
  refine s_iald z13903.toInt.toNat hM hW hXB (by omega) (by omega) (by omega) dL_law_746 ?_
  refine q_top (fun a13904 ha13904 => ?_)
  refine q_callV (As := [.int a13902, .int a13904]) (rest := []) hM hW hR hC myX12_pupilIs (kAW (v_6_11 (List.mem_of_getElem? (i := 6) rfl)) rfl) (rfl : vwCl[12]? = some (RX12, TX12, 86)) rfl lb_129.1 (shO hP.1 lb_129) (p_X12_pupilIs _ _ cA ad g1 a13902 a13904 hP.1 hP.2.1) ⟨by decide, by decide⟩ rfl rfl hl.1 (Nat.le_of_ble_eq_true rfl) dL_law_747 (fun v g2 H locs hp hW => ?_)
  obtain ⟨r2, rfl, hs2, hG2, hf2⟩ := hp
  have hP1 := hP
  have hP : PI ad cA g2 := PI_fr hP1 hs2 hG2 hf2 (fun h => h) (fun h => h) (fun h => h) (fun h => h) (fun h => h) (fun h => h) (fun h => h) (fun h => h) (fun h => h)
  have qa13902 : a13902 = a13898 := by rw [ha13902, ha13898]; congr 1; omega
  have qa13904 : a13904 = a13900 := by rw [ha13904, ha13900]; congr 1; omega
  refine q_pop hM dL_law_750 rfl ?_
  refine q_goto (tgt := 1457) hM dL_law_751 (by decide) ?_
  exact kk _ _ _ _ hP ⟨⟨(by rw [show fI g2 3 2 = fI g 3 2 from (FRf hf1 hf2 (fun h => h) (fun h => h)), show arI g2 131 = arI g 131 from ((hf2.2.1 131 (fun h => h)).trans (hf1.2.1 131 (fun h => h)))]; exact hRl.1.1), (by rw [show fI g2 18 3 = fI g 18 3 from (FRf hf1 hf2 (fun h => h) (fun h => h)), show arI g2 158 = arI g 158 from ((hf2.2.1 158 (fun h => h)).trans (hf1.2.1 158 (fun h => h)))]; exact hRl.1.2.1), (by rw [show fI g2 30 3 = fI g 30 3 from (FRf hf1 hf2 (fun h => h) (fun h => h)), show arI g2 162 = arI g 162 from ((hf2.2.1 162 (fun h => h)).trans (hf1.2.1 162 (fun h => h)))]; exact hRl.1.2.2.1), (((FRf hf1 hf2 (fun h => h) (fun h => h))).trans (hRl.1.2.2.2.1.trans ((FRf hf1 hf2 (fun h => h) (fun h => h))).symm)), (((FRf hf1 hf2 (fun h => h) (fun h => h))).trans (hRl.1.2.2.2.2.1.trans ((FRf hf1 hf2 (fun h => h) (fun h => h))).symm)), (((FRf hf1 hf2 (fun h => h) (fun h => h))).trans (hRl.1.2.2.2.2.2.trans (congrFun ((hf2.2.1 166 (fun h => h)).trans (hf1.2.1 166 (fun h => h))) 1).symm))⟩, (fun k j hk hj => (congrFun ((hf2.2.1 (6 + 1 * k) (fun h => h)).trans (hf1.2.1 (6 + 1 * k) (fun h => h))) j).trans ((hRl.2 k j hk hj).trans (congrFun ((hf2.2.1 133 (fun h => h)).trans (hf1.2.1 133 (fun h => h))) _).symm))⟩ hW hl

set_option maxRecDepth 100000 in
set_option maxHeartbeats 4000000 in
theorem lc_strength {K : KT} {cA : Nat → ClassId} {ad : Nat → Nat} {b L : Nat} {xs : Nat → Int32} {H : Heap} {locs : List Loc} {ls : Array Slot} {g : Nat → va_E} {i : Int32} (hM : MB K cA code 4 R_law) (hXB : XB K b L xs) (hL : L ≤ 3072) (hR : HasRoom K 2048 84000) (hC : Cells K 600000 7302250) (hP : PI ad cA g) (hRl : RQ g) (hi0 : 0 ≤ i.toInt) (hi : i.toInt + 6 ≤ L) (hW : WB NN ad K g H locs) (hl : lv_has ls 4 [(3, .int i), (2, .ref (ad 129)), (1, .ref (ad 0)), (0, .ref b)]) (kk : ∀ (g : Nat → va_E) (H : Heap) (locs : List Loc) (ls : Array Slot), PI ad cA g → RQ g → WB NN ad K g H locs → lv_has ls 4 [(3, .int i), (2, .ref (ad 129)), (1, .ref (ad 0)), (0, .ref b)] → XX K 600000 7302250 H locs 1457 ls []) : XX K 600000 7302250 H locs 754 ls [] := by
  have hLn : L < 1000000 := by omega
  obtain ⟨lw, lwn, hlc, h13, h14⟩ := id hP.2.2.1
  refine q_aload_n hM dL_law_754 (lv_at hl 2 rfl) ?_
  refine q_aload_n hM dL_law_755 (lv_at hl 3 rfl) ?_
  refine q_iload_n hM dL_law_756 (lv_at hl 0 rfl) ?_
  refine q_iconst (v := (1 : Int32)) hM dL_law_757 (by decide) ?_
  refine q_iadd hM dL_law_758 (fun z13905 hz13905 => ?_)
  have tz13905 := i_addT hz13905 (rfl : i.toInt = i.toInt) (kc_1 : (1 : Int32).toInt = 1) (by omega) (by omega)
  refine s_iald z13905.toInt.toNat hM hW hXB (by omega) (by omega) (by omega) dL_law_759 ?_
  refine q_top (fun a13906 ha13906 => ?_)
  refine q_aload_n hM dL_law_760 (lv_at hl 3 rfl) ?_
  refine q_iload_n hM dL_law_761 (lv_at hl 0 rfl) ?_
  refine q_iconst (v := (2 : Int32)) hM dL_law_762 (by decide) ?_
  refine q_iadd hM dL_law_763 (fun z13907 hz13907 => ?_)
  have tz13907 := i_addT hz13907 (rfl : i.toInt = i.toInt) (kc_2 : (2 : Int32).toInt = 2) (by omega) (by omega)
  refine s_iald z13907.toInt.toNat hM hW hXB (by omega) (by omega) (by omega) dL_law_764 ?_
  refine q_top (fun a13908 ha13908 => ?_)
  refine q_callV (As := [.int a13906, .int a13908]) (rest := []) hM hW hR hC myX11_strength (kAW (v_3_3 (List.mem_of_getElem? (i := 9) rfl)) rfl) (rfl : vwCl[11]? = some (RX11, TX11, 16)) rfl lb_0.1 (shO hP.1 lb_0) (p_X11_strength _ _ cA ad g a13906 a13908  hP.1 hP.2.1) ⟨by decide, by decide⟩ rfl rfl hl.1 (Nat.le_of_ble_eq_true rfl) dL_law_765 (fun v g1 H locs hp hW => ?_)
  obtain ⟨r1, rfl, hs1, hG1, hf1⟩ := hp
  have hP0 := hP
  have hP : PI ad cA g1 := PI_fr hP0 hs1 hG1 hf1 (fun h => h) (fun h => h) (fun h => h) (fun h => h) (fun h => h) (fun h => h) (fun h => h) (fun h => h) (fun h => h)
  refine q_pop hM dL_law_768 rfl ?_
  refine q_aload_n hM dL_law_769 (lv_at hl 1 rfl) ?_
  refine q_aload_n hM dL_law_770 (lv_at hl 3 rfl) ?_
  refine q_iload_n hM dL_law_771 (lv_at hl 0 rfl) ?_
  refine q_iconst (v := (1 : Int32)) hM dL_law_772 (by decide) ?_
  refine q_iadd hM dL_law_773 (fun z13909 hz13909 => ?_)
  have tz13909 := i_addT hz13909 (rfl : i.toInt = i.toInt) (kc_1 : (1 : Int32).toInt = 1) (by omega) (by omega)
  refine s_iald z13909.toInt.toNat hM hW hXB (by omega) (by omega) (by omega) dL_law_774 ?_
  refine q_top (fun a13910 ha13910 => ?_)
  refine q_aload_n hM dL_law_775 (lv_at hl 3 rfl) ?_
  refine q_iload_n hM dL_law_776 (lv_at hl 0 rfl) ?_
  refine q_iconst (v := (2 : Int32)) hM dL_law_777 (by decide) ?_
  refine q_iadd hM dL_law_778 (fun z13911 hz13911 => ?_)
  have tz13911 := i_addT hz13911 (rfl : i.toInt = i.toInt) (kc_2 : (2 : Int32).toInt = 2) (by omega) (by omega)
  refine s_iald z13911.toInt.toNat hM hW hXB (by omega) (by omega) (by omega) dL_law_779 ?_
  refine q_top (fun a13912 ha13912 => ?_)
  refine q_callV (As := [.int a13910, .int a13912]) (rest := []) hM hW hR hC myX12_strength (kAW (v_6_12 (List.mem_of_getElem? (i := 2) rfl)) rfl) (rfl : vwCl[12]? = some (RX12, TX12, 86)) rfl lb_129.1 (shO hP.1 lb_129) (p_X12_strength _ _ cA ad g1 a13910 a13912 hP.1 hP.2.1) ⟨by decide, by decide⟩ rfl rfl hl.1 (Nat.le_of_ble_eq_true rfl) dL_law_780 (fun v g2 H locs hp hW => ?_)
  obtain ⟨r2, rfl, hs2, hG2, hf2⟩ := hp
  have hP1 := hP
  have hP : PI ad cA g2 := PI_fr hP1 hs2 hG2 hf2 (fun h => h) (fun h => h) (fun h => h) (fun h => h) (fun h => h) (fun h => h) (fun h => h) (fun h => h) (fun h => h)
  have qa13910 : a13910 = a13906 := by rw [ha13910, ha13906]; congr 1; omega
  have qa13912 : a13912 = a13908 := by rw [ha13912, ha13908]; congr 1; omega
  refine q_pop hM dL_law_783 rfl ?_
  refine q_goto (tgt := 1457) hM dL_law_784 (by decide) ?_
  exact kk _ _ _ _ hP ⟨⟨(by rw [show fI g2 3 2 = fI g 3 2 from (FRf hf1 hf2 (fun h => h) (fun h => h)), show arI g2 131 = arI g 131 from ((hf2.2.1 131 (fun h => h)).trans (hf1.2.1 131 (fun h => h)))]; exact hRl.1.1), (by rw [show fI g2 18 3 = fI g 18 3 from (FRf hf1 hf2 (fun h => h) (fun h => h)), show arI g2 158 = arI g 158 from ((hf2.2.1 158 (fun h => h)).trans (hf1.2.1 158 (fun h => h)))]; exact hRl.1.2.1), (by rw [show fI g2 30 3 = fI g 30 3 from (FRf hf1 hf2 (fun h => h) (fun h => h)), show arI g2 162 = arI g 162 from ((hf2.2.1 162 (fun h => h)).trans (hf1.2.1 162 (fun h => h)))]; exact hRl.1.2.2.1), (((FRf hf1 hf2 (fun h => h) (fun h => h))).trans (hRl.1.2.2.2.1.trans ((FRf hf1 hf2 (fun h => h) (fun h => h))).symm)), (((FRf hf1 hf2 (fun h => h) (fun h => h))).trans (hRl.1.2.2.2.2.1.trans ((FRf hf1 hf2 (fun h => h) (fun h => h))).symm)), (((FRf hf1 hf2 (fun h => h) (fun h => h))).trans (hRl.1.2.2.2.2.2.trans (congrFun ((hf2.2.1 166 (fun h => h)).trans (hf1.2.1 166 (fun h => h))) 1).symm))⟩, (fun k j hk hj => (congrFun ((hf2.2.1 (6 + 1 * k) (fun h => h)).trans (hf1.2.1 (6 + 1 * k) (fun h => h))) j).trans ((hRl.2 k j hk hj).trans (congrFun ((hf2.2.1 133 (fun h => h)).trans (hf1.2.1 133 (fun h => h))) _).symm))⟩ hW hl

set_option maxRecDepth 100000 in
set_option maxHeartbeats 4000000 in
theorem lc_heard {K : KT} {cA : Nat → ClassId} {ad : Nat → Nat} {b L : Nat} {xs : Nat → Int32} {H : Heap} {locs : List Loc} {ls : Array Slot} {g : Nat → va_E} {i : Int32} (hM : MB K cA code 4 R_law) (hXB : XB K b L xs) (hL : L ≤ 3072) (hR : HasRoom K 2048 84000) (hC : Cells K 600000 7302250) (hP : PI ad cA g) (hRl : RQ g) (hi0 : 0 ≤ i.toInt) (hi : i.toInt + 6 ≤ L) (hW : WB NN ad K g H locs) (hl : lv_has ls 4 [(3, .int i), (2, .ref (ad 129)), (1, .ref (ad 0)), (0, .ref b)]) (kk : ∀ (g : Nat → va_E) (H : Heap) (locs : List Loc) (ls : Array Slot), PI ad cA g → RQ g → WB NN ad K g H locs → lv_has ls 4 [(3, .int i), (2, .ref (ad 129)), (1, .ref (ad 0)), (0, .ref b)] → XX K 600000 7302250 H locs 1457 ls []) : XX K 600000 7302250 H locs 787 ls [] := by
  have hLn : L < 1000000 := by omega
  obtain ⟨lw, lwn, hlc, h13, h14⟩ := id hP.2.2.1
  refine q_aload_n hM dL_law_787 (lv_at hl 2 rfl) ?_
  refine q_aload_n hM dL_law_788 (lv_at hl 3 rfl) ?_
  refine q_iload_n hM dL_law_789 (lv_at hl 0 rfl) ?_
  refine q_iconst (v := (1 : Int32)) hM dL_law_790 (by decide) ?_
  refine q_iadd hM dL_law_791 (fun z13913 hz13913 => ?_)
  have tz13913 := i_addT hz13913 (rfl : i.toInt = i.toInt) (kc_1 : (1 : Int32).toInt = 1) (by omega) (by omega)
  refine s_iald z13913.toInt.toNat hM hW hXB (by omega) (by omega) (by omega) dL_law_792 ?_
  refine q_top (fun a13914 ha13914 => ?_)
  refine q_aload_n hM dL_law_793 (lv_at hl 3 rfl) ?_
  refine q_iload_n hM dL_law_794 (lv_at hl 0 rfl) ?_
  refine q_iconst (v := (2 : Int32)) hM dL_law_795 (by decide) ?_
  refine q_iadd hM dL_law_796 (fun z13915 hz13915 => ?_)
  have tz13915 := i_addT hz13915 (rfl : i.toInt = i.toInt) (kc_2 : (2 : Int32).toInt = 2) (by omega) (by omega)
  refine s_iald z13915.toInt.toNat hM hW hXB (by omega) (by omega) (by omega) dL_law_797 ?_
  refine q_top (fun a13916 ha13916 => ?_)
  refine q_callV (As := [.int a13914, .int a13916]) (rest := []) hM hW hR hC myX11_heard (kAW (v_3_3 (List.mem_of_getElem? (i := 13) rfl)) rfl) (rfl : vwCl[11]? = some (RX11, TX11, 16)) rfl lb_0.1 (shO hP.1 lb_0) (p_X11_heard _ _ cA ad g a13914 a13916  hP.1 hP.2.1) ⟨by decide, by decide⟩ rfl rfl hl.1 (Nat.le_of_ble_eq_true rfl) dL_law_798 (fun v g1 H locs hp hW => ?_)
  obtain ⟨r1, rfl, hs1, hG1, hf1⟩ := hp
  have hP0 := hP
  have hP : PI ad cA g1 := PI_fr hP0 hs1 hG1 hf1 (fun h => h) (fun h => h) (fun h => h) (fun h => h) (fun h => h) (fun h => h) (fun h => h) (fun h => h) (fun h => h)
  refine q_pop hM dL_law_801 rfl ?_
  refine q_aload_n hM dL_law_802 (lv_at hl 1 rfl) ?_
  refine q_aload_n hM dL_law_803 (lv_at hl 3 rfl) ?_
  refine q_iload_n hM dL_law_804 (lv_at hl 0 rfl) ?_
  refine q_iconst (v := (1 : Int32)) hM dL_law_805 (by decide) ?_
  refine q_iadd hM dL_law_806 (fun z13917 hz13917 => ?_)
  have tz13917 := i_addT hz13917 (rfl : i.toInt = i.toInt) (kc_1 : (1 : Int32).toInt = 1) (by omega) (by omega)
  refine s_iald z13917.toInt.toNat hM hW hXB (by omega) (by omega) (by omega) dL_law_807 ?_
  refine q_top (fun a13918 ha13918 => ?_)
  refine q_aload_n hM dL_law_808 (lv_at hl 3 rfl) ?_
  refine q_iload_n hM dL_law_809 (lv_at hl 0 rfl) ?_
  refine q_iconst (v := (2 : Int32)) hM dL_law_810 (by decide) ?_
  refine q_iadd hM dL_law_811 (fun z13919 hz13919 => ?_)
  have tz13919 := i_addT hz13919 (rfl : i.toInt = i.toInt) (kc_2 : (2 : Int32).toInt = 2) (by omega) (by omega)
  refine s_iald z13919.toInt.toNat hM hW hXB (by omega) (by omega) (by omega) dL_law_812 ?_
  refine q_top (fun a13920 ha13920 => ?_)
  refine q_callV (As := [.int a13918, .int a13920]) (rest := []) hM hW hR hC myX12_heard (kAW (v_6_7 (List.mem_of_getElem? (i := 1) rfl)) rfl) (rfl : vwCl[12]? = some (RX12, TX12, 86)) rfl lb_129.1 (shO hP.1 lb_129) (p_X12_heard _ _ cA ad g1 a13918 a13920 hP.1 hP.2.1) ⟨by decide, by decide⟩ rfl rfl hl.1 (Nat.le_of_ble_eq_true rfl) dL_law_813 (fun v g2 H locs hp hW => ?_)
  obtain ⟨r2, rfl, hs2, hG2, hf2⟩ := hp
  have hP1 := hP
  have hP : PI ad cA g2 := PI_fr hP1 hs2 hG2 hf2 (fun h => h) (fun h => h) (fun h => h) (fun h => h) (fun h => h) (fun h => h) (fun h => h) (fun h => h) (fun h => h)
  have qa13918 : a13918 = a13914 := by rw [ha13918, ha13914]; congr 1; omega
  have qa13920 : a13920 = a13916 := by rw [ha13920, ha13916]; congr 1; omega
  refine q_pop hM dL_law_816 rfl ?_
  refine q_goto (tgt := 1457) hM dL_law_817 (by decide) ?_
  exact kk _ _ _ _ hP ⟨⟨(by rw [show fI g2 3 2 = fI g 3 2 from (FRf hf1 hf2 (fun h => h) (fun h => h)), show arI g2 131 = arI g 131 from ((hf2.2.1 131 (fun h => h)).trans (hf1.2.1 131 (fun h => h)))]; exact hRl.1.1), (by rw [show fI g2 18 3 = fI g 18 3 from (FRf hf1 hf2 (fun h => h) (fun h => h)), show arI g2 158 = arI g 158 from ((hf2.2.1 158 (fun h => h)).trans (hf1.2.1 158 (fun h => h)))]; exact hRl.1.2.1), (by rw [show fI g2 30 3 = fI g 30 3 from (FRf hf1 hf2 (fun h => h) (fun h => h)), show arI g2 162 = arI g 162 from ((hf2.2.1 162 (fun h => h)).trans (hf1.2.1 162 (fun h => h)))]; exact hRl.1.2.2.1), (((FRf hf1 hf2 (fun h => h) (fun h => h))).trans (hRl.1.2.2.2.1.trans ((FRf hf1 hf2 (fun h => h) (fun h => h))).symm)), (((FRf hf1 hf2 (fun h => h) (fun h => h))).trans (hRl.1.2.2.2.2.1.trans ((FRf hf1 hf2 (fun h => h) (fun h => h))).symm)), (((FRf hf1 hf2 (fun h => h) (fun h => h))).trans (hRl.1.2.2.2.2.2.trans (congrFun ((hf2.2.1 166 (fun h => h)).trans (hf1.2.1 166 (fun h => h))) 1).symm))⟩, (fun k j hk hj => (congrFun ((hf2.2.1 (6 + 1 * k) (fun h => h)).trans (hf1.2.1 (6 + 1 * k) (fun h => h))) j).trans ((hRl.2 k j hk hj).trans (congrFun ((hf2.2.1 133 (fun h => h)).trans (hf1.2.1 133 (fun h => h))) _).symm))⟩ hW hl

set_option maxRecDepth 100000 in
set_option maxHeartbeats 4000000 in
theorem lc_order {K : KT} {cA : Nat → ClassId} {ad : Nat → Nat} {b L : Nat} {xs : Nat → Int32} {H : Heap} {locs : List Loc} {ls : Array Slot} {g : Nat → va_E} {i : Int32} (hM : MB K cA code 4 R_law) (hXB : XB K b L xs) (hL : L ≤ 3072) (hR : HasRoom K 2048 84000) (hC : Cells K 600000 7302250) (hP : PI ad cA g) (hRl : RQ g) (hi0 : 0 ≤ i.toInt) (hi : i.toInt + 6 ≤ L) (hW : WB NN ad K g H locs) (hl : lv_has ls 4 [(3, .int i), (2, .ref (ad 129)), (1, .ref (ad 0)), (0, .ref b)]) (kk : ∀ (g : Nat → va_E) (H : Heap) (locs : List Loc) (ls : Array Slot), PI ad cA g → RQ g → WB NN ad K g H locs → lv_has ls 4 [(3, .int i), (2, .ref (ad 129)), (1, .ref (ad 0)), (0, .ref b)] → XX K 600000 7302250 H locs 1457 ls []) : XX K 600000 7302250 H locs 820 ls [] := by
  have hLn : L < 1000000 := by omega
  obtain ⟨lw, lwn, hlc, h13, h14⟩ := id hP.2.2.1
  refine q_aload_n hM dL_law_820 (lv_at hl 2 rfl) ?_
  refine q_aload_n hM dL_law_821 (lv_at hl 3 rfl) ?_
  refine q_iload_n hM dL_law_822 (lv_at hl 0 rfl) ?_
  refine q_iconst (v := (1 : Int32)) hM dL_law_823 (by decide) ?_
  refine q_iadd hM dL_law_824 (fun z13921 hz13921 => ?_)
  have tz13921 := i_addT hz13921 (rfl : i.toInt = i.toInt) (kc_1 : (1 : Int32).toInt = 1) (by omega) (by omega)
  refine s_iald z13921.toInt.toNat hM hW hXB (by omega) (by omega) (by omega) dL_law_825 ?_
  refine q_top (fun a13922 ha13922 => ?_)
  refine q_aload_n hM dL_law_826 (lv_at hl 3 rfl) ?_
  refine q_iload_n hM dL_law_827 (lv_at hl 0 rfl) ?_
  refine q_iconst (v := (2 : Int32)) hM dL_law_828 (by decide) ?_
  refine q_iadd hM dL_law_829 (fun z13923 hz13923 => ?_)
  have tz13923 := i_addT hz13923 (rfl : i.toInt = i.toInt) (kc_2 : (2 : Int32).toInt = 2) (by omega) (by omega)
  refine s_iald z13923.toInt.toNat hM hW hXB (by omega) (by omega) (by omega) dL_law_830 ?_
  refine q_top (fun a13924 ha13924 => ?_)
  refine q_aload_n hM dL_law_831 (lv_at hl 3 rfl) ?_
  refine q_iload_n hM dL_law_832 (lv_at hl 0 rfl) ?_
  refine q_iconst (v := (3 : Int32)) hM dL_law_833 (by decide) ?_
  refine q_iadd hM dL_law_834 (fun z13925 hz13925 => ?_)
  have tz13925 := i_addT hz13925 (rfl : i.toInt = i.toInt) (kc_3 : (3 : Int32).toInt = 3) (by omega) (by omega)
  refine s_iald z13925.toInt.toNat hM hW hXB (by omega) (by omega) (by omega) dL_law_835 ?_
  refine q_top (fun a13926 ha13926 => ?_)
  refine q_aload_n hM dL_law_836 (lv_at hl 3 rfl) ?_
  refine q_iload_n hM dL_law_837 (lv_at hl 0 rfl) ?_
  refine q_iconst (v := (4 : Int32)) hM dL_law_838 (by decide) ?_
  refine q_iadd hM dL_law_839 (fun z13927 hz13927 => ?_)
  have tz13927 := i_addT hz13927 (rfl : i.toInt = i.toInt) (kc_4 : (4 : Int32).toInt = 4) (by omega) (by omega)
  refine s_iald z13927.toInt.toNat hM hW hXB (by omega) (by omega) (by omega) dL_law_840 ?_
  refine q_top (fun a13928 ha13928 => ?_)
  refine q_aload_n hM dL_law_841 (lv_at hl 3 rfl) ?_
  refine q_iload_n hM dL_law_842 (lv_at hl 0 rfl) ?_
  refine q_iconst (v := (5 : Int32)) hM dL_law_843 (by decide) ?_
  refine q_iadd hM dL_law_844 (fun z13929 hz13929 => ?_)
  have tz13929 := i_addT hz13929 (rfl : i.toInt = i.toInt) (kc_5 : (5 : Int32).toInt = 5) (by omega) (by omega)
  refine s_iald z13929.toInt.toNat hM hW hXB (by omega) (by omega) (by omega) dL_law_845 ?_
  refine q_top (fun a13930 ha13930 => ?_)
  refine q_callV (As := [.int a13922, .int a13924, .int a13926, .int a13928, .int a13930]) (rest := []) hM hW hR hC myX11_order (kAW (v_3_4 (List.mem_of_getElem? (i := 2) rfl)) rfl) (rfl : vwCl[11]? = some (RX11, TX11, 16)) rfl lb_0.1 (shO hP.1 lb_0) (p_X11_order _ _ cA ad g a13922 a13924 a13926 a13928 a13930 lw hP.1 hP.2.1 (by unfold isLw; omega) h13) ⟨by decide, by decide⟩ rfl rfl hl.1 (Nat.le_of_ble_eq_true rfl) dL_law_846 (fun v g1 H locs hp hW => ?_)
  obtain ⟨r1, rfl, hs1, hG1, hf1⟩ := hp
  have hP0 := hP
  have hP : PI ad cA g1 := PI_fr hP0 hs1 hG1 hf1 (by omega) (by omega) (by omega) (by omega) (by omega) (by omega) (by omega) (by omega) (by omega)
  refine q_pop hM dL_law_849 rfl ?_
  refine q_aload_n hM dL_law_850 (lv_at hl 1 rfl) ?_
  refine q_aload_n hM dL_law_851 (lv_at hl 3 rfl) ?_
  refine q_iload_n hM dL_law_852 (lv_at hl 0 rfl) ?_
  refine q_iconst (v := (1 : Int32)) hM dL_law_853 (by decide) ?_
  refine q_iadd hM dL_law_854 (fun z13931 hz13931 => ?_)
  have tz13931 := i_addT hz13931 (rfl : i.toInt = i.toInt) (kc_1 : (1 : Int32).toInt = 1) (by omega) (by omega)
  refine s_iald z13931.toInt.toNat hM hW hXB (by omega) (by omega) (by omega) dL_law_855 ?_
  refine q_top (fun a13932 ha13932 => ?_)
  refine q_aload_n hM dL_law_856 (lv_at hl 3 rfl) ?_
  refine q_iload_n hM dL_law_857 (lv_at hl 0 rfl) ?_
  refine q_iconst (v := (2 : Int32)) hM dL_law_858 (by decide) ?_
  refine q_iadd hM dL_law_859 (fun z13933 hz13933 => ?_)
  have tz13933 := i_addT hz13933 (rfl : i.toInt = i.toInt) (kc_2 : (2 : Int32).toInt = 2) (by omega) (by omega)
  refine s_iald z13933.toInt.toNat hM hW hXB (by omega) (by omega) (by omega) dL_law_860 ?_
  refine q_top (fun a13934 ha13934 => ?_)
  refine q_aload_n hM dL_law_861 (lv_at hl 3 rfl) ?_
  refine q_iload_n hM dL_law_862 (lv_at hl 0 rfl) ?_
  refine q_iconst (v := (3 : Int32)) hM dL_law_863 (by decide) ?_
  refine q_iadd hM dL_law_864 (fun z13935 hz13935 => ?_)
  have tz13935 := i_addT hz13935 (rfl : i.toInt = i.toInt) (kc_3 : (3 : Int32).toInt = 3) (by omega) (by omega)
  refine s_iald z13935.toInt.toNat hM hW hXB (by omega) (by omega) (by omega) dL_law_865 ?_
  refine q_top (fun a13936 ha13936 => ?_)
  refine q_aload_n hM dL_law_866 (lv_at hl 3 rfl) ?_
  refine q_iload_n hM dL_law_867 (lv_at hl 0 rfl) ?_
  refine q_iconst (v := (4 : Int32)) hM dL_law_868 (by decide) ?_
  refine q_iadd hM dL_law_869 (fun z13937 hz13937 => ?_)
  have tz13937 := i_addT hz13937 (rfl : i.toInt = i.toInt) (kc_4 : (4 : Int32).toInt = 4) (by omega) (by omega)
  refine s_iald z13937.toInt.toNat hM hW hXB (by omega) (by omega) (by omega) dL_law_870 ?_
  refine q_top (fun a13938 ha13938 => ?_)
  refine q_aload_n hM dL_law_871 (lv_at hl 3 rfl) ?_
  refine q_iload_n hM dL_law_872 (lv_at hl 0 rfl) ?_
  refine q_iconst (v := (5 : Int32)) hM dL_law_873 (by decide) ?_
  refine q_iadd hM dL_law_874 (fun z13939 hz13939 => ?_)
  have tz13939 := i_addT hz13939 (rfl : i.toInt = i.toInt) (kc_5 : (5 : Int32).toInt = 5) (by omega) (by omega)
  refine s_iald z13939.toInt.toNat hM hW hXB (by omega) (by omega) (by omega) dL_law_875 ?_
  refine q_top (fun a13940 ha13940 => ?_)
  refine q_callV (As := [.int a13932, .int a13934, .int a13936, .int a13938, .int a13940]) (rest := []) hM hW hR hC myX12_order (kAW (v_6_12 (List.mem_of_getElem? (i := 6) rfl)) rfl) (rfl : vwCl[12]? = some (RX12, TX12, 86)) rfl lb_129.1 (shO hP.1 lb_129) (p_X12_order _ _ cA ad g1 a13932 a13934 a13936 a13938 a13940 hP.1 hP.2.1 hP.2.2.2.1.1) ⟨by decide, by decide⟩ rfl rfl hl.1 (Nat.le_of_ble_eq_true rfl) dL_law_876 (fun v g2 H locs hp hW => ?_)
  obtain ⟨r2, rfl, hs2, hG2, hf2⟩ := hp
  have hP1 := hP
  have hP : PI ad cA g2 := PI_fr hP1 hs2 hG2 hf2 (by first | decide | omega) (by first | decide | omega) (by first | decide | omega) (by first | decide | omega) (by first | decide | omega) (by first | decide | omega) (by first | decide | omega) (by first | decide | omega) (by first | decide | omega)
  have qa13932 : a13932 = a13922 := by rw [ha13932, ha13922]; congr 1; omega
  have qa13934 : a13934 = a13924 := by rw [ha13934, ha13924]; congr 1; omega
  have qa13936 : a13936 = a13926 := by rw [ha13936, ha13926]; congr 1; omega
  have qa13938 : a13938 = a13928 := by rw [ha13938, ha13928]; congr 1; omega
  have qa13940 : a13940 = a13930 := by rw [ha13940, ha13930]; congr 1; omega
  refine q_pop hM dL_law_879 rfl ?_
  refine q_goto (tgt := 1457) hM dL_law_880 (by decide) ?_
  exact kk _ _ _ _ hP ⟨⟨(by rw [show fI g2 3 2 = fI g 3 2 from (FRf hf1 hf2 (by omega) (by first | decide | omega)), show arI g2 131 = arI g 131 from ((hf2.2.1 131 (by first | decide | omega)).trans (hf1.2.1 131 (by omega)))]; exact hRl.1.1), (by rw [show fI g2 18 3 = fI g 18 3 from (FRf hf1 hf2 (by omega) (by first | decide | omega)), show arI g2 158 = arI g 158 from ((hf2.2.1 158 (by first | decide | omega)).trans (hf1.2.1 158 (by omega)))]; exact hRl.1.2.1), (by rw [show fI g2 30 3 = fI g 30 3 from (FRf hf1 hf2 (by omega) (by first | decide | omega)), show arI g2 162 = arI g 162 from ((hf2.2.1 162 (by first | decide | omega)).trans (hf1.2.1 162 (by omega)))]; exact hRl.1.2.2.1), (((FRf hf1 hf2 (by omega) (by first | decide | omega))).trans (hRl.1.2.2.2.1.trans ((FRf hf1 hf2 (by omega) (by first | decide | omega))).symm)), (((FRf hf1 hf2 (by omega) (by first | decide | omega))).trans (hRl.1.2.2.2.2.1.trans ((FRf hf1 hf2 (by omega) (by first | decide | omega))).symm)), (((FRf hf1 hf2 (by omega) (by first | decide | omega))).trans (hRl.1.2.2.2.2.2.trans (congrFun ((hf2.2.1 166 (by first | decide | omega)).trans (hf1.2.1 166 (by omega))) 1).symm))⟩, (fun k j hk hj => (congrFun ((hf2.2.1 (6 + 1 * k) (by first | decide | omega)).trans (hf1.2.1 (6 + 1 * k) (by omega))) j).trans ((hRl.2 k j hk hj).trans (congrFun ((hf2.2.1 133 (by first | decide | omega)).trans (hf1.2.1 133 (by omega))) _).symm))⟩ hW hl

set_option maxRecDepth 100000 in
set_option maxHeartbeats 4000000 in
theorem lc_still {K : KT} {cA : Nat → ClassId} {ad : Nat → Nat} {b L : Nat} {xs : Nat → Int32} {H : Heap} {locs : List Loc} {ls : Array Slot} {g : Nat → va_E} {i : Int32} (hM : MB K cA code 4 R_law) (hXB : XB K b L xs) (hL : L ≤ 3072) (hR : HasRoom K 2048 84000) (hC : Cells K 600000 7302250) (hP : PI ad cA g) (hRl : RQ g) (hi0 : 0 ≤ i.toInt) (hi : i.toInt + 6 ≤ L) (hW : WB NN ad K g H locs) (hl : lv_has ls 4 [(3, .int i), (2, .ref (ad 129)), (1, .ref (ad 0)), (0, .ref b)]) (kk : ∀ (g : Nat → va_E) (H : Heap) (locs : List Loc) (ls : Array Slot), PI ad cA g → RQ g → WB NN ad K g H locs → lv_has ls 4 [(3, .int i), (2, .ref (ad 129)), (1, .ref (ad 0)), (0, .ref b)] → XX K 600000 7302250 H locs 1457 ls []) : XX K 600000 7302250 H locs 883 ls [] := by
  have hLn : L < 1000000 := by omega
  obtain ⟨lw, lwn, hlc, h13, h14⟩ := id hP.2.2.1
  refine q_aload_n hM dL_law_883 (lv_at hl 2 rfl) ?_
  refine q_aload_n hM dL_law_884 (lv_at hl 3 rfl) ?_
  refine q_iload_n hM dL_law_885 (lv_at hl 0 rfl) ?_
  refine q_iconst (v := (1 : Int32)) hM dL_law_886 (by decide) ?_
  refine q_iadd hM dL_law_887 (fun z13941 hz13941 => ?_)
  have tz13941 := i_addT hz13941 (rfl : i.toInt = i.toInt) (kc_1 : (1 : Int32).toInt = 1) (by omega) (by omega)
  refine s_iald z13941.toInt.toNat hM hW hXB (by omega) (by omega) (by omega) dL_law_888 ?_
  refine q_top (fun a13942 ha13942 => ?_)
  refine q_aload_n hM dL_law_889 (lv_at hl 3 rfl) ?_
  refine q_iload_n hM dL_law_890 (lv_at hl 0 rfl) ?_
  refine q_iconst (v := (2 : Int32)) hM dL_law_891 (by decide) ?_
  refine q_iadd hM dL_law_892 (fun z13943 hz13943 => ?_)
  have tz13943 := i_addT hz13943 (rfl : i.toInt = i.toInt) (kc_2 : (2 : Int32).toInt = 2) (by omega) (by omega)
  refine s_iald z13943.toInt.toNat hM hW hXB (by omega) (by omega) (by omega) dL_law_893 ?_
  refine q_top (fun a13944 ha13944 => ?_)
  refine q_aload_n hM dL_law_894 (lv_at hl 3 rfl) ?_
  refine q_iload_n hM dL_law_895 (lv_at hl 0 rfl) ?_
  refine q_iconst (v := (3 : Int32)) hM dL_law_896 (by decide) ?_
  refine q_iadd hM dL_law_897 (fun z13945 hz13945 => ?_)
  have tz13945 := i_addT hz13945 (rfl : i.toInt = i.toInt) (kc_3 : (3 : Int32).toInt = 3) (by omega) (by omega)
  refine s_iald z13945.toInt.toNat hM hW hXB (by omega) (by omega) (by omega) dL_law_898 ?_
  refine q_top (fun a13946 ha13946 => ?_)
  refine q_callV (As := [.int a13942, .int a13944, .int a13946]) (rest := []) hM hW hR hC myX11_still (kAW (v_3_6 (List.mem_of_getElem? (i := 8) rfl)) rfl) (rfl : vwCl[11]? = some (RX11, TX11, 16)) rfl lb_0.1 (shO hP.1 lb_0) (p_X11_still _ _ cA ad g a13942 a13944 a13946 lw hP.1 hP.2.1 (by unfold isLw; omega) h13) ⟨by decide, by decide⟩ rfl rfl hl.1 (Nat.le_of_ble_eq_true rfl) dL_law_899 (fun v g1 H locs hp hW => ?_)
  obtain ⟨r1, rfl, hs1, hG1, hf1⟩ := hp
  have hP0 := hP
  have hP : PI ad cA g1 := PI_fr hP0 hs1 hG1 hf1 (by omega) (by omega) (by omega) (by omega) (by omega) (by omega) (by omega) (by omega) (by omega)
  refine q_pop hM dL_law_902 rfl ?_
  refine q_aload_n hM dL_law_903 (lv_at hl 1 rfl) ?_
  refine q_aload_n hM dL_law_904 (lv_at hl 3 rfl) ?_
  refine q_iload_n hM dL_law_905 (lv_at hl 0 rfl) ?_
  refine q_iconst (v := (1 : Int32)) hM dL_law_906 (by decide) ?_
  refine q_iadd hM dL_law_907 (fun z13947 hz13947 => ?_)
  have tz13947 := i_addT hz13947 (rfl : i.toInt = i.toInt) (kc_1 : (1 : Int32).toInt = 1) (by omega) (by omega)
  refine s_iald z13947.toInt.toNat hM hW hXB (by omega) (by omega) (by omega) dL_law_908 ?_
  refine q_top (fun a13948 ha13948 => ?_)
  refine q_aload_n hM dL_law_909 (lv_at hl 3 rfl) ?_
  refine q_iload_n hM dL_law_910 (lv_at hl 0 rfl) ?_
  refine q_iconst (v := (2 : Int32)) hM dL_law_911 (by decide) ?_
  refine q_iadd hM dL_law_912 (fun z13949 hz13949 => ?_)
  have tz13949 := i_addT hz13949 (rfl : i.toInt = i.toInt) (kc_2 : (2 : Int32).toInt = 2) (by omega) (by omega)
  refine s_iald z13949.toInt.toNat hM hW hXB (by omega) (by omega) (by omega) dL_law_913 ?_
  refine q_top (fun a13950 ha13950 => ?_)
  refine q_aload_n hM dL_law_914 (lv_at hl 3 rfl) ?_
  refine q_iload_n hM dL_law_915 (lv_at hl 0 rfl) ?_
  refine q_iconst (v := (3 : Int32)) hM dL_law_916 (by decide) ?_
  refine q_iadd hM dL_law_917 (fun z13951 hz13951 => ?_)
  have tz13951 := i_addT hz13951 (rfl : i.toInt = i.toInt) (kc_3 : (3 : Int32).toInt = 3) (by omega) (by omega)
  refine s_iald z13951.toInt.toNat hM hW hXB (by omega) (by omega) (by omega) dL_law_918 ?_
  refine q_top (fun a13952 ha13952 => ?_)
  refine q_callV (As := [.int a13948, .int a13950, .int a13952]) (rest := []) hM hW hR hC myX12_still (kAW (v_6_14 (List.mem_of_getElem? (i := 14) rfl)) rfl) (rfl : vwCl[12]? = some (RX12, TX12, 86)) rfl lb_129.1 (shO hP.1 lb_129) (p_X12_still _ _ cA ad g1 a13948 a13950 a13952 hP.1 hP.2.1 hP.2.2.2.1.1) ⟨by decide, by decide⟩ rfl rfl hl.1 (Nat.le_of_ble_eq_true rfl) dL_law_919 (fun v g2 H locs hp hW => ?_)
  obtain ⟨r2, rfl, hs2, hG2, hf2⟩ := hp
  have hP1 := hP
  have hP : PI ad cA g2 := PI_fr hP1 hs2 hG2 hf2 (by first | decide | omega) (by first | decide | omega) (by first | decide | omega) (by first | decide | omega) (by first | decide | omega) (by first | decide | omega) (by first | decide | omega) (by first | decide | omega) (by first | decide | omega)
  have qa13948 : a13948 = a13942 := by rw [ha13948, ha13942]; congr 1; omega
  have qa13950 : a13950 = a13944 := by rw [ha13950, ha13944]; congr 1; omega
  have qa13952 : a13952 = a13946 := by rw [ha13952, ha13946]; congr 1; omega
  refine q_pop hM dL_law_922 rfl ?_
  refine q_goto (tgt := 1457) hM dL_law_923 (by decide) ?_
  exact kk _ _ _ _ hP ⟨⟨(by rw [show fI g2 3 2 = fI g 3 2 from (FRf hf1 hf2 (by omega) (by first | decide | omega)), show arI g2 131 = arI g 131 from ((hf2.2.1 131 (by first | decide | omega)).trans (hf1.2.1 131 (by omega)))]; exact hRl.1.1), (by rw [show fI g2 18 3 = fI g 18 3 from (FRf hf1 hf2 (by omega) (by first | decide | omega)), show arI g2 158 = arI g 158 from ((hf2.2.1 158 (by first | decide | omega)).trans (hf1.2.1 158 (by omega)))]; exact hRl.1.2.1), (by rw [show fI g2 30 3 = fI g 30 3 from (FRf hf1 hf2 (by omega) (by first | decide | omega)), show arI g2 162 = arI g 162 from ((hf2.2.1 162 (by first | decide | omega)).trans (hf1.2.1 162 (by omega)))]; exact hRl.1.2.2.1), (((FRf hf1 hf2 (by omega) (by first | decide | omega))).trans (hRl.1.2.2.2.1.trans ((FRf hf1 hf2 (by omega) (by first | decide | omega))).symm)), (((FRf hf1 hf2 (by omega) (by first | decide | omega))).trans (hRl.1.2.2.2.2.1.trans ((FRf hf1 hf2 (by omega) (by first | decide | omega))).symm)), (((FRf hf1 hf2 (by omega) (by first | decide | omega))).trans (hRl.1.2.2.2.2.2.trans (congrFun ((hf2.2.1 166 (by first | decide | omega)).trans (hf1.2.1 166 (by omega))) 1).symm))⟩, (fun k j hk hj => (congrFun ((hf2.2.1 (6 + 1 * k) (by first | decide | omega)).trans (hf1.2.1 (6 + 1 * k) (by omega))) j).trans ((hRl.2 k j hk hj).trans (congrFun ((hf2.2.1 133 (by first | decide | omega)).trans (hf1.2.1 133 (by omega))) _).symm))⟩ hW hl
