set_option maxRecDepth 100000 in
set_option maxHeartbeats 4000000 in
theorem lc_tried {K : KT} {cA : Nat → ClassId} {ad : Nat → Nat} {b L : Nat} {xs : Nat → Int32} {H : Heap} {locs : List Loc} {ls : Array Slot} {g : Nat → va_E} {i : Int32} (hM : MB K cA code 4 R_law) (hXB : XB K b L xs) (hL : L ≤ 3072) (hR : HasRoom K 2048 84000) (hC : Cells K 600000 7302250) (hP : PI ad cA g) (hRl : RT g) (hi0 : 0 ≤ i.toInt) (hi : i.toInt + 6 ≤ L) (hW : WB NN ad K g H locs) (hl : lv_has ls 4 [(3, .int i), (2, .ref (ad 129)), (1, .ref (ad 0)), (0, .ref b)]) (kk : ∀ (g : Nat → va_E) (H : Heap) (locs : List Loc) (ls : Array Slot), PI ad cA g → RT g → WB NN ad K g H locs → lv_has ls 4 [(3, .int i), (2, .ref (ad 129)), (1, .ref (ad 0)), (0, .ref b)] → XX K 600000 7302250 H locs 1457 ls []) : XX K 600000 7302250 H locs 566 ls [] := by
  have hLn : L < 1000000 := by omega
  obtain ⟨lw, lwn, hlc, h13, h14⟩ := id hP.2.2.1
  refine q_aload_n hM dL_law_566 (lv_at hl 2 rfl) ?_
  refine q_aload_n hM dL_law_567 (lv_at hl 3 rfl) ?_
  refine q_iload_n hM dL_law_568 (lv_at hl 0 rfl) ?_
  refine q_iconst (v := (1 : Int32)) hM dL_law_569 (by decide) ?_
  refine q_iadd hM dL_law_570 (fun z13958 hz13958 => ?_)
  have tz13958 := i_addT hz13958 (rfl : i.toInt = i.toInt) (kc_1 : (1 : Int32).toInt = 1) (by omega) (by omega)
  refine s_iald z13958.toInt.toNat hM hW hXB (by omega) (by omega) (by omega) dL_law_571 ?_
  refine q_top (fun a13959 ha13959 => ?_)
  refine q_aload_n hM dL_law_572 (lv_at hl 3 rfl) ?_
  refine q_iload_n hM dL_law_573 (lv_at hl 0 rfl) ?_
  refine q_iconst (v := (2 : Int32)) hM dL_law_574 (by decide) ?_
  refine q_iadd hM dL_law_575 (fun z13960 hz13960 => ?_)
  have tz13960 := i_addT hz13960 (rfl : i.toInt = i.toInt) (kc_2 : (2 : Int32).toInt = 2) (by omega) (by omega)
  refine s_iald z13960.toInt.toNat hM hW hXB (by omega) (by omega) (by omega) dL_law_576 ?_
  refine q_top (fun a13961 ha13961 => ?_)
  refine q_callV (As := [.int a13959, .int a13961]) (rest := []) hM hW hR hC myX11_tried (kAW (v_2_14 (List.mem_of_getElem? (i := 13) rfl)) rfl) (rfl : vwCl[11]? = some (RX11, TX11, 16)) rfl lb_0.1 (shO hP.1 lb_0) (p_X11_tried _ _ cA ad g a13959 a13961 lw hP.1 hP.2.1 (by unfold isLw; omega) h13) ⟨by decide, by decide⟩ rfl rfl hl.1 (Nat.le_of_ble_eq_true rfl) dL_law_577 (fun v g1 H locs hp hW => ?_)
  obtain ⟨r1, rfl, hs1, hG1, hf1⟩ := hp
  have hP0 := hP
  have hP : PI ad cA g1 := PI_fr hP0 hs1 hG1 hf1 (by omega) (by omega) (by omega) (by omega) (by omega) (by omega) (by omega) (by omega) (by omega)
  refine q_pop hM dL_law_580 rfl ?_
  refine q_aload_n hM dL_law_581 (lv_at hl 1 rfl) ?_
  refine q_aload_n hM dL_law_582 (lv_at hl 3 rfl) ?_
  refine q_iload_n hM dL_law_583 (lv_at hl 0 rfl) ?_
  refine q_iconst (v := (1 : Int32)) hM dL_law_584 (by decide) ?_
  refine q_iadd hM dL_law_585 (fun z13962 hz13962 => ?_)
  have tz13962 := i_addT hz13962 (rfl : i.toInt = i.toInt) (kc_1 : (1 : Int32).toInt = 1) (by omega) (by omega)
  refine s_iald z13962.toInt.toNat hM hW hXB (by omega) (by omega) (by omega) dL_law_586 ?_
  refine q_top (fun a13963 ha13963 => ?_)
  refine q_aload_n hM dL_law_587 (lv_at hl 3 rfl) ?_
  refine q_iload_n hM dL_law_588 (lv_at hl 0 rfl) ?_
  refine q_iconst (v := (2 : Int32)) hM dL_law_589 (by decide) ?_
  refine q_iadd hM dL_law_590 (fun z13964 hz13964 => ?_)
  have tz13964 := i_addT hz13964 (rfl : i.toInt = i.toInt) (kc_2 : (2 : Int32).toInt = 2) (by omega) (by omega)
  refine s_iald z13964.toInt.toNat hM hW hXB (by omega) (by omega) (by omega) dL_law_591 ?_
  refine q_top (fun a13965 ha13965 => ?_)
  refine q_callV (As := [.int a13963, .int a13965]) (rest := []) hM hW hR hC myX12_tried (kAW (v_6_9 (List.mem_of_getElem? (i := 9) rfl)) rfl) (rfl : vwCl[12]? = some (RX12, TX12, 86)) rfl lb_129.1 (shO hP.1 lb_129) (s_X12_tried _ _ cA ad g1 a13963 a13965 (fI g1 129 56) hP.1 hP.2.1 (shI hP.1 lb_129 (by decide) (by decide)) hP.2.2.2.1.1 (fun q hq => by rw [hf1.2.1 158 (by omega)]; exact SM_01 hRl.1.2.1 q hq)) ⟨by decide, by decide⟩ rfl rfl hl.1 (Nat.le_of_ble_eq_true rfl) dL_law_592 (fun v g2 H locs hp hW => ?_)
  obtain ⟨m0, r2, rfl, hs2, hG2, hf2, cm0, cm1, cm2, cm3, cm4⟩ := hp
  have hP1 := hP
  have hP : PI ad cA g2 := PI_fr hP1 hs2 hG2 hf2 (by omega) (by omega) (by omega) (by omega) (by omega) (by omega) (by omega) (by omega) (by omega)
  have qa13963 : a13963 = a13959 := by rw [ha13963, ha13959]; congr 1; omega
  have qa13965 : a13965 = a13961 := by rw [ha13965, ha13961]; congr 1; omega
  first | rw [qa13963] at cm0 | skip
  first | rw [qa13965] at cm0 | skip
  first | rw [qa13963] at cm1 | skip
  first | rw [qa13965] at cm1 | skip
  first | rw [qa13963] at cm2 | skip
  first | rw [qa13965] at cm2 | skip
  first | rw [qa13963] at cm3 | skip
  first | rw [qa13965] at cm3 | skip
  first | rw [qa13963] at cm4 | skip
  first | rw [qa13965] at cm4 | skip
  refine q_pop hM dL_law_595 rfl ?_
  refine q_goto (tgt := 1457) hM dL_law_596 (by decide) ?_
  exact kk _ _ _ _ hP ⟨⟨(by rw [show fI g2 3 2 = fI g 3 2 from (FRf hf1 hf2 (by omega) (by omega)), show arI g2 131 = arI g 131 from ((hf2.2.1 131 (by omega)).trans (hf1.2.1 131 (by omega)))]; exact hRl.1.1), (by rw [show fI g2 18 3 = fI g 18 3 from (FRf hf1 hf2 (by omega) (by omega))]; exact SM_cg hRl.1.2.1 (fun q hq => (cm1 q hq).trans (congrFun (hf1.2.1 158 (by omega)) q))), (by rw [show fI g2 30 3 = fI g 30 3 from (FRf hf1 hf2 (by omega) (by omega))]; exact SM_cg hRl.1.2.2.1 (fun q hq => (cm2 _ (by omega)).trans (congrFun (hf1.2.1 162 (by omega)) (8 + q)))), (((FRf hf1 hf2 (by omega) (by omega))).trans (hRl.1.2.2.2.1.trans ((FRf hf1 hf2 (by omega) (by omega))).symm)), ((FRf hf1 hf2 (by omega) (by omega)).trans (hRl.1.2.2.2.2.1.trans ((FR1f hf1 (by omega)).symm.trans (cm4.symm.trans (fI_of cm0).symm)))), ((FRf hf1 hf2 (by omega) (by omega)).trans (hRl.1.2.2.2.2.2.trans ((congrFun (hf1.2.1 166 (by omega)) 1).symm.trans cm3.symm)))⟩, ⟨by rw [show fI g2 102 4 = fI g 102 4 from (FRf hf1 hf2 (by omega) (by omega)), show arI g2 176 = arI g 176 from ((hf2.2.1 176 (by omega)).trans (hf1.2.1 176 (by omega)))]; exact hRl.2.1, fun m k hm hk => by rw [show arI g2 (113 + 1 * m) = arI g (113 + 1 * m) from (hf2.2.1 (113 + 1 * m) (by omega)).trans (hf1.2.1 (113 + 1 * m) (by omega)), show arI g2 177 = arI g 177 from ((hf2.2.1 177 (by omega)).trans (hf1.2.1 177 (by omega)))]; exact hRl.2.2 m k hm hk⟩⟩ hW hl

set_option maxRecDepth 100000 in
set_option maxHeartbeats 4000000 in
theorem lc_other {K : KT} {cA : Nat → ClassId} {ad : Nat → Nat} {b L : Nat} {xs : Nat → Int32} {H : Heap} {locs : List Loc} {ls : Array Slot} {g : Nat → va_E} {i : Int32} (hM : MB K cA code 4 R_law) (hXB : XB K b L xs) (hL : L ≤ 3072) (hR : HasRoom K 2048 84000) (hC : Cells K 600000 7302250) (hP : PI ad cA g) (hRl : RT g) (hi0 : 0 ≤ i.toInt) (hi : i.toInt + 6 ≤ L) (hW : WB NN ad K g H locs) (hl : lv_has ls 4 [(3, .int i), (2, .ref (ad 129)), (1, .ref (ad 0)), (0, .ref b)]) (kk : ∀ (g : Nat → va_E) (H : Heap) (locs : List Loc) (ls : Array Slot), PI ad cA g → RT g → WB NN ad K g H locs → lv_has ls 4 [(3, .int i), (2, .ref (ad 129)), (1, .ref (ad 0)), (0, .ref b)] → XX K 600000 7302250 H locs 1457 ls []) : XX K 600000 7302250 H locs 599 ls [] := by
  have hLn : L < 1000000 := by omega
  obtain ⟨lw, lwn, hlc, h13, h14⟩ := id hP.2.2.1
  refine q_aload_n hM dL_law_599 (lv_at hl 2 rfl) ?_
  refine q_aload_n hM dL_law_600 (lv_at hl 3 rfl) ?_
  refine q_iload_n hM dL_law_601 (lv_at hl 0 rfl) ?_
  refine q_iconst (v := (1 : Int32)) hM dL_law_602 (by decide) ?_
  refine q_iadd hM dL_law_603 (fun z13966 hz13966 => ?_)
  have tz13966 := i_addT hz13966 (rfl : i.toInt = i.toInt) (kc_1 : (1 : Int32).toInt = 1) (by omega) (by omega)
  refine s_iald z13966.toInt.toNat hM hW hXB (by omega) (by omega) (by omega) dL_law_604 ?_
  refine q_top (fun a13967 ha13967 => ?_)
  refine q_aload_n hM dL_law_605 (lv_at hl 3 rfl) ?_
  refine q_iload_n hM dL_law_606 (lv_at hl 0 rfl) ?_
  refine q_iconst (v := (2 : Int32)) hM dL_law_607 (by decide) ?_
  refine q_iadd hM dL_law_608 (fun z13968 hz13968 => ?_)
  have tz13968 := i_addT hz13968 (rfl : i.toInt = i.toInt) (kc_2 : (2 : Int32).toInt = 2) (by omega) (by omega)
  refine s_iald z13968.toInt.toNat hM hW hXB (by omega) (by omega) (by omega) dL_law_609 ?_
  refine q_top (fun a13969 ha13969 => ?_)
  refine q_callV (As := [.int a13967, .int a13969]) (rest := []) hM hW hR hC myX11_other (kAW (v_3_1 (List.mem_of_getElem? (i := 8) rfl)) rfl) (rfl : vwCl[11]? = some (RX11, TX11, 16)) rfl lb_0.1 (shO hP.1 lb_0) (p_X11_other _ _ cA ad g a13967 a13969  hP.1 hP.2.1) ⟨by decide, by decide⟩ rfl rfl hl.1 (Nat.le_of_ble_eq_true rfl) dL_law_610 (fun v g1 H locs hp hW => ?_)
  obtain ⟨r1, rfl, hs1, hG1, hf1⟩ := hp
  have hP0 := hP
  have hP : PI ad cA g1 := PI_fr hP0 hs1 hG1 hf1 (by omega) (by omega) (by omega) (by omega) (by omega) (by omega) (by omega) (by omega) (by omega)
  refine q_pop hM dL_law_613 rfl ?_
  refine q_aload_n hM dL_law_614 (lv_at hl 1 rfl) ?_
  refine q_aload_n hM dL_law_615 (lv_at hl 3 rfl) ?_
  refine q_iload_n hM dL_law_616 (lv_at hl 0 rfl) ?_
  refine q_iconst (v := (1 : Int32)) hM dL_law_617 (by decide) ?_
  refine q_iadd hM dL_law_618 (fun z13970 hz13970 => ?_)
  have tz13970 := i_addT hz13970 (rfl : i.toInt = i.toInt) (kc_1 : (1 : Int32).toInt = 1) (by omega) (by omega)
  refine s_iald z13970.toInt.toNat hM hW hXB (by omega) (by omega) (by omega) dL_law_619 ?_
  refine q_top (fun a13971 ha13971 => ?_)
  refine q_aload_n hM dL_law_620 (lv_at hl 3 rfl) ?_
  refine q_iload_n hM dL_law_621 (lv_at hl 0 rfl) ?_
  refine q_iconst (v := (2 : Int32)) hM dL_law_622 (by decide) ?_
  refine q_iadd hM dL_law_623 (fun z13972 hz13972 => ?_)
  have tz13972 := i_addT hz13972 (rfl : i.toInt = i.toInt) (kc_2 : (2 : Int32).toInt = 2) (by omega) (by omega)
  refine s_iald z13972.toInt.toNat hM hW hXB (by omega) (by omega) (by omega) dL_law_624 ?_
  refine q_top (fun a13973 ha13973 => ?_)
  refine q_callV (As := [.int a13971, .int a13973]) (rest := []) hM hW hR hC myX12_other (kAW (v_6_10 (List.mem_of_getElem? (i := 14) rfl)) rfl) (rfl : vwCl[12]? = some (RX12, TX12, 86)) rfl lb_129.1 (shO hP.1 lb_129) (s_X12_other _ _ cA ad g1 a13971 a13973 (fI g1 129 56) hP.1 hP.2.1 (shI hP.1 lb_129 (by decide) (by decide)) hP.2.2.2.1.1 (fun q hq => by rw [hf1.2.1 158 (by omega)]; exact SM_01 hRl.1.2.1 q hq)) ⟨by decide, by decide⟩ rfl rfl hl.1 (Nat.le_of_ble_eq_true rfl) dL_law_625 (fun v g2 H locs hp hW => ?_)
  obtain ⟨m0, r2, rfl, hs2, hG2, hf2, cm0, cm1, cm2, cm3, cm4⟩ := hp
  have hP1 := hP
  have hP : PI ad cA g2 := PI_fr hP1 hs2 hG2 hf2 (by omega) (by omega) (by omega) (by omega) (by omega) (by omega) (by omega) (by omega) (by omega)
  have qa13971 : a13971 = a13967 := by rw [ha13971, ha13967]; congr 1; omega
  have qa13973 : a13973 = a13969 := by rw [ha13973, ha13969]; congr 1; omega
  first | rw [qa13971] at cm0 | skip
  first | rw [qa13973] at cm0 | skip
  first | rw [qa13971] at cm1 | skip
  first | rw [qa13973] at cm1 | skip
  first | rw [qa13971] at cm2 | skip
  first | rw [qa13973] at cm2 | skip
  first | rw [qa13971] at cm3 | skip
  first | rw [qa13973] at cm3 | skip
  first | rw [qa13971] at cm4 | skip
  first | rw [qa13973] at cm4 | skip
  refine q_pop hM dL_law_628 rfl ?_
  refine q_goto (tgt := 1457) hM dL_law_629 (by decide) ?_
  exact kk _ _ _ _ hP ⟨⟨(by rw [show fI g2 3 2 = fI g 3 2 from (FRf hf1 hf2 (by omega) (by omega)), show arI g2 131 = arI g 131 from ((hf2.2.1 131 (by omega)).trans (hf1.2.1 131 (by omega)))]; exact hRl.1.1), (by rw [show fI g2 18 3 = fI g 18 3 from (FRf hf1 hf2 (by omega) (by omega))]; exact SM_cg hRl.1.2.1 (fun q hq => (cm1 q hq).trans (congrFun (hf1.2.1 158 (by omega)) q))), (by rw [show fI g2 30 3 = fI g 30 3 from (FRf hf1 hf2 (by omega) (by omega))]; exact SM_cg hRl.1.2.2.1 (fun q hq => (cm2 _ (by omega)).trans (congrFun (hf1.2.1 162 (by omega)) (8 + q)))), (((FRf hf1 hf2 (by omega) (by omega))).trans (hRl.1.2.2.2.1.trans ((FRf hf1 hf2 (by omega) (by omega))).symm)), ((FRf hf1 hf2 (by omega) (by omega)).trans (hRl.1.2.2.2.2.1.trans ((FR1f hf1 (by omega)).symm.trans (cm4.symm.trans (fI_of cm0).symm)))), ((FRf hf1 hf2 (by omega) (by omega)).trans (hRl.1.2.2.2.2.2.trans ((congrFun (hf1.2.1 166 (by omega)) 1).symm.trans cm3.symm)))⟩, ⟨by rw [show fI g2 102 4 = fI g 102 4 from (FRf hf1 hf2 (by omega) (by omega)), show arI g2 176 = arI g 176 from ((hf2.2.1 176 (by omega)).trans (hf1.2.1 176 (by omega)))]; exact hRl.2.1, fun m k hm hk => by rw [show arI g2 (113 + 1 * m) = arI g (113 + 1 * m) from (hf2.2.1 (113 + 1 * m) (by omega)).trans (hf1.2.1 (113 + 1 * m) (by omega)), show arI g2 177 = arI g 177 from ((hf2.2.1 177 (by omega)).trans (hf1.2.1 177 (by omega)))]; exact hRl.2.2 m k hm hk⟩⟩ hW hl

set_option maxRecDepth 100000 in
set_option maxHeartbeats 4000000 in
theorem lc_copy {K : KT} {cA : Nat → ClassId} {ad : Nat → Nat} {b L : Nat} {xs : Nat → Int32} {H : Heap} {locs : List Loc} {ls : Array Slot} {g : Nat → va_E} {i : Int32} (hM : MB K cA code 4 R_law) (hXB : XB K b L xs) (hL : L ≤ 3072) (hR : HasRoom K 2048 84000) (hC : Cells K 600000 7302250) (hP : PI ad cA g) (hRl : RT g) (hi0 : 0 ≤ i.toInt) (hi : i.toInt + 6 ≤ L) (hW : WB NN ad K g H locs) (hl : lv_has ls 4 [(3, .int i), (2, .ref (ad 129)), (1, .ref (ad 0)), (0, .ref b)]) (kk : ∀ (g : Nat → va_E) (H : Heap) (locs : List Loc) (ls : Array Slot), PI ad cA g → RT g → WB NN ad K g H locs → lv_has ls 4 [(3, .int i), (2, .ref (ad 129)), (1, .ref (ad 0)), (0, .ref b)] → XX K 600000 7302250 H locs 1457 ls []) : XX K 600000 7302250 H locs 632 ls [] := by
  have hLn : L < 1000000 := by omega
  obtain ⟨lw, lwn, hlc, h13, h14⟩ := id hP.2.2.1
  refine q_aload_n hM dL_law_632 (lv_at hl 2 rfl) ?_
  refine q_callV (As := []) (rest := []) hM hW hR hC myX11_copy (kAW (v_3_1 (List.mem_of_getElem? (i := 12) rfl)) rfl) (rfl : vwCl[11]? = some (RX11, TX11, 16)) rfl lb_0.1 (shO hP.1 lb_0) (p_X11_copy _ _ cA ad g  lw hP.1 hP.2.1 (by unfold isLw; omega) h13) ⟨by decide, by decide⟩ rfl rfl hl.1 (Nat.le_of_ble_eq_true rfl) dL_law_633 (fun v g1 H locs hp hW => ?_)
  obtain ⟨r1, rfl, hs1, hG1, hf1⟩ := hp
  have hP0 := hP
  have hP : PI ad cA g1 := PI_fr hP0 hs1 hG1 hf1 (by omega) (by omega) (by omega) (by omega) (by omega) (by omega) (by omega) (by omega) (by omega)
  refine q_pop hM dL_law_636 rfl ?_
  refine q_aload_n hM dL_law_637 (lv_at hl 1 rfl) ?_
  refine q_callV (As := []) (rest := []) hM hW hR hC myX12_copy (kAW (v_6_1 (List.mem_of_getElem? (i := 11) rfl)) rfl) (rfl : vwCl[12]? = some (RX12, TX12, 86)) rfl lb_129.1 (shO hP.1 lb_129) (p_X12_copy _ _ cA ad g1  (fI g1 129 32) hP.1 hP.2.1 (shI hP.1 lb_129 (by decide) (by decide)) hP.2.2.2.1) ⟨by decide, by decide⟩ rfl rfl hl.1 (Nat.le_of_ble_eq_true rfl) dL_law_638 (fun v g2 H locs hp hW => ?_)
  obtain ⟨r2, rfl, hs2, hG2, hf2, ha2⟩ := hp
  have hP1 := hP
  have hP : PI ad cA g2 := by
    obtain ⟨lw9, lwn9, c9, h139, h149⟩ := hP1.2.2.1
    exact ⟨hs2, hG2, ⟨lw9, lwn9, c9, (hf2.1 0 13 (by omega)).trans h139, (hf2.1 0 14 (by omega)).trans h149⟩, ha2, TB_fr hP1.2.2.2.2 hf2 (by omega)⟩
  refine q_pop hM dL_law_641 rfl ?_
  refine q_goto (tgt := 1457) hM dL_law_642 (by decide) ?_
  exact kk _ _ _ _ hP ⟨⟨(by rw [show fI g2 3 2 = fI g 3 2 from (FRf hf1 hf2 (by omega) (by omega)), show arI g2 131 = arI g 131 from ((hf2.2.1 131 (by omega)).trans (hf1.2.1 131 (by omega)))]; exact hRl.1.1), (by rw [show fI g2 18 3 = fI g 18 3 from (FRf hf1 hf2 (by omega) (by omega)), show arI g2 158 = arI g 158 from ((hf2.2.1 158 (by omega)).trans (hf1.2.1 158 (by omega)))]; exact hRl.1.2.1), (by rw [show fI g2 30 3 = fI g 30 3 from (FRf hf1 hf2 (by omega) (by omega)), show arI g2 162 = arI g 162 from ((hf2.2.1 162 (by omega)).trans (hf1.2.1 162 (by omega)))]; exact hRl.1.2.2.1), (((FRf hf1 hf2 (by omega) (by omega))).trans (hRl.1.2.2.2.1.trans ((FRf hf1 hf2 (by omega) (by omega))).symm)), (((FRf hf1 hf2 (by omega) (by omega))).trans (hRl.1.2.2.2.2.1.trans ((FRf hf1 hf2 (by omega) (by omega))).symm)), (((FRf hf1 hf2 (by omega) (by omega))).trans (hRl.1.2.2.2.2.2.trans (congrFun ((hf2.2.1 166 (by omega)).trans (hf1.2.1 166 (by omega))) 1).symm))⟩, ⟨by rw [show fI g2 102 4 = fI g 102 4 from (FRf hf1 hf2 (by omega) (by omega)), show arI g2 176 = arI g 176 from ((hf2.2.1 176 (by omega)).trans (hf1.2.1 176 (by omega)))]; exact hRl.2.1, fun m k hm hk => by rw [show arI g2 (113 + 1 * m) = arI g (113 + 1 * m) from (hf2.2.1 (113 + 1 * m) (by omega)).trans (hf1.2.1 (113 + 1 * m) (by omega)), show arI g2 177 = arI g 177 from ((hf2.2.1 177 (by omega)).trans (hf1.2.1 177 (by omega)))]; exact hRl.2.2 m k hm hk⟩⟩ hW hl

set_option maxRecDepth 100000 in
set_option maxHeartbeats 4000000 in
theorem lc_first {K : KT} {cA : Nat → ClassId} {ad : Nat → Nat} {b L : Nat} {xs : Nat → Int32} {H : Heap} {locs : List Loc} {ls : Array Slot} {g : Nat → va_E} {i : Int32} (hM : MB K cA code 4 R_law) (hXB : XB K b L xs) (hL : L ≤ 3072) (hR : HasRoom K 2048 84000) (hC : Cells K 600000 7302250) (hP : PI ad cA g) (hRl : RT g) (hi0 : 0 ≤ i.toInt) (hi : i.toInt + 6 ≤ L) (hW : WB NN ad K g H locs) (hl : lv_has ls 4 [(3, .int i), (2, .ref (ad 129)), (1, .ref (ad 0)), (0, .ref b)]) (kk : ∀ (g : Nat → va_E) (H : Heap) (locs : List Loc) (ls : Array Slot), PI ad cA g → RT g → WB NN ad K g H locs → lv_has ls 4 [(3, .int i), (2, .ref (ad 129)), (1, .ref (ad 0)), (0, .ref b)] → XX K 600000 7302250 H locs 1457 ls []) : XX K 600000 7302250 H locs 645 ls [] := by
  have hLn : L < 1000000 := by omega
  obtain ⟨lw, lwn, hlc, h13, h14⟩ := id hP.2.2.1
  refine q_aload_n hM dL_law_645 (lv_at hl 2 rfl) ?_
  refine q_aload_n hM dL_law_646 (lv_at hl 3 rfl) ?_
  refine q_iload_n hM dL_law_647 (lv_at hl 0 rfl) ?_
  refine q_iconst (v := (1 : Int32)) hM dL_law_648 (by decide) ?_
  refine q_iadd hM dL_law_649 (fun z13974 hz13974 => ?_)
  have tz13974 := i_addT hz13974 (rfl : i.toInt = i.toInt) (kc_1 : (1 : Int32).toInt = 1) (by omega) (by omega)
  refine s_iald z13974.toInt.toNat hM hW hXB (by omega) (by omega) (by omega) dL_law_650 ?_
  refine q_top (fun a13975 ha13975 => ?_)
  refine q_aload_n hM dL_law_651 (lv_at hl 3 rfl) ?_
  refine q_iload_n hM dL_law_652 (lv_at hl 0 rfl) ?_
  refine q_iconst (v := (2 : Int32)) hM dL_law_653 (by decide) ?_
  refine q_iadd hM dL_law_654 (fun z13976 hz13976 => ?_)
  have tz13976 := i_addT hz13976 (rfl : i.toInt = i.toInt) (kc_2 : (2 : Int32).toInt = 2) (by omega) (by omega)
  refine s_iald z13976.toInt.toNat hM hW hXB (by omega) (by omega) (by omega) dL_law_655 ?_
  refine q_top (fun a13977 ha13977 => ?_)
  refine q_aload_n hM dL_law_656 (lv_at hl 3 rfl) ?_
  refine q_iload_n hM dL_law_657 (lv_at hl 0 rfl) ?_
  refine q_iconst (v := (3 : Int32)) hM dL_law_658 (by decide) ?_
  refine q_iadd hM dL_law_659 (fun z13978 hz13978 => ?_)
  have tz13978 := i_addT hz13978 (rfl : i.toInt = i.toInt) (kc_3 : (3 : Int32).toInt = 3) (by omega) (by omega)
  refine s_iald z13978.toInt.toNat hM hW hXB (by omega) (by omega) (by omega) dL_law_660 ?_
  refine q_top (fun a13979 ha13979 => ?_)
  refine q_callV (As := [.int a13975, .int a13977, .int a13979]) (rest := []) hM hW hR hC myX11_first (kAW (v_3_2 (List.mem_of_getElem? (i := 4) rfl)) rfl) (rfl : vwCl[11]? = some (RX11, TX11, 16)) rfl lb_0.1 (shO hP.1 lb_0) (p_X11_first _ _ cA ad g a13975 a13977 a13979 lw hP.1 hP.2.1 (by unfold isLw; omega) h13) ⟨by decide, by decide⟩ rfl rfl hl.1 (Nat.le_of_ble_eq_true rfl) dL_law_661 (fun v g1 H locs hp hW => ?_)
  obtain ⟨r1, rfl, hs1, hG1, hf1⟩ := hp
  have hP0 := hP
  have hP : PI ad cA g1 := PI_fr hP0 hs1 hG1 hf1 (by omega) (by omega) (by omega) (by omega) (by omega) (by omega) (by omega) (by omega) (by omega)
  refine q_pop hM dL_law_664 rfl ?_
  refine q_aload_n hM dL_law_665 (lv_at hl 1 rfl) ?_
  refine q_aload_n hM dL_law_666 (lv_at hl 3 rfl) ?_
  refine q_iload_n hM dL_law_667 (lv_at hl 0 rfl) ?_
  refine q_iconst (v := (1 : Int32)) hM dL_law_668 (by decide) ?_
  refine q_iadd hM dL_law_669 (fun z13980 hz13980 => ?_)
  have tz13980 := i_addT hz13980 (rfl : i.toInt = i.toInt) (kc_1 : (1 : Int32).toInt = 1) (by omega) (by omega)
  refine s_iald z13980.toInt.toNat hM hW hXB (by omega) (by omega) (by omega) dL_law_670 ?_
  refine q_top (fun a13981 ha13981 => ?_)
  refine q_aload_n hM dL_law_671 (lv_at hl 3 rfl) ?_
  refine q_iload_n hM dL_law_672 (lv_at hl 0 rfl) ?_
  refine q_iconst (v := (2 : Int32)) hM dL_law_673 (by decide) ?_
  refine q_iadd hM dL_law_674 (fun z13982 hz13982 => ?_)
  have tz13982 := i_addT hz13982 (rfl : i.toInt = i.toInt) (kc_2 : (2 : Int32).toInt = 2) (by omega) (by omega)
  refine s_iald z13982.toInt.toNat hM hW hXB (by omega) (by omega) (by omega) dL_law_675 ?_
  refine q_top (fun a13983 ha13983 => ?_)
  refine q_aload_n hM dL_law_676 (lv_at hl 3 rfl) ?_
  refine q_iload_n hM dL_law_677 (lv_at hl 0 rfl) ?_
  refine q_iconst (v := (3 : Int32)) hM dL_law_678 (by decide) ?_
  refine q_iadd hM dL_law_679 (fun z13984 hz13984 => ?_)
  have tz13984 := i_addT hz13984 (rfl : i.toInt = i.toInt) (kc_3 : (3 : Int32).toInt = 3) (by omega) (by omega)
  refine s_iald z13984.toInt.toNat hM hW hXB (by omega) (by omega) (by omega) dL_law_680 ?_
  refine q_top (fun a13985 ha13985 => ?_)
  refine q_callV (As := [.int a13981, .int a13983, .int a13985]) (rest := []) hM hW hR hC myX12_first (kAW (v_6_11 (List.mem_of_getElem? (i := 2) rfl)) rfl) (rfl : vwCl[12]? = some (RX12, TX12, 86)) rfl lb_129.1 (shO hP.1 lb_129) (s_X12_first _ _ cA ad g1 a13981 a13983 a13985 (fI g1 129 56) hP.1 hP.2.1 (shI hP.1 lb_129 (by decide) (by decide)) hP.2.2.2.1.1 (fun q hq => by rw [hf1.2.1 158 (by omega)]; exact SM_01 hRl.1.2.1 q hq)) ⟨by decide, by decide⟩ rfl rfl hl.1 (Nat.le_of_ble_eq_true rfl) dL_law_681 (fun v g2 H locs hp hW => ?_)
  obtain ⟨m0, r2, rfl, hs2, hG2, hf2, cm0, cm1, cm2, cm3, cm4⟩ := hp
  have hP1 := hP
  have hP : PI ad cA g2 := PI_fr hP1 hs2 hG2 hf2 (by omega) (by omega) (by omega) (by omega) (by omega) (by omega) (by omega) (by omega) (by omega)
  have qa13981 : a13981 = a13975 := by rw [ha13981, ha13975]; congr 1; omega
  have qa13983 : a13983 = a13977 := by rw [ha13983, ha13977]; congr 1; omega
  have qa13985 : a13985 = a13979 := by rw [ha13985, ha13979]; congr 1; omega
  first | rw [qa13981] at cm0 | skip
  first | rw [qa13983] at cm0 | skip
  first | rw [qa13985] at cm0 | skip
  first | rw [qa13981] at cm1 | skip
  first | rw [qa13983] at cm1 | skip
  first | rw [qa13985] at cm1 | skip
  first | rw [qa13981] at cm2 | skip
  first | rw [qa13983] at cm2 | skip
  first | rw [qa13985] at cm2 | skip
  first | rw [qa13981] at cm3 | skip
  first | rw [qa13983] at cm3 | skip
  first | rw [qa13985] at cm3 | skip
  first | rw [qa13981] at cm4 | skip
  first | rw [qa13983] at cm4 | skip
  first | rw [qa13985] at cm4 | skip
  refine q_pop hM dL_law_684 rfl ?_
  refine q_goto (tgt := 1457) hM dL_law_685 (by decide) ?_
  exact kk _ _ _ _ hP ⟨⟨(by rw [show fI g2 3 2 = fI g 3 2 from (FRf hf1 hf2 (by omega) (by omega)), show arI g2 131 = arI g 131 from ((hf2.2.1 131 (by omega)).trans (hf1.2.1 131 (by omega)))]; exact hRl.1.1), (by rw [show fI g2 18 3 = fI g 18 3 from (FRf hf1 hf2 (by omega) (by omega))]; exact SM_cg hRl.1.2.1 (fun q hq => (cm1 q hq).trans (congrFun (hf1.2.1 158 (by omega)) q))), (by rw [show fI g2 30 3 = fI g 30 3 from (FRf hf1 hf2 (by omega) (by omega))]; exact SM_cg hRl.1.2.2.1 (fun q hq => (cm2 _ (by omega)).trans (congrFun (hf1.2.1 162 (by omega)) (8 + q)))), (((FRf hf1 hf2 (by omega) (by omega))).trans (hRl.1.2.2.2.1.trans ((FRf hf1 hf2 (by omega) (by omega))).symm)), ((FRf hf1 hf2 (by omega) (by omega)).trans (hRl.1.2.2.2.2.1.trans ((FR1f hf1 (by omega)).symm.trans (cm4.symm.trans (fI_of cm0).symm)))), ((FRf hf1 hf2 (by omega) (by omega)).trans (hRl.1.2.2.2.2.2.trans ((congrFun (hf1.2.1 166 (by omega)) 1).symm.trans cm3.symm)))⟩, ⟨by rw [show fI g2 102 4 = fI g 102 4 from (FRf hf1 hf2 (by omega) (by omega)), show arI g2 176 = arI g 176 from ((hf2.2.1 176 (by omega)).trans (hf1.2.1 176 (by omega)))]; exact hRl.2.1, fun m k hm hk => by rw [show arI g2 (113 + 1 * m) = arI g (113 + 1 * m) from (hf2.2.1 (113 + 1 * m) (by omega)).trans (hf1.2.1 (113 + 1 * m) (by omega)), show arI g2 177 = arI g 177 from ((hf2.2.1 177 (by omega)).trans (hf1.2.1 177 (by omega)))]; exact hRl.2.2 m k hm hk⟩⟩ hW hl

set_option maxRecDepth 100000 in
set_option maxHeartbeats 4000000 in
theorem lc_does {K : KT} {cA : Nat → ClassId} {ad : Nat → Nat} {b L : Nat} {xs : Nat → Int32} {H : Heap} {locs : List Loc} {ls : Array Slot} {g : Nat → va_E} {i : Int32} (hM : MB K cA code 4 R_law) (hXB : XB K b L xs) (hL : L ≤ 3072) (hR : HasRoom K 2048 84000) (hC : Cells K 600000 7302250) (hP : PI ad cA g) (hRl : RT g) (hi0 : 0 ≤ i.toInt) (hi : i.toInt + 6 ≤ L) (hW : WB NN ad K g H locs) (hl : lv_has ls 4 [(3, .int i), (2, .ref (ad 129)), (1, .ref (ad 0)), (0, .ref b)]) (kk : ∀ (g : Nat → va_E) (H : Heap) (locs : List Loc) (ls : Array Slot), PI ad cA g → RT g → WB NN ad K g H locs → lv_has ls 4 [(3, .int i), (2, .ref (ad 129)), (1, .ref (ad 0)), (0, .ref b)] → XX K 600000 7302250 H locs 1457 ls []) : XX K 600000 7302250 H locs 688 ls [] := by
  have hLn : L < 1000000 := by omega
  obtain ⟨lw, lwn, hlc, h13, h14⟩ := id hP.2.2.1
  refine q_aload_n hM dL_law_688 (lv_at hl 2 rfl) ?_
  refine q_aload_n hM dL_law_689 (lv_at hl 3 rfl) ?_
  refine q_iload_n hM dL_law_690 (lv_at hl 0 rfl) ?_
  refine q_iconst (v := (1 : Int32)) hM dL_law_691 (by decide) ?_
  refine q_iadd hM dL_law_692 (fun z13986 hz13986 => ?_)
  have tz13986 := i_addT hz13986 (rfl : i.toInt = i.toInt) (kc_1 : (1 : Int32).toInt = 1) (by omega) (by omega)
  refine s_iald z13986.toInt.toNat hM hW hXB (by omega) (by omega) (by omega) dL_law_693 ?_
  refine q_top (fun a13987 ha13987 => ?_)
  refine q_aload_n hM dL_law_694 (lv_at hl 3 rfl) ?_
  refine q_iload_n hM dL_law_695 (lv_at hl 0 rfl) ?_
  refine q_iconst (v := (2 : Int32)) hM dL_law_696 (by decide) ?_
  refine q_iadd hM dL_law_697 (fun z13988 hz13988 => ?_)
  have tz13988 := i_addT hz13988 (rfl : i.toInt = i.toInt) (kc_2 : (2 : Int32).toInt = 2) (by omega) (by omega)
  refine s_iald z13988.toInt.toNat hM hW hXB (by omega) (by omega) (by omega) dL_law_698 ?_
  refine q_top (fun a13989 ha13989 => ?_)
  refine q_callV (As := [.int a13987, .int a13989]) (rest := []) hM hW hR hC myX11_does (kAW (v_3_2 (List.mem_of_getElem? (i := 8) rfl)) rfl) (rfl : vwCl[11]? = some (RX11, TX11, 16)) rfl lb_0.1 (shO hP.1 lb_0) (p_X11_does _ _ cA ad g a13987 a13989 lw hP.1 hP.2.1 (by unfold isLw; omega) h13) ⟨by decide, by decide⟩ rfl rfl hl.1 (Nat.le_of_ble_eq_true rfl) dL_law_699 (fun v g1 H locs hp hW => ?_)
  obtain ⟨r1, rfl, hs1, hG1, hf1⟩ := hp
  have hP0 := hP
  have hP : PI ad cA g1 := PI_fr hP0 hs1 hG1 hf1 (by omega) (by omega) (by omega) (by omega) (by omega) (by omega) (by omega) (by omega) (by omega)
  refine q_pop hM dL_law_702 rfl ?_
  refine q_aload_n hM dL_law_703 (lv_at hl 1 rfl) ?_
  refine q_aload_n hM dL_law_704 (lv_at hl 3 rfl) ?_
  refine q_iload_n hM dL_law_705 (lv_at hl 0 rfl) ?_
  refine q_iconst (v := (1 : Int32)) hM dL_law_706 (by decide) ?_
  refine q_iadd hM dL_law_707 (fun z13990 hz13990 => ?_)
  have tz13990 := i_addT hz13990 (rfl : i.toInt = i.toInt) (kc_1 : (1 : Int32).toInt = 1) (by omega) (by omega)
  refine s_iald z13990.toInt.toNat hM hW hXB (by omega) (by omega) (by omega) dL_law_708 ?_
  refine q_top (fun a13991 ha13991 => ?_)
  refine q_aload_n hM dL_law_709 (lv_at hl 3 rfl) ?_
  refine q_iload_n hM dL_law_710 (lv_at hl 0 rfl) ?_
  refine q_iconst (v := (2 : Int32)) hM dL_law_711 (by decide) ?_
  refine q_iadd hM dL_law_712 (fun z13992 hz13992 => ?_)
  have tz13992 := i_addT hz13992 (rfl : i.toInt = i.toInt) (kc_2 : (2 : Int32).toInt = 2) (by omega) (by omega)
  refine s_iald z13992.toInt.toNat hM hW hXB (by omega) (by omega) (by omega) dL_law_713 ?_
  refine q_top (fun a13993 ha13993 => ?_)
  refine q_callV (As := [.int a13991, .int a13993]) (rest := []) hM hW hR hC myX12_does (kAW (v_6_3 (List.mem_of_getElem? (i := 3) rfl)) rfl) (rfl : vwCl[12]? = some (RX12, TX12, 86)) rfl lb_129.1 (shO hP.1 lb_129) (p_X12_does _ _ cA ad g1 a13991 a13993 hP.1 hP.2.1 hP.2.2.2.1.1) ⟨by decide, by decide⟩ rfl rfl hl.1 (Nat.le_of_ble_eq_true rfl) dL_law_714 (fun v g2 H locs hp hW => ?_)
  obtain ⟨r2, rfl, hs2, hG2, hf2⟩ := hp
  have hP1 := hP
  have hP : PI ad cA g2 := PI_fr hP1 hs2 hG2 hf2 (by omega) (by omega) (by omega) (by omega) (by omega) (by omega) (by omega) (by omega) (by omega)
  have qa13991 : a13991 = a13987 := by rw [ha13991, ha13987]; congr 1; omega
  have qa13993 : a13993 = a13989 := by rw [ha13993, ha13989]; congr 1; omega
  refine q_pop hM dL_law_717 rfl ?_
  refine q_goto (tgt := 1457) hM dL_law_718 (by decide) ?_
  exact kk _ _ _ _ hP ⟨⟨(by rw [show fI g2 3 2 = fI g 3 2 from (FRf hf1 hf2 (by omega) (by omega)), show arI g2 131 = arI g 131 from ((hf2.2.1 131 (by omega)).trans (hf1.2.1 131 (by omega)))]; exact hRl.1.1), (by rw [show fI g2 18 3 = fI g 18 3 from (FRf hf1 hf2 (by omega) (by omega)), show arI g2 158 = arI g 158 from ((hf2.2.1 158 (by omega)).trans (hf1.2.1 158 (by omega)))]; exact hRl.1.2.1), (by rw [show fI g2 30 3 = fI g 30 3 from (FRf hf1 hf2 (by omega) (by omega)), show arI g2 162 = arI g 162 from ((hf2.2.1 162 (by omega)).trans (hf1.2.1 162 (by omega)))]; exact hRl.1.2.2.1), (((FRf hf1 hf2 (by omega) (by omega))).trans (hRl.1.2.2.2.1.trans ((FRf hf1 hf2 (by omega) (by omega))).symm)), (((FRf hf1 hf2 (by omega) (by omega))).trans (hRl.1.2.2.2.2.1.trans ((FRf hf1 hf2 (by omega) (by omega))).symm)), (((FRf hf1 hf2 (by omega) (by omega))).trans (hRl.1.2.2.2.2.2.trans (congrFun ((hf2.2.1 166 (by omega)).trans (hf1.2.1 166 (by omega))) 1).symm))⟩, ⟨by rw [show fI g2 102 4 = fI g 102 4 from (FRf hf1 hf2 (by omega) (by omega)), show arI g2 176 = arI g 176 from ((hf2.2.1 176 (by omega)).trans (hf1.2.1 176 (by omega)))]; exact hRl.2.1, fun m k hm hk => by rw [show arI g2 (113 + 1 * m) = arI g (113 + 1 * m) from (hf2.2.1 (113 + 1 * m) (by omega)).trans (hf1.2.1 (113 + 1 * m) (by omega)), show arI g2 177 = arI g 177 from ((hf2.2.1 177 (by omega)).trans (hf1.2.1 177 (by omega)))]; exact hRl.2.2 m k hm hk⟩⟩ hW hl

set_option maxRecDepth 100000 in
set_option maxHeartbeats 4000000 in
theorem lc_pupilIs {K : KT} {cA : Nat → ClassId} {ad : Nat → Nat} {b L : Nat} {xs : Nat → Int32} {H : Heap} {locs : List Loc} {ls : Array Slot} {g : Nat → va_E} {i : Int32} (hM : MB K cA code 4 R_law) (hXB : XB K b L xs) (hL : L ≤ 3072) (hR : HasRoom K 2048 84000) (hC : Cells K 600000 7302250) (hP : PI ad cA g) (hRl : RT g) (hi0 : 0 ≤ i.toInt) (hi : i.toInt + 6 ≤ L) (hW : WB NN ad K g H locs) (hl : lv_has ls 4 [(3, .int i), (2, .ref (ad 129)), (1, .ref (ad 0)), (0, .ref b)]) (kk : ∀ (g : Nat → va_E) (H : Heap) (locs : List Loc) (ls : Array Slot), PI ad cA g → RT g → WB NN ad K g H locs → lv_has ls 4 [(3, .int i), (2, .ref (ad 129)), (1, .ref (ad 0)), (0, .ref b)] → XX K 600000 7302250 H locs 1457 ls []) : XX K 600000 7302250 H locs 721 ls [] := by
  have hLn : L < 1000000 := by omega
  obtain ⟨lw, lwn, hlc, h13, h14⟩ := id hP.2.2.1
  refine q_aload_n hM dL_law_721 (lv_at hl 2 rfl) ?_
  refine q_aload_n hM dL_law_722 (lv_at hl 3 rfl) ?_
  refine q_iload_n hM dL_law_723 (lv_at hl 0 rfl) ?_
  refine q_iconst (v := (1 : Int32)) hM dL_law_724 (by decide) ?_
  refine q_iadd hM dL_law_725 (fun z13994 hz13994 => ?_)
  have tz13994 := i_addT hz13994 (rfl : i.toInt = i.toInt) (kc_1 : (1 : Int32).toInt = 1) (by omega) (by omega)
  refine s_iald z13994.toInt.toNat hM hW hXB (by omega) (by omega) (by omega) dL_law_726 ?_
  refine q_top (fun a13995 ha13995 => ?_)
  refine q_aload_n hM dL_law_727 (lv_at hl 3 rfl) ?_
  refine q_iload_n hM dL_law_728 (lv_at hl 0 rfl) ?_
  refine q_iconst (v := (2 : Int32)) hM dL_law_729 (by decide) ?_
  refine q_iadd hM dL_law_730 (fun z13996 hz13996 => ?_)
  have tz13996 := i_addT hz13996 (rfl : i.toInt = i.toInt) (kc_2 : (2 : Int32).toInt = 2) (by omega) (by omega)
  refine s_iald z13996.toInt.toNat hM hW hXB (by omega) (by omega) (by omega) dL_law_731 ?_
  refine q_top (fun a13997 ha13997 => ?_)
  refine q_callV (As := [.int a13995, .int a13997]) (rest := []) hM hW hR hC myX11_pupilIs (kAW (v_3_2 (List.mem_of_getElem? (i := 13) rfl)) rfl) (rfl : vwCl[11]? = some (RX11, TX11, 16)) rfl lb_0.1 (shO hP.1 lb_0) (p_X11_pupilIs _ _ cA ad g a13995 a13997  hP.1 hP.2.1) ⟨by decide, by decide⟩ rfl rfl hl.1 (Nat.le_of_ble_eq_true rfl) dL_law_732 (fun v g1 H locs hp hW => ?_)
  obtain ⟨r1, rfl, hs1, hG1, hf1⟩ := hp
  have hP0 := hP
  have hP : PI ad cA g1 := PI_fr hP0 hs1 hG1 hf1 (fun h => h) (fun h => h) (fun h => h) (fun h => h) (fun h => h) (fun h => h) (fun h => h) (fun h => h) (fun h => h)
  refine q_pop hM dL_law_735 rfl ?_
  refine q_aload_n hM dL_law_736 (lv_at hl 1 rfl) ?_
  refine q_aload_n hM dL_law_737 (lv_at hl 3 rfl) ?_
  refine q_iload_n hM dL_law_738 (lv_at hl 0 rfl) ?_
  refine q_iconst (v := (1 : Int32)) hM dL_law_739 (by decide) ?_
  refine q_iadd hM dL_law_740 (fun z13998 hz13998 => ?_)
  have tz13998 := i_addT hz13998 (rfl : i.toInt = i.toInt) (kc_1 : (1 : Int32).toInt = 1) (by omega) (by omega)
  refine s_iald z13998.toInt.toNat hM hW hXB (by omega) (by omega) (by omega) dL_law_741 ?_
  refine q_top (fun a13999 ha13999 => ?_)
  refine q_aload_n hM dL_law_742 (lv_at hl 3 rfl) ?_
  refine q_iload_n hM dL_law_743 (lv_at hl 0 rfl) ?_
  refine q_iconst (v := (2 : Int32)) hM dL_law_744 (by decide) ?_
  refine q_iadd hM dL_law_745 (fun z14000 hz14000 => ?_)
  have tz14000 := i_addT hz14000 (rfl : i.toInt = i.toInt) (kc_2 : (2 : Int32).toInt = 2) (by omega) (by omega)
  refine s_iald z14000.toInt.toNat hM hW hXB (by omega) (by omega) (by omega) dL_law_746 ?_
  refine q_top (fun a14001 ha14001 => ?_)
  refine q_callV (As := [.int a13999, .int a14001]) (rest := []) hM hW hR hC myX12_pupilIs (kAW (v_6_11 (List.mem_of_getElem? (i := 6) rfl)) rfl) (rfl : vwCl[12]? = some (RX12, TX12, 86)) rfl lb_129.1 (shO hP.1 lb_129) (p_X12_pupilIs _ _ cA ad g1 a13999 a14001 hP.1 hP.2.1) ⟨by decide, by decide⟩ rfl rfl hl.1 (Nat.le_of_ble_eq_true rfl) dL_law_747 (fun v g2 H locs hp hW => ?_)
  obtain ⟨r2, rfl, hs2, hG2, hf2⟩ := hp
  have hP1 := hP
  have hP : PI ad cA g2 := PI_fr hP1 hs2 hG2 hf2 (fun h => h) (fun h => h) (fun h => h) (fun h => h) (fun h => h) (fun h => h) (fun h => h) (fun h => h) (fun h => h)
  have qa13999 : a13999 = a13995 := by rw [ha13999, ha13995]; congr 1; omega
  have qa14001 : a14001 = a13997 := by rw [ha14001, ha13997]; congr 1; omega
  refine q_pop hM dL_law_750 rfl ?_
  refine q_goto (tgt := 1457) hM dL_law_751 (by decide) ?_
  exact kk _ _ _ _ hP ⟨⟨(by rw [show fI g2 3 2 = fI g 3 2 from (FRf hf1 hf2 (fun h => h) (fun h => h)), show arI g2 131 = arI g 131 from ((hf2.2.1 131 (fun h => h)).trans (hf1.2.1 131 (fun h => h)))]; exact hRl.1.1), (by rw [show fI g2 18 3 = fI g 18 3 from (FRf hf1 hf2 (fun h => h) (fun h => h)), show arI g2 158 = arI g 158 from ((hf2.2.1 158 (fun h => h)).trans (hf1.2.1 158 (fun h => h)))]; exact hRl.1.2.1), (by rw [show fI g2 30 3 = fI g 30 3 from (FRf hf1 hf2 (fun h => h) (fun h => h)), show arI g2 162 = arI g 162 from ((hf2.2.1 162 (fun h => h)).trans (hf1.2.1 162 (fun h => h)))]; exact hRl.1.2.2.1), (((FRf hf1 hf2 (fun h => h) (fun h => h))).trans (hRl.1.2.2.2.1.trans ((FRf hf1 hf2 (fun h => h) (fun h => h))).symm)), (((FRf hf1 hf2 (fun h => h) (fun h => h))).trans (hRl.1.2.2.2.2.1.trans ((FRf hf1 hf2 (fun h => h) (fun h => h))).symm)), (((FRf hf1 hf2 (fun h => h) (fun h => h))).trans (hRl.1.2.2.2.2.2.trans (congrFun ((hf2.2.1 166 (fun h => h)).trans (hf1.2.1 166 (fun h => h))) 1).symm))⟩, ⟨by rw [show fI g2 102 4 = fI g 102 4 from (FRf hf1 hf2 (fun h => h) (fun h => h)), show arI g2 176 = arI g 176 from ((hf2.2.1 176 (fun h => h)).trans (hf1.2.1 176 (fun h => h)))]; exact hRl.2.1, fun m k hm hk => by rw [show arI g2 (113 + 1 * m) = arI g (113 + 1 * m) from (hf2.2.1 (113 + 1 * m) (fun h => h)).trans (hf1.2.1 (113 + 1 * m) (fun h => h)), show arI g2 177 = arI g 177 from ((hf2.2.1 177 (fun h => h)).trans (hf1.2.1 177 (fun h => h)))]; exact hRl.2.2 m k hm hk⟩⟩ hW hl

set_option maxRecDepth 100000 in
set_option maxHeartbeats 4000000 in
theorem lc_strength {K : KT} {cA : Nat → ClassId} {ad : Nat → Nat} {b L : Nat} {xs : Nat → Int32} {H : Heap} {locs : List Loc} {ls : Array Slot} {g : Nat → va_E} {i : Int32} (hM : MB K cA code 4 R_law) (hXB : XB K b L xs) (hL : L ≤ 3072) (hR : HasRoom K 2048 84000) (hC : Cells K 600000 7302250) (hP : PI ad cA g) (hRl : RT g) (hi0 : 0 ≤ i.toInt) (hi : i.toInt + 6 ≤ L) (hW : WB NN ad K g H locs) (hl : lv_has ls 4 [(3, .int i), (2, .ref (ad 129)), (1, .ref (ad 0)), (0, .ref b)]) (kk : ∀ (g : Nat → va_E) (H : Heap) (locs : List Loc) (ls : Array Slot), PI ad cA g → RT g → WB NN ad K g H locs → lv_has ls 4 [(3, .int i), (2, .ref (ad 129)), (1, .ref (ad 0)), (0, .ref b)] → XX K 600000 7302250 H locs 1457 ls []) : XX K 600000 7302250 H locs 754 ls [] := by
  have hLn : L < 1000000 := by omega
  obtain ⟨lw, lwn, hlc, h13, h14⟩ := id hP.2.2.1
  refine q_aload_n hM dL_law_754 (lv_at hl 2 rfl) ?_
  refine q_aload_n hM dL_law_755 (lv_at hl 3 rfl) ?_
  refine q_iload_n hM dL_law_756 (lv_at hl 0 rfl) ?_
  refine q_iconst (v := (1 : Int32)) hM dL_law_757 (by decide) ?_
  refine q_iadd hM dL_law_758 (fun z14002 hz14002 => ?_)
  have tz14002 := i_addT hz14002 (rfl : i.toInt = i.toInt) (kc_1 : (1 : Int32).toInt = 1) (by omega) (by omega)
  refine s_iald z14002.toInt.toNat hM hW hXB (by omega) (by omega) (by omega) dL_law_759 ?_
  refine q_top (fun a14003 ha14003 => ?_)
  refine q_aload_n hM dL_law_760 (lv_at hl 3 rfl) ?_
  refine q_iload_n hM dL_law_761 (lv_at hl 0 rfl) ?_
  refine q_iconst (v := (2 : Int32)) hM dL_law_762 (by decide) ?_
  refine q_iadd hM dL_law_763 (fun z14004 hz14004 => ?_)
  have tz14004 := i_addT hz14004 (rfl : i.toInt = i.toInt) (kc_2 : (2 : Int32).toInt = 2) (by omega) (by omega)
  refine s_iald z14004.toInt.toNat hM hW hXB (by omega) (by omega) (by omega) dL_law_764 ?_
  refine q_top (fun a14005 ha14005 => ?_)
  refine q_callV (As := [.int a14003, .int a14005]) (rest := []) hM hW hR hC myX11_strength (kAW (v_3_3 (List.mem_of_getElem? (i := 9) rfl)) rfl) (rfl : vwCl[11]? = some (RX11, TX11, 16)) rfl lb_0.1 (shO hP.1 lb_0) (p_X11_strength _ _ cA ad g a14003 a14005  hP.1 hP.2.1) ⟨by decide, by decide⟩ rfl rfl hl.1 (Nat.le_of_ble_eq_true rfl) dL_law_765 (fun v g1 H locs hp hW => ?_)
  obtain ⟨r1, rfl, hs1, hG1, hf1⟩ := hp
  have hP0 := hP
  have hP : PI ad cA g1 := PI_fr hP0 hs1 hG1 hf1 (fun h => h) (fun h => h) (fun h => h) (fun h => h) (fun h => h) (fun h => h) (fun h => h) (fun h => h) (fun h => h)
  refine q_pop hM dL_law_768 rfl ?_
  refine q_aload_n hM dL_law_769 (lv_at hl 1 rfl) ?_
  refine q_aload_n hM dL_law_770 (lv_at hl 3 rfl) ?_
  refine q_iload_n hM dL_law_771 (lv_at hl 0 rfl) ?_
  refine q_iconst (v := (1 : Int32)) hM dL_law_772 (by decide) ?_
  refine q_iadd hM dL_law_773 (fun z14006 hz14006 => ?_)
  have tz14006 := i_addT hz14006 (rfl : i.toInt = i.toInt) (kc_1 : (1 : Int32).toInt = 1) (by omega) (by omega)
  refine s_iald z14006.toInt.toNat hM hW hXB (by omega) (by omega) (by omega) dL_law_774 ?_
  refine q_top (fun a14007 ha14007 => ?_)
  refine q_aload_n hM dL_law_775 (lv_at hl 3 rfl) ?_
  refine q_iload_n hM dL_law_776 (lv_at hl 0 rfl) ?_
  refine q_iconst (v := (2 : Int32)) hM dL_law_777 (by decide) ?_
  refine q_iadd hM dL_law_778 (fun z14008 hz14008 => ?_)
  have tz14008 := i_addT hz14008 (rfl : i.toInt = i.toInt) (kc_2 : (2 : Int32).toInt = 2) (by omega) (by omega)
  refine s_iald z14008.toInt.toNat hM hW hXB (by omega) (by omega) (by omega) dL_law_779 ?_
  refine q_top (fun a14009 ha14009 => ?_)
  refine q_callV (As := [.int a14007, .int a14009]) (rest := []) hM hW hR hC myX12_strength (kAW (v_6_12 (List.mem_of_getElem? (i := 2) rfl)) rfl) (rfl : vwCl[12]? = some (RX12, TX12, 86)) rfl lb_129.1 (shO hP.1 lb_129) (p_X12_strength _ _ cA ad g1 a14007 a14009 hP.1 hP.2.1) ⟨by decide, by decide⟩ rfl rfl hl.1 (Nat.le_of_ble_eq_true rfl) dL_law_780 (fun v g2 H locs hp hW => ?_)
  obtain ⟨r2, rfl, hs2, hG2, hf2⟩ := hp
  have hP1 := hP
  have hP : PI ad cA g2 := PI_fr hP1 hs2 hG2 hf2 (fun h => h) (fun h => h) (fun h => h) (fun h => h) (fun h => h) (fun h => h) (fun h => h) (fun h => h) (fun h => h)
  have qa14007 : a14007 = a14003 := by rw [ha14007, ha14003]; congr 1; omega
  have qa14009 : a14009 = a14005 := by rw [ha14009, ha14005]; congr 1; omega
  refine q_pop hM dL_law_783 rfl ?_
  refine q_goto (tgt := 1457) hM dL_law_784 (by decide) ?_
  exact kk _ _ _ _ hP ⟨⟨(by rw [show fI g2 3 2 = fI g 3 2 from (FRf hf1 hf2 (fun h => h) (fun h => h)), show arI g2 131 = arI g 131 from ((hf2.2.1 131 (fun h => h)).trans (hf1.2.1 131 (fun h => h)))]; exact hRl.1.1), (by rw [show fI g2 18 3 = fI g 18 3 from (FRf hf1 hf2 (fun h => h) (fun h => h)), show arI g2 158 = arI g 158 from ((hf2.2.1 158 (fun h => h)).trans (hf1.2.1 158 (fun h => h)))]; exact hRl.1.2.1), (by rw [show fI g2 30 3 = fI g 30 3 from (FRf hf1 hf2 (fun h => h) (fun h => h)), show arI g2 162 = arI g 162 from ((hf2.2.1 162 (fun h => h)).trans (hf1.2.1 162 (fun h => h)))]; exact hRl.1.2.2.1), (((FRf hf1 hf2 (fun h => h) (fun h => h))).trans (hRl.1.2.2.2.1.trans ((FRf hf1 hf2 (fun h => h) (fun h => h))).symm)), (((FRf hf1 hf2 (fun h => h) (fun h => h))).trans (hRl.1.2.2.2.2.1.trans ((FRf hf1 hf2 (fun h => h) (fun h => h))).symm)), (((FRf hf1 hf2 (fun h => h) (fun h => h))).trans (hRl.1.2.2.2.2.2.trans (congrFun ((hf2.2.1 166 (fun h => h)).trans (hf1.2.1 166 (fun h => h))) 1).symm))⟩, ⟨by rw [show fI g2 102 4 = fI g 102 4 from (FRf hf1 hf2 (fun h => h) (fun h => h)), show arI g2 176 = arI g 176 from ((hf2.2.1 176 (fun h => h)).trans (hf1.2.1 176 (fun h => h)))]; exact hRl.2.1, fun m k hm hk => by rw [show arI g2 (113 + 1 * m) = arI g (113 + 1 * m) from (hf2.2.1 (113 + 1 * m) (fun h => h)).trans (hf1.2.1 (113 + 1 * m) (fun h => h)), show arI g2 177 = arI g 177 from ((hf2.2.1 177 (fun h => h)).trans (hf1.2.1 177 (fun h => h)))]; exact hRl.2.2 m k hm hk⟩⟩ hW hl

set_option maxRecDepth 100000 in
set_option maxHeartbeats 4000000 in
theorem lc_heard {K : KT} {cA : Nat → ClassId} {ad : Nat → Nat} {b L : Nat} {xs : Nat → Int32} {H : Heap} {locs : List Loc} {ls : Array Slot} {g : Nat → va_E} {i : Int32} (hM : MB K cA code 4 R_law) (hXB : XB K b L xs) (hL : L ≤ 3072) (hR : HasRoom K 2048 84000) (hC : Cells K 600000 7302250) (hP : PI ad cA g) (hRl : RT g) (hi0 : 0 ≤ i.toInt) (hi : i.toInt + 6 ≤ L) (hW : WB NN ad K g H locs) (hl : lv_has ls 4 [(3, .int i), (2, .ref (ad 129)), (1, .ref (ad 0)), (0, .ref b)]) (kk : ∀ (g : Nat → va_E) (H : Heap) (locs : List Loc) (ls : Array Slot), PI ad cA g → RT g → WB NN ad K g H locs → lv_has ls 4 [(3, .int i), (2, .ref (ad 129)), (1, .ref (ad 0)), (0, .ref b)] → XX K 600000 7302250 H locs 1457 ls []) : XX K 600000 7302250 H locs 787 ls [] := by
  have hLn : L < 1000000 := by omega
  obtain ⟨lw, lwn, hlc, h13, h14⟩ := id hP.2.2.1
  refine q_aload_n hM dL_law_787 (lv_at hl 2 rfl) ?_
  refine q_aload_n hM dL_law_788 (lv_at hl 3 rfl) ?_
  refine q_iload_n hM dL_law_789 (lv_at hl 0 rfl) ?_
  refine q_iconst (v := (1 : Int32)) hM dL_law_790 (by decide) ?_
  refine q_iadd hM dL_law_791 (fun z14010 hz14010 => ?_)
  have tz14010 := i_addT hz14010 (rfl : i.toInt = i.toInt) (kc_1 : (1 : Int32).toInt = 1) (by omega) (by omega)
  refine s_iald z14010.toInt.toNat hM hW hXB (by omega) (by omega) (by omega) dL_law_792 ?_
  refine q_top (fun a14011 ha14011 => ?_)
  refine q_aload_n hM dL_law_793 (lv_at hl 3 rfl) ?_
  refine q_iload_n hM dL_law_794 (lv_at hl 0 rfl) ?_
  refine q_iconst (v := (2 : Int32)) hM dL_law_795 (by decide) ?_
  refine q_iadd hM dL_law_796 (fun z14012 hz14012 => ?_)
  have tz14012 := i_addT hz14012 (rfl : i.toInt = i.toInt) (kc_2 : (2 : Int32).toInt = 2) (by omega) (by omega)
  refine s_iald z14012.toInt.toNat hM hW hXB (by omega) (by omega) (by omega) dL_law_797 ?_
  refine q_top (fun a14013 ha14013 => ?_)
  refine q_callV (As := [.int a14011, .int a14013]) (rest := []) hM hW hR hC myX11_heard (kAW (v_3_3 (List.mem_of_getElem? (i := 13) rfl)) rfl) (rfl : vwCl[11]? = some (RX11, TX11, 16)) rfl lb_0.1 (shO hP.1 lb_0) (p_X11_heard _ _ cA ad g a14011 a14013  hP.1 hP.2.1) ⟨by decide, by decide⟩ rfl rfl hl.1 (Nat.le_of_ble_eq_true rfl) dL_law_798 (fun v g1 H locs hp hW => ?_)
  obtain ⟨r1, rfl, hs1, hG1, hf1⟩ := hp
  have hP0 := hP
  have hP : PI ad cA g1 := PI_fr hP0 hs1 hG1 hf1 (fun h => h) (fun h => h) (fun h => h) (fun h => h) (fun h => h) (fun h => h) (fun h => h) (fun h => h) (fun h => h)
  refine q_pop hM dL_law_801 rfl ?_
  refine q_aload_n hM dL_law_802 (lv_at hl 1 rfl) ?_
  refine q_aload_n hM dL_law_803 (lv_at hl 3 rfl) ?_
  refine q_iload_n hM dL_law_804 (lv_at hl 0 rfl) ?_
  refine q_iconst (v := (1 : Int32)) hM dL_law_805 (by decide) ?_
  refine q_iadd hM dL_law_806 (fun z14014 hz14014 => ?_)
  have tz14014 := i_addT hz14014 (rfl : i.toInt = i.toInt) (kc_1 : (1 : Int32).toInt = 1) (by omega) (by omega)
  refine s_iald z14014.toInt.toNat hM hW hXB (by omega) (by omega) (by omega) dL_law_807 ?_
  refine q_top (fun a14015 ha14015 => ?_)
  refine q_aload_n hM dL_law_808 (lv_at hl 3 rfl) ?_
  refine q_iload_n hM dL_law_809 (lv_at hl 0 rfl) ?_
  refine q_iconst (v := (2 : Int32)) hM dL_law_810 (by decide) ?_
  refine q_iadd hM dL_law_811 (fun z14016 hz14016 => ?_)
  have tz14016 := i_addT hz14016 (rfl : i.toInt = i.toInt) (kc_2 : (2 : Int32).toInt = 2) (by omega) (by omega)
  refine s_iald z14016.toInt.toNat hM hW hXB (by omega) (by omega) (by omega) dL_law_812 ?_
  refine q_top (fun a14017 ha14017 => ?_)
  refine q_callV (As := [.int a14015, .int a14017]) (rest := []) hM hW hR hC myX12_heard (kAW (v_6_7 (List.mem_of_getElem? (i := 1) rfl)) rfl) (rfl : vwCl[12]? = some (RX12, TX12, 86)) rfl lb_129.1 (shO hP.1 lb_129) (p_X12_heard _ _ cA ad g1 a14015 a14017 hP.1 hP.2.1) ⟨by decide, by decide⟩ rfl rfl hl.1 (Nat.le_of_ble_eq_true rfl) dL_law_813 (fun v g2 H locs hp hW => ?_)
  obtain ⟨r2, rfl, hs2, hG2, hf2⟩ := hp
  have hP1 := hP
  have hP : PI ad cA g2 := PI_fr hP1 hs2 hG2 hf2 (fun h => h) (fun h => h) (fun h => h) (fun h => h) (fun h => h) (fun h => h) (fun h => h) (fun h => h) (fun h => h)
  have qa14015 : a14015 = a14011 := by rw [ha14015, ha14011]; congr 1; omega
  have qa14017 : a14017 = a14013 := by rw [ha14017, ha14013]; congr 1; omega
  refine q_pop hM dL_law_816 rfl ?_
  refine q_goto (tgt := 1457) hM dL_law_817 (by decide) ?_
  exact kk _ _ _ _ hP ⟨⟨(by rw [show fI g2 3 2 = fI g 3 2 from (FRf hf1 hf2 (fun h => h) (fun h => h)), show arI g2 131 = arI g 131 from ((hf2.2.1 131 (fun h => h)).trans (hf1.2.1 131 (fun h => h)))]; exact hRl.1.1), (by rw [show fI g2 18 3 = fI g 18 3 from (FRf hf1 hf2 (fun h => h) (fun h => h)), show arI g2 158 = arI g 158 from ((hf2.2.1 158 (fun h => h)).trans (hf1.2.1 158 (fun h => h)))]; exact hRl.1.2.1), (by rw [show fI g2 30 3 = fI g 30 3 from (FRf hf1 hf2 (fun h => h) (fun h => h)), show arI g2 162 = arI g 162 from ((hf2.2.1 162 (fun h => h)).trans (hf1.2.1 162 (fun h => h)))]; exact hRl.1.2.2.1), (((FRf hf1 hf2 (fun h => h) (fun h => h))).trans (hRl.1.2.2.2.1.trans ((FRf hf1 hf2 (fun h => h) (fun h => h))).symm)), (((FRf hf1 hf2 (fun h => h) (fun h => h))).trans (hRl.1.2.2.2.2.1.trans ((FRf hf1 hf2 (fun h => h) (fun h => h))).symm)), (((FRf hf1 hf2 (fun h => h) (fun h => h))).trans (hRl.1.2.2.2.2.2.trans (congrFun ((hf2.2.1 166 (fun h => h)).trans (hf1.2.1 166 (fun h => h))) 1).symm))⟩, ⟨by rw [show fI g2 102 4 = fI g 102 4 from (FRf hf1 hf2 (fun h => h) (fun h => h)), show arI g2 176 = arI g 176 from ((hf2.2.1 176 (fun h => h)).trans (hf1.2.1 176 (fun h => h)))]; exact hRl.2.1, fun m k hm hk => by rw [show arI g2 (113 + 1 * m) = arI g (113 + 1 * m) from (hf2.2.1 (113 + 1 * m) (fun h => h)).trans (hf1.2.1 (113 + 1 * m) (fun h => h)), show arI g2 177 = arI g 177 from ((hf2.2.1 177 (fun h => h)).trans (hf1.2.1 177 (fun h => h)))]; exact hRl.2.2 m k hm hk⟩⟩ hW hl

set_option maxRecDepth 100000 in
set_option maxHeartbeats 4000000 in
theorem lc_order {K : KT} {cA : Nat → ClassId} {ad : Nat → Nat} {b L : Nat} {xs : Nat → Int32} {H : Heap} {locs : List Loc} {ls : Array Slot} {g : Nat → va_E} {i : Int32} (hM : MB K cA code 4 R_law) (hXB : XB K b L xs) (hL : L ≤ 3072) (hR : HasRoom K 2048 84000) (hC : Cells K 600000 7302250) (hP : PI ad cA g) (hRl : RT g) (hi0 : 0 ≤ i.toInt) (hi : i.toInt + 6 ≤ L) (hW : WB NN ad K g H locs) (hl : lv_has ls 4 [(3, .int i), (2, .ref (ad 129)), (1, .ref (ad 0)), (0, .ref b)]) (kk : ∀ (g : Nat → va_E) (H : Heap) (locs : List Loc) (ls : Array Slot), PI ad cA g → RT g → WB NN ad K g H locs → lv_has ls 4 [(3, .int i), (2, .ref (ad 129)), (1, .ref (ad 0)), (0, .ref b)] → XX K 600000 7302250 H locs 1457 ls []) : XX K 600000 7302250 H locs 820 ls [] := by
  have hLn : L < 1000000 := by omega
  obtain ⟨lw, lwn, hlc, h13, h14⟩ := id hP.2.2.1
  refine q_aload_n hM dL_law_820 (lv_at hl 2 rfl) ?_
  refine q_aload_n hM dL_law_821 (lv_at hl 3 rfl) ?_
  refine q_iload_n hM dL_law_822 (lv_at hl 0 rfl) ?_
  refine q_iconst (v := (1 : Int32)) hM dL_law_823 (by decide) ?_
  refine q_iadd hM dL_law_824 (fun z14018 hz14018 => ?_)
  have tz14018 := i_addT hz14018 (rfl : i.toInt = i.toInt) (kc_1 : (1 : Int32).toInt = 1) (by omega) (by omega)
  refine s_iald z14018.toInt.toNat hM hW hXB (by omega) (by omega) (by omega) dL_law_825 ?_
  refine q_top (fun a14019 ha14019 => ?_)
  refine q_aload_n hM dL_law_826 (lv_at hl 3 rfl) ?_
  refine q_iload_n hM dL_law_827 (lv_at hl 0 rfl) ?_
  refine q_iconst (v := (2 : Int32)) hM dL_law_828 (by decide) ?_
  refine q_iadd hM dL_law_829 (fun z14020 hz14020 => ?_)
  have tz14020 := i_addT hz14020 (rfl : i.toInt = i.toInt) (kc_2 : (2 : Int32).toInt = 2) (by omega) (by omega)
  refine s_iald z14020.toInt.toNat hM hW hXB (by omega) (by omega) (by omega) dL_law_830 ?_
  refine q_top (fun a14021 ha14021 => ?_)
  refine q_aload_n hM dL_law_831 (lv_at hl 3 rfl) ?_
  refine q_iload_n hM dL_law_832 (lv_at hl 0 rfl) ?_
  refine q_iconst (v := (3 : Int32)) hM dL_law_833 (by decide) ?_
  refine q_iadd hM dL_law_834 (fun z14022 hz14022 => ?_)
  have tz14022 := i_addT hz14022 (rfl : i.toInt = i.toInt) (kc_3 : (3 : Int32).toInt = 3) (by omega) (by omega)
  refine s_iald z14022.toInt.toNat hM hW hXB (by omega) (by omega) (by omega) dL_law_835 ?_
  refine q_top (fun a14023 ha14023 => ?_)
  refine q_aload_n hM dL_law_836 (lv_at hl 3 rfl) ?_
  refine q_iload_n hM dL_law_837 (lv_at hl 0 rfl) ?_
  refine q_iconst (v := (4 : Int32)) hM dL_law_838 (by decide) ?_
  refine q_iadd hM dL_law_839 (fun z14024 hz14024 => ?_)
  have tz14024 := i_addT hz14024 (rfl : i.toInt = i.toInt) (kc_4 : (4 : Int32).toInt = 4) (by omega) (by omega)
  refine s_iald z14024.toInt.toNat hM hW hXB (by omega) (by omega) (by omega) dL_law_840 ?_
  refine q_top (fun a14025 ha14025 => ?_)
  refine q_aload_n hM dL_law_841 (lv_at hl 3 rfl) ?_
  refine q_iload_n hM dL_law_842 (lv_at hl 0 rfl) ?_
  refine q_iconst (v := (5 : Int32)) hM dL_law_843 (by decide) ?_
  refine q_iadd hM dL_law_844 (fun z14026 hz14026 => ?_)
  have tz14026 := i_addT hz14026 (rfl : i.toInt = i.toInt) (kc_5 : (5 : Int32).toInt = 5) (by omega) (by omega)
  refine s_iald z14026.toInt.toNat hM hW hXB (by omega) (by omega) (by omega) dL_law_845 ?_
  refine q_top (fun a14027 ha14027 => ?_)
  refine q_callV (As := [.int a14019, .int a14021, .int a14023, .int a14025, .int a14027]) (rest := []) hM hW hR hC myX11_order (kAW (v_3_4 (List.mem_of_getElem? (i := 2) rfl)) rfl) (rfl : vwCl[11]? = some (RX11, TX11, 16)) rfl lb_0.1 (shO hP.1 lb_0) (p_X11_order _ _ cA ad g a14019 a14021 a14023 a14025 a14027 lw hP.1 hP.2.1 (by unfold isLw; omega) h13) ⟨by decide, by decide⟩ rfl rfl hl.1 (Nat.le_of_ble_eq_true rfl) dL_law_846 (fun v g1 H locs hp hW => ?_)
  obtain ⟨r1, rfl, hs1, hG1, hf1⟩ := hp
  have hP0 := hP
  have hP : PI ad cA g1 := PI_fr hP0 hs1 hG1 hf1 (by omega) (by omega) (by omega) (by omega) (by omega) (by omega) (by omega) (by omega) (by omega)
  refine q_pop hM dL_law_849 rfl ?_
  refine q_aload_n hM dL_law_850 (lv_at hl 1 rfl) ?_
  refine q_aload_n hM dL_law_851 (lv_at hl 3 rfl) ?_
  refine q_iload_n hM dL_law_852 (lv_at hl 0 rfl) ?_
  refine q_iconst (v := (1 : Int32)) hM dL_law_853 (by decide) ?_
  refine q_iadd hM dL_law_854 (fun z14028 hz14028 => ?_)
  have tz14028 := i_addT hz14028 (rfl : i.toInt = i.toInt) (kc_1 : (1 : Int32).toInt = 1) (by omega) (by omega)
  refine s_iald z14028.toInt.toNat hM hW hXB (by omega) (by omega) (by omega) dL_law_855 ?_
  refine q_top (fun a14029 ha14029 => ?_)
  refine q_aload_n hM dL_law_856 (lv_at hl 3 rfl) ?_
  refine q_iload_n hM dL_law_857 (lv_at hl 0 rfl) ?_
  refine q_iconst (v := (2 : Int32)) hM dL_law_858 (by decide) ?_
  refine q_iadd hM dL_law_859 (fun z14030 hz14030 => ?_)
  have tz14030 := i_addT hz14030 (rfl : i.toInt = i.toInt) (kc_2 : (2 : Int32).toInt = 2) (by omega) (by omega)
  refine s_iald z14030.toInt.toNat hM hW hXB (by omega) (by omega) (by omega) dL_law_860 ?_
  refine q_top (fun a14031 ha14031 => ?_)
  refine q_aload_n hM dL_law_861 (lv_at hl 3 rfl) ?_
  refine q_iload_n hM dL_law_862 (lv_at hl 0 rfl) ?_
  refine q_iconst (v := (3 : Int32)) hM dL_law_863 (by decide) ?_
  refine q_iadd hM dL_law_864 (fun z14032 hz14032 => ?_)
  have tz14032 := i_addT hz14032 (rfl : i.toInt = i.toInt) (kc_3 : (3 : Int32).toInt = 3) (by omega) (by omega)
  refine s_iald z14032.toInt.toNat hM hW hXB (by omega) (by omega) (by omega) dL_law_865 ?_
  refine q_top (fun a14033 ha14033 => ?_)
  refine q_aload_n hM dL_law_866 (lv_at hl 3 rfl) ?_
  refine q_iload_n hM dL_law_867 (lv_at hl 0 rfl) ?_
  refine q_iconst (v := (4 : Int32)) hM dL_law_868 (by decide) ?_
  refine q_iadd hM dL_law_869 (fun z14034 hz14034 => ?_)
  have tz14034 := i_addT hz14034 (rfl : i.toInt = i.toInt) (kc_4 : (4 : Int32).toInt = 4) (by omega) (by omega)
  refine s_iald z14034.toInt.toNat hM hW hXB (by omega) (by omega) (by omega) dL_law_870 ?_
  refine q_top (fun a14035 ha14035 => ?_)
  refine q_aload_n hM dL_law_871 (lv_at hl 3 rfl) ?_
  refine q_iload_n hM dL_law_872 (lv_at hl 0 rfl) ?_
  refine q_iconst (v := (5 : Int32)) hM dL_law_873 (by decide) ?_
  refine q_iadd hM dL_law_874 (fun z14036 hz14036 => ?_)
  have tz14036 := i_addT hz14036 (rfl : i.toInt = i.toInt) (kc_5 : (5 : Int32).toInt = 5) (by omega) (by omega)
  refine s_iald z14036.toInt.toNat hM hW hXB (by omega) (by omega) (by omega) dL_law_875 ?_
  refine q_top (fun a14037 ha14037 => ?_)
  refine q_callV (As := [.int a14029, .int a14031, .int a14033, .int a14035, .int a14037]) (rest := []) hM hW hR hC myX12_order (kAW (v_6_12 (List.mem_of_getElem? (i := 6) rfl)) rfl) (rfl : vwCl[12]? = some (RX12, TX12, 86)) rfl lb_129.1 (shO hP.1 lb_129) (p_X12_order _ _ cA ad g1 a14029 a14031 a14033 a14035 a14037 hP.1 hP.2.1 hP.2.2.2.1.1) ⟨by decide, by decide⟩ rfl rfl hl.1 (Nat.le_of_ble_eq_true rfl) dL_law_876 (fun v g2 H locs hp hW => ?_)
  obtain ⟨r2, rfl, hs2, hG2, hf2⟩ := hp
  have hP1 := hP
  have hP : PI ad cA g2 := PI_fr hP1 hs2 hG2 hf2 (by omega) (by omega) (by omega) (by omega) (by omega) (by omega) (by omega) (by omega) (by omega)
  have qa14029 : a14029 = a14019 := by rw [ha14029, ha14019]; congr 1; omega
  have qa14031 : a14031 = a14021 := by rw [ha14031, ha14021]; congr 1; omega
  have qa14033 : a14033 = a14023 := by rw [ha14033, ha14023]; congr 1; omega
  have qa14035 : a14035 = a14025 := by rw [ha14035, ha14025]; congr 1; omega
  have qa14037 : a14037 = a14027 := by rw [ha14037, ha14027]; congr 1; omega
  refine q_pop hM dL_law_879 rfl ?_
  refine q_goto (tgt := 1457) hM dL_law_880 (by decide) ?_
  exact kk _ _ _ _ hP ⟨⟨(by rw [show fI g2 3 2 = fI g 3 2 from (FRf hf1 hf2 (by omega) (by omega)), show arI g2 131 = arI g 131 from ((hf2.2.1 131 (by omega)).trans (hf1.2.1 131 (by omega)))]; exact hRl.1.1), (by rw [show fI g2 18 3 = fI g 18 3 from (FRf hf1 hf2 (by omega) (by omega)), show arI g2 158 = arI g 158 from ((hf2.2.1 158 (by omega)).trans (hf1.2.1 158 (by omega)))]; exact hRl.1.2.1), (by rw [show fI g2 30 3 = fI g 30 3 from (FRf hf1 hf2 (by omega) (by omega)), show arI g2 162 = arI g 162 from ((hf2.2.1 162 (by omega)).trans (hf1.2.1 162 (by omega)))]; exact hRl.1.2.2.1), (((FRf hf1 hf2 (by omega) (by omega))).trans (hRl.1.2.2.2.1.trans ((FRf hf1 hf2 (by omega) (by omega))).symm)), (((FRf hf1 hf2 (by omega) (by omega))).trans (hRl.1.2.2.2.2.1.trans ((FRf hf1 hf2 (by omega) (by omega))).symm)), (((FRf hf1 hf2 (by omega) (by omega))).trans (hRl.1.2.2.2.2.2.trans (congrFun ((hf2.2.1 166 (by omega)).trans (hf1.2.1 166 (by omega))) 1).symm))⟩, ⟨by rw [show fI g2 102 4 = fI g 102 4 from (FRf hf1 hf2 (by omega) (by omega)), show arI g2 176 = arI g 176 from ((hf2.2.1 176 (by omega)).trans (hf1.2.1 176 (by omega)))]; exact hRl.2.1, fun m k hm hk => by rw [show arI g2 (113 + 1 * m) = arI g (113 + 1 * m) from (hf2.2.1 (113 + 1 * m) (by omega)).trans (hf1.2.1 (113 + 1 * m) (by omega)), show arI g2 177 = arI g 177 from ((hf2.2.1 177 (by omega)).trans (hf1.2.1 177 (by omega)))]; exact hRl.2.2 m k hm hk⟩⟩ hW hl

set_option maxRecDepth 100000 in
set_option maxHeartbeats 4000000 in
theorem lc_still {K : KT} {cA : Nat → ClassId} {ad : Nat → Nat} {b L : Nat} {xs : Nat → Int32} {H : Heap} {locs : List Loc} {ls : Array Slot} {g : Nat → va_E} {i : Int32} (hM : MB K cA code 4 R_law) (hXB : XB K b L xs) (hL : L ≤ 3072) (hR : HasRoom K 2048 84000) (hC : Cells K 600000 7302250) (hP : PI ad cA g) (hRl : RT g) (hi0 : 0 ≤ i.toInt) (hi : i.toInt + 6 ≤ L) (hW : WB NN ad K g H locs) (hl : lv_has ls 4 [(3, .int i), (2, .ref (ad 129)), (1, .ref (ad 0)), (0, .ref b)]) (kk : ∀ (g : Nat → va_E) (H : Heap) (locs : List Loc) (ls : Array Slot), PI ad cA g → RT g → WB NN ad K g H locs → lv_has ls 4 [(3, .int i), (2, .ref (ad 129)), (1, .ref (ad 0)), (0, .ref b)] → XX K 600000 7302250 H locs 1457 ls []) : XX K 600000 7302250 H locs 883 ls [] := by
  have hLn : L < 1000000 := by omega
  obtain ⟨lw, lwn, hlc, h13, h14⟩ := id hP.2.2.1
  refine q_aload_n hM dL_law_883 (lv_at hl 2 rfl) ?_
  refine q_aload_n hM dL_law_884 (lv_at hl 3 rfl) ?_
  refine q_iload_n hM dL_law_885 (lv_at hl 0 rfl) ?_
  refine q_iconst (v := (1 : Int32)) hM dL_law_886 (by decide) ?_
  refine q_iadd hM dL_law_887 (fun z14038 hz14038 => ?_)
  have tz14038 := i_addT hz14038 (rfl : i.toInt = i.toInt) (kc_1 : (1 : Int32).toInt = 1) (by omega) (by omega)
  refine s_iald z14038.toInt.toNat hM hW hXB (by omega) (by omega) (by omega) dL_law_888 ?_
  refine q_top (fun a14039 ha14039 => ?_)
  refine q_aload_n hM dL_law_889 (lv_at hl 3 rfl) ?_
  refine q_iload_n hM dL_law_890 (lv_at hl 0 rfl) ?_
  refine q_iconst (v := (2 : Int32)) hM dL_law_891 (by decide) ?_
  refine q_iadd hM dL_law_892 (fun z14040 hz14040 => ?_)
  have tz14040 := i_addT hz14040 (rfl : i.toInt = i.toInt) (kc_2 : (2 : Int32).toInt = 2) (by omega) (by omega)
  refine s_iald z14040.toInt.toNat hM hW hXB (by omega) (by omega) (by omega) dL_law_893 ?_
  refine q_top (fun a14041 ha14041 => ?_)
  refine q_aload_n hM dL_law_894 (lv_at hl 3 rfl) ?_
  refine q_iload_n hM dL_law_895 (lv_at hl 0 rfl) ?_
  refine q_iconst (v := (3 : Int32)) hM dL_law_896 (by decide) ?_
  refine q_iadd hM dL_law_897 (fun z14042 hz14042 => ?_)
  have tz14042 := i_addT hz14042 (rfl : i.toInt = i.toInt) (kc_3 : (3 : Int32).toInt = 3) (by omega) (by omega)
  refine s_iald z14042.toInt.toNat hM hW hXB (by omega) (by omega) (by omega) dL_law_898 ?_
  refine q_top (fun a14043 ha14043 => ?_)
  refine q_callV (As := [.int a14039, .int a14041, .int a14043]) (rest := []) hM hW hR hC myX11_still (kAW (v_3_6 (List.mem_of_getElem? (i := 8) rfl)) rfl) (rfl : vwCl[11]? = some (RX11, TX11, 16)) rfl lb_0.1 (shO hP.1 lb_0) (p_X11_still _ _ cA ad g a14039 a14041 a14043 lw hP.1 hP.2.1 (by unfold isLw; omega) h13) ⟨by decide, by decide⟩ rfl rfl hl.1 (Nat.le_of_ble_eq_true rfl) dL_law_899 (fun v g1 H locs hp hW => ?_)
  obtain ⟨r1, rfl, hs1, hG1, hf1⟩ := hp
  have hP0 := hP
  have hP : PI ad cA g1 := PI_fr hP0 hs1 hG1 hf1 (by omega) (by omega) (by omega) (by omega) (by omega) (by omega) (by omega) (by omega) (by omega)
  refine q_pop hM dL_law_902 rfl ?_
  refine q_aload_n hM dL_law_903 (lv_at hl 1 rfl) ?_
  refine q_aload_n hM dL_law_904 (lv_at hl 3 rfl) ?_
  refine q_iload_n hM dL_law_905 (lv_at hl 0 rfl) ?_
  refine q_iconst (v := (1 : Int32)) hM dL_law_906 (by decide) ?_
  refine q_iadd hM dL_law_907 (fun z14044 hz14044 => ?_)
  have tz14044 := i_addT hz14044 (rfl : i.toInt = i.toInt) (kc_1 : (1 : Int32).toInt = 1) (by omega) (by omega)
  refine s_iald z14044.toInt.toNat hM hW hXB (by omega) (by omega) (by omega) dL_law_908 ?_
  refine q_top (fun a14045 ha14045 => ?_)
  refine q_aload_n hM dL_law_909 (lv_at hl 3 rfl) ?_
  refine q_iload_n hM dL_law_910 (lv_at hl 0 rfl) ?_
  refine q_iconst (v := (2 : Int32)) hM dL_law_911 (by decide) ?_
  refine q_iadd hM dL_law_912 (fun z14046 hz14046 => ?_)
  have tz14046 := i_addT hz14046 (rfl : i.toInt = i.toInt) (kc_2 : (2 : Int32).toInt = 2) (by omega) (by omega)
  refine s_iald z14046.toInt.toNat hM hW hXB (by omega) (by omega) (by omega) dL_law_913 ?_
  refine q_top (fun a14047 ha14047 => ?_)
  refine q_aload_n hM dL_law_914 (lv_at hl 3 rfl) ?_
  refine q_iload_n hM dL_law_915 (lv_at hl 0 rfl) ?_
  refine q_iconst (v := (3 : Int32)) hM dL_law_916 (by decide) ?_
  refine q_iadd hM dL_law_917 (fun z14048 hz14048 => ?_)
  have tz14048 := i_addT hz14048 (rfl : i.toInt = i.toInt) (kc_3 : (3 : Int32).toInt = 3) (by omega) (by omega)
  refine s_iald z14048.toInt.toNat hM hW hXB (by omega) (by omega) (by omega) dL_law_918 ?_
  refine q_top (fun a14049 ha14049 => ?_)
  refine q_callV (As := [.int a14045, .int a14047, .int a14049]) (rest := []) hM hW hR hC myX12_still (kAW (v_6_14 (List.mem_of_getElem? (i := 14) rfl)) rfl) (rfl : vwCl[12]? = some (RX12, TX12, 86)) rfl lb_129.1 (shO hP.1 lb_129) (p_X12_still _ _ cA ad g1 a14045 a14047 a14049 hP.1 hP.2.1 hP.2.2.2.1.1) ⟨by decide, by decide⟩ rfl rfl hl.1 (Nat.le_of_ble_eq_true rfl) dL_law_919 (fun v g2 H locs hp hW => ?_)
  obtain ⟨r2, rfl, hs2, hG2, hf2⟩ := hp
  have hP1 := hP
  have hP : PI ad cA g2 := PI_fr hP1 hs2 hG2 hf2 (by omega) (by omega) (by omega) (by omega) (by omega) (by omega) (by omega) (by omega) (by omega)
  have qa14045 : a14045 = a14039 := by rw [ha14045, ha14039]; congr 1; omega
  have qa14047 : a14047 = a14041 := by rw [ha14047, ha14041]; congr 1; omega
  have qa14049 : a14049 = a14043 := by rw [ha14049, ha14043]; congr 1; omega
  refine q_pop hM dL_law_922 rfl ?_
  refine q_goto (tgt := 1457) hM dL_law_923 (by decide) ?_
  exact kk _ _ _ _ hP ⟨⟨(by rw [show fI g2 3 2 = fI g 3 2 from (FRf hf1 hf2 (by omega) (by omega)), show arI g2 131 = arI g 131 from ((hf2.2.1 131 (by omega)).trans (hf1.2.1 131 (by omega)))]; exact hRl.1.1), (by rw [show fI g2 18 3 = fI g 18 3 from (FRf hf1 hf2 (by omega) (by omega)), show arI g2 158 = arI g 158 from ((hf2.2.1 158 (by omega)).trans (hf1.2.1 158 (by omega)))]; exact hRl.1.2.1), (by rw [show fI g2 30 3 = fI g 30 3 from (FRf hf1 hf2 (by omega) (by omega)), show arI g2 162 = arI g 162 from ((hf2.2.1 162 (by omega)).trans (hf1.2.1 162 (by omega)))]; exact hRl.1.2.2.1), (((FRf hf1 hf2 (by omega) (by omega))).trans (hRl.1.2.2.2.1.trans ((FRf hf1 hf2 (by omega) (by omega))).symm)), (((FRf hf1 hf2 (by omega) (by omega))).trans (hRl.1.2.2.2.2.1.trans ((FRf hf1 hf2 (by omega) (by omega))).symm)), (((FRf hf1 hf2 (by omega) (by omega))).trans (hRl.1.2.2.2.2.2.trans (congrFun ((hf2.2.1 166 (by omega)).trans (hf1.2.1 166 (by omega))) 1).symm))⟩, ⟨by rw [show fI g2 102 4 = fI g 102 4 from (FRf hf1 hf2 (by omega) (by omega)), show arI g2 176 = arI g 176 from ((hf2.2.1 176 (by omega)).trans (hf1.2.1 176 (by omega)))]; exact hRl.2.1, fun m k hm hk => by rw [show arI g2 (113 + 1 * m) = arI g (113 + 1 * m) from (hf2.2.1 (113 + 1 * m) (by omega)).trans (hf1.2.1 (113 + 1 * m) (by omega)), show arI g2 177 = arI g 177 from ((hf2.2.1 177 (by omega)).trans (hf1.2.1 177 (by omega)))]; exact hRl.2.2 m k hm hk⟩⟩ hW hl
