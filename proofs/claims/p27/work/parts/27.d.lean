set_option maxRecDepth 100000 in
set_option maxHeartbeats 4000000 in
theorem lc_recalls {K : KT} {cA : Nat → ClassId} {ad : Nat → Nat} {b L : Nat} {xs : Nat → Int32} {H : Heap} {locs : List Loc} {ls : Array Slot} {g : Nat → va_E} {i : Int32} (hM : MB K cA code 4 R_law) (hXB : XB K b L xs) (hL : L ≤ 3072) (hR : HasRoom K 2048 84000) (hC : Cells K 600000 7302250) (hP : PI ad cA g) (hRl : RP g) (hi0 : 0 ≤ i.toInt) (hi : i.toInt + 6 ≤ L) (hW : WB NN ad K g H locs) (hl : lv_has ls 4 [(3, .int i), (2, .ref (ad 129)), (1, .ref (ad 0)), (0, .ref b)]) (kk : ∀ (g : Nat → va_E) (H : Heap) (locs : List Loc) (ls : Array Slot), PI ad cA g → RP g → WB NN ad K g H locs → lv_has ls 4 [(3, .int i), (2, .ref (ad 129)), (1, .ref (ad 0)), (0, .ref b)] → XX K 600000 7302250 H locs 1457 ls []) : XX K 600000 7302250 H locs 969 ls [] := by
  have hLn : L < 1000000 := by omega
  obtain ⟨lw, lwn, hlc, h13, h14⟩ := id hP.2.2.1
  refine q_aload_n hM dL_law_969 (lv_at hl 2 rfl) ?_
  refine q_aload_n hM dL_law_970 (lv_at hl 3 rfl) ?_
  refine q_iload_n hM dL_law_971 (lv_at hl 0 rfl) ?_
  refine q_iconst (v := (1 : Int32)) hM dL_law_972 (by decide) ?_
  refine q_iadd hM dL_law_973 (fun z13775 hz13775 => ?_)
  have tz13775 := i_addT hz13775 (rfl : i.toInt = i.toInt) (kc_1 : (1 : Int32).toInt = 1) (by omega) (by omega)
  refine s_iald z13775.toInt.toNat hM hW hXB (by omega) (by omega) (by omega) dL_law_974 ?_
  refine q_top (fun a13776 ha13776 => ?_)
  refine q_callV (As := [.int a13776]) (rest := []) hM hW hR hC myX11_recalls (kAW (v_3_8 (List.mem_of_getElem? (i := 5) rfl)) rfl) (rfl : vwCl[11]? = some (RX11, TX11, 16)) rfl lb_0.1 (shO hP.1 lb_0) (p_X11_recalls _ _ cA ad g a13776  hP.1 hP.2.1) ⟨by decide, by decide⟩ rfl rfl hl.1 (Nat.le_of_ble_eq_true rfl) dL_law_975 (fun v g1 H locs hp hW => ?_)
  obtain ⟨r1, rfl, hs1, hG1, hf1⟩ := hp
  have hP0 := hP
  have hP : PI ad cA g1 := PI_fr hP0 hs1 hG1 hf1 (fun h => h) (fun h => h) (fun h => h) (fun h => h) (fun h => h) (fun h => h) (fun h => h) (fun h => h) (fun h => h)
  refine q_pop hM dL_law_978 rfl ?_
  refine q_aload_n hM dL_law_979 (lv_at hl 1 rfl) ?_
  refine q_aload_n hM dL_law_980 (lv_at hl 3 rfl) ?_
  refine q_iload_n hM dL_law_981 (lv_at hl 0 rfl) ?_
  refine q_iconst (v := (1 : Int32)) hM dL_law_982 (by decide) ?_
  refine q_iadd hM dL_law_983 (fun z13777 hz13777 => ?_)
  have tz13777 := i_addT hz13777 (rfl : i.toInt = i.toInt) (kc_1 : (1 : Int32).toInt = 1) (by omega) (by omega)
  refine s_iald z13777.toInt.toNat hM hW hXB (by omega) (by omega) (by omega) dL_law_984 ?_
  refine q_top (fun a13778 ha13778 => ?_)
  refine q_callV (As := [.int a13778]) (rest := []) hM hW hR hC myX12_recalls (kAW (v_5_5 (List.mem_of_getElem? (i := 11) rfl)) rfl) (rfl : vwCl[12]? = some (RX12, TX12, 86)) rfl lb_129.1 (shO hP.1 lb_129) (p_X12_recalls _ _ cA ad g1 a13778 hP.1 hP.2.1) ⟨by decide, by decide⟩ rfl rfl hl.1 (Nat.le_of_ble_eq_true rfl) dL_law_985 (fun v g2 H locs hp hW => ?_)
  obtain ⟨r2, rfl, hs2, hG2, hf2⟩ := hp
  have hP1 := hP
  have hP : PI ad cA g2 := PI_fr hP1 hs2 hG2 hf2 (fun h => h) (fun h => h) (fun h => h) (fun h => h) (fun h => h) (fun h => h) (fun h => h) (fun h => h) (fun h => h)
  have qa13778 : a13778 = a13776 := by rw [ha13778, ha13776]; congr 1; omega
  refine q_pop hM dL_law_988 rfl ?_
  refine q_goto (tgt := 1457) hM dL_law_989 (by decide) ?_
  exact kk _ _ _ _ hP ⟨(by rw [show fI g2 3 2 = fI g 3 2 from (FRf hf1 hf2 (fun h => h) (fun h => h)), show arI g2 131 = arI g 131 from ((hf2.2.1 131 (fun h => h)).trans (hf1.2.1 131 (fun h => h)))]; exact hRl.1), (by rw [show fI g2 18 3 = fI g 18 3 from (FRf hf1 hf2 (fun h => h) (fun h => h)), show arI g2 158 = arI g 158 from ((hf2.2.1 158 (fun h => h)).trans (hf1.2.1 158 (fun h => h)))]; exact hRl.2.1), (by rw [show fI g2 30 3 = fI g 30 3 from (FRf hf1 hf2 (fun h => h) (fun h => h)), show arI g2 162 = arI g 162 from ((hf2.2.1 162 (fun h => h)).trans (hf1.2.1 162 (fun h => h)))]; exact hRl.2.2.1), (((FRf hf1 hf2 (fun h => h) (fun h => h))).trans (hRl.2.2.2.1.trans ((FRf hf1 hf2 (fun h => h) (fun h => h))).symm)), (((FRf hf1 hf2 (fun h => h) (fun h => h))).trans (hRl.2.2.2.2.1.trans ((FRf hf1 hf2 (fun h => h) (fun h => h))).symm)), (((FRf hf1 hf2 (fun h => h) (fun h => h))).trans (hRl.2.2.2.2.2.trans (congrFun ((hf2.2.1 166 (fun h => h)).trans (hf1.2.1 166 (fun h => h))) 1).symm))⟩ hW hl

set_option maxRecDepth 100000 in
set_option maxHeartbeats 4000000 in
theorem lc_root {K : KT} {cA : Nat → ClassId} {ad : Nat → Nat} {b L : Nat} {xs : Nat → Int32} {H : Heap} {locs : List Loc} {ls : Array Slot} {g : Nat → va_E} {i : Int32} (hM : MB K cA code 4 R_law) (hXB : XB K b L xs) (hL : L ≤ 3072) (hR : HasRoom K 2048 84000) (hC : Cells K 600000 7302250) (hP : PI ad cA g) (hRl : RP g) (hi0 : 0 ≤ i.toInt) (hi : i.toInt + 6 ≤ L) (hW : WB NN ad K g H locs) (hl : lv_has ls 4 [(3, .int i), (2, .ref (ad 129)), (1, .ref (ad 0)), (0, .ref b)]) (kk : ∀ (g : Nat → va_E) (H : Heap) (locs : List Loc) (ls : Array Slot), PI ad cA g → RP g → WB NN ad K g H locs → lv_has ls 4 [(3, .int i), (2, .ref (ad 129)), (1, .ref (ad 0)), (0, .ref b)] → XX K 600000 7302250 H locs 1457 ls []) : XX K 600000 7302250 H locs 992 ls [] := by
  have hLn : L < 1000000 := by omega
  obtain ⟨lw, lwn, hlc, h13, h14⟩ := id hP.2.2.1
  refine q_aload_n hM dL_law_992 (lv_at hl 2 rfl) ?_
  refine q_callV (As := []) (rest := []) hM hW hR hC myX11_root (kAW (v_3_8 (List.mem_of_getElem? (i := 10) rfl)) rfl) (rfl : vwCl[11]? = some (RX11, TX11, 16)) rfl lb_0.1 (shO hP.1 lb_0) (p_X11_root _ _ cA ad g   hP.1 hP.2.1) ⟨by decide, by decide⟩ rfl rfl hl.1 (Nat.le_of_ble_eq_true rfl) dL_law_993 (fun v g1 H locs hp hW => ?_)
  obtain ⟨r1, rfl, hs1, hG1, hf1⟩ := hp
  have hP0 := hP
  have hP : PI ad cA g1 := PI_fr hP0 hs1 hG1 hf1 (fun h => h) (fun h => h) (fun h => h) (fun h => h) (fun h => h) (fun h => h) (fun h => h) (fun h => h) (fun h => h)
  refine q_pop hM dL_law_996 rfl ?_
  refine q_aload_n hM dL_law_997 (lv_at hl 1 rfl) ?_
  refine q_callV (As := []) (rest := []) hM hW hR hC myX12_root (kAW (v_5_6 (List.mem_of_getElem? (i := 10) rfl)) rfl) (rfl : vwCl[12]? = some (RX12, TX12, 86)) rfl lb_129.1 (shO hP.1 lb_129) (p_X12_root _ _ cA ad g1  hP.1 hP.2.1) ⟨by decide, by decide⟩ rfl rfl hl.1 (Nat.le_of_ble_eq_true rfl) dL_law_998 (fun v g2 H locs hp hW => ?_)
  obtain ⟨r2, rfl, hs2, hG2, hf2⟩ := hp
  have hP1 := hP
  have hP : PI ad cA g2 := PI_fr hP1 hs2 hG2 hf2 (fun h => h) (fun h => h) (fun h => h) (fun h => h) (fun h => h) (fun h => h) (fun h => h) (fun h => h) (fun h => h)
  refine q_pop hM dL_law_1001 rfl ?_
  refine q_goto (tgt := 1457) hM dL_law_1002 (by decide) ?_
  exact kk _ _ _ _ hP ⟨(by rw [show fI g2 3 2 = fI g 3 2 from (FRf hf1 hf2 (fun h => h) (fun h => h)), show arI g2 131 = arI g 131 from ((hf2.2.1 131 (fun h => h)).trans (hf1.2.1 131 (fun h => h)))]; exact hRl.1), (by rw [show fI g2 18 3 = fI g 18 3 from (FRf hf1 hf2 (fun h => h) (fun h => h)), show arI g2 158 = arI g 158 from ((hf2.2.1 158 (fun h => h)).trans (hf1.2.1 158 (fun h => h)))]; exact hRl.2.1), (by rw [show fI g2 30 3 = fI g 30 3 from (FRf hf1 hf2 (fun h => h) (fun h => h)), show arI g2 162 = arI g 162 from ((hf2.2.1 162 (fun h => h)).trans (hf1.2.1 162 (fun h => h)))]; exact hRl.2.2.1), (((FRf hf1 hf2 (fun h => h) (fun h => h))).trans (hRl.2.2.2.1.trans ((FRf hf1 hf2 (fun h => h) (fun h => h))).symm)), (((FRf hf1 hf2 (fun h => h) (fun h => h))).trans (hRl.2.2.2.2.1.trans ((FRf hf1 hf2 (fun h => h) (fun h => h))).symm)), (((FRf hf1 hf2 (fun h => h) (fun h => h))).trans (hRl.2.2.2.2.2.trans (congrFun ((hf2.2.1 166 (fun h => h)).trans (hf1.2.1 166 (fun h => h))) 1).symm))⟩ hW hl

set_option maxRecDepth 100000 in
set_option maxHeartbeats 4000000 in
theorem lc_kin {K : KT} {cA : Nat → ClassId} {ad : Nat → Nat} {b L : Nat} {xs : Nat → Int32} {H : Heap} {locs : List Loc} {ls : Array Slot} {g : Nat → va_E} {i : Int32} (hM : MB K cA code 4 R_law) (hXB : XB K b L xs) (hL : L ≤ 3072) (hR : HasRoom K 2048 84000) (hC : Cells K 600000 7302250) (hP : PI ad cA g) (hRl : RP g) (hi0 : 0 ≤ i.toInt) (hi : i.toInt + 6 ≤ L) (hW : WB NN ad K g H locs) (hl : lv_has ls 4 [(3, .int i), (2, .ref (ad 129)), (1, .ref (ad 0)), (0, .ref b)]) (kk : ∀ (g : Nat → va_E) (H : Heap) (locs : List Loc) (ls : Array Slot), PI ad cA g → RP g → WB NN ad K g H locs → lv_has ls 4 [(3, .int i), (2, .ref (ad 129)), (1, .ref (ad 0)), (0, .ref b)] → XX K 600000 7302250 H locs 1457 ls []) : XX K 600000 7302250 H locs 1005 ls [] := by
  have hLn : L < 1000000 := by omega
  obtain ⟨lw, lwn, hlc, h13, h14⟩ := id hP.2.2.1
  refine q_aload_n hM dL_law_1005 (lv_at hl 2 rfl) ?_
  refine q_aload_n hM dL_law_1006 (lv_at hl 3 rfl) ?_
  refine q_iload_n hM dL_law_1007 (lv_at hl 0 rfl) ?_
  refine q_iconst (v := (1 : Int32)) hM dL_law_1008 (by decide) ?_
  refine q_iadd hM dL_law_1009 (fun z13779 hz13779 => ?_)
  have tz13779 := i_addT hz13779 (rfl : i.toInt = i.toInt) (kc_1 : (1 : Int32).toInt = 1) (by omega) (by omega)
  refine s_iald z13779.toInt.toNat hM hW hXB (by omega) (by omega) (by omega) dL_law_1010 ?_
  refine q_top (fun a13780 ha13780 => ?_)
  refine q_callV (As := [.int a13780]) (rest := []) hM hW hR hC myX11_kin (kAW (v_3_8 (List.mem_of_getElem? (i := 14) rfl)) rfl) (rfl : vwCl[11]? = some (RX11, TX11, 16)) rfl lb_0.1 (shO hP.1 lb_0) (p_X11_kin _ _ cA ad g a13780  hP.1 hP.2.1) ⟨by decide, by decide⟩ rfl rfl hl.1 (Nat.le_of_ble_eq_true rfl) dL_law_1011 (fun v g1 H locs hp hW => ?_)
  obtain ⟨r1, rfl, hs1, hG1, hf1⟩ := hp
  have hP0 := hP
  have hP : PI ad cA g1 := PI_fr hP0 hs1 hG1 hf1 (fun h => h) (fun h => h) (fun h => h) (fun h => h) (fun h => h) (fun h => h) (fun h => h) (fun h => h) (fun h => h)
  refine q_pop hM dL_law_1014 rfl ?_
  refine q_aload_n hM dL_law_1015 (lv_at hl 1 rfl) ?_
  refine q_aload_n hM dL_law_1016 (lv_at hl 3 rfl) ?_
  refine q_iload_n hM dL_law_1017 (lv_at hl 0 rfl) ?_
  refine q_iconst (v := (1 : Int32)) hM dL_law_1018 (by decide) ?_
  refine q_iadd hM dL_law_1019 (fun z13781 hz13781 => ?_)
  have tz13781 := i_addT hz13781 (rfl : i.toInt = i.toInt) (kc_1 : (1 : Int32).toInt = 1) (by omega) (by omega)
  refine s_iald z13781.toInt.toNat hM hW hXB (by omega) (by omega) (by omega) dL_law_1020 ?_
  refine q_top (fun a13782 ha13782 => ?_)
  refine q_callV (As := [.int a13782]) (rest := []) hM hW hR hC myX12_kin (kAW (v_5_7 (List.mem_of_getElem? (i := 1) rfl)) rfl) (rfl : vwCl[12]? = some (RX12, TX12, 86)) rfl lb_129.1 (shO hP.1 lb_129) (p_X12_kin _ _ cA ad g1 a13782 hP.1 hP.2.1) ⟨by decide, by decide⟩ rfl rfl hl.1 (Nat.le_of_ble_eq_true rfl) dL_law_1021 (fun v g2 H locs hp hW => ?_)
  obtain ⟨r2, rfl, hs2, hG2, hf2⟩ := hp
  have hP1 := hP
  have hP : PI ad cA g2 := PI_fr hP1 hs2 hG2 hf2 (fun h => h) (fun h => h) (fun h => h) (fun h => h) (fun h => h) (fun h => h) (fun h => h) (fun h => h) (fun h => h)
  have qa13782 : a13782 = a13780 := by rw [ha13782, ha13780]; congr 1; omega
  refine q_pop hM dL_law_1024 rfl ?_
  refine q_goto (tgt := 1457) hM dL_law_1025 (by decide) ?_
  exact kk _ _ _ _ hP ⟨(by rw [show fI g2 3 2 = fI g 3 2 from (FRf hf1 hf2 (fun h => h) (fun h => h)), show arI g2 131 = arI g 131 from ((hf2.2.1 131 (fun h => h)).trans (hf1.2.1 131 (fun h => h)))]; exact hRl.1), (by rw [show fI g2 18 3 = fI g 18 3 from (FRf hf1 hf2 (fun h => h) (fun h => h)), show arI g2 158 = arI g 158 from ((hf2.2.1 158 (fun h => h)).trans (hf1.2.1 158 (fun h => h)))]; exact hRl.2.1), (by rw [show fI g2 30 3 = fI g 30 3 from (FRf hf1 hf2 (fun h => h) (fun h => h)), show arI g2 162 = arI g 162 from ((hf2.2.1 162 (fun h => h)).trans (hf1.2.1 162 (fun h => h)))]; exact hRl.2.2.1), (((FRf hf1 hf2 (fun h => h) (fun h => h))).trans (hRl.2.2.2.1.trans ((FRf hf1 hf2 (fun h => h) (fun h => h))).symm)), (((FRf hf1 hf2 (fun h => h) (fun h => h))).trans (hRl.2.2.2.2.1.trans ((FRf hf1 hf2 (fun h => h) (fun h => h))).symm)), (((FRf hf1 hf2 (fun h => h) (fun h => h))).trans (hRl.2.2.2.2.2.trans (congrFun ((hf2.2.1 166 (fun h => h)).trans (hf1.2.1 166 (fun h => h))) 1).symm))⟩ hW hl

set_option maxRecDepth 100000 in
set_option maxHeartbeats 4000000 in
theorem lc_questions {K : KT} {cA : Nat → ClassId} {ad : Nat → Nat} {b L : Nat} {xs : Nat → Int32} {H : Heap} {locs : List Loc} {ls : Array Slot} {g : Nat → va_E} {i : Int32} (hM : MB K cA code 4 R_law) (hXB : XB K b L xs) (hL : L ≤ 3072) (hR : HasRoom K 2048 84000) (hC : Cells K 600000 7302250) (hP : PI ad cA g) (hRl : RP g) (hi0 : 0 ≤ i.toInt) (hi : i.toInt + 6 ≤ L) (hW : WB NN ad K g H locs) (hl : lv_has ls 4 [(3, .int i), (2, .ref (ad 129)), (1, .ref (ad 0)), (0, .ref b)]) (kk : ∀ (g : Nat → va_E) (H : Heap) (locs : List Loc) (ls : Array Slot), PI ad cA g → RP g → WB NN ad K g H locs → lv_has ls 4 [(3, .int i), (2, .ref (ad 129)), (1, .ref (ad 0)), (0, .ref b)] → XX K 600000 7302250 H locs 1457 ls []) : XX K 600000 7302250 H locs 1028 ls [] := by
  have hLn : L < 1000000 := by omega
  obtain ⟨lw, lwn, hlc, h13, h14⟩ := id hP.2.2.1
  refine q_aload_n hM dL_law_1028 (lv_at hl 2 rfl) ?_
  refine q_aload_n hM dL_law_1029 (lv_at hl 3 rfl) ?_
  refine q_iload_n hM dL_law_1030 (lv_at hl 0 rfl) ?_
  refine q_iconst (v := (1 : Int32)) hM dL_law_1031 (by decide) ?_
  refine q_iadd hM dL_law_1032 (fun z13783 hz13783 => ?_)
  have tz13783 := i_addT hz13783 (rfl : i.toInt = i.toInt) (kc_1 : (1 : Int32).toInt = 1) (by omega) (by omega)
  refine s_iald z13783.toInt.toNat hM hW hXB (by omega) (by omega) (by omega) dL_law_1033 ?_
  refine q_top (fun a13784 ha13784 => ?_)
  refine q_aload_n hM dL_law_1034 (lv_at hl 3 rfl) ?_
  refine q_iload_n hM dL_law_1035 (lv_at hl 0 rfl) ?_
  refine q_iconst (v := (2 : Int32)) hM dL_law_1036 (by decide) ?_
  refine q_iadd hM dL_law_1037 (fun z13785 hz13785 => ?_)
  have tz13785 := i_addT hz13785 (rfl : i.toInt = i.toInt) (kc_2 : (2 : Int32).toInt = 2) (by omega) (by omega)
  refine s_iald z13785.toInt.toNat hM hW hXB (by omega) (by omega) (by omega) dL_law_1038 ?_
  refine q_top (fun a13786 ha13786 => ?_)
  refine q_callV (As := [.int a13784, .int a13786]) (rest := []) hM hW hR hC myX11_questions (kAW (v_3_9 (List.mem_of_getElem? (i := 14) rfl)) rfl) (rfl : vwCl[11]? = some (RX11, TX11, 16)) rfl lb_0.1 (shO hP.1 lb_0) (p_X11_questions _ _ cA ad g a13784 a13786  hP.1 hP.2.1) ⟨by decide, by decide⟩ rfl rfl hl.1 (Nat.le_of_ble_eq_true rfl) dL_law_1039 (fun v g1 H locs hp hW => ?_)
  obtain ⟨r1, rfl, hs1, hG1, hf1⟩ := hp
  have hP0 := hP
  have hP : PI ad cA g1 := PI_fr hP0 hs1 hG1 hf1 (fun h => h) (fun h => h) (fun h => h) (fun h => h) (fun h => h) (fun h => h) (fun h => h) (fun h => h) (fun h => h)
  refine q_pop hM dL_law_1042 rfl ?_
  refine q_aload_n hM dL_law_1043 (lv_at hl 1 rfl) ?_
  refine q_aload_n hM dL_law_1044 (lv_at hl 3 rfl) ?_
  refine q_iload_n hM dL_law_1045 (lv_at hl 0 rfl) ?_
  refine q_iconst (v := (1 : Int32)) hM dL_law_1046 (by decide) ?_
  refine q_iadd hM dL_law_1047 (fun z13787 hz13787 => ?_)
  have tz13787 := i_addT hz13787 (rfl : i.toInt = i.toInt) (kc_1 : (1 : Int32).toInt = 1) (by omega) (by omega)
  refine s_iald z13787.toInt.toNat hM hW hXB (by omega) (by omega) (by omega) dL_law_1048 ?_
  refine q_top (fun a13788 ha13788 => ?_)
  refine q_aload_n hM dL_law_1049 (lv_at hl 3 rfl) ?_
  refine q_iload_n hM dL_law_1050 (lv_at hl 0 rfl) ?_
  refine q_iconst (v := (2 : Int32)) hM dL_law_1051 (by decide) ?_
  refine q_iadd hM dL_law_1052 (fun z13789 hz13789 => ?_)
  have tz13789 := i_addT hz13789 (rfl : i.toInt = i.toInt) (kc_2 : (2 : Int32).toInt = 2) (by omega) (by omega)
  refine s_iald z13789.toInt.toNat hM hW hXB (by omega) (by omega) (by omega) dL_law_1053 ?_
  refine q_top (fun a13790 ha13790 => ?_)
  refine q_callV (As := [.int a13788, .int a13790]) (rest := []) hM hW hR hC myX12_questions (kAW (v_7_0 (List.mem_of_getElem? (i := 6) rfl)) rfl) (rfl : vwCl[12]? = some (RX12, TX12, 86)) rfl lb_129.1 (shO hP.1 lb_129) (p_X12_questions _ _ cA ad g1 a13788 a13790 hP.1 hP.2.1) ⟨by decide, by decide⟩ rfl rfl hl.1 (Nat.le_of_ble_eq_true rfl) dL_law_1054 (fun v g2 H locs hp hW => ?_)
  obtain ⟨r2, rfl, hs2, hG2, hf2⟩ := hp
  have hP1 := hP
  have hP : PI ad cA g2 := PI_fr hP1 hs2 hG2 hf2 (fun h => h) (fun h => h) (fun h => h) (fun h => h) (fun h => h) (fun h => h) (fun h => h) (fun h => h) (fun h => h)
  have qa13788 : a13788 = a13784 := by rw [ha13788, ha13784]; congr 1; omega
  have qa13790 : a13790 = a13786 := by rw [ha13790, ha13786]; congr 1; omega
  refine q_pop hM dL_law_1057 rfl ?_
  refine q_goto (tgt := 1457) hM dL_law_1058 (by decide) ?_
  exact kk _ _ _ _ hP ⟨(by rw [show fI g2 3 2 = fI g 3 2 from (FRf hf1 hf2 (fun h => h) (fun h => h)), show arI g2 131 = arI g 131 from ((hf2.2.1 131 (fun h => h)).trans (hf1.2.1 131 (fun h => h)))]; exact hRl.1), (by rw [show fI g2 18 3 = fI g 18 3 from (FRf hf1 hf2 (fun h => h) (fun h => h)), show arI g2 158 = arI g 158 from ((hf2.2.1 158 (fun h => h)).trans (hf1.2.1 158 (fun h => h)))]; exact hRl.2.1), (by rw [show fI g2 30 3 = fI g 30 3 from (FRf hf1 hf2 (fun h => h) (fun h => h)), show arI g2 162 = arI g 162 from ((hf2.2.1 162 (fun h => h)).trans (hf1.2.1 162 (fun h => h)))]; exact hRl.2.2.1), (((FRf hf1 hf2 (fun h => h) (fun h => h))).trans (hRl.2.2.2.1.trans ((FRf hf1 hf2 (fun h => h) (fun h => h))).symm)), (((FRf hf1 hf2 (fun h => h) (fun h => h))).trans (hRl.2.2.2.2.1.trans ((FRf hf1 hf2 (fun h => h) (fun h => h))).symm)), (((FRf hf1 hf2 (fun h => h) (fun h => h))).trans (hRl.2.2.2.2.2.trans (congrFun ((hf2.2.1 166 (fun h => h)).trans (hf1.2.1 166 (fun h => h))) 1).symm))⟩ hW hl

set_option maxRecDepth 100000 in
set_option maxHeartbeats 4000000 in
theorem lc_reminds {K : KT} {cA : Nat → ClassId} {ad : Nat → Nat} {b L : Nat} {xs : Nat → Int32} {H : Heap} {locs : List Loc} {ls : Array Slot} {g : Nat → va_E} {i : Int32} (hM : MB K cA code 4 R_law) (hXB : XB K b L xs) (hL : L ≤ 3072) (hR : HasRoom K 2048 84000) (hC : Cells K 600000 7302250) (hP : PI ad cA g) (hRl : RP g) (hi0 : 0 ≤ i.toInt) (hi : i.toInt + 6 ≤ L) (hW : WB NN ad K g H locs) (hl : lv_has ls 4 [(3, .int i), (2, .ref (ad 129)), (1, .ref (ad 0)), (0, .ref b)]) (kk : ∀ (g : Nat → va_E) (H : Heap) (locs : List Loc) (ls : Array Slot), PI ad cA g → RP g → WB NN ad K g H locs → lv_has ls 4 [(3, .int i), (2, .ref (ad 129)), (1, .ref (ad 0)), (0, .ref b)] → XX K 600000 7302250 H locs 1457 ls []) : XX K 600000 7302250 H locs 1061 ls [] := by
  have hLn : L < 1000000 := by omega
  obtain ⟨lw, lwn, hlc, h13, h14⟩ := id hP.2.2.1
  refine q_aload_n hM dL_law_1061 (lv_at hl 2 rfl) ?_
  refine q_aload_n hM dL_law_1062 (lv_at hl 3 rfl) ?_
  refine q_iload_n hM dL_law_1063 (lv_at hl 0 rfl) ?_
  refine q_iconst (v := (1 : Int32)) hM dL_law_1064 (by decide) ?_
  refine q_iadd hM dL_law_1065 (fun z13791 hz13791 => ?_)
  have tz13791 := i_addT hz13791 (rfl : i.toInt = i.toInt) (kc_1 : (1 : Int32).toInt = 1) (by omega) (by omega)
  refine s_iald z13791.toInt.toNat hM hW hXB (by omega) (by omega) (by omega) dL_law_1066 ?_
  refine q_top (fun a13792 ha13792 => ?_)
  refine q_aload_n hM dL_law_1067 (lv_at hl 3 rfl) ?_
  refine q_iload_n hM dL_law_1068 (lv_at hl 0 rfl) ?_
  refine q_iconst (v := (2 : Int32)) hM dL_law_1069 (by decide) ?_
  refine q_iadd hM dL_law_1070 (fun z13793 hz13793 => ?_)
  have tz13793 := i_addT hz13793 (rfl : i.toInt = i.toInt) (kc_2 : (2 : Int32).toInt = 2) (by omega) (by omega)
  refine s_iald z13793.toInt.toNat hM hW hXB (by omega) (by omega) (by omega) dL_law_1071 ?_
  refine q_top (fun a13794 ha13794 => ?_)
  refine q_aload_n hM dL_law_1072 (lv_at hl 3 rfl) ?_
  refine q_iload_n hM dL_law_1073 (lv_at hl 0 rfl) ?_
  refine q_iconst (v := (3 : Int32)) hM dL_law_1074 (by decide) ?_
  refine q_iadd hM dL_law_1075 (fun z13795 hz13795 => ?_)
  have tz13795 := i_addT hz13795 (rfl : i.toInt = i.toInt) (kc_3 : (3 : Int32).toInt = 3) (by omega) (by omega)
  refine s_iald z13795.toInt.toNat hM hW hXB (by omega) (by omega) (by omega) dL_law_1076 ?_
  refine q_top (fun a13796 ha13796 => ?_)
  refine q_callV (As := [.int a13792, .int a13794, .int a13796]) (rest := []) hM hW hR hC myX11_reminds (kAW (v_3_10 (List.mem_of_getElem? (i := 15) rfl)) rfl) (rfl : vwCl[11]? = some (RX11, TX11, 16)) rfl lb_0.1 (shO hP.1 lb_0) (s3_X11_reminds _ _ cA ad g a13792 a13794 a13796 (fI g 18 3)  hP.1 hP.2.1 (shI hP.1 lb_18 (by decide) (by decide))) ⟨by decide, by decide⟩ rfl rfl hl.1 (Nat.le_of_ble_eq_true rfl) dL_law_1077 (fun v g1 H locs hp hW => ?_)
  obtain ⟨r1, rfl, hs1, hG1, hf1, ha1⟩ := hp
  have hP0 := hP
  have hP : PI ad cA g1 := PI_fr hP0 hs1 hG1 hf1 (by first | decide | omega) (by first | decide | omega) (by first | decide | omega) (by first | decide | omega) (by first | decide | omega) (by first | decide | omega) (by first | decide | omega) (by first | decide | omega) (by first | decide | omega)
  refine q_aload_n hM dL_law_1080 (lv_at hl 1 rfl) ?_
  refine q_aload_n hM dL_law_1081 (lv_at hl 3 rfl) ?_
  refine q_iload_n hM dL_law_1082 (lv_at hl 0 rfl) ?_
  refine q_iconst (v := (1 : Int32)) hM dL_law_1083 (by decide) ?_
  refine q_iadd hM dL_law_1084 (fun z13797 hz13797 => ?_)
  have tz13797 := i_addT hz13797 (rfl : i.toInt = i.toInt) (kc_1 : (1 : Int32).toInt = 1) (by omega) (by omega)
  refine s_iald z13797.toInt.toNat hM hW hXB (by omega) (by omega) (by omega) dL_law_1085 ?_
  refine q_top (fun a13798 ha13798 => ?_)
  refine q_aload_n hM dL_law_1086 (lv_at hl 3 rfl) ?_
  refine q_iload_n hM dL_law_1087 (lv_at hl 0 rfl) ?_
  refine q_iconst (v := (2 : Int32)) hM dL_law_1088 (by decide) ?_
  refine q_iadd hM dL_law_1089 (fun z13799 hz13799 => ?_)
  have tz13799 := i_addT hz13799 (rfl : i.toInt = i.toInt) (kc_2 : (2 : Int32).toInt = 2) (by omega) (by omega)
  refine s_iald z13799.toInt.toNat hM hW hXB (by omega) (by omega) (by omega) dL_law_1090 ?_
  refine q_top (fun a13800 ha13800 => ?_)
  refine q_aload_n hM dL_law_1091 (lv_at hl 3 rfl) ?_
  refine q_iload_n hM dL_law_1092 (lv_at hl 0 rfl) ?_
  refine q_iconst (v := (3 : Int32)) hM dL_law_1093 (by decide) ?_
  refine q_iadd hM dL_law_1094 (fun z13801 hz13801 => ?_)
  have tz13801 := i_addT hz13801 (rfl : i.toInt = i.toInt) (kc_3 : (3 : Int32).toInt = 3) (by omega) (by omega)
  refine s_iald z13801.toInt.toNat hM hW hXB (by omega) (by omega) (by omega) dL_law_1095 ?_
  refine q_top (fun a13802 ha13802 => ?_)
  refine q_callV (As := [.int a13798, .int a13800, .int a13802]) (rest := [.int r1]) hM hW hR hC myX12_reminds (kAW (v_7_1 (List.mem_of_getElem? (i := 3) rfl)) rfl) (rfl : vwCl[12]? = some (RX12, TX12, 86)) rfl lb_129.1 (shO hP.1 lb_129) (s3_X12_reminds _ _ cA ad g1 a13798 a13800 a13802 hP.1 hP.2.1) ⟨by decide, by decide⟩ rfl rfl hl.1 (Nat.le_of_ble_eq_true rfl) dL_law_1096 (fun v g2 H locs hp hW => ?_)
  obtain ⟨r2, rfl, hs2, hG2, hf2, ha2⟩ := hp
  have hP1 := hP
  have hP : PI ad cA g2 := PI_fr hP1 hs2 hG2 hf2 (by first | decide | omega) (by first | decide | omega) (by first | decide | omega) (by first | decide | omega) (by first | decide | omega) (by first | decide | omega) (by first | decide | omega) (by first | decide | omega) (by first | decide | omega)
  have qa13798 : a13798 = a13792 := by rw [ha13798, ha13792]; congr 1; omega
  have qa13800 : a13800 = a13794 := by rw [ha13800, ha13794]; congr 1; omega
  have qa13802 : a13802 = a13796 := by rw [ha13802, ha13796]; congr 1; omega
  first | rw [qa13798] at ha2 | skip
  first | rw [qa13800] at ha2 | skip
  first | rw [qa13802] at ha2 | skip
  have bk0 := (hP0.2.1).f (shI hP0.1 lb_18 (by decide) (by decide)) rF_18_3 (by decide)
  have sm0 : bi (fI g 18 3) a13792 = ti (arI g 158) 8 a13792 := SM_bi 8 hRl.2.1 (by omega) (by omega) (by decide) a13792
  have bk1 := (hP0.2.1).f (shI hP0.1 lb_18 (by decide) (by decide)) rF_18_3 (by decide)
  have sm1 : bi (fI g 18 3) a13794 = ti (arI g 158) 8 a13794 := SM_bi 8 hRl.2.1 (by omega) (by omega) (by decide) a13794
  rw [hf1.2.1 158 (by first | decide | omega)] at ha2
  refine q_icmp_eq (tgt := 1457) hM dL_law_1099 (by decide) (rfl : r1.toInt = r1.toInt) (rfl : r2.toInt = r2.toInt) (fun hq => ?_) (fun hq => by omega)
  exact kk _ _ _ _ hP ⟨(by rw [show fI g2 3 2 = fI g 3 2 from (FRf hf1 hf2 (by first | decide | omega) (by first | decide | omega)), show arI g2 131 = arI g 131 from ((hf2.2.1 131 (by first | decide | omega)).trans (hf1.2.1 131 (by first | decide | omega)))]; exact hRl.1), (by rw [show fI g2 18 3 = fI g 18 3 from (FRf hf1 hf2 (by first | decide | omega) (by first | decide | omega)), show arI g2 158 = arI g 158 from ((hf2.2.1 158 (by first | decide | omega)).trans (hf1.2.1 158 (by first | decide | omega)))]; exact hRl.2.1), (by rw [show fI g2 30 3 = fI g 30 3 from (FRf hf1 hf2 (by first | decide | omega) (by first | decide | omega)), show arI g2 162 = arI g 162 from ((hf2.2.1 162 (by first | decide | omega)).trans (hf1.2.1 162 (by first | decide | omega)))]; exact hRl.2.2.1), (((FRf hf1 hf2 (by first | decide | omega) (by first | decide | omega))).trans (hRl.2.2.2.1.trans ((FRf hf1 hf2 (by first | decide | omega) (by first | decide | omega))).symm)), (((FRf hf1 hf2 (by first | decide | omega) (by first | decide | omega))).trans (hRl.2.2.2.2.1.trans ((FRf hf1 hf2 (by first | decide | omega) (by first | decide | omega))).symm)), (((FRf hf1 hf2 (by first | decide | omega) (by first | decide | omega))).trans (hRl.2.2.2.2.2.trans (congrFun ((hf2.2.1 166 (by first | decide | omega)).trans (hf1.2.1 166 (by first | decide | omega))) 1).symm))⟩ hW hl

set_option maxRecDepth 100000 in
set_option maxHeartbeats 4000000 in
theorem lc_parted {K : KT} {cA : Nat → ClassId} {ad : Nat → Nat} {b L : Nat} {xs : Nat → Int32} {H : Heap} {locs : List Loc} {ls : Array Slot} {g : Nat → va_E} {i : Int32} (hM : MB K cA code 4 R_law) (hXB : XB K b L xs) (hL : L ≤ 3072) (hR : HasRoom K 2048 84000) (hC : Cells K 600000 7302250) (hP : PI ad cA g) (hRl : RP g) (hi0 : 0 ≤ i.toInt) (hi : i.toInt + 6 ≤ L) (hW : WB NN ad K g H locs) (hl : lv_has ls 4 [(3, .int i), (2, .ref (ad 129)), (1, .ref (ad 0)), (0, .ref b)]) (kk : ∀ (g : Nat → va_E) (H : Heap) (locs : List Loc) (ls : Array Slot), PI ad cA g → RP g → WB NN ad K g H locs → lv_has ls 4 [(3, .int i), (2, .ref (ad 129)), (1, .ref (ad 0)), (0, .ref b)] → XX K 600000 7302250 H locs 1457 ls []) : XX K 600000 7302250 H locs 1104 ls [] := by
  have hLn : L < 1000000 := by omega
  obtain ⟨lw, lwn, hlc, h13, h14⟩ := id hP.2.2.1
  refine q_aload_n hM dL_law_1104 (lv_at hl 2 rfl) ?_
  refine q_aload_n hM dL_law_1105 (lv_at hl 3 rfl) ?_
  refine q_iload_n hM dL_law_1106 (lv_at hl 0 rfl) ?_
  refine q_iconst (v := (1 : Int32)) hM dL_law_1107 (by decide) ?_
  refine q_iadd hM dL_law_1108 (fun z13803 hz13803 => ?_)
  have tz13803 := i_addT hz13803 (rfl : i.toInt = i.toInt) (kc_1 : (1 : Int32).toInt = 1) (by omega) (by omega)
  refine s_iald z13803.toInt.toNat hM hW hXB (by omega) (by omega) (by omega) dL_law_1109 ?_
  refine q_top (fun a13804 ha13804 => ?_)
  refine q_aload_n hM dL_law_1110 (lv_at hl 3 rfl) ?_
  refine q_iload_n hM dL_law_1111 (lv_at hl 0 rfl) ?_
  refine q_iconst (v := (2 : Int32)) hM dL_law_1112 (by decide) ?_
  refine q_iadd hM dL_law_1113 (fun z13805 hz13805 => ?_)
  have tz13805 := i_addT hz13805 (rfl : i.toInt = i.toInt) (kc_2 : (2 : Int32).toInt = 2) (by omega) (by omega)
  refine s_iald z13805.toInt.toNat hM hW hXB (by omega) (by omega) (by omega) dL_law_1114 ?_
  refine q_top (fun a13806 ha13806 => ?_)
  refine q_callV (As := [.int a13804, .int a13806]) (rest := []) hM hW hR hC myX11_parted (kAW (v_3_11 (List.mem_of_getElem? (i := 3) rfl)) rfl) (rfl : vwCl[11]? = some (RX11, TX11, 16)) rfl lb_0.1 (shO hP.1 lb_0) (p_X11_parted _ _ cA ad g a13804 a13806  hP.1 hP.2.1) ⟨by decide, by decide⟩ rfl rfl hl.1 (Nat.le_of_ble_eq_true rfl) dL_law_1115 (fun v g1 H locs hp hW => ?_)
  obtain ⟨r1, rfl, hs1, hG1, hf1⟩ := hp
  have hP0 := hP
  have hP : PI ad cA g1 := PI_fr hP0 hs1 hG1 hf1 (fun h => h) (fun h => h) (fun h => h) (fun h => h) (fun h => h) (fun h => h) (fun h => h) (fun h => h) (fun h => h)
  refine q_pop hM dL_law_1118 rfl ?_
  refine q_aload_n hM dL_law_1119 (lv_at hl 1 rfl) ?_
  refine q_aload_n hM dL_law_1120 (lv_at hl 3 rfl) ?_
  refine q_iload_n hM dL_law_1121 (lv_at hl 0 rfl) ?_
  refine q_iconst (v := (1 : Int32)) hM dL_law_1122 (by decide) ?_
  refine q_iadd hM dL_law_1123 (fun z13807 hz13807 => ?_)
  have tz13807 := i_addT hz13807 (rfl : i.toInt = i.toInt) (kc_1 : (1 : Int32).toInt = 1) (by omega) (by omega)
  refine s_iald z13807.toInt.toNat hM hW hXB (by omega) (by omega) (by omega) dL_law_1124 ?_
  refine q_top (fun a13808 ha13808 => ?_)
  refine q_aload_n hM dL_law_1125 (lv_at hl 3 rfl) ?_
  refine q_iload_n hM dL_law_1126 (lv_at hl 0 rfl) ?_
  refine q_iconst (v := (2 : Int32)) hM dL_law_1127 (by decide) ?_
  refine q_iadd hM dL_law_1128 (fun z13809 hz13809 => ?_)
  have tz13809 := i_addT hz13809 (rfl : i.toInt = i.toInt) (kc_2 : (2 : Int32).toInt = 2) (by omega) (by omega)
  refine s_iald z13809.toInt.toNat hM hW hXB (by omega) (by omega) (by omega) dL_law_1129 ?_
  refine q_top (fun a13810 ha13810 => ?_)
  refine q_callV (As := [.int a13808, .int a13810]) (rest := []) hM hW hR hC myX12_parted (kAW (v_7_1 (List.mem_of_getElem? (i := 7) rfl)) rfl) (rfl : vwCl[12]? = some (RX12, TX12, 86)) rfl lb_129.1 (shO hP.1 lb_129) (p_X12_parted _ _ cA ad g1 a13808 a13810 hP.1 hP.2.1) ⟨by decide, by decide⟩ rfl rfl hl.1 (Nat.le_of_ble_eq_true rfl) dL_law_1130 (fun v g2 H locs hp hW => ?_)
  obtain ⟨r2, rfl, hs2, hG2, hf2⟩ := hp
  have hP1 := hP
  have hP : PI ad cA g2 := PI_fr hP1 hs2 hG2 hf2 (fun h => h) (fun h => h) (fun h => h) (fun h => h) (fun h => h) (fun h => h) (fun h => h) (fun h => h) (fun h => h)
  have qa13808 : a13808 = a13804 := by rw [ha13808, ha13804]; congr 1; omega
  have qa13810 : a13810 = a13806 := by rw [ha13810, ha13806]; congr 1; omega
  refine q_pop hM dL_law_1133 rfl ?_
  refine q_goto (tgt := 1457) hM dL_law_1134 (by decide) ?_
  exact kk _ _ _ _ hP ⟨(by rw [show fI g2 3 2 = fI g 3 2 from (FRf hf1 hf2 (fun h => h) (fun h => h)), show arI g2 131 = arI g 131 from ((hf2.2.1 131 (fun h => h)).trans (hf1.2.1 131 (fun h => h)))]; exact hRl.1), (by rw [show fI g2 18 3 = fI g 18 3 from (FRf hf1 hf2 (fun h => h) (fun h => h)), show arI g2 158 = arI g 158 from ((hf2.2.1 158 (fun h => h)).trans (hf1.2.1 158 (fun h => h)))]; exact hRl.2.1), (by rw [show fI g2 30 3 = fI g 30 3 from (FRf hf1 hf2 (fun h => h) (fun h => h)), show arI g2 162 = arI g 162 from ((hf2.2.1 162 (fun h => h)).trans (hf1.2.1 162 (fun h => h)))]; exact hRl.2.2.1), (((FRf hf1 hf2 (fun h => h) (fun h => h))).trans (hRl.2.2.2.1.trans ((FRf hf1 hf2 (fun h => h) (fun h => h))).symm)), (((FRf hf1 hf2 (fun h => h) (fun h => h))).trans (hRl.2.2.2.2.1.trans ((FRf hf1 hf2 (fun h => h) (fun h => h))).symm)), (((FRf hf1 hf2 (fun h => h) (fun h => h))).trans (hRl.2.2.2.2.2.trans (congrFun ((hf2.2.1 166 (fun h => h)).trans (hf1.2.1 166 (fun h => h))) 1).symm))⟩ hW hl

set_option maxRecDepth 100000 in
set_option maxHeartbeats 4000000 in
theorem lc_skill {K : KT} {cA : Nat → ClassId} {ad : Nat → Nat} {b L : Nat} {xs : Nat → Int32} {H : Heap} {locs : List Loc} {ls : Array Slot} {g : Nat → va_E} {i : Int32} (hM : MB K cA code 4 R_law) (hXB : XB K b L xs) (hL : L ≤ 3072) (hR : HasRoom K 2048 84000) (hC : Cells K 600000 7302250) (hP : PI ad cA g) (hRl : RP g) (hi0 : 0 ≤ i.toInt) (hi : i.toInt + 6 ≤ L) (hW : WB NN ad K g H locs) (hl : lv_has ls 4 [(3, .int i), (2, .ref (ad 129)), (1, .ref (ad 0)), (0, .ref b)]) (kk : ∀ (g : Nat → va_E) (H : Heap) (locs : List Loc) (ls : Array Slot), PI ad cA g → RP g → WB NN ad K g H locs → lv_has ls 4 [(3, .int i), (2, .ref (ad 129)), (1, .ref (ad 0)), (0, .ref b)] → XX K 600000 7302250 H locs 1457 ls []) : XX K 600000 7302250 H locs 1137 ls [] := by
  have hLn : L < 1000000 := by omega
  obtain ⟨lw, lwn, hlc, h13, h14⟩ := id hP.2.2.1
  refine q_aload_n hM dL_law_1137 (lv_at hl 2 rfl) ?_
  refine q_aload_n hM dL_law_1138 (lv_at hl 3 rfl) ?_
  refine q_iload_n hM dL_law_1139 (lv_at hl 0 rfl) ?_
  refine q_iconst (v := (1 : Int32)) hM dL_law_1140 (by decide) ?_
  refine q_iadd hM dL_law_1141 (fun z13811 hz13811 => ?_)
  have tz13811 := i_addT hz13811 (rfl : i.toInt = i.toInt) (kc_1 : (1 : Int32).toInt = 1) (by omega) (by omega)
  refine s_iald z13811.toInt.toNat hM hW hXB (by omega) (by omega) (by omega) dL_law_1142 ?_
  refine q_top (fun a13812 ha13812 => ?_)
  refine q_aload_n hM dL_law_1143 (lv_at hl 3 rfl) ?_
  refine q_iload_n hM dL_law_1144 (lv_at hl 0 rfl) ?_
  refine q_iconst (v := (2 : Int32)) hM dL_law_1145 (by decide) ?_
  refine q_iadd hM dL_law_1146 (fun z13813 hz13813 => ?_)
  have tz13813 := i_addT hz13813 (rfl : i.toInt = i.toInt) (kc_2 : (2 : Int32).toInt = 2) (by omega) (by omega)
  refine s_iald z13813.toInt.toNat hM hW hXB (by omega) (by omega) (by omega) dL_law_1147 ?_
  refine q_top (fun a13814 ha13814 => ?_)
  refine q_aload_n hM dL_law_1148 (lv_at hl 3 rfl) ?_
  refine q_iload_n hM dL_law_1149 (lv_at hl 0 rfl) ?_
  refine q_iconst (v := (3 : Int32)) hM dL_law_1150 (by decide) ?_
  refine q_iadd hM dL_law_1151 (fun z13815 hz13815 => ?_)
  have tz13815 := i_addT hz13815 (rfl : i.toInt = i.toInt) (kc_3 : (3 : Int32).toInt = 3) (by omega) (by omega)
  refine s_iald z13815.toInt.toNat hM hW hXB (by omega) (by omega) (by omega) dL_law_1152 ?_
  refine q_top (fun a13816 ha13816 => ?_)
  refine q_callV (As := [.int a13812, .int a13814, .int a13816]) (rest := []) hM hW hR hC myX11_skill (kAW (v_3_12 (List.mem_of_getElem? (i := 3) rfl)) rfl) (rfl : vwCl[11]? = some (RX11, TX11, 16)) rfl lb_0.1 (shO hP.1 lb_0) (p_X11_skill _ _ cA ad g a13812 a13814 a13816  hP.1 hP.2.1) ⟨by decide, by decide⟩ rfl rfl hl.1 (Nat.le_of_ble_eq_true rfl) dL_law_1153 (fun v g1 H locs hp hW => ?_)
  obtain ⟨r1, rfl, hs1, hG1, hf1, ha1⟩ := hp
  have hP0 := hP
  have hP : PI ad cA g1 := PI_fr hP0 hs1 hG1 hf1 (by first | decide | omega) (by first | decide | omega) (by first | decide | omega) (by first | decide | omega) (by first | decide | omega) (by first | decide | omega) (by first | decide | omega) (by first | decide | omega) (by first | decide | omega)
  refine q_pop hM dL_law_1156 rfl ?_
  refine q_aload_n hM dL_law_1157 (lv_at hl 1 rfl) ?_
  refine q_aload_n hM dL_law_1158 (lv_at hl 3 rfl) ?_
  refine q_iload_n hM dL_law_1159 (lv_at hl 0 rfl) ?_
  refine q_iconst (v := (1 : Int32)) hM dL_law_1160 (by decide) ?_
  refine q_iadd hM dL_law_1161 (fun z13817 hz13817 => ?_)
  have tz13817 := i_addT hz13817 (rfl : i.toInt = i.toInt) (kc_1 : (1 : Int32).toInt = 1) (by omega) (by omega)
  refine s_iald z13817.toInt.toNat hM hW hXB (by omega) (by omega) (by omega) dL_law_1162 ?_
  refine q_top (fun a13818 ha13818 => ?_)
  refine q_aload_n hM dL_law_1163 (lv_at hl 3 rfl) ?_
  refine q_iload_n hM dL_law_1164 (lv_at hl 0 rfl) ?_
  refine q_iconst (v := (2 : Int32)) hM dL_law_1165 (by decide) ?_
  refine q_iadd hM dL_law_1166 (fun z13819 hz13819 => ?_)
  have tz13819 := i_addT hz13819 (rfl : i.toInt = i.toInt) (kc_2 : (2 : Int32).toInt = 2) (by omega) (by omega)
  refine s_iald z13819.toInt.toNat hM hW hXB (by omega) (by omega) (by omega) dL_law_1167 ?_
  refine q_top (fun a13820 ha13820 => ?_)
  refine q_aload_n hM dL_law_1168 (lv_at hl 3 rfl) ?_
  refine q_iload_n hM dL_law_1169 (lv_at hl 0 rfl) ?_
  refine q_iconst (v := (3 : Int32)) hM dL_law_1170 (by decide) ?_
  refine q_iadd hM dL_law_1171 (fun z13821 hz13821 => ?_)
  have tz13821 := i_addT hz13821 (rfl : i.toInt = i.toInt) (kc_3 : (3 : Int32).toInt = 3) (by omega) (by omega)
  refine s_iald z13821.toInt.toNat hM hW hXB (by omega) (by omega) (by omega) dL_law_1172 ?_
  refine q_top (fun a13822 ha13822 => ?_)
  refine q_callV (As := [.int a13818, .int a13820, .int a13822]) (rest := []) hM hW hR hC myX12_skill (kAW (v_7_2 (List.mem_of_getElem? (i := 0) rfl)) rfl) (rfl : vwCl[12]? = some (RX12, TX12, 86)) rfl lb_129.1 (shO hP.1 lb_129) (p_X12_skill _ _ cA ad g1 a13818 a13820 a13822 hP.1 hP.2.1) ⟨by decide, by decide⟩ rfl rfl hl.1 (Nat.le_of_ble_eq_true rfl) dL_law_1173 (fun v g2 H locs hp hW => ?_)
  obtain ⟨r2, rfl, hs2, hG2, hf2, ha2⟩ := hp
  have hP1 := hP
  have hP : PI ad cA g2 := PI_fr hP1 hs2 hG2 hf2 (by first | decide | omega) (by first | decide | omega) (by first | decide | omega) (by first | decide | omega) (by first | decide | omega) (by first | decide | omega) (by first | decide | omega) (by first | decide | omega) (by first | decide | omega)
  have qa13818 : a13818 = a13812 := by rw [ha13818, ha13812]; congr 1; omega
  have qa13820 : a13820 = a13814 := by rw [ha13820, ha13814]; congr 1; omega
  have qa13822 : a13822 = a13816 := by rw [ha13822, ha13816]; congr 1; omega
  first | rw [qa13818] at ha2 | skip
  first | rw [qa13820] at ha2 | skip
  first | rw [qa13822] at ha2 | skip
  refine q_pop hM dL_law_1176 rfl ?_
  refine q_goto (tgt := 1457) hM dL_law_1177 (by decide) ?_
  exact kk _ _ _ _ hP ⟨(by rw [show fI g2 3 2 = fI g 3 2 from (FRf hf1 hf2 (by first | decide | omega) (by first | decide | omega)), show arI g2 131 = arI g 131 from ((hf2.2.1 131 (by first | decide | omega)).trans (hf1.2.1 131 (by first | decide | omega)))]; exact hRl.1), (by rw [show fI g2 18 3 = fI g 18 3 from (FRf hf1 hf2 (by first | decide | omega) (by first | decide | omega)), show arI g2 158 = arI g 158 from ((hf2.2.1 158 (by first | decide | omega)).trans (hf1.2.1 158 (by first | decide | omega)))]; exact hRl.2.1), (by rw [show fI g2 30 3 = fI g 30 3 from (FRf hf1 hf2 (by first | decide | omega) (by first | decide | omega)), show arI g2 162 = arI g 162 from ((hf2.2.1 162 (by first | decide | omega)).trans (hf1.2.1 162 (by first | decide | omega)))]; exact hRl.2.2.1), (((FRf hf1 hf2 (by first | decide | omega) (by first | decide | omega))).trans (hRl.2.2.2.1.trans ((FRf hf1 hf2 (by first | decide | omega) (by first | decide | omega))).symm)), (((FRf hf1 hf2 (by first | decide | omega) (by first | decide | omega))).trans (hRl.2.2.2.2.1.trans ((FRf hf1 hf2 (by first | decide | omega) (by first | decide | omega))).symm)), (((FRf hf1 hf2 (by first | decide | omega) (by first | decide | omega))).trans (hRl.2.2.2.2.2.trans (congrFun ((hf2.2.1 166 (by first | decide | omega)).trans (hf1.2.1 166 (by first | decide | omega))) 1).symm))⟩ hW hl

set_option maxRecDepth 100000 in
set_option maxHeartbeats 4000000 in
theorem lc_taught {K : KT} {cA : Nat → ClassId} {ad : Nat → Nat} {b L : Nat} {xs : Nat → Int32} {H : Heap} {locs : List Loc} {ls : Array Slot} {g : Nat → va_E} {i : Int32} (hM : MB K cA code 4 R_law) (hXB : XB K b L xs) (hL : L ≤ 3072) (hR : HasRoom K 2048 84000) (hC : Cells K 600000 7302250) (hP : PI ad cA g) (hRl : RP g) (hi0 : 0 ≤ i.toInt) (hi : i.toInt + 6 ≤ L) (hW : WB NN ad K g H locs) (hl : lv_has ls 4 [(3, .int i), (2, .ref (ad 129)), (1, .ref (ad 0)), (0, .ref b)]) (kk : ∀ (g : Nat → va_E) (H : Heap) (locs : List Loc) (ls : Array Slot), PI ad cA g → RP g → WB NN ad K g H locs → lv_has ls 4 [(3, .int i), (2, .ref (ad 129)), (1, .ref (ad 0)), (0, .ref b)] → XX K 600000 7302250 H locs 1457 ls []) : XX K 600000 7302250 H locs 1180 ls [] := by
  have hLn : L < 1000000 := by omega
  obtain ⟨lw, lwn, hlc, h13, h14⟩ := id hP.2.2.1
  refine q_aload_n hM dL_law_1180 (lv_at hl 2 rfl) ?_
  refine q_aload_n hM dL_law_1181 (lv_at hl 3 rfl) ?_
  refine q_iload_n hM dL_law_1182 (lv_at hl 0 rfl) ?_
  refine q_iconst (v := (1 : Int32)) hM dL_law_1183 (by decide) ?_
  refine q_iadd hM dL_law_1184 (fun z13823 hz13823 => ?_)
  have tz13823 := i_addT hz13823 (rfl : i.toInt = i.toInt) (kc_1 : (1 : Int32).toInt = 1) (by omega) (by omega)
  refine s_iald z13823.toInt.toNat hM hW hXB (by omega) (by omega) (by omega) dL_law_1185 ?_
  refine q_top (fun a13824 ha13824 => ?_)
  refine q_aload_n hM dL_law_1186 (lv_at hl 3 rfl) ?_
  refine q_iload_n hM dL_law_1187 (lv_at hl 0 rfl) ?_
  refine q_iconst (v := (2 : Int32)) hM dL_law_1188 (by decide) ?_
  refine q_iadd hM dL_law_1189 (fun z13825 hz13825 => ?_)
  have tz13825 := i_addT hz13825 (rfl : i.toInt = i.toInt) (kc_2 : (2 : Int32).toInt = 2) (by omega) (by omega)
  refine s_iald z13825.toInt.toNat hM hW hXB (by omega) (by omega) (by omega) dL_law_1190 ?_
  refine q_top (fun a13826 ha13826 => ?_)
  refine q_aload_n hM dL_law_1191 (lv_at hl 3 rfl) ?_
  refine q_iload_n hM dL_law_1192 (lv_at hl 0 rfl) ?_
  refine q_iconst (v := (3 : Int32)) hM dL_law_1193 (by decide) ?_
  refine q_iadd hM dL_law_1194 (fun z13827 hz13827 => ?_)
  have tz13827 := i_addT hz13827 (rfl : i.toInt = i.toInt) (kc_3 : (3 : Int32).toInt = 3) (by omega) (by omega)
  refine s_iald z13827.toInt.toNat hM hW hXB (by omega) (by omega) (by omega) dL_law_1195 ?_
  refine q_top (fun a13828 ha13828 => ?_)
  refine q_callV (As := [.int a13824, .int a13826, .int a13828]) (rest := []) hM hW hR hC myX11_taught (kAW (v_3_12 (List.mem_of_getElem? (i := 7) rfl)) rfl) (rfl : vwCl[11]? = some (RX11, TX11, 16)) rfl lb_0.1 (shO hP.1 lb_0) (p_X11_taught _ _ cA ad g a13824 a13826 a13828  hP.1 hP.2.1) ⟨by decide, by decide⟩ rfl rfl hl.1 (Nat.le_of_ble_eq_true rfl) dL_law_1196 (fun v g1 H locs hp hW => ?_)
  obtain ⟨r1, rfl, hs1, hG1, hf1⟩ := hp
  have hP0 := hP
  have hP : PI ad cA g1 := PI_fr hP0 hs1 hG1 hf1 (by first | decide | omega) (by first | decide | omega) (by first | decide | omega) (by first | decide | omega) (by first | decide | omega) (by first | decide | omega) (by first | decide | omega) (by first | decide | omega) (by first | decide | omega)
  refine q_pop hM dL_law_1199 rfl ?_
  refine q_aload_n hM dL_law_1200 (lv_at hl 1 rfl) ?_
  refine q_aload_n hM dL_law_1201 (lv_at hl 3 rfl) ?_
  refine q_iload_n hM dL_law_1202 (lv_at hl 0 rfl) ?_
  refine q_iconst (v := (1 : Int32)) hM dL_law_1203 (by decide) ?_
  refine q_iadd hM dL_law_1204 (fun z13829 hz13829 => ?_)
  have tz13829 := i_addT hz13829 (rfl : i.toInt = i.toInt) (kc_1 : (1 : Int32).toInt = 1) (by omega) (by omega)
  refine s_iald z13829.toInt.toNat hM hW hXB (by omega) (by omega) (by omega) dL_law_1205 ?_
  refine q_top (fun a13830 ha13830 => ?_)
  refine q_aload_n hM dL_law_1206 (lv_at hl 3 rfl) ?_
  refine q_iload_n hM dL_law_1207 (lv_at hl 0 rfl) ?_
  refine q_iconst (v := (2 : Int32)) hM dL_law_1208 (by decide) ?_
  refine q_iadd hM dL_law_1209 (fun z13831 hz13831 => ?_)
  have tz13831 := i_addT hz13831 (rfl : i.toInt = i.toInt) (kc_2 : (2 : Int32).toInt = 2) (by omega) (by omega)
  refine s_iald z13831.toInt.toNat hM hW hXB (by omega) (by omega) (by omega) dL_law_1210 ?_
  refine q_top (fun a13832 ha13832 => ?_)
  refine q_aload_n hM dL_law_1211 (lv_at hl 3 rfl) ?_
  refine q_iload_n hM dL_law_1212 (lv_at hl 0 rfl) ?_
  refine q_iconst (v := (3 : Int32)) hM dL_law_1213 (by decide) ?_
  refine q_iadd hM dL_law_1214 (fun z13833 hz13833 => ?_)
  have tz13833 := i_addT hz13833 (rfl : i.toInt = i.toInt) (kc_3 : (3 : Int32).toInt = 3) (by omega) (by omega)
  refine s_iald z13833.toInt.toNat hM hW hXB (by omega) (by omega) (by omega) dL_law_1215 ?_
  refine q_top (fun a13834 ha13834 => ?_)
  refine q_callV (As := [.int a13830, .int a13832, .int a13834]) (rest := []) hM hW hR hC myX12_taught (kAW (v_7_2 (List.mem_of_getElem? (i := 5) rfl)) rfl) (rfl : vwCl[12]? = some (RX12, TX12, 86)) rfl lb_129.1 (shO hP.1 lb_129) (p_X12_taught _ _ cA ad g1 a13830 a13832 a13834 hP.1 hP.2.1) ⟨by decide, by decide⟩ rfl rfl hl.1 (Nat.le_of_ble_eq_true rfl) dL_law_1216 (fun v g2 H locs hp hW => ?_)
  obtain ⟨r2, rfl, hs2, hG2, hf2⟩ := hp
  have hP1 := hP
  have hP : PI ad cA g2 := PI_fr hP1 hs2 hG2 hf2 (by first | decide | omega) (by first | decide | omega) (by first | decide | omega) (by first | decide | omega) (by first | decide | omega) (by first | decide | omega) (by first | decide | omega) (by first | decide | omega) (by first | decide | omega)
  have qa13830 : a13830 = a13824 := by rw [ha13830, ha13824]; congr 1; omega
  have qa13832 : a13832 = a13826 := by rw [ha13832, ha13826]; congr 1; omega
  have qa13834 : a13834 = a13828 := by rw [ha13834, ha13828]; congr 1; omega
  refine q_pop hM dL_law_1219 rfl ?_
  refine q_goto (tgt := 1457) hM dL_law_1220 (by decide) ?_
  exact kk _ _ _ _ hP ⟨(by rw [show fI g2 3 2 = fI g 3 2 from (FRf hf1 hf2 (by first | decide | omega) (by first | decide | omega)), show arI g2 131 = arI g 131 from ((hf2.2.1 131 (by first | decide | omega)).trans (hf1.2.1 131 (by first | decide | omega)))]; exact hRl.1), (by rw [show fI g2 18 3 = fI g 18 3 from (FRf hf1 hf2 (by first | decide | omega) (by first | decide | omega)), show arI g2 158 = arI g 158 from ((hf2.2.1 158 (by first | decide | omega)).trans (hf1.2.1 158 (by first | decide | omega)))]; exact hRl.2.1), (by rw [show fI g2 30 3 = fI g 30 3 from (FRf hf1 hf2 (by first | decide | omega) (by first | decide | omega)), show arI g2 162 = arI g 162 from ((hf2.2.1 162 (by first | decide | omega)).trans (hf1.2.1 162 (by first | decide | omega)))]; exact hRl.2.2.1), (((FRf hf1 hf2 (by first | decide | omega) (by first | decide | omega))).trans (hRl.2.2.2.1.trans ((FRf hf1 hf2 (by first | decide | omega) (by first | decide | omega))).symm)), (((FRf hf1 hf2 (by first | decide | omega) (by first | decide | omega))).trans (hRl.2.2.2.2.1.trans ((FRf hf1 hf2 (by first | decide | omega) (by first | decide | omega))).symm)), (((FRf hf1 hf2 (by first | decide | omega) (by first | decide | omega))).trans (hRl.2.2.2.2.2.trans (congrFun ((hf2.2.1 166 (by first | decide | omega)).trans (hf1.2.1 166 (by first | decide | omega))) 1).symm))⟩ hW hl

set_option maxRecDepth 100000 in
set_option maxHeartbeats 4000000 in
theorem lc_hummed {K : KT} {cA : Nat → ClassId} {ad : Nat → Nat} {b L : Nat} {xs : Nat → Int32} {H : Heap} {locs : List Loc} {ls : Array Slot} {g : Nat → va_E} {i : Int32} (hM : MB K cA code 4 R_law) (hXB : XB K b L xs) (hL : L ≤ 3072) (hR : HasRoom K 2048 84000) (hC : Cells K 600000 7302250) (hP : PI ad cA g) (hRl : RP g) (hi0 : 0 ≤ i.toInt) (hi : i.toInt + 6 ≤ L) (hW : WB NN ad K g H locs) (hl : lv_has ls 4 [(3, .int i), (2, .ref (ad 129)), (1, .ref (ad 0)), (0, .ref b)]) (kk : ∀ (g : Nat → va_E) (H : Heap) (locs : List Loc) (ls : Array Slot), PI ad cA g → RP g → WB NN ad K g H locs → lv_has ls 4 [(3, .int i), (2, .ref (ad 129)), (1, .ref (ad 0)), (0, .ref b)] → XX K 600000 7302250 H locs 1457 ls []) : XX K 600000 7302250 H locs 1223 ls [] := by
  have hLn : L < 1000000 := by omega
  obtain ⟨lw, lwn, hlc, h13, h14⟩ := id hP.2.2.1
  refine q_aload_n hM dL_law_1223 (lv_at hl 2 rfl) ?_
  refine q_aload_n hM dL_law_1224 (lv_at hl 3 rfl) ?_
  refine q_iload_n hM dL_law_1225 (lv_at hl 0 rfl) ?_
  refine q_iconst (v := (1 : Int32)) hM dL_law_1226 (by decide) ?_
  refine q_iadd hM dL_law_1227 (fun z13835 hz13835 => ?_)
  have tz13835 := i_addT hz13835 (rfl : i.toInt = i.toInt) (kc_1 : (1 : Int32).toInt = 1) (by omega) (by omega)
  refine s_iald z13835.toInt.toNat hM hW hXB (by omega) (by omega) (by omega) dL_law_1228 ?_
  refine q_top (fun a13836 ha13836 => ?_)
  refine q_aload_n hM dL_law_1229 (lv_at hl 3 rfl) ?_
  refine q_iload_n hM dL_law_1230 (lv_at hl 0 rfl) ?_
  refine q_iconst (v := (2 : Int32)) hM dL_law_1231 (by decide) ?_
  refine q_iadd hM dL_law_1232 (fun z13837 hz13837 => ?_)
  have tz13837 := i_addT hz13837 (rfl : i.toInt = i.toInt) (kc_2 : (2 : Int32).toInt = 2) (by omega) (by omega)
  refine s_iald z13837.toInt.toNat hM hW hXB (by omega) (by omega) (by omega) dL_law_1233 ?_
  refine q_top (fun a13838 ha13838 => ?_)
  refine q_aload_n hM dL_law_1234 (lv_at hl 3 rfl) ?_
  refine q_iload_n hM dL_law_1235 (lv_at hl 0 rfl) ?_
  refine q_iconst (v := (3 : Int32)) hM dL_law_1236 (by decide) ?_
  refine q_iadd hM dL_law_1237 (fun z13839 hz13839 => ?_)
  have tz13839 := i_addT hz13839 (rfl : i.toInt = i.toInt) (kc_3 : (3 : Int32).toInt = 3) (by omega) (by omega)
  refine s_iald z13839.toInt.toNat hM hW hXB (by omega) (by omega) (by omega) dL_law_1238 ?_
  refine q_top (fun a13840 ha13840 => ?_)
  refine q_callV (As := [.int a13836, .int a13838, .int a13840]) (rest := []) hM hW hR hC myX11_hummed (kAW (v_3_13 (List.mem_of_getElem? (i := 8) rfl)) rfl) (rfl : vwCl[11]? = some (RX11, TX11, 16)) rfl lb_0.1 (shO hP.1 lb_0) (p_X11_hummed _ _ cA ad g a13836 a13838 a13840  hP.1 hP.2.1) ⟨by decide, by decide⟩ rfl rfl hl.1 (Nat.le_of_ble_eq_true rfl) dL_law_1239 (fun v g1 H locs hp hW => ?_)
  obtain ⟨r1, rfl, hs1, hG1, hf1⟩ := hp
  have hP0 := hP
  have hP : PI ad cA g1 := PI_fr hP0 hs1 hG1 hf1 (by first | decide | omega) (by first | decide | omega) (by first | decide | omega) (by first | decide | omega) (by first | decide | omega) (by first | decide | omega) (by first | decide | omega) (by first | decide | omega) (by first | decide | omega)
  refine q_pop hM dL_law_1242 rfl ?_
  refine q_aload_n hM dL_law_1243 (lv_at hl 1 rfl) ?_
  refine q_aload_n hM dL_law_1244 (lv_at hl 3 rfl) ?_
  refine q_iload_n hM dL_law_1245 (lv_at hl 0 rfl) ?_
  refine q_iconst (v := (1 : Int32)) hM dL_law_1246 (by decide) ?_
  refine q_iadd hM dL_law_1247 (fun z13841 hz13841 => ?_)
  have tz13841 := i_addT hz13841 (rfl : i.toInt = i.toInt) (kc_1 : (1 : Int32).toInt = 1) (by omega) (by omega)
  refine s_iald z13841.toInt.toNat hM hW hXB (by omega) (by omega) (by omega) dL_law_1248 ?_
  refine q_top (fun a13842 ha13842 => ?_)
  refine q_aload_n hM dL_law_1249 (lv_at hl 3 rfl) ?_
  refine q_iload_n hM dL_law_1250 (lv_at hl 0 rfl) ?_
  refine q_iconst (v := (2 : Int32)) hM dL_law_1251 (by decide) ?_
  refine q_iadd hM dL_law_1252 (fun z13843 hz13843 => ?_)
  have tz13843 := i_addT hz13843 (rfl : i.toInt = i.toInt) (kc_2 : (2 : Int32).toInt = 2) (by omega) (by omega)
  refine s_iald z13843.toInt.toNat hM hW hXB (by omega) (by omega) (by omega) dL_law_1253 ?_
  refine q_top (fun a13844 ha13844 => ?_)
  refine q_aload_n hM dL_law_1254 (lv_at hl 3 rfl) ?_
  refine q_iload_n hM dL_law_1255 (lv_at hl 0 rfl) ?_
  refine q_iconst (v := (3 : Int32)) hM dL_law_1256 (by decide) ?_
  refine q_iadd hM dL_law_1257 (fun z13845 hz13845 => ?_)
  have tz13845 := i_addT hz13845 (rfl : i.toInt = i.toInt) (kc_3 : (3 : Int32).toInt = 3) (by omega) (by omega)
  refine s_iald z13845.toInt.toNat hM hW hXB (by omega) (by omega) (by omega) dL_law_1258 ?_
  refine q_top (fun a13846 ha13846 => ?_)
  refine q_callV (As := [.int a13842, .int a13844, .int a13846]) (rest := []) hM hW hR hC myX12_hummed (kAW (v_7_3 (List.mem_of_getElem? (i := 2) rfl)) rfl) (rfl : vwCl[12]? = some (RX12, TX12, 86)) rfl lb_129.1 (shO hP.1 lb_129) (p_X12_hummed _ _ cA ad g1 a13842 a13844 a13846 hP.1 hP.2.1) ⟨by decide, by decide⟩ rfl rfl hl.1 (Nat.le_of_ble_eq_true rfl) dL_law_1259 (fun v g2 H locs hp hW => ?_)
  obtain ⟨r2, rfl, hs2, hG2, hf2⟩ := hp
  have hP1 := hP
  have hP : PI ad cA g2 := PI_fr hP1 hs2 hG2 hf2 (by first | decide | omega) (by first | decide | omega) (by first | decide | omega) (by first | decide | omega) (by first | decide | omega) (by first | decide | omega) (by first | decide | omega) (by first | decide | omega) (by first | decide | omega)
  have qa13842 : a13842 = a13836 := by rw [ha13842, ha13836]; congr 1; omega
  have qa13844 : a13844 = a13838 := by rw [ha13844, ha13838]; congr 1; omega
  have qa13846 : a13846 = a13840 := by rw [ha13846, ha13840]; congr 1; omega
  refine q_pop hM dL_law_1262 rfl ?_
  refine q_goto (tgt := 1457) hM dL_law_1263 (by decide) ?_
  exact kk _ _ _ _ hP ⟨(by rw [show fI g2 3 2 = fI g 3 2 from (FRf hf1 hf2 (by first | decide | omega) (by first | decide | omega)), show arI g2 131 = arI g 131 from ((hf2.2.1 131 (by first | decide | omega)).trans (hf1.2.1 131 (by first | decide | omega)))]; exact hRl.1), (by rw [show fI g2 18 3 = fI g 18 3 from (FRf hf1 hf2 (by first | decide | omega) (by first | decide | omega)), show arI g2 158 = arI g 158 from ((hf2.2.1 158 (by first | decide | omega)).trans (hf1.2.1 158 (by first | decide | omega)))]; exact hRl.2.1), (by rw [show fI g2 30 3 = fI g 30 3 from (FRf hf1 hf2 (by first | decide | omega) (by first | decide | omega)), show arI g2 162 = arI g 162 from ((hf2.2.1 162 (by first | decide | omega)).trans (hf1.2.1 162 (by first | decide | omega)))]; exact hRl.2.2.1), (((FRf hf1 hf2 (by first | decide | omega) (by first | decide | omega))).trans (hRl.2.2.2.1.trans ((FRf hf1 hf2 (by first | decide | omega) (by first | decide | omega))).symm)), (((FRf hf1 hf2 (by first | decide | omega) (by first | decide | omega))).trans (hRl.2.2.2.2.1.trans ((FRf hf1 hf2 (by first | decide | omega) (by first | decide | omega))).symm)), (((FRf hf1 hf2 (by first | decide | omega) (by first | decide | omega))).trans (hRl.2.2.2.2.2.trans (congrFun ((hf2.2.1 166 (by first | decide | omega)).trans (hf1.2.1 166 (by first | decide | omega))) 1).symm))⟩ hW hl

set_option maxRecDepth 100000 in
set_option maxHeartbeats 4000000 in
theorem lc_odds {K : KT} {cA : Nat → ClassId} {ad : Nat → Nat} {b L : Nat} {xs : Nat → Int32} {H : Heap} {locs : List Loc} {ls : Array Slot} {g : Nat → va_E} {i : Int32} (hM : MB K cA code 4 R_law) (hXB : XB K b L xs) (hL : L ≤ 3072) (hR : HasRoom K 2048 84000) (hC : Cells K 600000 7302250) (hP : PI ad cA g) (hRl : RP g) (hi0 : 0 ≤ i.toInt) (hi : i.toInt + 6 ≤ L) (hW : WB NN ad K g H locs) (hl : lv_has ls 4 [(3, .int i), (2, .ref (ad 129)), (1, .ref (ad 0)), (0, .ref b)]) (kk : ∀ (g : Nat → va_E) (H : Heap) (locs : List Loc) (ls : Array Slot), PI ad cA g → RP g → WB NN ad K g H locs → lv_has ls 4 [(3, .int i), (2, .ref (ad 129)), (1, .ref (ad 0)), (0, .ref b)] → XX K 600000 7302250 H locs 1457 ls []) : XX K 600000 7302250 H locs 1266 ls [] := by
  have hLn : L < 1000000 := by omega
  obtain ⟨lw, lwn, hlc, h13, h14⟩ := id hP.2.2.1
  refine q_aload_n hM dL_law_1266 (lv_at hl 2 rfl) ?_
  refine q_aload_n hM dL_law_1267 (lv_at hl 3 rfl) ?_
  refine q_iload_n hM dL_law_1268 (lv_at hl 0 rfl) ?_
  refine q_iconst (v := (1 : Int32)) hM dL_law_1269 (by decide) ?_
  refine q_iadd hM dL_law_1270 (fun z13847 hz13847 => ?_)
  have tz13847 := i_addT hz13847 (rfl : i.toInt = i.toInt) (kc_1 : (1 : Int32).toInt = 1) (by omega) (by omega)
  refine s_iald z13847.toInt.toNat hM hW hXB (by omega) (by omega) (by omega) dL_law_1271 ?_
  refine q_top (fun a13848 ha13848 => ?_)
  refine q_aload_n hM dL_law_1272 (lv_at hl 3 rfl) ?_
  refine q_iload_n hM dL_law_1273 (lv_at hl 0 rfl) ?_
  refine q_iconst (v := (2 : Int32)) hM dL_law_1274 (by decide) ?_
  refine q_iadd hM dL_law_1275 (fun z13849 hz13849 => ?_)
  have tz13849 := i_addT hz13849 (rfl : i.toInt = i.toInt) (kc_2 : (2 : Int32).toInt = 2) (by omega) (by omega)
  refine s_iald z13849.toInt.toNat hM hW hXB (by omega) (by omega) (by omega) dL_law_1276 ?_
  refine q_top (fun a13850 ha13850 => ?_)
  refine q_aload_n hM dL_law_1277 (lv_at hl 3 rfl) ?_
  refine q_iload_n hM dL_law_1278 (lv_at hl 0 rfl) ?_
  refine q_iconst (v := (3 : Int32)) hM dL_law_1279 (by decide) ?_
  refine q_iadd hM dL_law_1280 (fun z13851 hz13851 => ?_)
  have tz13851 := i_addT hz13851 (rfl : i.toInt = i.toInt) (kc_3 : (3 : Int32).toInt = 3) (by omega) (by omega)
  refine s_iald z13851.toInt.toNat hM hW hXB (by omega) (by omega) (by omega) dL_law_1281 ?_
  refine q_top (fun a13852 ha13852 => ?_)
  refine q_aload_n hM dL_law_1282 (lv_at hl 3 rfl) ?_
  refine q_iload_n hM dL_law_1283 (lv_at hl 0 rfl) ?_
  refine q_iconst (v := (4 : Int32)) hM dL_law_1284 (by decide) ?_
  refine q_iadd hM dL_law_1285 (fun z13853 hz13853 => ?_)
  have tz13853 := i_addT hz13853 (rfl : i.toInt = i.toInt) (kc_4 : (4 : Int32).toInt = 4) (by omega) (by omega)
  refine s_iald z13853.toInt.toNat hM hW hXB (by omega) (by omega) (by omega) dL_law_1286 ?_
  refine q_top (fun a13854 ha13854 => ?_)
  refine q_callV (As := [.int a13848, .int a13850, .int a13852, .int a13854]) (rest := []) hM hW hR hC myX11_odds (kAW (v_3_14 (List.mem_of_getElem? (i := 8) rfl)) rfl) (rfl : vwCl[11]? = some (RX11, TX11, 16)) rfl lb_0.1 (shO hP.1 lb_0) (p_X11_odds _ _ cA ad g a13848 a13850 a13852 a13854  hP.1 hP.2.1) ⟨by decide, by decide⟩ rfl rfl hl.1 (Nat.le_of_ble_eq_true rfl) dL_law_1287 (fun v g1 H locs hp hW => ?_)
  obtain ⟨r1, rfl, hs1, hG1, hf1⟩ := hp
  have hP0 := hP
  have hP : PI ad cA g1 := PI_fr hP0 hs1 hG1 hf1 (by first | decide | omega) (by first | decide | omega) (by first | decide | omega) (by first | decide | omega) (by first | decide | omega) (by first | decide | omega) (by first | decide | omega) (by first | decide | omega) (by first | decide | omega)
  refine q_pop hM dL_law_1290 rfl ?_
  refine q_aload_n hM dL_law_1291 (lv_at hl 1 rfl) ?_
  refine q_aload_n hM dL_law_1292 (lv_at hl 3 rfl) ?_
  refine q_iload_n hM dL_law_1293 (lv_at hl 0 rfl) ?_
  refine q_iconst (v := (1 : Int32)) hM dL_law_1294 (by decide) ?_
  refine q_iadd hM dL_law_1295 (fun z13855 hz13855 => ?_)
  have tz13855 := i_addT hz13855 (rfl : i.toInt = i.toInt) (kc_1 : (1 : Int32).toInt = 1) (by omega) (by omega)
  refine s_iald z13855.toInt.toNat hM hW hXB (by omega) (by omega) (by omega) dL_law_1296 ?_
  refine q_top (fun a13856 ha13856 => ?_)
  refine q_aload_n hM dL_law_1297 (lv_at hl 3 rfl) ?_
  refine q_iload_n hM dL_law_1298 (lv_at hl 0 rfl) ?_
  refine q_iconst (v := (2 : Int32)) hM dL_law_1299 (by decide) ?_
  refine q_iadd hM dL_law_1300 (fun z13857 hz13857 => ?_)
  have tz13857 := i_addT hz13857 (rfl : i.toInt = i.toInt) (kc_2 : (2 : Int32).toInt = 2) (by omega) (by omega)
  refine s_iald z13857.toInt.toNat hM hW hXB (by omega) (by omega) (by omega) dL_law_1301 ?_
  refine q_top (fun a13858 ha13858 => ?_)
  refine q_aload_n hM dL_law_1302 (lv_at hl 3 rfl) ?_
  refine q_iload_n hM dL_law_1303 (lv_at hl 0 rfl) ?_
  refine q_iconst (v := (3 : Int32)) hM dL_law_1304 (by decide) ?_
  refine q_iadd hM dL_law_1305 (fun z13859 hz13859 => ?_)
  have tz13859 := i_addT hz13859 (rfl : i.toInt = i.toInt) (kc_3 : (3 : Int32).toInt = 3) (by omega) (by omega)
  refine s_iald z13859.toInt.toNat hM hW hXB (by omega) (by omega) (by omega) dL_law_1306 ?_
  refine q_top (fun a13860 ha13860 => ?_)
  refine q_aload_n hM dL_law_1307 (lv_at hl 3 rfl) ?_
  refine q_iload_n hM dL_law_1308 (lv_at hl 0 rfl) ?_
  refine q_iconst (v := (4 : Int32)) hM dL_law_1309 (by decide) ?_
  refine q_iadd hM dL_law_1310 (fun z13861 hz13861 => ?_)
  have tz13861 := i_addT hz13861 (rfl : i.toInt = i.toInt) (kc_4 : (4 : Int32).toInt = 4) (by omega) (by omega)
  refine s_iald z13861.toInt.toNat hM hW hXB (by omega) (by omega) (by omega) dL_law_1311 ?_
  refine q_top (fun a13862 ha13862 => ?_)
  refine q_callV (As := [.int a13856, .int a13858, .int a13860, .int a13862]) (rest := []) hM hW hR hC myX12_odds (kAW (v_7_4 (List.mem_of_getElem? (i := 3) rfl)) rfl) (rfl : vwCl[12]? = some (RX12, TX12, 86)) rfl lb_129.1 (shO hP.1 lb_129) (p_X12_odds _ _ cA ad g1 a13856 a13858 a13860 a13862 hP.1 hP.2.1) ⟨by decide, by decide⟩ rfl rfl hl.1 (Nat.le_of_ble_eq_true rfl) dL_law_1312 (fun v g2 H locs hp hW => ?_)
  obtain ⟨r2, rfl, hs2, hG2, hf2⟩ := hp
  have hP1 := hP
  have hP : PI ad cA g2 := PI_fr hP1 hs2 hG2 hf2 (by first | decide | omega) (by first | decide | omega) (by first | decide | omega) (by first | decide | omega) (by first | decide | omega) (by first | decide | omega) (by first | decide | omega) (by first | decide | omega) (by first | decide | omega)
  have qa13856 : a13856 = a13848 := by rw [ha13856, ha13848]; congr 1; omega
  have qa13858 : a13858 = a13850 := by rw [ha13858, ha13850]; congr 1; omega
  have qa13860 : a13860 = a13852 := by rw [ha13860, ha13852]; congr 1; omega
  have qa13862 : a13862 = a13854 := by rw [ha13862, ha13854]; congr 1; omega
  refine q_pop hM dL_law_1315 rfl ?_
  refine q_goto (tgt := 1457) hM dL_law_1316 (by decide) ?_
  exact kk _ _ _ _ hP ⟨(by rw [show fI g2 3 2 = fI g 3 2 from (FRf hf1 hf2 (by first | decide | omega) (by first | decide | omega)), show arI g2 131 = arI g 131 from ((hf2.2.1 131 (by first | decide | omega)).trans (hf1.2.1 131 (by first | decide | omega)))]; exact hRl.1), (by rw [show fI g2 18 3 = fI g 18 3 from (FRf hf1 hf2 (by first | decide | omega) (by first | decide | omega)), show arI g2 158 = arI g 158 from ((hf2.2.1 158 (by first | decide | omega)).trans (hf1.2.1 158 (by first | decide | omega)))]; exact hRl.2.1), (by rw [show fI g2 30 3 = fI g 30 3 from (FRf hf1 hf2 (by first | decide | omega) (by first | decide | omega)), show arI g2 162 = arI g 162 from ((hf2.2.1 162 (by first | decide | omega)).trans (hf1.2.1 162 (by first | decide | omega)))]; exact hRl.2.2.1), (((FRf hf1 hf2 (by first | decide | omega) (by first | decide | omega))).trans (hRl.2.2.2.1.trans ((FRf hf1 hf2 (by first | decide | omega) (by first | decide | omega))).symm)), (((FRf hf1 hf2 (by first | decide | omega) (by first | decide | omega))).trans (hRl.2.2.2.2.1.trans ((FRf hf1 hf2 (by first | decide | omega) (by first | decide | omega))).symm)), (((FRf hf1 hf2 (by first | decide | omega) (by first | decide | omega))).trans (hRl.2.2.2.2.2.trans (congrFun ((hf2.2.1 166 (by first | decide | omega)).trans (hf1.2.1 166 (by first | decide | omega))) 1).symm))⟩ hW hl

set_option maxRecDepth 100000 in
set_option maxHeartbeats 4000000 in
theorem lc_crib {K : KT} {cA : Nat → ClassId} {ad : Nat → Nat} {b L : Nat} {xs : Nat → Int32} {H : Heap} {locs : List Loc} {ls : Array Slot} {g : Nat → va_E} {i : Int32} (hM : MB K cA code 4 R_law) (hXB : XB K b L xs) (hL : L ≤ 3072) (hR : HasRoom K 2048 84000) (hC : Cells K 600000 7302250) (hP : PI ad cA g) (hRl : RP g) (hi0 : 0 ≤ i.toInt) (hi : i.toInt + 6 ≤ L) (hW : WB NN ad K g H locs) (hl : lv_has ls 4 [(3, .int i), (2, .ref (ad 129)), (1, .ref (ad 0)), (0, .ref b)]) (kk : ∀ (g : Nat → va_E) (H : Heap) (locs : List Loc) (ls : Array Slot), PI ad cA g → RP g → WB NN ad K g H locs → lv_has ls 4 [(3, .int i), (2, .ref (ad 129)), (1, .ref (ad 0)), (0, .ref b)] → XX K 600000 7302250 H locs 1457 ls []) : XX K 600000 7302250 H locs 1319 ls [] := by
  have hLn : L < 1000000 := by omega
  obtain ⟨lw, lwn, hlc, h13, h14⟩ := id hP.2.2.1
  refine q_aload_n hM dL_law_1319 (lv_at hl 2 rfl) ?_
  refine q_aload_n hM dL_law_1320 (lv_at hl 3 rfl) ?_
  refine q_iload_n hM dL_law_1321 (lv_at hl 0 rfl) ?_
  refine q_iconst (v := (1 : Int32)) hM dL_law_1322 (by decide) ?_
  refine q_iadd hM dL_law_1323 (fun z13863 hz13863 => ?_)
  have tz13863 := i_addT hz13863 (rfl : i.toInt = i.toInt) (kc_1 : (1 : Int32).toInt = 1) (by omega) (by omega)
  refine s_iald z13863.toInt.toNat hM hW hXB (by omega) (by omega) (by omega) dL_law_1324 ?_
  refine q_top (fun a13864 ha13864 => ?_)
  refine q_aload_n hM dL_law_1325 (lv_at hl 3 rfl) ?_
  refine q_iload_n hM dL_law_1326 (lv_at hl 0 rfl) ?_
  refine q_iconst (v := (2 : Int32)) hM dL_law_1327 (by decide) ?_
  refine q_iadd hM dL_law_1328 (fun z13865 hz13865 => ?_)
  have tz13865 := i_addT hz13865 (rfl : i.toInt = i.toInt) (kc_2 : (2 : Int32).toInt = 2) (by omega) (by omega)
  refine s_iald z13865.toInt.toNat hM hW hXB (by omega) (by omega) (by omega) dL_law_1329 ?_
  refine q_top (fun a13866 ha13866 => ?_)
  refine q_callV (As := [.int a13864, .int a13866]) (rest := []) hM hW hR hC myX11_crib (kAW (v_4_0 (List.mem_of_getElem? (i := 13) rfl)) rfl) (rfl : vwCl[11]? = some (RX11, TX11, 16)) rfl lb_0.1 (shO hP.1 lb_0) (p_X11_crib _ _ cA ad g a13864 a13866 lw hP.1 hP.2.1 (by unfold isLw; omega) h13) ⟨by decide, by decide⟩ rfl rfl hl.1 (Nat.le_of_ble_eq_true rfl) dL_law_1330 (fun v g1 H locs hp hW => ?_)
  obtain ⟨r1, rfl, hs1, hG1, hf1⟩ := hp
  have hP0 := hP
  have hP : PI ad cA g1 := PI_fr hP0 hs1 hG1 hf1 (by omega) (by omega) (by omega) (by omega) (by omega) (by omega) (by omega) (by omega) (by omega)
  refine q_pop hM dL_law_1333 rfl ?_
  refine q_aload_n hM dL_law_1334 (lv_at hl 1 rfl) ?_
  refine q_aload_n hM dL_law_1335 (lv_at hl 3 rfl) ?_
  refine q_iload_n hM dL_law_1336 (lv_at hl 0 rfl) ?_
  refine q_iconst (v := (1 : Int32)) hM dL_law_1337 (by decide) ?_
  refine q_iadd hM dL_law_1338 (fun z13867 hz13867 => ?_)
  have tz13867 := i_addT hz13867 (rfl : i.toInt = i.toInt) (kc_1 : (1 : Int32).toInt = 1) (by omega) (by omega)
  refine s_iald z13867.toInt.toNat hM hW hXB (by omega) (by omega) (by omega) dL_law_1339 ?_
  refine q_top (fun a13868 ha13868 => ?_)
  refine q_aload_n hM dL_law_1340 (lv_at hl 3 rfl) ?_
  refine q_iload_n hM dL_law_1341 (lv_at hl 0 rfl) ?_
  refine q_iconst (v := (2 : Int32)) hM dL_law_1342 (by decide) ?_
  refine q_iadd hM dL_law_1343 (fun z13869 hz13869 => ?_)
  have tz13869 := i_addT hz13869 (rfl : i.toInt = i.toInt) (kc_2 : (2 : Int32).toInt = 2) (by omega) (by omega)
  refine s_iald z13869.toInt.toNat hM hW hXB (by omega) (by omega) (by omega) dL_law_1344 ?_
  refine q_top (fun a13870 ha13870 => ?_)
  refine q_callV (As := [.int a13868, .int a13870]) (rest := []) hM hW hR hC myX12_crib (kAW (v_7_4 (List.mem_of_getElem? (i := 10) rfl)) rfl) (rfl : vwCl[12]? = some (RX12, TX12, 86)) rfl lb_129.1 (shO hP.1 lb_129) (p_X12_crib _ _ cA ad g1 a13868 a13870 hP.1 hP.2.1 hP.2.2.2.1.1) ⟨by decide, by decide⟩ rfl rfl hl.1 (Nat.le_of_ble_eq_true rfl) dL_law_1345 (fun v g2 H locs hp hW => ?_)
  obtain ⟨r2, rfl, hs2, hG2, hf2⟩ := hp
  have hP1 := hP
  have hP : PI ad cA g2 := PI_fr hP1 hs2 hG2 hf2 (by first | decide | omega) (by first | decide | omega) (by first | decide | omega) (by first | decide | omega) (by first | decide | omega) (by first | decide | omega) (by first | decide | omega) (by first | decide | omega) (by first | decide | omega)
  have qa13868 : a13868 = a13864 := by rw [ha13868, ha13864]; congr 1; omega
  have qa13870 : a13870 = a13866 := by rw [ha13870, ha13866]; congr 1; omega
  refine q_pop hM dL_law_1348 rfl ?_
  refine q_goto (tgt := 1457) hM dL_law_1349 (by decide) ?_
  exact kk _ _ _ _ hP ⟨(by rw [show fI g2 3 2 = fI g 3 2 from (FRf hf1 hf2 (by omega) (by first | decide | omega)), show arI g2 131 = arI g 131 from ((hf2.2.1 131 (by first | decide | omega)).trans (hf1.2.1 131 (by omega)))]; exact hRl.1), (by rw [show fI g2 18 3 = fI g 18 3 from (FRf hf1 hf2 (by omega) (by first | decide | omega)), show arI g2 158 = arI g 158 from ((hf2.2.1 158 (by first | decide | omega)).trans (hf1.2.1 158 (by omega)))]; exact hRl.2.1), (by rw [show fI g2 30 3 = fI g 30 3 from (FRf hf1 hf2 (by omega) (by first | decide | omega)), show arI g2 162 = arI g 162 from ((hf2.2.1 162 (by first | decide | omega)).trans (hf1.2.1 162 (by omega)))]; exact hRl.2.2.1), (((FRf hf1 hf2 (by omega) (by first | decide | omega))).trans (hRl.2.2.2.1.trans ((FRf hf1 hf2 (by omega) (by first | decide | omega))).symm)), (((FRf hf1 hf2 (by omega) (by first | decide | omega))).trans (hRl.2.2.2.2.1.trans ((FRf hf1 hf2 (by omega) (by first | decide | omega))).symm)), (((FRf hf1 hf2 (by omega) (by first | decide | omega))).trans (hRl.2.2.2.2.2.trans (congrFun ((hf2.2.1 166 (by first | decide | omega)).trans (hf1.2.1 166 (by omega))) 1).symm))⟩ hW hl
