set_option maxRecDepth 100000 in
set_option maxHeartbeats 4000000 in
theorem lc_root {K : KT} {cA : Nat → ClassId} {ad : Nat → Nat} {b L : Nat} {xs : Nat → Int32} {H : Heap} {locs : List Loc} {ls : Array Slot} {g : Nat → va_E} {i : Int32} (hM : MB K cA code 4 R_law) (hXB : XB K b L xs) (hL : L ≤ 3072) (hR : HasRoom K 2048 84000) (hC : Cells K 600000 7302250) (hP : PI ad cA g) (hRl : RQ g) (hi0 : 0 ≤ i.toInt) (hi : i.toInt + 6 ≤ L) (hW : WB NN ad K g H locs) (hl : lv_has ls 4 [(3, .int i), (2, .ref (ad 129)), (1, .ref (ad 0)), (0, .ref b)]) (kk : ∀ (g : Nat → va_E) (H : Heap) (locs : List Loc) (ls : Array Slot), PI ad cA g → RQ g → WB NN ad K g H locs → lv_has ls 4 [(3, .int i), (2, .ref (ad 129)), (1, .ref (ad 0)), (0, .ref b)] → XX K 600000 7302250 H locs 1457 ls []) : XX K 600000 7302250 H locs 992 ls [] := by
  have hLn : L < 1000000 := by omega
  obtain ⟨lw, lwn, hlc, h13, h14⟩ := id hP.2.2.1
  refine q_aload_n hM dL_law_992 (lv_at hl 2 rfl) ?_
  refine q_callV (As := []) (rest := []) hM hW hR hC myX11_root (kAW (v_3_8 (List.mem_of_getElem? (i := 10) rfl)) rfl) (rfl : vwCl[11]? = some (RX11, TX11, 16)) rfl lb_0.1 (shO hP.1 lb_0) (p_X11_root _ _ cA ad g   hP.1 hP.2.1) ⟨by decide, by decide⟩ rfl rfl hl.1 (Nat.le_of_ble_eq_true rfl) dL_law_993 (fun v g1 H locs hp hW => ?_)
  obtain ⟨r1, rfl, hs1, hG1, hf1⟩ := hp
  have hP0 := hP
  have hP : PI ad cA g1 := PI_fr hP0 hs1 hG1 hf1 (fun h => h) (fun h => h) (fun h => h) (fun h => h) (fun h => h) (fun h => h) (fun h => h) (fun h => h) (fun h => h)
  refine q_pop hM dL_law_996 rfl ?_
  refine q_aload_n hM dL_law_997 (lv_at hl 1 rfl) ?_
  refine q_callV (As := []) (rest := []) hM hW hR hC myX12_root (kAW (v_5_6 (List.mem_of_getElem? (i := 10) rfl)) rfl) (rfl : vwCl[12]? = some (RX12, TX12, 86)) rfl lb_129.1 (shO hP.1 lb_129) (p_X12_root _ _ cA ad g1  hP.1 hP.2.1) ⟨by decide, by decide⟩ rfl rfl hl.1 (Nat.le_of_ble_eq_true rfl) dL_law_998 (fun v g2 H locs hp hW => ?_)
  obtain ⟨r2, rfl, hs2, hG2, hf2⟩ := hp
  have hP1 := hP
  have hP : PI ad cA g2 := PI_fr hP1 hs2 hG2 hf2 (fun h => h) (fun h => h) (fun h => h) (fun h => h) (fun h => h) (fun h => h) (fun h => h) (fun h => h) (fun h => h)
  refine q_pop hM dL_law_1001 rfl ?_
  refine q_goto (tgt := 1457) hM dL_law_1002 (by decide) ?_
  exact kk _ _ _ _ hP ⟨⟨(by rw [show fI g2 3 2 = fI g 3 2 from (FRf hf1 hf2 (fun h => h) (fun h => h)), show arI g2 131 = arI g 131 from ((hf2.2.1 131 (fun h => h)).trans (hf1.2.1 131 (fun h => h)))]; exact hRl.1.1), (by rw [show fI g2 18 3 = fI g 18 3 from (FRf hf1 hf2 (fun h => h) (fun h => h)), show arI g2 158 = arI g 158 from ((hf2.2.1 158 (fun h => h)).trans (hf1.2.1 158 (fun h => h)))]; exact hRl.1.2.1), (by rw [show fI g2 30 3 = fI g 30 3 from (FRf hf1 hf2 (fun h => h) (fun h => h)), show arI g2 162 = arI g 162 from ((hf2.2.1 162 (fun h => h)).trans (hf1.2.1 162 (fun h => h)))]; exact hRl.1.2.2.1), (((FRf hf1 hf2 (fun h => h) (fun h => h))).trans (hRl.1.2.2.2.1.trans ((FRf hf1 hf2 (fun h => h) (fun h => h))).symm)), (((FRf hf1 hf2 (fun h => h) (fun h => h))).trans (hRl.1.2.2.2.2.1.trans ((FRf hf1 hf2 (fun h => h) (fun h => h))).symm)), (((FRf hf1 hf2 (fun h => h) (fun h => h))).trans (hRl.1.2.2.2.2.2.trans (congrFun ((hf2.2.1 166 (fun h => h)).trans (hf1.2.1 166 (fun h => h))) 1).symm))⟩, (fun k j hk hj => (congrFun ((hf2.2.1 (6 + 1 * k) (fun h => h)).trans (hf1.2.1 (6 + 1 * k) (fun h => h))) j).trans ((hRl.2 k j hk hj).trans (congrFun ((hf2.2.1 133 (fun h => h)).trans (hf1.2.1 133 (fun h => h))) _).symm))⟩ hW hl

set_option maxRecDepth 100000 in
set_option maxHeartbeats 4000000 in
theorem lc_kin {K : KT} {cA : Nat → ClassId} {ad : Nat → Nat} {b L : Nat} {xs : Nat → Int32} {H : Heap} {locs : List Loc} {ls : Array Slot} {g : Nat → va_E} {i : Int32} (hM : MB K cA code 4 R_law) (hXB : XB K b L xs) (hL : L ≤ 3072) (hR : HasRoom K 2048 84000) (hC : Cells K 600000 7302250) (hP : PI ad cA g) (hRl : RQ g) (hi0 : 0 ≤ i.toInt) (hi : i.toInt + 6 ≤ L) (hW : WB NN ad K g H locs) (hl : lv_has ls 4 [(3, .int i), (2, .ref (ad 129)), (1, .ref (ad 0)), (0, .ref b)]) (kk : ∀ (g : Nat → va_E) (H : Heap) (locs : List Loc) (ls : Array Slot), PI ad cA g → RQ g → WB NN ad K g H locs → lv_has ls 4 [(3, .int i), (2, .ref (ad 129)), (1, .ref (ad 0)), (0, .ref b)] → XX K 600000 7302250 H locs 1457 ls []) : XX K 600000 7302250 H locs 1005 ls [] := by
  have hLn : L < 1000000 := by omega
  obtain ⟨lw, lwn, hlc, h13, h14⟩ := id hP.2.2.1
  refine q_aload_n hM dL_law_1005 (lv_at hl 2 rfl) ?_
  refine q_aload_n hM dL_law_1006 (lv_at hl 3 rfl) ?_
  refine q_iload_n hM dL_law_1007 (lv_at hl 0 rfl) ?_
  refine q_iconst (v := (1 : Int32)) hM dL_law_1008 (by decide) ?_
  refine q_iadd hM dL_law_1009 (fun z13858 hz13858 => ?_)
  have tz13858 := i_addT hz13858 (rfl : i.toInt = i.toInt) (kc_1 : (1 : Int32).toInt = 1) (by omega) (by omega)
  refine s_iald z13858.toInt.toNat hM hW hXB (by omega) (by omega) (by omega) dL_law_1010 ?_
  refine q_top (fun a13859 ha13859 => ?_)
  refine q_callV (As := [.int a13859]) (rest := []) hM hW hR hC myX11_kin (kAW (v_3_8 (List.mem_of_getElem? (i := 14) rfl)) rfl) (rfl : vwCl[11]? = some (RX11, TX11, 16)) rfl lb_0.1 (shO hP.1 lb_0) (p_X11_kin _ _ cA ad g a13859  hP.1 hP.2.1) ⟨by decide, by decide⟩ rfl rfl hl.1 (Nat.le_of_ble_eq_true rfl) dL_law_1011 (fun v g1 H locs hp hW => ?_)
  obtain ⟨r1, rfl, hs1, hG1, hf1⟩ := hp
  have hP0 := hP
  have hP : PI ad cA g1 := PI_fr hP0 hs1 hG1 hf1 (fun h => h) (fun h => h) (fun h => h) (fun h => h) (fun h => h) (fun h => h) (fun h => h) (fun h => h) (fun h => h)
  refine q_pop hM dL_law_1014 rfl ?_
  refine q_aload_n hM dL_law_1015 (lv_at hl 1 rfl) ?_
  refine q_aload_n hM dL_law_1016 (lv_at hl 3 rfl) ?_
  refine q_iload_n hM dL_law_1017 (lv_at hl 0 rfl) ?_
  refine q_iconst (v := (1 : Int32)) hM dL_law_1018 (by decide) ?_
  refine q_iadd hM dL_law_1019 (fun z13860 hz13860 => ?_)
  have tz13860 := i_addT hz13860 (rfl : i.toInt = i.toInt) (kc_1 : (1 : Int32).toInt = 1) (by omega) (by omega)
  refine s_iald z13860.toInt.toNat hM hW hXB (by omega) (by omega) (by omega) dL_law_1020 ?_
  refine q_top (fun a13861 ha13861 => ?_)
  refine q_callV (As := [.int a13861]) (rest := []) hM hW hR hC myX12_kin (kAW (v_5_7 (List.mem_of_getElem? (i := 1) rfl)) rfl) (rfl : vwCl[12]? = some (RX12, TX12, 86)) rfl lb_129.1 (shO hP.1 lb_129) (p_X12_kin _ _ cA ad g1 a13861 hP.1 hP.2.1) ⟨by decide, by decide⟩ rfl rfl hl.1 (Nat.le_of_ble_eq_true rfl) dL_law_1021 (fun v g2 H locs hp hW => ?_)
  obtain ⟨r2, rfl, hs2, hG2, hf2⟩ := hp
  have hP1 := hP
  have hP : PI ad cA g2 := PI_fr hP1 hs2 hG2 hf2 (fun h => h) (fun h => h) (fun h => h) (fun h => h) (fun h => h) (fun h => h) (fun h => h) (fun h => h) (fun h => h)
  have qa13861 : a13861 = a13859 := by rw [ha13861, ha13859]; congr 1; omega
  refine q_pop hM dL_law_1024 rfl ?_
  refine q_goto (tgt := 1457) hM dL_law_1025 (by decide) ?_
  exact kk _ _ _ _ hP ⟨⟨(by rw [show fI g2 3 2 = fI g 3 2 from (FRf hf1 hf2 (fun h => h) (fun h => h)), show arI g2 131 = arI g 131 from ((hf2.2.1 131 (fun h => h)).trans (hf1.2.1 131 (fun h => h)))]; exact hRl.1.1), (by rw [show fI g2 18 3 = fI g 18 3 from (FRf hf1 hf2 (fun h => h) (fun h => h)), show arI g2 158 = arI g 158 from ((hf2.2.1 158 (fun h => h)).trans (hf1.2.1 158 (fun h => h)))]; exact hRl.1.2.1), (by rw [show fI g2 30 3 = fI g 30 3 from (FRf hf1 hf2 (fun h => h) (fun h => h)), show arI g2 162 = arI g 162 from ((hf2.2.1 162 (fun h => h)).trans (hf1.2.1 162 (fun h => h)))]; exact hRl.1.2.2.1), (((FRf hf1 hf2 (fun h => h) (fun h => h))).trans (hRl.1.2.2.2.1.trans ((FRf hf1 hf2 (fun h => h) (fun h => h))).symm)), (((FRf hf1 hf2 (fun h => h) (fun h => h))).trans (hRl.1.2.2.2.2.1.trans ((FRf hf1 hf2 (fun h => h) (fun h => h))).symm)), (((FRf hf1 hf2 (fun h => h) (fun h => h))).trans (hRl.1.2.2.2.2.2.trans (congrFun ((hf2.2.1 166 (fun h => h)).trans (hf1.2.1 166 (fun h => h))) 1).symm))⟩, (fun k j hk hj => (congrFun ((hf2.2.1 (6 + 1 * k) (fun h => h)).trans (hf1.2.1 (6 + 1 * k) (fun h => h))) j).trans ((hRl.2 k j hk hj).trans (congrFun ((hf2.2.1 133 (fun h => h)).trans (hf1.2.1 133 (fun h => h))) _).symm))⟩ hW hl

set_option maxRecDepth 100000 in
set_option maxHeartbeats 4000000 in
theorem lc_questions {K : KT} {cA : Nat → ClassId} {ad : Nat → Nat} {b L : Nat} {xs : Nat → Int32} {H : Heap} {locs : List Loc} {ls : Array Slot} {g : Nat → va_E} {i : Int32} (hM : MB K cA code 4 R_law) (hXB : XB K b L xs) (hL : L ≤ 3072) (hR : HasRoom K 2048 84000) (hC : Cells K 600000 7302250) (hP : PI ad cA g) (hRl : RQ g) (hi0 : 0 ≤ i.toInt) (hi : i.toInt + 6 ≤ L) (hW : WB NN ad K g H locs) (hl : lv_has ls 4 [(3, .int i), (2, .ref (ad 129)), (1, .ref (ad 0)), (0, .ref b)]) (kk : ∀ (g : Nat → va_E) (H : Heap) (locs : List Loc) (ls : Array Slot), PI ad cA g → RQ g → WB NN ad K g H locs → lv_has ls 4 [(3, .int i), (2, .ref (ad 129)), (1, .ref (ad 0)), (0, .ref b)] → XX K 600000 7302250 H locs 1457 ls []) : XX K 600000 7302250 H locs 1028 ls [] := by
  have hLn : L < 1000000 := by omega
  obtain ⟨lw, lwn, hlc, h13, h14⟩ := id hP.2.2.1
  refine q_aload_n hM dL_law_1028 (lv_at hl 2 rfl) ?_
  refine q_aload_n hM dL_law_1029 (lv_at hl 3 rfl) ?_
  refine q_iload_n hM dL_law_1030 (lv_at hl 0 rfl) ?_
  refine q_iconst (v := (1 : Int32)) hM dL_law_1031 (by decide) ?_
  refine q_iadd hM dL_law_1032 (fun z13862 hz13862 => ?_)
  have tz13862 := i_addT hz13862 (rfl : i.toInt = i.toInt) (kc_1 : (1 : Int32).toInt = 1) (by omega) (by omega)
  refine s_iald z13862.toInt.toNat hM hW hXB (by omega) (by omega) (by omega) dL_law_1033 ?_
  refine q_top (fun a13863 ha13863 => ?_)
  refine q_aload_n hM dL_law_1034 (lv_at hl 3 rfl) ?_
  refine q_iload_n hM dL_law_1035 (lv_at hl 0 rfl) ?_
  refine q_iconst (v := (2 : Int32)) hM dL_law_1036 (by decide) ?_
  refine q_iadd hM dL_law_1037 (fun z13864 hz13864 => ?_)
  have tz13864 := i_addT hz13864 (rfl : i.toInt = i.toInt) (kc_2 : (2 : Int32).toInt = 2) (by omega) (by omega)
  refine s_iald z13864.toInt.toNat hM hW hXB (by omega) (by omega) (by omega) dL_law_1038 ?_
  refine q_top (fun a13865 ha13865 => ?_)
  refine q_callV (As := [.int a13863, .int a13865]) (rest := []) hM hW hR hC myX11_questions (kAW (v_3_9 (List.mem_of_getElem? (i := 14) rfl)) rfl) (rfl : vwCl[11]? = some (RX11, TX11, 16)) rfl lb_0.1 (shO hP.1 lb_0) (p_X11_questions _ _ cA ad g a13863 a13865  hP.1 hP.2.1) ⟨by decide, by decide⟩ rfl rfl hl.1 (Nat.le_of_ble_eq_true rfl) dL_law_1039 (fun v g1 H locs hp hW => ?_)
  obtain ⟨r1, rfl, hs1, hG1, hf1⟩ := hp
  have hP0 := hP
  have hP : PI ad cA g1 := PI_fr hP0 hs1 hG1 hf1 (fun h => h) (fun h => h) (fun h => h) (fun h => h) (fun h => h) (fun h => h) (fun h => h) (fun h => h) (fun h => h)
  refine q_pop hM dL_law_1042 rfl ?_
  refine q_aload_n hM dL_law_1043 (lv_at hl 1 rfl) ?_
  refine q_aload_n hM dL_law_1044 (lv_at hl 3 rfl) ?_
  refine q_iload_n hM dL_law_1045 (lv_at hl 0 rfl) ?_
  refine q_iconst (v := (1 : Int32)) hM dL_law_1046 (by decide) ?_
  refine q_iadd hM dL_law_1047 (fun z13866 hz13866 => ?_)
  have tz13866 := i_addT hz13866 (rfl : i.toInt = i.toInt) (kc_1 : (1 : Int32).toInt = 1) (by omega) (by omega)
  refine s_iald z13866.toInt.toNat hM hW hXB (by omega) (by omega) (by omega) dL_law_1048 ?_
  refine q_top (fun a13867 ha13867 => ?_)
  refine q_aload_n hM dL_law_1049 (lv_at hl 3 rfl) ?_
  refine q_iload_n hM dL_law_1050 (lv_at hl 0 rfl) ?_
  refine q_iconst (v := (2 : Int32)) hM dL_law_1051 (by decide) ?_
  refine q_iadd hM dL_law_1052 (fun z13868 hz13868 => ?_)
  have tz13868 := i_addT hz13868 (rfl : i.toInt = i.toInt) (kc_2 : (2 : Int32).toInt = 2) (by omega) (by omega)
  refine s_iald z13868.toInt.toNat hM hW hXB (by omega) (by omega) (by omega) dL_law_1053 ?_
  refine q_top (fun a13869 ha13869 => ?_)
  refine q_callV (As := [.int a13867, .int a13869]) (rest := []) hM hW hR hC myX12_questions (kAW (v_7_0 (List.mem_of_getElem? (i := 6) rfl)) rfl) (rfl : vwCl[12]? = some (RX12, TX12, 86)) rfl lb_129.1 (shO hP.1 lb_129) (p_X12_questions _ _ cA ad g1 a13867 a13869 hP.1 hP.2.1) ⟨by decide, by decide⟩ rfl rfl hl.1 (Nat.le_of_ble_eq_true rfl) dL_law_1054 (fun v g2 H locs hp hW => ?_)
  obtain ⟨r2, rfl, hs2, hG2, hf2⟩ := hp
  have hP1 := hP
  have hP : PI ad cA g2 := PI_fr hP1 hs2 hG2 hf2 (fun h => h) (fun h => h) (fun h => h) (fun h => h) (fun h => h) (fun h => h) (fun h => h) (fun h => h) (fun h => h)
  have qa13867 : a13867 = a13863 := by rw [ha13867, ha13863]; congr 1; omega
  have qa13869 : a13869 = a13865 := by rw [ha13869, ha13865]; congr 1; omega
  refine q_pop hM dL_law_1057 rfl ?_
  refine q_goto (tgt := 1457) hM dL_law_1058 (by decide) ?_
  exact kk _ _ _ _ hP ⟨⟨(by rw [show fI g2 3 2 = fI g 3 2 from (FRf hf1 hf2 (fun h => h) (fun h => h)), show arI g2 131 = arI g 131 from ((hf2.2.1 131 (fun h => h)).trans (hf1.2.1 131 (fun h => h)))]; exact hRl.1.1), (by rw [show fI g2 18 3 = fI g 18 3 from (FRf hf1 hf2 (fun h => h) (fun h => h)), show arI g2 158 = arI g 158 from ((hf2.2.1 158 (fun h => h)).trans (hf1.2.1 158 (fun h => h)))]; exact hRl.1.2.1), (by rw [show fI g2 30 3 = fI g 30 3 from (FRf hf1 hf2 (fun h => h) (fun h => h)), show arI g2 162 = arI g 162 from ((hf2.2.1 162 (fun h => h)).trans (hf1.2.1 162 (fun h => h)))]; exact hRl.1.2.2.1), (((FRf hf1 hf2 (fun h => h) (fun h => h))).trans (hRl.1.2.2.2.1.trans ((FRf hf1 hf2 (fun h => h) (fun h => h))).symm)), (((FRf hf1 hf2 (fun h => h) (fun h => h))).trans (hRl.1.2.2.2.2.1.trans ((FRf hf1 hf2 (fun h => h) (fun h => h))).symm)), (((FRf hf1 hf2 (fun h => h) (fun h => h))).trans (hRl.1.2.2.2.2.2.trans (congrFun ((hf2.2.1 166 (fun h => h)).trans (hf1.2.1 166 (fun h => h))) 1).symm))⟩, (fun k j hk hj => (congrFun ((hf2.2.1 (6 + 1 * k) (fun h => h)).trans (hf1.2.1 (6 + 1 * k) (fun h => h))) j).trans ((hRl.2 k j hk hj).trans (congrFun ((hf2.2.1 133 (fun h => h)).trans (hf1.2.1 133 (fun h => h))) _).symm))⟩ hW hl

set_option maxRecDepth 100000 in
set_option maxHeartbeats 4000000 in
theorem lc_reminds {K : KT} {cA : Nat → ClassId} {ad : Nat → Nat} {b L : Nat} {xs : Nat → Int32} {H : Heap} {locs : List Loc} {ls : Array Slot} {g : Nat → va_E} {i : Int32} (hM : MB K cA code 4 R_law) (hXB : XB K b L xs) (hL : L ≤ 3072) (hR : HasRoom K 2048 84000) (hC : Cells K 600000 7302250) (hP : PI ad cA g) (hRl : RQ g) (hi0 : 0 ≤ i.toInt) (hi : i.toInt + 6 ≤ L) (hW : WB NN ad K g H locs) (hl : lv_has ls 4 [(3, .int i), (2, .ref (ad 129)), (1, .ref (ad 0)), (0, .ref b)]) (kk : ∀ (g : Nat → va_E) (H : Heap) (locs : List Loc) (ls : Array Slot), PI ad cA g → RQ g → WB NN ad K g H locs → lv_has ls 4 [(3, .int i), (2, .ref (ad 129)), (1, .ref (ad 0)), (0, .ref b)] → XX K 600000 7302250 H locs 1457 ls []) : XX K 600000 7302250 H locs 1061 ls [] := by
  have hLn : L < 1000000 := by omega
  obtain ⟨lw, lwn, hlc, h13, h14⟩ := id hP.2.2.1
  refine q_aload_n hM dL_law_1061 (lv_at hl 2 rfl) ?_
  refine q_aload_n hM dL_law_1062 (lv_at hl 3 rfl) ?_
  refine q_iload_n hM dL_law_1063 (lv_at hl 0 rfl) ?_
  refine q_iconst (v := (1 : Int32)) hM dL_law_1064 (by decide) ?_
  refine q_iadd hM dL_law_1065 (fun z13870 hz13870 => ?_)
  have tz13870 := i_addT hz13870 (rfl : i.toInt = i.toInt) (kc_1 : (1 : Int32).toInt = 1) (by omega) (by omega)
  refine s_iald z13870.toInt.toNat hM hW hXB (by omega) (by omega) (by omega) dL_law_1066 ?_
  refine q_top (fun a13871 ha13871 => ?_)
  refine q_aload_n hM dL_law_1067 (lv_at hl 3 rfl) ?_
  refine q_iload_n hM dL_law_1068 (lv_at hl 0 rfl) ?_
  refine q_iconst (v := (2 : Int32)) hM dL_law_1069 (by decide) ?_
  refine q_iadd hM dL_law_1070 (fun z13872 hz13872 => ?_)
  have tz13872 := i_addT hz13872 (rfl : i.toInt = i.toInt) (kc_2 : (2 : Int32).toInt = 2) (by omega) (by omega)
  refine s_iald z13872.toInt.toNat hM hW hXB (by omega) (by omega) (by omega) dL_law_1071 ?_
  refine q_top (fun a13873 ha13873 => ?_)
  refine q_aload_n hM dL_law_1072 (lv_at hl 3 rfl) ?_
  refine q_iload_n hM dL_law_1073 (lv_at hl 0 rfl) ?_
  refine q_iconst (v := (3 : Int32)) hM dL_law_1074 (by decide) ?_
  refine q_iadd hM dL_law_1075 (fun z13874 hz13874 => ?_)
  have tz13874 := i_addT hz13874 (rfl : i.toInt = i.toInt) (kc_3 : (3 : Int32).toInt = 3) (by omega) (by omega)
  refine s_iald z13874.toInt.toNat hM hW hXB (by omega) (by omega) (by omega) dL_law_1076 ?_
  refine q_top (fun a13875 ha13875 => ?_)
  refine q_callV (As := [.int a13871, .int a13873, .int a13875]) (rest := []) hM hW hR hC myX11_reminds (kAW (v_3_10 (List.mem_of_getElem? (i := 15) rfl)) rfl) (rfl : vwCl[11]? = some (RX11, TX11, 16)) rfl lb_0.1 (shO hP.1 lb_0) (p_X11_reminds _ _ cA ad g a13871 a13873 a13875  hP.1 hP.2.1) ⟨by decide, by decide⟩ rfl rfl hl.1 (Nat.le_of_ble_eq_true rfl) dL_law_1077 (fun v g1 H locs hp hW => ?_)
  obtain ⟨r1, rfl, hs1, hG1, hf1, ha1⟩ := hp
  have hP0 := hP
  have hP : PI ad cA g1 := PI_fr hP0 hs1 hG1 hf1 (by omega) (by omega) (by omega) (by omega) (by omega) (by omega) (by omega) (by omega) (by omega)
  refine q_pop hM dL_law_1080 rfl ?_
  refine q_aload_n hM dL_law_1081 (lv_at hl 1 rfl) ?_
  refine q_aload_n hM dL_law_1082 (lv_at hl 3 rfl) ?_
  refine q_iload_n hM dL_law_1083 (lv_at hl 0 rfl) ?_
  refine q_iconst (v := (1 : Int32)) hM dL_law_1084 (by decide) ?_
  refine q_iadd hM dL_law_1085 (fun z13876 hz13876 => ?_)
  have tz13876 := i_addT hz13876 (rfl : i.toInt = i.toInt) (kc_1 : (1 : Int32).toInt = 1) (by omega) (by omega)
  refine s_iald z13876.toInt.toNat hM hW hXB (by omega) (by omega) (by omega) dL_law_1086 ?_
  refine q_top (fun a13877 ha13877 => ?_)
  refine q_aload_n hM dL_law_1087 (lv_at hl 3 rfl) ?_
  refine q_iload_n hM dL_law_1088 (lv_at hl 0 rfl) ?_
  refine q_iconst (v := (2 : Int32)) hM dL_law_1089 (by decide) ?_
  refine q_iadd hM dL_law_1090 (fun z13878 hz13878 => ?_)
  have tz13878 := i_addT hz13878 (rfl : i.toInt = i.toInt) (kc_2 : (2 : Int32).toInt = 2) (by omega) (by omega)
  refine s_iald z13878.toInt.toNat hM hW hXB (by omega) (by omega) (by omega) dL_law_1091 ?_
  refine q_top (fun a13879 ha13879 => ?_)
  refine q_aload_n hM dL_law_1092 (lv_at hl 3 rfl) ?_
  refine q_iload_n hM dL_law_1093 (lv_at hl 0 rfl) ?_
  refine q_iconst (v := (3 : Int32)) hM dL_law_1094 (by decide) ?_
  refine q_iadd hM dL_law_1095 (fun z13880 hz13880 => ?_)
  have tz13880 := i_addT hz13880 (rfl : i.toInt = i.toInt) (kc_3 : (3 : Int32).toInt = 3) (by omega) (by omega)
  refine s_iald z13880.toInt.toNat hM hW hXB (by omega) (by omega) (by omega) dL_law_1096 ?_
  refine q_top (fun a13881 ha13881 => ?_)
  refine q_callV (As := [.int a13877, .int a13879, .int a13881]) (rest := []) hM hW hR hC myX12_reminds (kAW (v_7_1 (List.mem_of_getElem? (i := 3) rfl)) rfl) (rfl : vwCl[12]? = some (RX12, TX12, 86)) rfl lb_129.1 (shO hP.1 lb_129) (p_X12_reminds _ _ cA ad g1 a13877 a13879 a13881 hP.1 hP.2.1) ⟨by decide, by decide⟩ rfl rfl hl.1 (Nat.le_of_ble_eq_true rfl) dL_law_1097 (fun v g2 H locs hp hW => ?_)
  obtain ⟨r2, rfl, hs2, hG2, hf2, ha2⟩ := hp
  have hP1 := hP
  have hP : PI ad cA g2 := PI_fr hP1 hs2 hG2 hf2 (by omega) (by omega) (by omega) (by omega) (by omega) (by omega) (by omega) (by omega) (by omega)
  have qa13877 : a13877 = a13871 := by rw [ha13877, ha13871]; congr 1; omega
  have qa13879 : a13879 = a13873 := by rw [ha13879, ha13873]; congr 1; omega
  have qa13881 : a13881 = a13875 := by rw [ha13881, ha13875]; congr 1; omega
  first | rw [qa13877] at ha2 | skip
  first | rw [qa13879] at ha2 | skip
  first | rw [qa13881] at ha2 | skip
  refine q_pop hM dL_law_1100 rfl ?_
  refine q_goto (tgt := 1457) hM dL_law_1101 (by decide) ?_
  exact kk _ _ _ _ hP ⟨⟨(by rw [show fI g2 3 2 = fI g 3 2 from (FRf hf1 hf2 (by omega) (by omega)), show arI g2 131 = arI g 131 from ((hf2.2.1 131 (by omega)).trans (hf1.2.1 131 (by omega)))]; exact hRl.1.1), (by rw [show fI g2 18 3 = fI g 18 3 from (FRf hf1 hf2 (by omega) (by omega)), show arI g2 158 = arI g 158 from ((hf2.2.1 158 (by omega)).trans (hf1.2.1 158 (by omega)))]; exact hRl.1.2.1), (by rw [show fI g2 30 3 = fI g 30 3 from (FRf hf1 hf2 (by omega) (by omega)), show arI g2 162 = arI g 162 from ((hf2.2.1 162 (by omega)).trans (hf1.2.1 162 (by omega)))]; exact hRl.1.2.2.1), (((FRf hf1 hf2 (by omega) (by omega))).trans (hRl.1.2.2.2.1.trans ((FRf hf1 hf2 (by omega) (by omega))).symm)), (((FRf hf1 hf2 (by omega) (by omega))).trans (hRl.1.2.2.2.2.1.trans ((FRf hf1 hf2 (by omega) (by omega))).symm)), (((FRf hf1 hf2 (by omega) (by omega))).trans (hRl.1.2.2.2.2.2.trans (congrFun ((hf2.2.1 166 (by omega)).trans (hf1.2.1 166 (by omega))) 1).symm))⟩, (fun k j hk hj => (congrFun ((hf2.2.1 (6 + 1 * k) (by omega)).trans (hf1.2.1 (6 + 1 * k) (by omega))) j).trans ((hRl.2 k j hk hj).trans (congrFun ((hf2.2.1 133 (by omega)).trans (hf1.2.1 133 (by omega))) _).symm))⟩ hW hl

set_option maxRecDepth 100000 in
set_option maxHeartbeats 4000000 in
theorem lc_parted {K : KT} {cA : Nat → ClassId} {ad : Nat → Nat} {b L : Nat} {xs : Nat → Int32} {H : Heap} {locs : List Loc} {ls : Array Slot} {g : Nat → va_E} {i : Int32} (hM : MB K cA code 4 R_law) (hXB : XB K b L xs) (hL : L ≤ 3072) (hR : HasRoom K 2048 84000) (hC : Cells K 600000 7302250) (hP : PI ad cA g) (hRl : RQ g) (hi0 : 0 ≤ i.toInt) (hi : i.toInt + 6 ≤ L) (hW : WB NN ad K g H locs) (hl : lv_has ls 4 [(3, .int i), (2, .ref (ad 129)), (1, .ref (ad 0)), (0, .ref b)]) (kk : ∀ (g : Nat → va_E) (H : Heap) (locs : List Loc) (ls : Array Slot), PI ad cA g → RQ g → WB NN ad K g H locs → lv_has ls 4 [(3, .int i), (2, .ref (ad 129)), (1, .ref (ad 0)), (0, .ref b)] → XX K 600000 7302250 H locs 1457 ls []) : XX K 600000 7302250 H locs 1104 ls [] := by
  have hLn : L < 1000000 := by omega
  obtain ⟨lw, lwn, hlc, h13, h14⟩ := id hP.2.2.1
  refine q_aload_n hM dL_law_1104 (lv_at hl 2 rfl) ?_
  refine q_aload_n hM dL_law_1105 (lv_at hl 3 rfl) ?_
  refine q_iload_n hM dL_law_1106 (lv_at hl 0 rfl) ?_
  refine q_iconst (v := (1 : Int32)) hM dL_law_1107 (by decide) ?_
  refine q_iadd hM dL_law_1108 (fun z13882 hz13882 => ?_)
  have tz13882 := i_addT hz13882 (rfl : i.toInt = i.toInt) (kc_1 : (1 : Int32).toInt = 1) (by omega) (by omega)
  refine s_iald z13882.toInt.toNat hM hW hXB (by omega) (by omega) (by omega) dL_law_1109 ?_
  refine q_top (fun a13883 ha13883 => ?_)
  refine q_aload_n hM dL_law_1110 (lv_at hl 3 rfl) ?_
  refine q_iload_n hM dL_law_1111 (lv_at hl 0 rfl) ?_
  refine q_iconst (v := (2 : Int32)) hM dL_law_1112 (by decide) ?_
  refine q_iadd hM dL_law_1113 (fun z13884 hz13884 => ?_)
  have tz13884 := i_addT hz13884 (rfl : i.toInt = i.toInt) (kc_2 : (2 : Int32).toInt = 2) (by omega) (by omega)
  refine s_iald z13884.toInt.toNat hM hW hXB (by omega) (by omega) (by omega) dL_law_1114 ?_
  refine q_top (fun a13885 ha13885 => ?_)
  refine q_callV (As := [.int a13883, .int a13885]) (rest := []) hM hW hR hC myX11_parted (kAW (v_3_11 (List.mem_of_getElem? (i := 3) rfl)) rfl) (rfl : vwCl[11]? = some (RX11, TX11, 16)) rfl lb_0.1 (shO hP.1 lb_0) (p_X11_parted _ _ cA ad g a13883 a13885  hP.1 hP.2.1) ⟨by decide, by decide⟩ rfl rfl hl.1 (Nat.le_of_ble_eq_true rfl) dL_law_1115 (fun v g1 H locs hp hW => ?_)
  obtain ⟨r1, rfl, hs1, hG1, hf1⟩ := hp
  have hP0 := hP
  have hP : PI ad cA g1 := PI_fr hP0 hs1 hG1 hf1 (fun h => h) (fun h => h) (fun h => h) (fun h => h) (fun h => h) (fun h => h) (fun h => h) (fun h => h) (fun h => h)
  refine q_pop hM dL_law_1118 rfl ?_
  refine q_aload_n hM dL_law_1119 (lv_at hl 1 rfl) ?_
  refine q_aload_n hM dL_law_1120 (lv_at hl 3 rfl) ?_
  refine q_iload_n hM dL_law_1121 (lv_at hl 0 rfl) ?_
  refine q_iconst (v := (1 : Int32)) hM dL_law_1122 (by decide) ?_
  refine q_iadd hM dL_law_1123 (fun z13886 hz13886 => ?_)
  have tz13886 := i_addT hz13886 (rfl : i.toInt = i.toInt) (kc_1 : (1 : Int32).toInt = 1) (by omega) (by omega)
  refine s_iald z13886.toInt.toNat hM hW hXB (by omega) (by omega) (by omega) dL_law_1124 ?_
  refine q_top (fun a13887 ha13887 => ?_)
  refine q_aload_n hM dL_law_1125 (lv_at hl 3 rfl) ?_
  refine q_iload_n hM dL_law_1126 (lv_at hl 0 rfl) ?_
  refine q_iconst (v := (2 : Int32)) hM dL_law_1127 (by decide) ?_
  refine q_iadd hM dL_law_1128 (fun z13888 hz13888 => ?_)
  have tz13888 := i_addT hz13888 (rfl : i.toInt = i.toInt) (kc_2 : (2 : Int32).toInt = 2) (by omega) (by omega)
  refine s_iald z13888.toInt.toNat hM hW hXB (by omega) (by omega) (by omega) dL_law_1129 ?_
  refine q_top (fun a13889 ha13889 => ?_)
  refine q_callV (As := [.int a13887, .int a13889]) (rest := []) hM hW hR hC myX12_parted (kAW (v_7_1 (List.mem_of_getElem? (i := 7) rfl)) rfl) (rfl : vwCl[12]? = some (RX12, TX12, 86)) rfl lb_129.1 (shO hP.1 lb_129) (p_X12_parted _ _ cA ad g1 a13887 a13889 hP.1 hP.2.1) ⟨by decide, by decide⟩ rfl rfl hl.1 (Nat.le_of_ble_eq_true rfl) dL_law_1130 (fun v g2 H locs hp hW => ?_)
  obtain ⟨r2, rfl, hs2, hG2, hf2⟩ := hp
  have hP1 := hP
  have hP : PI ad cA g2 := PI_fr hP1 hs2 hG2 hf2 (fun h => h) (fun h => h) (fun h => h) (fun h => h) (fun h => h) (fun h => h) (fun h => h) (fun h => h) (fun h => h)
  have qa13887 : a13887 = a13883 := by rw [ha13887, ha13883]; congr 1; omega
  have qa13889 : a13889 = a13885 := by rw [ha13889, ha13885]; congr 1; omega
  refine q_pop hM dL_law_1133 rfl ?_
  refine q_goto (tgt := 1457) hM dL_law_1134 (by decide) ?_
  exact kk _ _ _ _ hP ⟨⟨(by rw [show fI g2 3 2 = fI g 3 2 from (FRf hf1 hf2 (fun h => h) (fun h => h)), show arI g2 131 = arI g 131 from ((hf2.2.1 131 (fun h => h)).trans (hf1.2.1 131 (fun h => h)))]; exact hRl.1.1), (by rw [show fI g2 18 3 = fI g 18 3 from (FRf hf1 hf2 (fun h => h) (fun h => h)), show arI g2 158 = arI g 158 from ((hf2.2.1 158 (fun h => h)).trans (hf1.2.1 158 (fun h => h)))]; exact hRl.1.2.1), (by rw [show fI g2 30 3 = fI g 30 3 from (FRf hf1 hf2 (fun h => h) (fun h => h)), show arI g2 162 = arI g 162 from ((hf2.2.1 162 (fun h => h)).trans (hf1.2.1 162 (fun h => h)))]; exact hRl.1.2.2.1), (((FRf hf1 hf2 (fun h => h) (fun h => h))).trans (hRl.1.2.2.2.1.trans ((FRf hf1 hf2 (fun h => h) (fun h => h))).symm)), (((FRf hf1 hf2 (fun h => h) (fun h => h))).trans (hRl.1.2.2.2.2.1.trans ((FRf hf1 hf2 (fun h => h) (fun h => h))).symm)), (((FRf hf1 hf2 (fun h => h) (fun h => h))).trans (hRl.1.2.2.2.2.2.trans (congrFun ((hf2.2.1 166 (fun h => h)).trans (hf1.2.1 166 (fun h => h))) 1).symm))⟩, (fun k j hk hj => (congrFun ((hf2.2.1 (6 + 1 * k) (fun h => h)).trans (hf1.2.1 (6 + 1 * k) (fun h => h))) j).trans ((hRl.2 k j hk hj).trans (congrFun ((hf2.2.1 133 (fun h => h)).trans (hf1.2.1 133 (fun h => h))) _).symm))⟩ hW hl

set_option maxRecDepth 100000 in
set_option maxHeartbeats 4000000 in
theorem lc_skill {K : KT} {cA : Nat → ClassId} {ad : Nat → Nat} {b L : Nat} {xs : Nat → Int32} {H : Heap} {locs : List Loc} {ls : Array Slot} {g : Nat → va_E} {i : Int32} (hM : MB K cA code 4 R_law) (hXB : XB K b L xs) (hL : L ≤ 3072) (hR : HasRoom K 2048 84000) (hC : Cells K 600000 7302250) (hP : PI ad cA g) (hRl : RQ g) (hi0 : 0 ≤ i.toInt) (hi : i.toInt + 6 ≤ L) (hW : WB NN ad K g H locs) (hl : lv_has ls 4 [(3, .int i), (2, .ref (ad 129)), (1, .ref (ad 0)), (0, .ref b)]) (kk : ∀ (g : Nat → va_E) (H : Heap) (locs : List Loc) (ls : Array Slot), PI ad cA g → RQ g → WB NN ad K g H locs → lv_has ls 4 [(3, .int i), (2, .ref (ad 129)), (1, .ref (ad 0)), (0, .ref b)] → XX K 600000 7302250 H locs 1457 ls []) : XX K 600000 7302250 H locs 1137 ls [] := by
  have hLn : L < 1000000 := by omega
  obtain ⟨lw, lwn, hlc, h13, h14⟩ := id hP.2.2.1
  refine q_aload_n hM dL_law_1137 (lv_at hl 2 rfl) ?_
  refine q_aload_n hM dL_law_1138 (lv_at hl 3 rfl) ?_
  refine q_iload_n hM dL_law_1139 (lv_at hl 0 rfl) ?_
  refine q_iconst (v := (1 : Int32)) hM dL_law_1140 (by decide) ?_
  refine q_iadd hM dL_law_1141 (fun z13890 hz13890 => ?_)
  have tz13890 := i_addT hz13890 (rfl : i.toInt = i.toInt) (kc_1 : (1 : Int32).toInt = 1) (by omega) (by omega)
  refine s_iald z13890.toInt.toNat hM hW hXB (by omega) (by omega) (by omega) dL_law_1142 ?_
  refine q_top (fun a13891 ha13891 => ?_)
  refine q_aload_n hM dL_law_1143 (lv_at hl 3 rfl) ?_
  refine q_iload_n hM dL_law_1144 (lv_at hl 0 rfl) ?_
  refine q_iconst (v := (2 : Int32)) hM dL_law_1145 (by decide) ?_
  refine q_iadd hM dL_law_1146 (fun z13892 hz13892 => ?_)
  have tz13892 := i_addT hz13892 (rfl : i.toInt = i.toInt) (kc_2 : (2 : Int32).toInt = 2) (by omega) (by omega)
  refine s_iald z13892.toInt.toNat hM hW hXB (by omega) (by omega) (by omega) dL_law_1147 ?_
  refine q_top (fun a13893 ha13893 => ?_)
  refine q_aload_n hM dL_law_1148 (lv_at hl 3 rfl) ?_
  refine q_iload_n hM dL_law_1149 (lv_at hl 0 rfl) ?_
  refine q_iconst (v := (3 : Int32)) hM dL_law_1150 (by decide) ?_
  refine q_iadd hM dL_law_1151 (fun z13894 hz13894 => ?_)
  have tz13894 := i_addT hz13894 (rfl : i.toInt = i.toInt) (kc_3 : (3 : Int32).toInt = 3) (by omega) (by omega)
  refine s_iald z13894.toInt.toNat hM hW hXB (by omega) (by omega) (by omega) dL_law_1152 ?_
  refine q_top (fun a13895 ha13895 => ?_)
  refine q_callV (As := [.int a13891, .int a13893, .int a13895]) (rest := []) hM hW hR hC myX11_skill (kAW (v_3_12 (List.mem_of_getElem? (i := 3) rfl)) rfl) (rfl : vwCl[11]? = some (RX11, TX11, 16)) rfl lb_0.1 (shO hP.1 lb_0) (p_X11_skill _ _ cA ad g a13891 a13893 a13895  hP.1 hP.2.1) ⟨by decide, by decide⟩ rfl rfl hl.1 (Nat.le_of_ble_eq_true rfl) dL_law_1153 (fun v g1 H locs hp hW => ?_)
  obtain ⟨r1, rfl, hs1, hG1, hf1, ha1⟩ := hp
  have hP0 := hP
  have hP : PI ad cA g1 := PI_fr hP0 hs1 hG1 hf1 (by omega) (by omega) (by omega) (by omega) (by omega) (by omega) (by omega) (by omega) (by omega)
  refine q_pop hM dL_law_1156 rfl ?_
  refine q_aload_n hM dL_law_1157 (lv_at hl 1 rfl) ?_
  refine q_aload_n hM dL_law_1158 (lv_at hl 3 rfl) ?_
  refine q_iload_n hM dL_law_1159 (lv_at hl 0 rfl) ?_
  refine q_iconst (v := (1 : Int32)) hM dL_law_1160 (by decide) ?_
  refine q_iadd hM dL_law_1161 (fun z13896 hz13896 => ?_)
  have tz13896 := i_addT hz13896 (rfl : i.toInt = i.toInt) (kc_1 : (1 : Int32).toInt = 1) (by omega) (by omega)
  refine s_iald z13896.toInt.toNat hM hW hXB (by omega) (by omega) (by omega) dL_law_1162 ?_
  refine q_top (fun a13897 ha13897 => ?_)
  refine q_aload_n hM dL_law_1163 (lv_at hl 3 rfl) ?_
  refine q_iload_n hM dL_law_1164 (lv_at hl 0 rfl) ?_
  refine q_iconst (v := (2 : Int32)) hM dL_law_1165 (by decide) ?_
  refine q_iadd hM dL_law_1166 (fun z13898 hz13898 => ?_)
  have tz13898 := i_addT hz13898 (rfl : i.toInt = i.toInt) (kc_2 : (2 : Int32).toInt = 2) (by omega) (by omega)
  refine s_iald z13898.toInt.toNat hM hW hXB (by omega) (by omega) (by omega) dL_law_1167 ?_
  refine q_top (fun a13899 ha13899 => ?_)
  refine q_aload_n hM dL_law_1168 (lv_at hl 3 rfl) ?_
  refine q_iload_n hM dL_law_1169 (lv_at hl 0 rfl) ?_
  refine q_iconst (v := (3 : Int32)) hM dL_law_1170 (by decide) ?_
  refine q_iadd hM dL_law_1171 (fun z13900 hz13900 => ?_)
  have tz13900 := i_addT hz13900 (rfl : i.toInt = i.toInt) (kc_3 : (3 : Int32).toInt = 3) (by omega) (by omega)
  refine s_iald z13900.toInt.toNat hM hW hXB (by omega) (by omega) (by omega) dL_law_1172 ?_
  refine q_top (fun a13901 ha13901 => ?_)
  refine q_callV (As := [.int a13897, .int a13899, .int a13901]) (rest := []) hM hW hR hC myX12_skill (kAW (v_7_2 (List.mem_of_getElem? (i := 0) rfl)) rfl) (rfl : vwCl[12]? = some (RX12, TX12, 86)) rfl lb_129.1 (shO hP.1 lb_129) (p_X12_skill _ _ cA ad g1 a13897 a13899 a13901 hP.1 hP.2.1) ⟨by decide, by decide⟩ rfl rfl hl.1 (Nat.le_of_ble_eq_true rfl) dL_law_1173 (fun v g2 H locs hp hW => ?_)
  obtain ⟨r2, rfl, hs2, hG2, hf2, ha2⟩ := hp
  have hP1 := hP
  have hP : PI ad cA g2 := PI_fr hP1 hs2 hG2 hf2 (by omega) (by omega) (by omega) (by omega) (by omega) (by omega) (by omega) (by omega) (by omega)
  have qa13897 : a13897 = a13891 := by rw [ha13897, ha13891]; congr 1; omega
  have qa13899 : a13899 = a13893 := by rw [ha13899, ha13893]; congr 1; omega
  have qa13901 : a13901 = a13895 := by rw [ha13901, ha13895]; congr 1; omega
  first | rw [qa13897] at ha2 | skip
  first | rw [qa13899] at ha2 | skip
  first | rw [qa13901] at ha2 | skip
  refine q_pop hM dL_law_1176 rfl ?_
  refine q_goto (tgt := 1457) hM dL_law_1177 (by decide) ?_
  exact kk _ _ _ _ hP ⟨⟨(by rw [show fI g2 3 2 = fI g 3 2 from (FRf hf1 hf2 (by omega) (by omega)), show arI g2 131 = arI g 131 from ((hf2.2.1 131 (by omega)).trans (hf1.2.1 131 (by omega)))]; exact hRl.1.1), (by rw [show fI g2 18 3 = fI g 18 3 from (FRf hf1 hf2 (by omega) (by omega)), show arI g2 158 = arI g 158 from ((hf2.2.1 158 (by omega)).trans (hf1.2.1 158 (by omega)))]; exact hRl.1.2.1), (by rw [show fI g2 30 3 = fI g 30 3 from (FRf hf1 hf2 (by omega) (by omega)), show arI g2 162 = arI g 162 from ((hf2.2.1 162 (by omega)).trans (hf1.2.1 162 (by omega)))]; exact hRl.1.2.2.1), (((FRf hf1 hf2 (by omega) (by omega))).trans (hRl.1.2.2.2.1.trans ((FRf hf1 hf2 (by omega) (by omega))).symm)), (((FRf hf1 hf2 (by omega) (by omega))).trans (hRl.1.2.2.2.2.1.trans ((FRf hf1 hf2 (by omega) (by omega))).symm)), (((FRf hf1 hf2 (by omega) (by omega))).trans (hRl.1.2.2.2.2.2.trans (congrFun ((hf2.2.1 166 (by omega)).trans (hf1.2.1 166 (by omega))) 1).symm))⟩, (fun k j hk hj => (congrFun ((hf2.2.1 (6 + 1 * k) (by omega)).trans (hf1.2.1 (6 + 1 * k) (by omega))) j).trans ((hRl.2 k j hk hj).trans (congrFun ((hf2.2.1 133 (by omega)).trans (hf1.2.1 133 (by omega))) _).symm))⟩ hW hl

set_option maxRecDepth 100000 in
set_option maxHeartbeats 4000000 in
theorem lc_taught {K : KT} {cA : Nat → ClassId} {ad : Nat → Nat} {b L : Nat} {xs : Nat → Int32} {H : Heap} {locs : List Loc} {ls : Array Slot} {g : Nat → va_E} {i : Int32} (hM : MB K cA code 4 R_law) (hXB : XB K b L xs) (hL : L ≤ 3072) (hR : HasRoom K 2048 84000) (hC : Cells K 600000 7302250) (hP : PI ad cA g) (hRl : RQ g) (hi0 : 0 ≤ i.toInt) (hi : i.toInt + 6 ≤ L) (hW : WB NN ad K g H locs) (hl : lv_has ls 4 [(3, .int i), (2, .ref (ad 129)), (1, .ref (ad 0)), (0, .ref b)]) (kk : ∀ (g : Nat → va_E) (H : Heap) (locs : List Loc) (ls : Array Slot), PI ad cA g → RQ g → WB NN ad K g H locs → lv_has ls 4 [(3, .int i), (2, .ref (ad 129)), (1, .ref (ad 0)), (0, .ref b)] → XX K 600000 7302250 H locs 1457 ls []) : XX K 600000 7302250 H locs 1180 ls [] := by
  have hLn : L < 1000000 := by omega
  obtain ⟨lw, lwn, hlc, h13, h14⟩ := id hP.2.2.1
  refine q_aload_n hM dL_law_1180 (lv_at hl 2 rfl) ?_
  refine q_aload_n hM dL_law_1181 (lv_at hl 3 rfl) ?_
  refine q_iload_n hM dL_law_1182 (lv_at hl 0 rfl) ?_
  refine q_iconst (v := (1 : Int32)) hM dL_law_1183 (by decide) ?_
  refine q_iadd hM dL_law_1184 (fun z13902 hz13902 => ?_)
  have tz13902 := i_addT hz13902 (rfl : i.toInt = i.toInt) (kc_1 : (1 : Int32).toInt = 1) (by omega) (by omega)
  refine s_iald z13902.toInt.toNat hM hW hXB (by omega) (by omega) (by omega) dL_law_1185 ?_
  refine q_top (fun a13903 ha13903 => ?_)
  refine q_aload_n hM dL_law_1186 (lv_at hl 3 rfl) ?_
  refine q_iload_n hM dL_law_1187 (lv_at hl 0 rfl) ?_
  refine q_iconst (v := (2 : Int32)) hM dL_law_1188 (by decide) ?_
  refine q_iadd hM dL_law_1189 (fun z13904 hz13904 => ?_)
  have tz13904 := i_addT hz13904 (rfl : i.toInt = i.toInt) (kc_2 : (2 : Int32).toInt = 2) (by omega) (by omega)
  refine s_iald z13904.toInt.toNat hM hW hXB (by omega) (by omega) (by omega) dL_law_1190 ?_
  refine q_top (fun a13905 ha13905 => ?_)
  refine q_aload_n hM dL_law_1191 (lv_at hl 3 rfl) ?_
  refine q_iload_n hM dL_law_1192 (lv_at hl 0 rfl) ?_
  refine q_iconst (v := (3 : Int32)) hM dL_law_1193 (by decide) ?_
  refine q_iadd hM dL_law_1194 (fun z13906 hz13906 => ?_)
  have tz13906 := i_addT hz13906 (rfl : i.toInt = i.toInt) (kc_3 : (3 : Int32).toInt = 3) (by omega) (by omega)
  refine s_iald z13906.toInt.toNat hM hW hXB (by omega) (by omega) (by omega) dL_law_1195 ?_
  refine q_top (fun a13907 ha13907 => ?_)
  refine q_callV (As := [.int a13903, .int a13905, .int a13907]) (rest := []) hM hW hR hC myX11_taught (kAW (v_3_12 (List.mem_of_getElem? (i := 7) rfl)) rfl) (rfl : vwCl[11]? = some (RX11, TX11, 16)) rfl lb_0.1 (shO hP.1 lb_0) (p_X11_taught _ _ cA ad g a13903 a13905 a13907  hP.1 hP.2.1) ⟨by decide, by decide⟩ rfl rfl hl.1 (Nat.le_of_ble_eq_true rfl) dL_law_1196 (fun v g1 H locs hp hW => ?_)
  obtain ⟨r1, rfl, hs1, hG1, hf1⟩ := hp
  have hP0 := hP
  have hP : PI ad cA g1 := PI_fr hP0 hs1 hG1 hf1 (by omega) (by omega) (by omega) (by omega) (by omega) (by omega) (by omega) (by omega) (by omega)
  refine q_pop hM dL_law_1199 rfl ?_
  refine q_aload_n hM dL_law_1200 (lv_at hl 1 rfl) ?_
  refine q_aload_n hM dL_law_1201 (lv_at hl 3 rfl) ?_
  refine q_iload_n hM dL_law_1202 (lv_at hl 0 rfl) ?_
  refine q_iconst (v := (1 : Int32)) hM dL_law_1203 (by decide) ?_
  refine q_iadd hM dL_law_1204 (fun z13908 hz13908 => ?_)
  have tz13908 := i_addT hz13908 (rfl : i.toInt = i.toInt) (kc_1 : (1 : Int32).toInt = 1) (by omega) (by omega)
  refine s_iald z13908.toInt.toNat hM hW hXB (by omega) (by omega) (by omega) dL_law_1205 ?_
  refine q_top (fun a13909 ha13909 => ?_)
  refine q_aload_n hM dL_law_1206 (lv_at hl 3 rfl) ?_
  refine q_iload_n hM dL_law_1207 (lv_at hl 0 rfl) ?_
  refine q_iconst (v := (2 : Int32)) hM dL_law_1208 (by decide) ?_
  refine q_iadd hM dL_law_1209 (fun z13910 hz13910 => ?_)
  have tz13910 := i_addT hz13910 (rfl : i.toInt = i.toInt) (kc_2 : (2 : Int32).toInt = 2) (by omega) (by omega)
  refine s_iald z13910.toInt.toNat hM hW hXB (by omega) (by omega) (by omega) dL_law_1210 ?_
  refine q_top (fun a13911 ha13911 => ?_)
  refine q_aload_n hM dL_law_1211 (lv_at hl 3 rfl) ?_
  refine q_iload_n hM dL_law_1212 (lv_at hl 0 rfl) ?_
  refine q_iconst (v := (3 : Int32)) hM dL_law_1213 (by decide) ?_
  refine q_iadd hM dL_law_1214 (fun z13912 hz13912 => ?_)
  have tz13912 := i_addT hz13912 (rfl : i.toInt = i.toInt) (kc_3 : (3 : Int32).toInt = 3) (by omega) (by omega)
  refine s_iald z13912.toInt.toNat hM hW hXB (by omega) (by omega) (by omega) dL_law_1215 ?_
  refine q_top (fun a13913 ha13913 => ?_)
  refine q_callV (As := [.int a13909, .int a13911, .int a13913]) (rest := []) hM hW hR hC myX12_taught (kAW (v_7_2 (List.mem_of_getElem? (i := 5) rfl)) rfl) (rfl : vwCl[12]? = some (RX12, TX12, 86)) rfl lb_129.1 (shO hP.1 lb_129) (p_X12_taught _ _ cA ad g1 a13909 a13911 a13913 hP.1 hP.2.1) ⟨by decide, by decide⟩ rfl rfl hl.1 (Nat.le_of_ble_eq_true rfl) dL_law_1216 (fun v g2 H locs hp hW => ?_)
  obtain ⟨r2, rfl, hs2, hG2, hf2⟩ := hp
  have hP1 := hP
  have hP : PI ad cA g2 := PI_fr hP1 hs2 hG2 hf2 (by omega) (by omega) (by omega) (by omega) (by omega) (by omega) (by omega) (by omega) (by omega)
  have qa13909 : a13909 = a13903 := by rw [ha13909, ha13903]; congr 1; omega
  have qa13911 : a13911 = a13905 := by rw [ha13911, ha13905]; congr 1; omega
  have qa13913 : a13913 = a13907 := by rw [ha13913, ha13907]; congr 1; omega
  refine q_pop hM dL_law_1219 rfl ?_
  refine q_goto (tgt := 1457) hM dL_law_1220 (by decide) ?_
  exact kk _ _ _ _ hP ⟨⟨(by rw [show fI g2 3 2 = fI g 3 2 from (FRf hf1 hf2 (by omega) (by omega)), show arI g2 131 = arI g 131 from ((hf2.2.1 131 (by omega)).trans (hf1.2.1 131 (by omega)))]; exact hRl.1.1), (by rw [show fI g2 18 3 = fI g 18 3 from (FRf hf1 hf2 (by omega) (by omega)), show arI g2 158 = arI g 158 from ((hf2.2.1 158 (by omega)).trans (hf1.2.1 158 (by omega)))]; exact hRl.1.2.1), (by rw [show fI g2 30 3 = fI g 30 3 from (FRf hf1 hf2 (by omega) (by omega)), show arI g2 162 = arI g 162 from ((hf2.2.1 162 (by omega)).trans (hf1.2.1 162 (by omega)))]; exact hRl.1.2.2.1), (((FRf hf1 hf2 (by omega) (by omega))).trans (hRl.1.2.2.2.1.trans ((FRf hf1 hf2 (by omega) (by omega))).symm)), (((FRf hf1 hf2 (by omega) (by omega))).trans (hRl.1.2.2.2.2.1.trans ((FRf hf1 hf2 (by omega) (by omega))).symm)), (((FRf hf1 hf2 (by omega) (by omega))).trans (hRl.1.2.2.2.2.2.trans (congrFun ((hf2.2.1 166 (by omega)).trans (hf1.2.1 166 (by omega))) 1).symm))⟩, (fun k j hk hj => (congrFun ((hf2.2.1 (6 + 1 * k) (by omega)).trans (hf1.2.1 (6 + 1 * k) (by omega))) j).trans ((hRl.2 k j hk hj).trans (congrFun ((hf2.2.1 133 (by omega)).trans (hf1.2.1 133 (by omega))) _).symm))⟩ hW hl

set_option maxRecDepth 100000 in
set_option maxHeartbeats 4000000 in
theorem lc_hummed {K : KT} {cA : Nat → ClassId} {ad : Nat → Nat} {b L : Nat} {xs : Nat → Int32} {H : Heap} {locs : List Loc} {ls : Array Slot} {g : Nat → va_E} {i : Int32} (hM : MB K cA code 4 R_law) (hXB : XB K b L xs) (hL : L ≤ 3072) (hR : HasRoom K 2048 84000) (hC : Cells K 600000 7302250) (hP : PI ad cA g) (hRl : RQ g) (hi0 : 0 ≤ i.toInt) (hi : i.toInt + 6 ≤ L) (hW : WB NN ad K g H locs) (hl : lv_has ls 4 [(3, .int i), (2, .ref (ad 129)), (1, .ref (ad 0)), (0, .ref b)]) (kk : ∀ (g : Nat → va_E) (H : Heap) (locs : List Loc) (ls : Array Slot), PI ad cA g → RQ g → WB NN ad K g H locs → lv_has ls 4 [(3, .int i), (2, .ref (ad 129)), (1, .ref (ad 0)), (0, .ref b)] → XX K 600000 7302250 H locs 1457 ls []) : XX K 600000 7302250 H locs 1223 ls [] := by
  have hLn : L < 1000000 := by omega
  obtain ⟨lw, lwn, hlc, h13, h14⟩ := id hP.2.2.1
  refine q_aload_n hM dL_law_1223 (lv_at hl 2 rfl) ?_
  refine q_aload_n hM dL_law_1224 (lv_at hl 3 rfl) ?_
  refine q_iload_n hM dL_law_1225 (lv_at hl 0 rfl) ?_
  refine q_iconst (v := (1 : Int32)) hM dL_law_1226 (by decide) ?_
  refine q_iadd hM dL_law_1227 (fun z13914 hz13914 => ?_)
  have tz13914 := i_addT hz13914 (rfl : i.toInt = i.toInt) (kc_1 : (1 : Int32).toInt = 1) (by omega) (by omega)
  refine s_iald z13914.toInt.toNat hM hW hXB (by omega) (by omega) (by omega) dL_law_1228 ?_
  refine q_top (fun a13915 ha13915 => ?_)
  refine q_aload_n hM dL_law_1229 (lv_at hl 3 rfl) ?_
  refine q_iload_n hM dL_law_1230 (lv_at hl 0 rfl) ?_
  refine q_iconst (v := (2 : Int32)) hM dL_law_1231 (by decide) ?_
  refine q_iadd hM dL_law_1232 (fun z13916 hz13916 => ?_)
  have tz13916 := i_addT hz13916 (rfl : i.toInt = i.toInt) (kc_2 : (2 : Int32).toInt = 2) (by omega) (by omega)
  refine s_iald z13916.toInt.toNat hM hW hXB (by omega) (by omega) (by omega) dL_law_1233 ?_
  refine q_top (fun a13917 ha13917 => ?_)
  refine q_aload_n hM dL_law_1234 (lv_at hl 3 rfl) ?_
  refine q_iload_n hM dL_law_1235 (lv_at hl 0 rfl) ?_
  refine q_iconst (v := (3 : Int32)) hM dL_law_1236 (by decide) ?_
  refine q_iadd hM dL_law_1237 (fun z13918 hz13918 => ?_)
  have tz13918 := i_addT hz13918 (rfl : i.toInt = i.toInt) (kc_3 : (3 : Int32).toInt = 3) (by omega) (by omega)
  refine s_iald z13918.toInt.toNat hM hW hXB (by omega) (by omega) (by omega) dL_law_1238 ?_
  refine q_top (fun a13919 ha13919 => ?_)
  refine q_callV (As := [.int a13915, .int a13917, .int a13919]) (rest := []) hM hW hR hC myX11_hummed (kAW (v_3_13 (List.mem_of_getElem? (i := 8) rfl)) rfl) (rfl : vwCl[11]? = some (RX11, TX11, 16)) rfl lb_0.1 (shO hP.1 lb_0) (p_X11_hummed _ _ cA ad g a13915 a13917 a13919  hP.1 hP.2.1) ⟨by decide, by decide⟩ rfl rfl hl.1 (Nat.le_of_ble_eq_true rfl) dL_law_1239 (fun v g1 H locs hp hW => ?_)
  obtain ⟨r1, rfl, hs1, hG1, hf1⟩ := hp
  have hP0 := hP
  have hP : PI ad cA g1 := PI_fr hP0 hs1 hG1 hf1 (by omega) (by omega) (by omega) (by omega) (by omega) (by omega) (by omega) (by omega) (by omega)
  refine q_pop hM dL_law_1242 rfl ?_
  refine q_aload_n hM dL_law_1243 (lv_at hl 1 rfl) ?_
  refine q_aload_n hM dL_law_1244 (lv_at hl 3 rfl) ?_
  refine q_iload_n hM dL_law_1245 (lv_at hl 0 rfl) ?_
  refine q_iconst (v := (1 : Int32)) hM dL_law_1246 (by decide) ?_
  refine q_iadd hM dL_law_1247 (fun z13920 hz13920 => ?_)
  have tz13920 := i_addT hz13920 (rfl : i.toInt = i.toInt) (kc_1 : (1 : Int32).toInt = 1) (by omega) (by omega)
  refine s_iald z13920.toInt.toNat hM hW hXB (by omega) (by omega) (by omega) dL_law_1248 ?_
  refine q_top (fun a13921 ha13921 => ?_)
  refine q_aload_n hM dL_law_1249 (lv_at hl 3 rfl) ?_
  refine q_iload_n hM dL_law_1250 (lv_at hl 0 rfl) ?_
  refine q_iconst (v := (2 : Int32)) hM dL_law_1251 (by decide) ?_
  refine q_iadd hM dL_law_1252 (fun z13922 hz13922 => ?_)
  have tz13922 := i_addT hz13922 (rfl : i.toInt = i.toInt) (kc_2 : (2 : Int32).toInt = 2) (by omega) (by omega)
  refine s_iald z13922.toInt.toNat hM hW hXB (by omega) (by omega) (by omega) dL_law_1253 ?_
  refine q_top (fun a13923 ha13923 => ?_)
  refine q_aload_n hM dL_law_1254 (lv_at hl 3 rfl) ?_
  refine q_iload_n hM dL_law_1255 (lv_at hl 0 rfl) ?_
  refine q_iconst (v := (3 : Int32)) hM dL_law_1256 (by decide) ?_
  refine q_iadd hM dL_law_1257 (fun z13924 hz13924 => ?_)
  have tz13924 := i_addT hz13924 (rfl : i.toInt = i.toInt) (kc_3 : (3 : Int32).toInt = 3) (by omega) (by omega)
  refine s_iald z13924.toInt.toNat hM hW hXB (by omega) (by omega) (by omega) dL_law_1258 ?_
  refine q_top (fun a13925 ha13925 => ?_)
  refine q_callV (As := [.int a13921, .int a13923, .int a13925]) (rest := []) hM hW hR hC myX12_hummed (kAW (v_7_3 (List.mem_of_getElem? (i := 2) rfl)) rfl) (rfl : vwCl[12]? = some (RX12, TX12, 86)) rfl lb_129.1 (shO hP.1 lb_129) (p_X12_hummed _ _ cA ad g1 a13921 a13923 a13925 hP.1 hP.2.1) ⟨by decide, by decide⟩ rfl rfl hl.1 (Nat.le_of_ble_eq_true rfl) dL_law_1259 (fun v g2 H locs hp hW => ?_)
  obtain ⟨r2, rfl, hs2, hG2, hf2⟩ := hp
  have hP1 := hP
  have hP : PI ad cA g2 := PI_fr hP1 hs2 hG2 hf2 (by omega) (by omega) (by omega) (by omega) (by omega) (by omega) (by omega) (by omega) (by omega)
  have qa13921 : a13921 = a13915 := by rw [ha13921, ha13915]; congr 1; omega
  have qa13923 : a13923 = a13917 := by rw [ha13923, ha13917]; congr 1; omega
  have qa13925 : a13925 = a13919 := by rw [ha13925, ha13919]; congr 1; omega
  refine q_pop hM dL_law_1262 rfl ?_
  refine q_goto (tgt := 1457) hM dL_law_1263 (by decide) ?_
  exact kk _ _ _ _ hP ⟨⟨(by rw [show fI g2 3 2 = fI g 3 2 from (FRf hf1 hf2 (by omega) (by omega)), show arI g2 131 = arI g 131 from ((hf2.2.1 131 (by omega)).trans (hf1.2.1 131 (by omega)))]; exact hRl.1.1), (by rw [show fI g2 18 3 = fI g 18 3 from (FRf hf1 hf2 (by omega) (by omega)), show arI g2 158 = arI g 158 from ((hf2.2.1 158 (by omega)).trans (hf1.2.1 158 (by omega)))]; exact hRl.1.2.1), (by rw [show fI g2 30 3 = fI g 30 3 from (FRf hf1 hf2 (by omega) (by omega)), show arI g2 162 = arI g 162 from ((hf2.2.1 162 (by omega)).trans (hf1.2.1 162 (by omega)))]; exact hRl.1.2.2.1), (((FRf hf1 hf2 (by omega) (by omega))).trans (hRl.1.2.2.2.1.trans ((FRf hf1 hf2 (by omega) (by omega))).symm)), (((FRf hf1 hf2 (by omega) (by omega))).trans (hRl.1.2.2.2.2.1.trans ((FRf hf1 hf2 (by omega) (by omega))).symm)), (((FRf hf1 hf2 (by omega) (by omega))).trans (hRl.1.2.2.2.2.2.trans (congrFun ((hf2.2.1 166 (by omega)).trans (hf1.2.1 166 (by omega))) 1).symm))⟩, (fun k j hk hj => (congrFun ((hf2.2.1 (6 + 1 * k) (by omega)).trans (hf1.2.1 (6 + 1 * k) (by omega))) j).trans ((hRl.2 k j hk hj).trans (congrFun ((hf2.2.1 133 (by omega)).trans (hf1.2.1 133 (by omega))) _).symm))⟩ hW hl

set_option maxRecDepth 100000 in
set_option maxHeartbeats 4000000 in
theorem lc_odds {K : KT} {cA : Nat → ClassId} {ad : Nat → Nat} {b L : Nat} {xs : Nat → Int32} {H : Heap} {locs : List Loc} {ls : Array Slot} {g : Nat → va_E} {i : Int32} (hM : MB K cA code 4 R_law) (hXB : XB K b L xs) (hL : L ≤ 3072) (hR : HasRoom K 2048 84000) (hC : Cells K 600000 7302250) (hP : PI ad cA g) (hRl : RQ g) (hi0 : 0 ≤ i.toInt) (hi : i.toInt + 6 ≤ L) (hW : WB NN ad K g H locs) (hl : lv_has ls 4 [(3, .int i), (2, .ref (ad 129)), (1, .ref (ad 0)), (0, .ref b)]) (kk : ∀ (g : Nat → va_E) (H : Heap) (locs : List Loc) (ls : Array Slot), PI ad cA g → RQ g → WB NN ad K g H locs → lv_has ls 4 [(3, .int i), (2, .ref (ad 129)), (1, .ref (ad 0)), (0, .ref b)] → XX K 600000 7302250 H locs 1457 ls []) : XX K 600000 7302250 H locs 1266 ls [] := by
  have hLn : L < 1000000 := by omega
  obtain ⟨lw, lwn, hlc, h13, h14⟩ := id hP.2.2.1
  refine q_aload_n hM dL_law_1266 (lv_at hl 2 rfl) ?_
  refine q_aload_n hM dL_law_1267 (lv_at hl 3 rfl) ?_
  refine q_iload_n hM dL_law_1268 (lv_at hl 0 rfl) ?_
  refine q_iconst (v := (1 : Int32)) hM dL_law_1269 (by decide) ?_
  refine q_iadd hM dL_law_1270 (fun z13926 hz13926 => ?_)
  have tz13926 := i_addT hz13926 (rfl : i.toInt = i.toInt) (kc_1 : (1 : Int32).toInt = 1) (by omega) (by omega)
  refine s_iald z13926.toInt.toNat hM hW hXB (by omega) (by omega) (by omega) dL_law_1271 ?_
  refine q_top (fun a13927 ha13927 => ?_)
  refine q_aload_n hM dL_law_1272 (lv_at hl 3 rfl) ?_
  refine q_iload_n hM dL_law_1273 (lv_at hl 0 rfl) ?_
  refine q_iconst (v := (2 : Int32)) hM dL_law_1274 (by decide) ?_
  refine q_iadd hM dL_law_1275 (fun z13928 hz13928 => ?_)
  have tz13928 := i_addT hz13928 (rfl : i.toInt = i.toInt) (kc_2 : (2 : Int32).toInt = 2) (by omega) (by omega)
  refine s_iald z13928.toInt.toNat hM hW hXB (by omega) (by omega) (by omega) dL_law_1276 ?_
  refine q_top (fun a13929 ha13929 => ?_)
  refine q_aload_n hM dL_law_1277 (lv_at hl 3 rfl) ?_
  refine q_iload_n hM dL_law_1278 (lv_at hl 0 rfl) ?_
  refine q_iconst (v := (3 : Int32)) hM dL_law_1279 (by decide) ?_
  refine q_iadd hM dL_law_1280 (fun z13930 hz13930 => ?_)
  have tz13930 := i_addT hz13930 (rfl : i.toInt = i.toInt) (kc_3 : (3 : Int32).toInt = 3) (by omega) (by omega)
  refine s_iald z13930.toInt.toNat hM hW hXB (by omega) (by omega) (by omega) dL_law_1281 ?_
  refine q_top (fun a13931 ha13931 => ?_)
  refine q_aload_n hM dL_law_1282 (lv_at hl 3 rfl) ?_
  refine q_iload_n hM dL_law_1283 (lv_at hl 0 rfl) ?_
  refine q_iconst (v := (4 : Int32)) hM dL_law_1284 (by decide) ?_
  refine q_iadd hM dL_law_1285 (fun z13932 hz13932 => ?_)
  have tz13932 := i_addT hz13932 (rfl : i.toInt = i.toInt) (kc_4 : (4 : Int32).toInt = 4) (by omega) (by omega)
  refine s_iald z13932.toInt.toNat hM hW hXB (by omega) (by omega) (by omega) dL_law_1286 ?_
  refine q_top (fun a13933 ha13933 => ?_)
  refine q_callV (As := [.int a13927, .int a13929, .int a13931, .int a13933]) (rest := []) hM hW hR hC myX11_odds (kAW (v_3_14 (List.mem_of_getElem? (i := 8) rfl)) rfl) (rfl : vwCl[11]? = some (RX11, TX11, 16)) rfl lb_0.1 (shO hP.1 lb_0) (p_X11_odds _ _ cA ad g a13927 a13929 a13931 a13933  hP.1 hP.2.1) ⟨by decide, by decide⟩ rfl rfl hl.1 (Nat.le_of_ble_eq_true rfl) dL_law_1287 (fun v g1 H locs hp hW => ?_)
  obtain ⟨r1, rfl, hs1, hG1, hf1⟩ := hp
  have hP0 := hP
  have hP : PI ad cA g1 := PI_fr hP0 hs1 hG1 hf1 (by omega) (by omega) (by omega) (by omega) (by omega) (by omega) (by omega) (by omega) (by omega)
  refine q_pop hM dL_law_1290 rfl ?_
  refine q_aload_n hM dL_law_1291 (lv_at hl 1 rfl) ?_
  refine q_aload_n hM dL_law_1292 (lv_at hl 3 rfl) ?_
  refine q_iload_n hM dL_law_1293 (lv_at hl 0 rfl) ?_
  refine q_iconst (v := (1 : Int32)) hM dL_law_1294 (by decide) ?_
  refine q_iadd hM dL_law_1295 (fun z13934 hz13934 => ?_)
  have tz13934 := i_addT hz13934 (rfl : i.toInt = i.toInt) (kc_1 : (1 : Int32).toInt = 1) (by omega) (by omega)
  refine s_iald z13934.toInt.toNat hM hW hXB (by omega) (by omega) (by omega) dL_law_1296 ?_
  refine q_top (fun a13935 ha13935 => ?_)
  refine q_aload_n hM dL_law_1297 (lv_at hl 3 rfl) ?_
  refine q_iload_n hM dL_law_1298 (lv_at hl 0 rfl) ?_
  refine q_iconst (v := (2 : Int32)) hM dL_law_1299 (by decide) ?_
  refine q_iadd hM dL_law_1300 (fun z13936 hz13936 => ?_)
  have tz13936 := i_addT hz13936 (rfl : i.toInt = i.toInt) (kc_2 : (2 : Int32).toInt = 2) (by omega) (by omega)
  refine s_iald z13936.toInt.toNat hM hW hXB (by omega) (by omega) (by omega) dL_law_1301 ?_
  refine q_top (fun a13937 ha13937 => ?_)
  refine q_aload_n hM dL_law_1302 (lv_at hl 3 rfl) ?_
  refine q_iload_n hM dL_law_1303 (lv_at hl 0 rfl) ?_
  refine q_iconst (v := (3 : Int32)) hM dL_law_1304 (by decide) ?_
  refine q_iadd hM dL_law_1305 (fun z13938 hz13938 => ?_)
  have tz13938 := i_addT hz13938 (rfl : i.toInt = i.toInt) (kc_3 : (3 : Int32).toInt = 3) (by omega) (by omega)
  refine s_iald z13938.toInt.toNat hM hW hXB (by omega) (by omega) (by omega) dL_law_1306 ?_
  refine q_top (fun a13939 ha13939 => ?_)
  refine q_aload_n hM dL_law_1307 (lv_at hl 3 rfl) ?_
  refine q_iload_n hM dL_law_1308 (lv_at hl 0 rfl) ?_
  refine q_iconst (v := (4 : Int32)) hM dL_law_1309 (by decide) ?_
  refine q_iadd hM dL_law_1310 (fun z13940 hz13940 => ?_)
  have tz13940 := i_addT hz13940 (rfl : i.toInt = i.toInt) (kc_4 : (4 : Int32).toInt = 4) (by omega) (by omega)
  refine s_iald z13940.toInt.toNat hM hW hXB (by omega) (by omega) (by omega) dL_law_1311 ?_
  refine q_top (fun a13941 ha13941 => ?_)
  refine q_callV (As := [.int a13935, .int a13937, .int a13939, .int a13941]) (rest := []) hM hW hR hC myX12_odds (kAW (v_7_4 (List.mem_of_getElem? (i := 3) rfl)) rfl) (rfl : vwCl[12]? = some (RX12, TX12, 86)) rfl lb_129.1 (shO hP.1 lb_129) (p_X12_odds _ _ cA ad g1 a13935 a13937 a13939 a13941 hP.1 hP.2.1) ⟨by decide, by decide⟩ rfl rfl hl.1 (Nat.le_of_ble_eq_true rfl) dL_law_1312 (fun v g2 H locs hp hW => ?_)
  obtain ⟨r2, rfl, hs2, hG2, hf2⟩ := hp
  have hP1 := hP
  have hP : PI ad cA g2 := PI_fr hP1 hs2 hG2 hf2 (by omega) (by omega) (by omega) (by omega) (by omega) (by omega) (by omega) (by omega) (by omega)
  have qa13935 : a13935 = a13927 := by rw [ha13935, ha13927]; congr 1; omega
  have qa13937 : a13937 = a13929 := by rw [ha13937, ha13929]; congr 1; omega
  have qa13939 : a13939 = a13931 := by rw [ha13939, ha13931]; congr 1; omega
  have qa13941 : a13941 = a13933 := by rw [ha13941, ha13933]; congr 1; omega
  refine q_pop hM dL_law_1315 rfl ?_
  refine q_goto (tgt := 1457) hM dL_law_1316 (by decide) ?_
  exact kk _ _ _ _ hP ⟨⟨(by rw [show fI g2 3 2 = fI g 3 2 from (FRf hf1 hf2 (by omega) (by omega)), show arI g2 131 = arI g 131 from ((hf2.2.1 131 (by omega)).trans (hf1.2.1 131 (by omega)))]; exact hRl.1.1), (by rw [show fI g2 18 3 = fI g 18 3 from (FRf hf1 hf2 (by omega) (by omega)), show arI g2 158 = arI g 158 from ((hf2.2.1 158 (by omega)).trans (hf1.2.1 158 (by omega)))]; exact hRl.1.2.1), (by rw [show fI g2 30 3 = fI g 30 3 from (FRf hf1 hf2 (by omega) (by omega)), show arI g2 162 = arI g 162 from ((hf2.2.1 162 (by omega)).trans (hf1.2.1 162 (by omega)))]; exact hRl.1.2.2.1), (((FRf hf1 hf2 (by omega) (by omega))).trans (hRl.1.2.2.2.1.trans ((FRf hf1 hf2 (by omega) (by omega))).symm)), (((FRf hf1 hf2 (by omega) (by omega))).trans (hRl.1.2.2.2.2.1.trans ((FRf hf1 hf2 (by omega) (by omega))).symm)), (((FRf hf1 hf2 (by omega) (by omega))).trans (hRl.1.2.2.2.2.2.trans (congrFun ((hf2.2.1 166 (by omega)).trans (hf1.2.1 166 (by omega))) 1).symm))⟩, (fun k j hk hj => (congrFun ((hf2.2.1 (6 + 1 * k) (by omega)).trans (hf1.2.1 (6 + 1 * k) (by omega))) j).trans ((hRl.2 k j hk hj).trans (congrFun ((hf2.2.1 133 (by omega)).trans (hf1.2.1 133 (by omega))) _).symm))⟩ hW hl

set_option maxRecDepth 100000 in
set_option maxHeartbeats 4000000 in
theorem lc_crib {K : KT} {cA : Nat → ClassId} {ad : Nat → Nat} {b L : Nat} {xs : Nat → Int32} {H : Heap} {locs : List Loc} {ls : Array Slot} {g : Nat → va_E} {i : Int32} (hM : MB K cA code 4 R_law) (hXB : XB K b L xs) (hL : L ≤ 3072) (hR : HasRoom K 2048 84000) (hC : Cells K 600000 7302250) (hP : PI ad cA g) (hRl : RQ g) (hi0 : 0 ≤ i.toInt) (hi : i.toInt + 6 ≤ L) (hW : WB NN ad K g H locs) (hl : lv_has ls 4 [(3, .int i), (2, .ref (ad 129)), (1, .ref (ad 0)), (0, .ref b)]) (kk : ∀ (g : Nat → va_E) (H : Heap) (locs : List Loc) (ls : Array Slot), PI ad cA g → RQ g → WB NN ad K g H locs → lv_has ls 4 [(3, .int i), (2, .ref (ad 129)), (1, .ref (ad 0)), (0, .ref b)] → XX K 600000 7302250 H locs 1457 ls []) : XX K 600000 7302250 H locs 1319 ls [] := by
  have hLn : L < 1000000 := by omega
  obtain ⟨lw, lwn, hlc, h13, h14⟩ := id hP.2.2.1
  refine q_aload_n hM dL_law_1319 (lv_at hl 2 rfl) ?_
  refine q_aload_n hM dL_law_1320 (lv_at hl 3 rfl) ?_
  refine q_iload_n hM dL_law_1321 (lv_at hl 0 rfl) ?_
  refine q_iconst (v := (1 : Int32)) hM dL_law_1322 (by decide) ?_
  refine q_iadd hM dL_law_1323 (fun z13942 hz13942 => ?_)
  have tz13942 := i_addT hz13942 (rfl : i.toInt = i.toInt) (kc_1 : (1 : Int32).toInt = 1) (by omega) (by omega)
  refine s_iald z13942.toInt.toNat hM hW hXB (by omega) (by omega) (by omega) dL_law_1324 ?_
  refine q_top (fun a13943 ha13943 => ?_)
  refine q_aload_n hM dL_law_1325 (lv_at hl 3 rfl) ?_
  refine q_iload_n hM dL_law_1326 (lv_at hl 0 rfl) ?_
  refine q_iconst (v := (2 : Int32)) hM dL_law_1327 (by decide) ?_
  refine q_iadd hM dL_law_1328 (fun z13944 hz13944 => ?_)
  have tz13944 := i_addT hz13944 (rfl : i.toInt = i.toInt) (kc_2 : (2 : Int32).toInt = 2) (by omega) (by omega)
  refine s_iald z13944.toInt.toNat hM hW hXB (by omega) (by omega) (by omega) dL_law_1329 ?_
  refine q_top (fun a13945 ha13945 => ?_)
  refine q_callV (As := [.int a13943, .int a13945]) (rest := []) hM hW hR hC myX11_crib (kAW (v_4_0 (List.mem_of_getElem? (i := 13) rfl)) rfl) (rfl : vwCl[11]? = some (RX11, TX11, 16)) rfl lb_0.1 (shO hP.1 lb_0) (p_X11_crib _ _ cA ad g a13943 a13945 lw hP.1 hP.2.1 (by unfold isLw; omega) h13) ⟨by decide, by decide⟩ rfl rfl hl.1 (Nat.le_of_ble_eq_true rfl) dL_law_1330 (fun v g1 H locs hp hW => ?_)
  obtain ⟨r1, rfl, hs1, hG1, hf1⟩ := hp
  have hP0 := hP
  have hP : PI ad cA g1 := PI_fr hP0 hs1 hG1 hf1 (by omega) (by omega) (by omega) (by omega) (by omega) (by omega) (by omega) (by omega) (by omega)
  refine q_pop hM dL_law_1333 rfl ?_
  refine q_aload_n hM dL_law_1334 (lv_at hl 1 rfl) ?_
  refine q_aload_n hM dL_law_1335 (lv_at hl 3 rfl) ?_
  refine q_iload_n hM dL_law_1336 (lv_at hl 0 rfl) ?_
  refine q_iconst (v := (1 : Int32)) hM dL_law_1337 (by decide) ?_
  refine q_iadd hM dL_law_1338 (fun z13946 hz13946 => ?_)
  have tz13946 := i_addT hz13946 (rfl : i.toInt = i.toInt) (kc_1 : (1 : Int32).toInt = 1) (by omega) (by omega)
  refine s_iald z13946.toInt.toNat hM hW hXB (by omega) (by omega) (by omega) dL_law_1339 ?_
  refine q_top (fun a13947 ha13947 => ?_)
  refine q_aload_n hM dL_law_1340 (lv_at hl 3 rfl) ?_
  refine q_iload_n hM dL_law_1341 (lv_at hl 0 rfl) ?_
  refine q_iconst (v := (2 : Int32)) hM dL_law_1342 (by decide) ?_
  refine q_iadd hM dL_law_1343 (fun z13948 hz13948 => ?_)
  have tz13948 := i_addT hz13948 (rfl : i.toInt = i.toInt) (kc_2 : (2 : Int32).toInt = 2) (by omega) (by omega)
  refine s_iald z13948.toInt.toNat hM hW hXB (by omega) (by omega) (by omega) dL_law_1344 ?_
  refine q_top (fun a13949 ha13949 => ?_)
  refine q_callV (As := [.int a13947, .int a13949]) (rest := []) hM hW hR hC myX12_crib (kAW (v_7_4 (List.mem_of_getElem? (i := 10) rfl)) rfl) (rfl : vwCl[12]? = some (RX12, TX12, 86)) rfl lb_129.1 (shO hP.1 lb_129) (p_X12_crib _ _ cA ad g1 a13947 a13949 hP.1 hP.2.1 hP.2.2.2.1.1) ⟨by decide, by decide⟩ rfl rfl hl.1 (Nat.le_of_ble_eq_true rfl) dL_law_1345 (fun v g2 H locs hp hW => ?_)
  obtain ⟨r2, rfl, hs2, hG2, hf2⟩ := hp
  have hP1 := hP
  have hP : PI ad cA g2 := PI_fr hP1 hs2 hG2 hf2 (by omega) (by omega) (by omega) (by omega) (by omega) (by omega) (by omega) (by omega) (by omega)
  have qa13947 : a13947 = a13943 := by rw [ha13947, ha13943]; congr 1; omega
  have qa13949 : a13949 = a13945 := by rw [ha13949, ha13945]; congr 1; omega
  refine q_pop hM dL_law_1348 rfl ?_
  refine q_goto (tgt := 1457) hM dL_law_1349 (by decide) ?_
  exact kk _ _ _ _ hP ⟨⟨(by rw [show fI g2 3 2 = fI g 3 2 from (FRf hf1 hf2 (by omega) (by omega)), show arI g2 131 = arI g 131 from ((hf2.2.1 131 (by omega)).trans (hf1.2.1 131 (by omega)))]; exact hRl.1.1), (by rw [show fI g2 18 3 = fI g 18 3 from (FRf hf1 hf2 (by omega) (by omega)), show arI g2 158 = arI g 158 from ((hf2.2.1 158 (by omega)).trans (hf1.2.1 158 (by omega)))]; exact hRl.1.2.1), (by rw [show fI g2 30 3 = fI g 30 3 from (FRf hf1 hf2 (by omega) (by omega)), show arI g2 162 = arI g 162 from ((hf2.2.1 162 (by omega)).trans (hf1.2.1 162 (by omega)))]; exact hRl.1.2.2.1), (((FRf hf1 hf2 (by omega) (by omega))).trans (hRl.1.2.2.2.1.trans ((FRf hf1 hf2 (by omega) (by omega))).symm)), (((FRf hf1 hf2 (by omega) (by omega))).trans (hRl.1.2.2.2.2.1.trans ((FRf hf1 hf2 (by omega) (by omega))).symm)), (((FRf hf1 hf2 (by omega) (by omega))).trans (hRl.1.2.2.2.2.2.trans (congrFun ((hf2.2.1 166 (by omega)).trans (hf1.2.1 166 (by omega))) 1).symm))⟩, (fun k j hk hj => (congrFun ((hf2.2.1 (6 + 1 * k) (by omega)).trans (hf1.2.1 (6 + 1 * k) (by omega))) j).trans ((hRl.2 k j hk hj).trans (congrFun ((hf2.2.1 133 (by omega)).trans (hf1.2.1 133 (by omega))) _).symm))⟩ hW hl

set_option maxRecDepth 100000 in
set_option maxHeartbeats 4000000 in
theorem lc_seed {K : KT} {cA : Nat → ClassId} {ad : Nat → Nat} {b L : Nat} {xs : Nat → Int32} {H : Heap} {locs : List Loc} {ls : Array Slot} {g : Nat → va_E} {i : Int32} (hM : MB K cA code 4 R_law) (hXB : XB K b L xs) (hL : L ≤ 3072) (hR : HasRoom K 2048 84000) (hC : Cells K 600000 7302250) (hP : PI ad cA g) (hRl : RQ g) (hi0 : 0 ≤ i.toInt) (hi : i.toInt + 6 ≤ L) (hW : WB NN ad K g H locs) (hl : lv_has ls 4 [(3, .int i), (2, .ref (ad 129)), (1, .ref (ad 0)), (0, .ref b)]) (kk : ∀ (g : Nat → va_E) (H : Heap) (locs : List Loc) (ls : Array Slot), PI ad cA g → RQ g → WB NN ad K g H locs → lv_has ls 4 [(3, .int i), (2, .ref (ad 129)), (1, .ref (ad 0)), (0, .ref b)] → XX K 600000 7302250 H locs 1457 ls []) : XX K 600000 7302250 H locs 1352 ls [] := by
  have hLn : L < 1000000 := by omega
  obtain ⟨lw, lwn, hlc, h13, h14⟩ := id hP.2.2.1
  refine q_aload_n hM dL_law_1352 (lv_at hl 2 rfl) ?_
  refine q_aload_n hM dL_law_1353 (lv_at hl 3 rfl) ?_
  refine q_iload_n hM dL_law_1354 (lv_at hl 0 rfl) ?_
  refine q_iconst (v := (1 : Int32)) hM dL_law_1355 (by decide) ?_
  refine q_iadd hM dL_law_1356 (fun z13950 hz13950 => ?_)
  have tz13950 := i_addT hz13950 (rfl : i.toInt = i.toInt) (kc_1 : (1 : Int32).toInt = 1) (by omega) (by omega)
  refine s_iald z13950.toInt.toNat hM hW hXB (by omega) (by omega) (by omega) dL_law_1357 ?_
  refine q_top (fun a13951 ha13951 => ?_)
  refine q_callV (As := [.int a13951]) (rest := []) hM hW hR hC myX11_seed (kAW (v_4_1 (List.mem_of_getElem? (i := 2) rfl)) rfl) (rfl : vwCl[11]? = some (RX11, TX11, 16)) rfl lb_0.1 (shO hP.1 lb_0) (p_X11_seed _ _ cA ad g a13951  hP.1 hP.2.1) ⟨by decide, by decide⟩ rfl rfl hl.1 (Nat.le_of_ble_eq_true rfl) dL_law_1358 (fun v g1 H locs hp hW => ?_)
  obtain ⟨r1, rfl, hs1, hG1, hf1, ha1⟩ := hp
  have hP0 := hP
  have hP : PI ad cA g1 := PI_fr hP0 hs1 hG1 hf1 (by omega) (by omega) (by omega) (by omega) (by omega) (by omega) (by omega) (by omega) (by omega)
  refine q_pop hM dL_law_1361 rfl ?_
  refine q_aload_n hM dL_law_1362 (lv_at hl 1 rfl) ?_
  refine q_aload_n hM dL_law_1363 (lv_at hl 3 rfl) ?_
  refine q_iload_n hM dL_law_1364 (lv_at hl 0 rfl) ?_
  refine q_iconst (v := (1 : Int32)) hM dL_law_1365 (by decide) ?_
  refine q_iadd hM dL_law_1366 (fun z13952 hz13952 => ?_)
  have tz13952 := i_addT hz13952 (rfl : i.toInt = i.toInt) (kc_1 : (1 : Int32).toInt = 1) (by omega) (by omega)
  refine s_iald z13952.toInt.toNat hM hW hXB (by omega) (by omega) (by omega) dL_law_1367 ?_
  refine q_top (fun a13953 ha13953 => ?_)
  refine q_callV (As := [.int a13953]) (rest := []) hM hW hR hC myX12_seed (kAW (v_7_5 (List.mem_of_getElem? (i := 2) rfl)) rfl) (rfl : vwCl[12]? = some (RX12, TX12, 86)) rfl lb_129.1 (shO hP.1 lb_129) (p_X12_seed _ _ cA ad g1 a13953 hP.1 hP.2.1) ⟨by decide, by decide⟩ rfl rfl hl.1 (Nat.le_of_ble_eq_true rfl) dL_law_1368 (fun v g2 H locs hp hW => ?_)
  obtain ⟨r2, rfl, hs2, hG2, hf2, ha2⟩ := hp
  have hP1 := hP
  have hP : PI ad cA g2 := PI_fr hP1 hs2 hG2 hf2 (by omega) (by omega) (by omega) (by omega) (by omega) (by omega) (by omega) (by omega) (by omega)
  have qa13953 : a13953 = a13951 := by rw [ha13953, ha13951]; congr 1; omega
  first | rw [qa13953] at ha2 | skip
  refine q_pop hM dL_law_1371 rfl ?_
  refine q_goto (tgt := 1457) hM dL_law_1372 (by decide) ?_
  exact kk _ _ _ _ hP ⟨⟨(by rw [show fI g2 3 2 = fI g 3 2 from (FRf hf1 hf2 (by omega) (by omega)), show arI g2 131 = arI g 131 from ((hf2.2.1 131 (by omega)).trans (hf1.2.1 131 (by omega)))]; exact hRl.1.1), (by rw [show fI g2 18 3 = fI g 18 3 from (FRf hf1 hf2 (by omega) (by omega)), show arI g2 158 = arI g 158 from ((hf2.2.1 158 (by omega)).trans (hf1.2.1 158 (by omega)))]; exact hRl.1.2.1), (by rw [show fI g2 30 3 = fI g 30 3 from (FRf hf1 hf2 (by omega) (by omega)), show arI g2 162 = arI g 162 from ((hf2.2.1 162 (by omega)).trans (hf1.2.1 162 (by omega)))]; exact hRl.1.2.2.1), (((FRf hf1 hf2 (by omega) (by omega))).trans (hRl.1.2.2.2.1.trans ((FRf hf1 hf2 (by omega) (by omega))).symm)), (((FRf hf1 hf2 (by omega) (by omega))).trans (hRl.1.2.2.2.2.1.trans ((FRf hf1 hf2 (by omega) (by omega))).symm)), (((FRf hf1 hf2 (by omega) (by omega))).trans (hRl.1.2.2.2.2.2.trans (congrFun ((hf2.2.1 166 (by omega)).trans (hf1.2.1 166 (by omega))) 1).symm))⟩, (fun k j hk hj => (congrFun ((hf2.2.1 (6 + 1 * k) (by omega)).trans (hf1.2.1 (6 + 1 * k) (by omega))) j).trans ((hRl.2 k j hk hj).trans (congrFun ((hf2.2.1 133 (by omega)).trans (hf1.2.1 133 (by omega))) _).symm))⟩ hW hl

set_option maxRecDepth 100000 in
set_option maxHeartbeats 4000000 in
theorem lc_keep {K : KT} {cA : Nat → ClassId} {ad : Nat → Nat} {b L : Nat} {xs : Nat → Int32} {H : Heap} {locs : List Loc} {ls : Array Slot} {g : Nat → va_E} {i : Int32} (hM : MB K cA code 4 R_law) (hXB : XB K b L xs) (hL : L ≤ 3072) (hR : HasRoom K 2048 84000) (hC : Cells K 600000 7302250) (hP : PI ad cA g) (hRl : RQ g) (hi0 : 0 ≤ i.toInt) (hi : i.toInt + 6 ≤ L) (hW : WB NN ad K g H locs) (hl : lv_has ls 4 [(3, .int i), (2, .ref (ad 129)), (1, .ref (ad 0)), (0, .ref b)]) (kk : ∀ (g : Nat → va_E) (H : Heap) (locs : List Loc) (ls : Array Slot), PI ad cA g → RQ g → WB NN ad K g H locs → lv_has ls 4 [(3, .int i), (2, .ref (ad 129)), (1, .ref (ad 0)), (0, .ref b)] → XX K 600000 7302250 H locs 1457 ls []) : XX K 600000 7302250 H locs 1375 ls [] := by
  have hLn : L < 1000000 := by omega
  obtain ⟨lw, lwn, hlc, h13, h14⟩ := id hP.2.2.1
  refine q_aload_n hM dL_law_1375 (lv_at hl 2 rfl) ?_
  refine q_callV (As := []) (rest := []) hM hW hR hC myX11_keep (kAW (v_4_1 (List.mem_of_getElem? (i := 7) rfl)) rfl) (rfl : vwCl[11]? = some (RX11, TX11, 16)) rfl lb_0.1 (shO hP.1 lb_0) (s_X11_keep _ _ cA ad g  (fI g 18 3) (fI g 18 4)  hP.1 hP.2.1 (shI hP.1 lb_18 (by decide) (by decide)) (shI hP.1 lb_18 (by decide) (by decide))) ⟨by decide, by decide⟩ rfl rfl hl.1 (Nat.le_of_ble_eq_true rfl) dL_law_1376 (fun v g1 H locs hp hW => ?_)
  obtain ⟨r1, rfl, hs1, hG1, hf1, cx0, cx1, cx2, ha1⟩ := hp
  have hP0 := hP
  have hP : PI ad cA g1 := PI_fr hP0 hs1 hG1 hf1 (by omega) (by omega) (by omega) (by omega) (by omega) (by omega) (by omega) (by omega) (by omega)
  refine q_pop hM dL_law_1379 rfl ?_
  refine q_aload_n hM dL_law_1380 (lv_at hl 1 rfl) ?_
  refine q_callV (As := []) (rest := []) hM hW hR hC myX12_keep (kAW (v_7_5 (List.mem_of_getElem? (i := 7) rfl)) rfl) (rfl : vwCl[12]? = some (RX12, TX12, 86)) rfl lb_129.1 (shO hP.1 lb_129) (s_X12_keep _ _ cA ad g1  (fI g1 129 56) hP.1 hP.2.1 (shI hP.1 lb_129 (by decide) (by decide)) (fun q hq => by rw [hf1.2.1 158 (by omega)]; exact SM_01 hRl.1.2.1 q hq)) ⟨by decide, by decide⟩ rfl rfl hl.1 (Nat.le_of_ble_eq_true rfl) dL_law_1381 (fun v g2 H locs hp hW => ?_)
  obtain ⟨r2, rfl, hs2, hG2, hf2, cm0, cm1, cm2, ha2⟩ := hp
  have hP1 := hP
  have hP : PI ad cA g2 := PI_fr hP1 hs2 hG2 hf2 (by omega) (by omega) (by omega) (by omega) (by omega) (by omega) (by omega) (by omega) (by omega)
  have k5 : r1 = r2 := by rw [ha1, ha2, FR1f hf1 (by omega)]; exact hRl.1.2.2.2.2.1
  rw [k5] at *
  refine q_pop hM dL_law_1384 rfl ?_
  refine q_goto (tgt := 1457) hM dL_law_1385 (by decide) ?_
  exact kk _ _ _ _ hP ⟨⟨(by rw [show fI g2 3 2 = fI g 3 2 from (FRf hf1 hf2 (by omega) (by omega)), show arI g2 131 = arI g 131 from ((hf2.2.1 131 (by omega)).trans (hf1.2.1 131 (by omega)))]; exact hRl.1.1), (by rw [show fI g2 18 3 = fI g 18 3 from (FRf hf1 hf2 (by omega) (by omega)), show arI g2 158 = arI g 158 from ((hf2.2.1 158 (by omega)).trans (hf1.2.1 158 (by omega)))]; exact hRl.1.2.1), (by rw [show fI g2 30 3 = fI g 18 3 from ((FR1f hf2 (by omega)).trans (fI_of cx0))]; exact SM_cg hRl.1.2.1 (fun q hq => (cm1 q hq).trans (congrFun (hf1.2.1 158 (by omega)) q))), (((FR1f hf2 (by omega)).trans (fI_of cx2)).trans (fI_of cm0).symm), (((FRf hf1 hf2 (by omega) (by omega))).trans (hRl.1.2.2.2.2.1.trans ((FRf hf1 hf2 (by omega) (by omega))).symm)), (((FR1f hf2 (by omega)).trans (fI_of cx1)).trans (hRl.1.2.2.2.2.1.trans ((FR1f hf1 (by omega)).symm.trans cm2.symm)))⟩, (fun k j hk hj => (congrFun ((hf2.2.1 (6 + 1 * k) (by omega)).trans (hf1.2.1 (6 + 1 * k) (by omega))) j).trans ((hRl.2 k j hk hj).trans (congrFun ((hf2.2.1 133 (by omega)).trans (hf1.2.1 133 (by omega))) _).symm))⟩ hW hl
