set_option maxRecDepth 100000 in
set_option maxHeartbeats 4000000 in
theorem lc_cut {K : KT} {cA : Nat → ClassId} {ad : Nat → Nat} {b L : Nat} {xs : Nat → Int32} {H : Heap} {locs : List Loc} {ls : Array Slot} {g : Nat → va_E} {i : Int32} (hM : MB K cA code 4 R_law) (hXB : XB K b L xs) (hL : L ≤ 3072) (hR : HasRoom K 2048 84000) (hC : Cells K 600000 7302250) (hP : PI ad cA g) (hRl : RT g) (hi0 : 0 ≤ i.toInt) (hi : i.toInt + 6 ≤ L) (hW : WB NN ad K g H locs) (hl : lv_has ls 4 [(3, .int i), (2, .ref (ad 129)), (1, .ref (ad 0)), (0, .ref b)]) (kk : ∀ (g : Nat → va_E) (H : Heap) (locs : List Loc) (ls : Array Slot), PI ad cA g → RT g → WB NN ad K g H locs → lv_has ls 4 [(3, .int i), (2, .ref (ad 129)), (1, .ref (ad 0)), (0, .ref b)] → XX K 600000 7302250 H locs 1457 ls []) : XX K 600000 7302250 H locs 926 ls [] := by
  have hLn : L < 1000000 := by omega
  obtain ⟨lw, lwn, hlc, h13, h14⟩ := id hP.2.2.1
  refine q_aload_n hM dL_law_926 (lv_at hl 2 rfl) ?_
  refine q_aload_n hM dL_law_927 (lv_at hl 3 rfl) ?_
  refine q_iload_n hM dL_law_928 (lv_at hl 0 rfl) ?_
  refine q_iconst (v := (1 : Int32)) hM dL_law_929 (by decide) ?_
  refine q_iadd hM dL_law_930 (fun z14050 hz14050 => ?_)
  have tz14050 := i_addT hz14050 (rfl : i.toInt = i.toInt) (kc_1 : (1 : Int32).toInt = 1) (by omega) (by omega)
  refine s_iald z14050.toInt.toNat hM hW hXB (by omega) (by omega) (by omega) dL_law_931 ?_
  refine q_top (fun a14051 ha14051 => ?_)
  refine q_aload_n hM dL_law_932 (lv_at hl 3 rfl) ?_
  refine q_iload_n hM dL_law_933 (lv_at hl 0 rfl) ?_
  refine q_iconst (v := (2 : Int32)) hM dL_law_934 (by decide) ?_
  refine q_iadd hM dL_law_935 (fun z14052 hz14052 => ?_)
  have tz14052 := i_addT hz14052 (rfl : i.toInt = i.toInt) (kc_2 : (2 : Int32).toInt = 2) (by omega) (by omega)
  refine s_iald z14052.toInt.toNat hM hW hXB (by omega) (by omega) (by omega) dL_law_936 ?_
  refine q_top (fun a14053 ha14053 => ?_)
  refine q_aload_n hM dL_law_937 (lv_at hl 3 rfl) ?_
  refine q_iload_n hM dL_law_938 (lv_at hl 0 rfl) ?_
  refine q_iconst (v := (3 : Int32)) hM dL_law_939 (by decide) ?_
  refine q_iadd hM dL_law_940 (fun z14054 hz14054 => ?_)
  have tz14054 := i_addT hz14054 (rfl : i.toInt = i.toInt) (kc_3 : (3 : Int32).toInt = 3) (by omega) (by omega)
  refine s_iald z14054.toInt.toNat hM hW hXB (by omega) (by omega) (by omega) dL_law_941 ?_
  refine q_top (fun a14055 ha14055 => ?_)
  refine q_callV (As := [.int a14051, .int a14053, .int a14055]) (rest := []) hM hW hR hC myX11_cut (kAW (v_3_7 (List.mem_of_getElem? (i := 2) rfl)) rfl) (rfl : vwCl[11]? = some (RX11, TX11, 16)) rfl lb_0.1 (shO hP.1 lb_0) (p_X11_cut _ _ cA ad g a14051 a14053 a14055  hP.1 hP.2.1) ⟨by decide, by decide⟩ rfl rfl hl.1 (Nat.le_of_ble_eq_true rfl) dL_law_942 (fun v g1 H locs hp hW => ?_)
  obtain ⟨r1, rfl, hs1, hG1, hf1⟩ := hp
  have hP0 := hP
  have hP : PI ad cA g1 := PI_fr hP0 hs1 hG1 hf1 (fun h => h) (fun h => h) (fun h => h) (fun h => h) (fun h => h) (fun h => h) (fun h => h) (fun h => h) (fun h => h)
  refine q_pop hM dL_law_945 rfl ?_
  refine q_aload_n hM dL_law_946 (lv_at hl 1 rfl) ?_
  refine q_aload_n hM dL_law_947 (lv_at hl 3 rfl) ?_
  refine q_iload_n hM dL_law_948 (lv_at hl 0 rfl) ?_
  refine q_iconst (v := (1 : Int32)) hM dL_law_949 (by decide) ?_
  refine q_iadd hM dL_law_950 (fun z14056 hz14056 => ?_)
  have tz14056 := i_addT hz14056 (rfl : i.toInt = i.toInt) (kc_1 : (1 : Int32).toInt = 1) (by omega) (by omega)
  refine s_iald z14056.toInt.toNat hM hW hXB (by omega) (by omega) (by omega) dL_law_951 ?_
  refine q_top (fun a14057 ha14057 => ?_)
  refine q_aload_n hM dL_law_952 (lv_at hl 3 rfl) ?_
  refine q_iload_n hM dL_law_953 (lv_at hl 0 rfl) ?_
  refine q_iconst (v := (2 : Int32)) hM dL_law_954 (by decide) ?_
  refine q_iadd hM dL_law_955 (fun z14058 hz14058 => ?_)
  have tz14058 := i_addT hz14058 (rfl : i.toInt = i.toInt) (kc_2 : (2 : Int32).toInt = 2) (by omega) (by omega)
  refine s_iald z14058.toInt.toNat hM hW hXB (by omega) (by omega) (by omega) dL_law_956 ?_
  refine q_top (fun a14059 ha14059 => ?_)
  refine q_aload_n hM dL_law_957 (lv_at hl 3 rfl) ?_
  refine q_iload_n hM dL_law_958 (lv_at hl 0 rfl) ?_
  refine q_iconst (v := (3 : Int32)) hM dL_law_959 (by decide) ?_
  refine q_iadd hM dL_law_960 (fun z14060 hz14060 => ?_)
  have tz14060 := i_addT hz14060 (rfl : i.toInt = i.toInt) (kc_3 : (3 : Int32).toInt = 3) (by omega) (by omega)
  refine s_iald z14060.toInt.toNat hM hW hXB (by omega) (by omega) (by omega) dL_law_961 ?_
  refine q_top (fun a14061 ha14061 => ?_)
  refine q_callV (As := [.int a14057, .int a14059, .int a14061]) (rest := []) hM hW hR hC myX12_cut (kAW (v_5_7 (List.mem_of_getElem? (i := 9) rfl)) rfl) (rfl : vwCl[12]? = some (RX12, TX12, 86)) rfl lb_129.1 (shO hP.1 lb_129) (p_X12_cut _ _ cA ad g1 a14057 a14059 a14061 hP.1 hP.2.1) ⟨by decide, by decide⟩ rfl rfl hl.1 (Nat.le_of_ble_eq_true rfl) dL_law_962 (fun v g2 H locs hp hW => ?_)
  obtain ⟨r2, rfl, hs2, hG2, hf2⟩ := hp
  have hP1 := hP
  have hP : PI ad cA g2 := PI_fr hP1 hs2 hG2 hf2 (fun h => h) (fun h => h) (fun h => h) (fun h => h) (fun h => h) (fun h => h) (fun h => h) (fun h => h) (fun h => h)
  have qa14057 : a14057 = a14051 := by rw [ha14057, ha14051]; congr 1; omega
  have qa14059 : a14059 = a14053 := by rw [ha14059, ha14053]; congr 1; omega
  have qa14061 : a14061 = a14055 := by rw [ha14061, ha14055]; congr 1; omega
  refine q_pop hM dL_law_965 rfl ?_
  refine q_goto (tgt := 1457) hM dL_law_966 (by decide) ?_
  exact kk _ _ _ _ hP ⟨⟨(by rw [show fI g2 3 2 = fI g 3 2 from (FRf hf1 hf2 (fun h => h) (fun h => h)), show arI g2 131 = arI g 131 from ((hf2.2.1 131 (fun h => h)).trans (hf1.2.1 131 (fun h => h)))]; exact hRl.1.1), (by rw [show fI g2 18 3 = fI g 18 3 from (FRf hf1 hf2 (fun h => h) (fun h => h)), show arI g2 158 = arI g 158 from ((hf2.2.1 158 (fun h => h)).trans (hf1.2.1 158 (fun h => h)))]; exact hRl.1.2.1), (by rw [show fI g2 30 3 = fI g 30 3 from (FRf hf1 hf2 (fun h => h) (fun h => h)), show arI g2 162 = arI g 162 from ((hf2.2.1 162 (fun h => h)).trans (hf1.2.1 162 (fun h => h)))]; exact hRl.1.2.2.1), (((FRf hf1 hf2 (fun h => h) (fun h => h))).trans (hRl.1.2.2.2.1.trans ((FRf hf1 hf2 (fun h => h) (fun h => h))).symm)), (((FRf hf1 hf2 (fun h => h) (fun h => h))).trans (hRl.1.2.2.2.2.1.trans ((FRf hf1 hf2 (fun h => h) (fun h => h))).symm)), (((FRf hf1 hf2 (fun h => h) (fun h => h))).trans (hRl.1.2.2.2.2.2.trans (congrFun ((hf2.2.1 166 (fun h => h)).trans (hf1.2.1 166 (fun h => h))) 1).symm))⟩, ⟨by rw [show fI g2 102 4 = fI g 102 4 from (FRf hf1 hf2 (fun h => h) (fun h => h)), show arI g2 176 = arI g 176 from ((hf2.2.1 176 (fun h => h)).trans (hf1.2.1 176 (fun h => h)))]; exact hRl.2.1, fun m k hm hk => by rw [show arI g2 (113 + 1 * m) = arI g (113 + 1 * m) from (hf2.2.1 (113 + 1 * m) (fun h => h)).trans (hf1.2.1 (113 + 1 * m) (fun h => h)), show arI g2 177 = arI g 177 from ((hf2.2.1 177 (fun h => h)).trans (hf1.2.1 177 (fun h => h)))]; exact hRl.2.2 m k hm hk⟩⟩ hW hl

set_option maxRecDepth 100000 in
set_option maxHeartbeats 4000000 in
theorem lc_recalls {K : KT} {cA : Nat → ClassId} {ad : Nat → Nat} {b L : Nat} {xs : Nat → Int32} {H : Heap} {locs : List Loc} {ls : Array Slot} {g : Nat → va_E} {i : Int32} (hM : MB K cA code 4 R_law) (hXB : XB K b L xs) (hL : L ≤ 3072) (hR : HasRoom K 2048 84000) (hC : Cells K 600000 7302250) (hP : PI ad cA g) (hRl : RT g) (hi0 : 0 ≤ i.toInt) (hi : i.toInt + 6 ≤ L) (hW : WB NN ad K g H locs) (hl : lv_has ls 4 [(3, .int i), (2, .ref (ad 129)), (1, .ref (ad 0)), (0, .ref b)]) (kk : ∀ (g : Nat → va_E) (H : Heap) (locs : List Loc) (ls : Array Slot), PI ad cA g → RT g → WB NN ad K g H locs → lv_has ls 4 [(3, .int i), (2, .ref (ad 129)), (1, .ref (ad 0)), (0, .ref b)] → XX K 600000 7302250 H locs 1457 ls []) : XX K 600000 7302250 H locs 969 ls [] := by
  have hLn : L < 1000000 := by omega
  obtain ⟨lw, lwn, hlc, h13, h14⟩ := id hP.2.2.1
  refine q_aload_n hM dL_law_969 (lv_at hl 2 rfl) ?_
  refine q_aload_n hM dL_law_970 (lv_at hl 3 rfl) ?_
  refine q_iload_n hM dL_law_971 (lv_at hl 0 rfl) ?_
  refine q_iconst (v := (1 : Int32)) hM dL_law_972 (by decide) ?_
  refine q_iadd hM dL_law_973 (fun z14062 hz14062 => ?_)
  have tz14062 := i_addT hz14062 (rfl : i.toInt = i.toInt) (kc_1 : (1 : Int32).toInt = 1) (by omega) (by omega)
  refine s_iald z14062.toInt.toNat hM hW hXB (by omega) (by omega) (by omega) dL_law_974 ?_
  refine q_top (fun a14063 ha14063 => ?_)
  refine q_callV (As := [.int a14063]) (rest := []) hM hW hR hC myX11_recalls (kAW (v_3_8 (List.mem_of_getElem? (i := 5) rfl)) rfl) (rfl : vwCl[11]? = some (RX11, TX11, 16)) rfl lb_0.1 (shO hP.1 lb_0) (p_X11_recalls _ _ cA ad g a14063  hP.1 hP.2.1) ⟨by decide, by decide⟩ rfl rfl hl.1 (Nat.le_of_ble_eq_true rfl) dL_law_975 (fun v g1 H locs hp hW => ?_)
  obtain ⟨r1, rfl, hs1, hG1, hf1⟩ := hp
  have hP0 := hP
  have hP : PI ad cA g1 := PI_fr hP0 hs1 hG1 hf1 (fun h => h) (fun h => h) (fun h => h) (fun h => h) (fun h => h) (fun h => h) (fun h => h) (fun h => h) (fun h => h)
  refine q_pop hM dL_law_978 rfl ?_
  refine q_aload_n hM dL_law_979 (lv_at hl 1 rfl) ?_
  refine q_aload_n hM dL_law_980 (lv_at hl 3 rfl) ?_
  refine q_iload_n hM dL_law_981 (lv_at hl 0 rfl) ?_
  refine q_iconst (v := (1 : Int32)) hM dL_law_982 (by decide) ?_
  refine q_iadd hM dL_law_983 (fun z14064 hz14064 => ?_)
  have tz14064 := i_addT hz14064 (rfl : i.toInt = i.toInt) (kc_1 : (1 : Int32).toInt = 1) (by omega) (by omega)
  refine s_iald z14064.toInt.toNat hM hW hXB (by omega) (by omega) (by omega) dL_law_984 ?_
  refine q_top (fun a14065 ha14065 => ?_)
  refine q_callV (As := [.int a14065]) (rest := []) hM hW hR hC myX12_recalls (kAW (v_5_5 (List.mem_of_getElem? (i := 11) rfl)) rfl) (rfl : vwCl[12]? = some (RX12, TX12, 86)) rfl lb_129.1 (shO hP.1 lb_129) (p_X12_recalls _ _ cA ad g1 a14065 hP.1 hP.2.1) ⟨by decide, by decide⟩ rfl rfl hl.1 (Nat.le_of_ble_eq_true rfl) dL_law_985 (fun v g2 H locs hp hW => ?_)
  obtain ⟨r2, rfl, hs2, hG2, hf2⟩ := hp
  have hP1 := hP
  have hP : PI ad cA g2 := PI_fr hP1 hs2 hG2 hf2 (fun h => h) (fun h => h) (fun h => h) (fun h => h) (fun h => h) (fun h => h) (fun h => h) (fun h => h) (fun h => h)
  have qa14065 : a14065 = a14063 := by rw [ha14065, ha14063]; congr 1; omega
  refine q_pop hM dL_law_988 rfl ?_
  refine q_goto (tgt := 1457) hM dL_law_989 (by decide) ?_
  exact kk _ _ _ _ hP ⟨⟨(by rw [show fI g2 3 2 = fI g 3 2 from (FRf hf1 hf2 (fun h => h) (fun h => h)), show arI g2 131 = arI g 131 from ((hf2.2.1 131 (fun h => h)).trans (hf1.2.1 131 (fun h => h)))]; exact hRl.1.1), (by rw [show fI g2 18 3 = fI g 18 3 from (FRf hf1 hf2 (fun h => h) (fun h => h)), show arI g2 158 = arI g 158 from ((hf2.2.1 158 (fun h => h)).trans (hf1.2.1 158 (fun h => h)))]; exact hRl.1.2.1), (by rw [show fI g2 30 3 = fI g 30 3 from (FRf hf1 hf2 (fun h => h) (fun h => h)), show arI g2 162 = arI g 162 from ((hf2.2.1 162 (fun h => h)).trans (hf1.2.1 162 (fun h => h)))]; exact hRl.1.2.2.1), (((FRf hf1 hf2 (fun h => h) (fun h => h))).trans (hRl.1.2.2.2.1.trans ((FRf hf1 hf2 (fun h => h) (fun h => h))).symm)), (((FRf hf1 hf2 (fun h => h) (fun h => h))).trans (hRl.1.2.2.2.2.1.trans ((FRf hf1 hf2 (fun h => h) (fun h => h))).symm)), (((FRf hf1 hf2 (fun h => h) (fun h => h))).trans (hRl.1.2.2.2.2.2.trans (congrFun ((hf2.2.1 166 (fun h => h)).trans (hf1.2.1 166 (fun h => h))) 1).symm))⟩, ⟨by rw [show fI g2 102 4 = fI g 102 4 from (FRf hf1 hf2 (fun h => h) (fun h => h)), show arI g2 176 = arI g 176 from ((hf2.2.1 176 (fun h => h)).trans (hf1.2.1 176 (fun h => h)))]; exact hRl.2.1, fun m k hm hk => by rw [show arI g2 (113 + 1 * m) = arI g (113 + 1 * m) from (hf2.2.1 (113 + 1 * m) (fun h => h)).trans (hf1.2.1 (113 + 1 * m) (fun h => h)), show arI g2 177 = arI g 177 from ((hf2.2.1 177 (fun h => h)).trans (hf1.2.1 177 (fun h => h)))]; exact hRl.2.2 m k hm hk⟩⟩ hW hl

set_option maxRecDepth 100000 in
set_option maxHeartbeats 4000000 in
theorem lc_root {K : KT} {cA : Nat → ClassId} {ad : Nat → Nat} {b L : Nat} {xs : Nat → Int32} {H : Heap} {locs : List Loc} {ls : Array Slot} {g : Nat → va_E} {i : Int32} (hM : MB K cA code 4 R_law) (hXB : XB K b L xs) (hL : L ≤ 3072) (hR : HasRoom K 2048 84000) (hC : Cells K 600000 7302250) (hP : PI ad cA g) (hRl : RT g) (hi0 : 0 ≤ i.toInt) (hi : i.toInt + 6 ≤ L) (hW : WB NN ad K g H locs) (hl : lv_has ls 4 [(3, .int i), (2, .ref (ad 129)), (1, .ref (ad 0)), (0, .ref b)]) (kk : ∀ (g : Nat → va_E) (H : Heap) (locs : List Loc) (ls : Array Slot), PI ad cA g → RT g → WB NN ad K g H locs → lv_has ls 4 [(3, .int i), (2, .ref (ad 129)), (1, .ref (ad 0)), (0, .ref b)] → XX K 600000 7302250 H locs 1457 ls []) : XX K 600000 7302250 H locs 992 ls [] := by
  have hLn : L < 1000000 := by omega
  obtain ⟨lw, lwn, hlc, h13, h14⟩ := id hP.2.2.1
  refine q_aload_n hM dL_law_992 (lv_at hl 2 rfl) ?_
  refine q_callV (As := []) (rest := []) hM hW hR hC myX11_root (kAW (v_3_8 (List.mem_of_getElem? (i := 10) rfl)) rfl) (rfl : vwCl[11]? = some (RX11, TX11, 16)) rfl lb_0.1 (shO hP.1 lb_0) (p_X11_root _ _ cA ad g   hP.1 hP.2.1) ⟨by decide, by decide⟩ rfl rfl hl.1 (Nat.le_of_ble_eq_true rfl) dL_law_993 (fun v g1 H locs hp hW => ?_)
  obtain ⟨r1, rfl, hs1, hG1, hf1⟩ := hp
  have hP0 := hP
  have hP : PI ad cA g1 := PI_fr hP0 hs1 hG1 hf1 (fun h => h) (fun h => h) (fun h => h) (fun h => h) (fun h => h) (fun h => h) (fun h => h) (fun h => h) (fun h => h)
  refine q_pop hM dL_law_996 rfl ?_
  refine q_aload_n hM dL_law_997 (lv_at hl 1 rfl) ?_
  refine q_callV (As := []) (rest := []) hM hW hR hC myX12_root (kAW (v_5_6 (List.mem_of_getElem? (i := 10) rfl)) rfl) (rfl : vwCl[12]? = some (RX12, TX12, 86)) rfl lb_129.1 (shO hP.1 lb_129) (p_X12_root _ _ cA ad g1  hP.1 hP.2.1) ⟨by decide, by decide⟩ rfl rfl hl.1 (Nat.le_of_ble_eq_true rfl) dL_law_998 (fun v g2 H locs hp hW => ?_)
  obtain ⟨r2, rfl, hs2, hG2, hf2⟩ := hp
  have hP1 := hP
  have hP : PI ad cA g2 := PI_fr hP1 hs2 hG2 hf2 (fun h => h) (fun h => h) (fun h => h) (fun h => h) (fun h => h) (fun h => h) (fun h => h) (fun h => h) (fun h => h)
  refine q_pop hM dL_law_1001 rfl ?_
  refine q_goto (tgt := 1457) hM dL_law_1002 (by decide) ?_
  exact kk _ _ _ _ hP ⟨⟨(by rw [show fI g2 3 2 = fI g 3 2 from (FRf hf1 hf2 (fun h => h) (fun h => h)), show arI g2 131 = arI g 131 from ((hf2.2.1 131 (fun h => h)).trans (hf1.2.1 131 (fun h => h)))]; exact hRl.1.1), (by rw [show fI g2 18 3 = fI g 18 3 from (FRf hf1 hf2 (fun h => h) (fun h => h)), show arI g2 158 = arI g 158 from ((hf2.2.1 158 (fun h => h)).trans (hf1.2.1 158 (fun h => h)))]; exact hRl.1.2.1), (by rw [show fI g2 30 3 = fI g 30 3 from (FRf hf1 hf2 (fun h => h) (fun h => h)), show arI g2 162 = arI g 162 from ((hf2.2.1 162 (fun h => h)).trans (hf1.2.1 162 (fun h => h)))]; exact hRl.1.2.2.1), (((FRf hf1 hf2 (fun h => h) (fun h => h))).trans (hRl.1.2.2.2.1.trans ((FRf hf1 hf2 (fun h => h) (fun h => h))).symm)), (((FRf hf1 hf2 (fun h => h) (fun h => h))).trans (hRl.1.2.2.2.2.1.trans ((FRf hf1 hf2 (fun h => h) (fun h => h))).symm)), (((FRf hf1 hf2 (fun h => h) (fun h => h))).trans (hRl.1.2.2.2.2.2.trans (congrFun ((hf2.2.1 166 (fun h => h)).trans (hf1.2.1 166 (fun h => h))) 1).symm))⟩, ⟨by rw [show fI g2 102 4 = fI g 102 4 from (FRf hf1 hf2 (fun h => h) (fun h => h)), show arI g2 176 = arI g 176 from ((hf2.2.1 176 (fun h => h)).trans (hf1.2.1 176 (fun h => h)))]; exact hRl.2.1, fun m k hm hk => by rw [show arI g2 (113 + 1 * m) = arI g (113 + 1 * m) from (hf2.2.1 (113 + 1 * m) (fun h => h)).trans (hf1.2.1 (113 + 1 * m) (fun h => h)), show arI g2 177 = arI g 177 from ((hf2.2.1 177 (fun h => h)).trans (hf1.2.1 177 (fun h => h)))]; exact hRl.2.2 m k hm hk⟩⟩ hW hl

set_option maxRecDepth 100000 in
set_option maxHeartbeats 4000000 in
theorem lc_kin {K : KT} {cA : Nat → ClassId} {ad : Nat → Nat} {b L : Nat} {xs : Nat → Int32} {H : Heap} {locs : List Loc} {ls : Array Slot} {g : Nat → va_E} {i : Int32} (hM : MB K cA code 4 R_law) (hXB : XB K b L xs) (hL : L ≤ 3072) (hR : HasRoom K 2048 84000) (hC : Cells K 600000 7302250) (hP : PI ad cA g) (hRl : RT g) (hi0 : 0 ≤ i.toInt) (hi : i.toInt + 6 ≤ L) (hW : WB NN ad K g H locs) (hl : lv_has ls 4 [(3, .int i), (2, .ref (ad 129)), (1, .ref (ad 0)), (0, .ref b)]) (kk : ∀ (g : Nat → va_E) (H : Heap) (locs : List Loc) (ls : Array Slot), PI ad cA g → RT g → WB NN ad K g H locs → lv_has ls 4 [(3, .int i), (2, .ref (ad 129)), (1, .ref (ad 0)), (0, .ref b)] → XX K 600000 7302250 H locs 1457 ls []) : XX K 600000 7302250 H locs 1005 ls [] := by
  have hLn : L < 1000000 := by omega
  obtain ⟨lw, lwn, hlc, h13, h14⟩ := id hP.2.2.1
  refine q_aload_n hM dL_law_1005 (lv_at hl 2 rfl) ?_
  refine q_aload_n hM dL_law_1006 (lv_at hl 3 rfl) ?_
  refine q_iload_n hM dL_law_1007 (lv_at hl 0 rfl) ?_
  refine q_iconst (v := (1 : Int32)) hM dL_law_1008 (by decide) ?_
  refine q_iadd hM dL_law_1009 (fun z14066 hz14066 => ?_)
  have tz14066 := i_addT hz14066 (rfl : i.toInt = i.toInt) (kc_1 : (1 : Int32).toInt = 1) (by omega) (by omega)
  refine s_iald z14066.toInt.toNat hM hW hXB (by omega) (by omega) (by omega) dL_law_1010 ?_
  refine q_top (fun a14067 ha14067 => ?_)
  refine q_callV (As := [.int a14067]) (rest := []) hM hW hR hC myX11_kin (kAW (v_3_8 (List.mem_of_getElem? (i := 14) rfl)) rfl) (rfl : vwCl[11]? = some (RX11, TX11, 16)) rfl lb_0.1 (shO hP.1 lb_0) (p_X11_kin _ _ cA ad g a14067  hP.1 hP.2.1) ⟨by decide, by decide⟩ rfl rfl hl.1 (Nat.le_of_ble_eq_true rfl) dL_law_1011 (fun v g1 H locs hp hW => ?_)
  obtain ⟨r1, rfl, hs1, hG1, hf1⟩ := hp
  have hP0 := hP
  have hP : PI ad cA g1 := PI_fr hP0 hs1 hG1 hf1 (fun h => h) (fun h => h) (fun h => h) (fun h => h) (fun h => h) (fun h => h) (fun h => h) (fun h => h) (fun h => h)
  refine q_pop hM dL_law_1014 rfl ?_
  refine q_aload_n hM dL_law_1015 (lv_at hl 1 rfl) ?_
  refine q_aload_n hM dL_law_1016 (lv_at hl 3 rfl) ?_
  refine q_iload_n hM dL_law_1017 (lv_at hl 0 rfl) ?_
  refine q_iconst (v := (1 : Int32)) hM dL_law_1018 (by decide) ?_
  refine q_iadd hM dL_law_1019 (fun z14068 hz14068 => ?_)
  have tz14068 := i_addT hz14068 (rfl : i.toInt = i.toInt) (kc_1 : (1 : Int32).toInt = 1) (by omega) (by omega)
  refine s_iald z14068.toInt.toNat hM hW hXB (by omega) (by omega) (by omega) dL_law_1020 ?_
  refine q_top (fun a14069 ha14069 => ?_)
  refine q_callV (As := [.int a14069]) (rest := []) hM hW hR hC myX12_kin (kAW (v_5_7 (List.mem_of_getElem? (i := 1) rfl)) rfl) (rfl : vwCl[12]? = some (RX12, TX12, 86)) rfl lb_129.1 (shO hP.1 lb_129) (p_X12_kin _ _ cA ad g1 a14069 hP.1 hP.2.1) ⟨by decide, by decide⟩ rfl rfl hl.1 (Nat.le_of_ble_eq_true rfl) dL_law_1021 (fun v g2 H locs hp hW => ?_)
  obtain ⟨r2, rfl, hs2, hG2, hf2⟩ := hp
  have hP1 := hP
  have hP : PI ad cA g2 := PI_fr hP1 hs2 hG2 hf2 (fun h => h) (fun h => h) (fun h => h) (fun h => h) (fun h => h) (fun h => h) (fun h => h) (fun h => h) (fun h => h)
  have qa14069 : a14069 = a14067 := by rw [ha14069, ha14067]; congr 1; omega
  refine q_pop hM dL_law_1024 rfl ?_
  refine q_goto (tgt := 1457) hM dL_law_1025 (by decide) ?_
  exact kk _ _ _ _ hP ⟨⟨(by rw [show fI g2 3 2 = fI g 3 2 from (FRf hf1 hf2 (fun h => h) (fun h => h)), show arI g2 131 = arI g 131 from ((hf2.2.1 131 (fun h => h)).trans (hf1.2.1 131 (fun h => h)))]; exact hRl.1.1), (by rw [show fI g2 18 3 = fI g 18 3 from (FRf hf1 hf2 (fun h => h) (fun h => h)), show arI g2 158 = arI g 158 from ((hf2.2.1 158 (fun h => h)).trans (hf1.2.1 158 (fun h => h)))]; exact hRl.1.2.1), (by rw [show fI g2 30 3 = fI g 30 3 from (FRf hf1 hf2 (fun h => h) (fun h => h)), show arI g2 162 = arI g 162 from ((hf2.2.1 162 (fun h => h)).trans (hf1.2.1 162 (fun h => h)))]; exact hRl.1.2.2.1), (((FRf hf1 hf2 (fun h => h) (fun h => h))).trans (hRl.1.2.2.2.1.trans ((FRf hf1 hf2 (fun h => h) (fun h => h))).symm)), (((FRf hf1 hf2 (fun h => h) (fun h => h))).trans (hRl.1.2.2.2.2.1.trans ((FRf hf1 hf2 (fun h => h) (fun h => h))).symm)), (((FRf hf1 hf2 (fun h => h) (fun h => h))).trans (hRl.1.2.2.2.2.2.trans (congrFun ((hf2.2.1 166 (fun h => h)).trans (hf1.2.1 166 (fun h => h))) 1).symm))⟩, ⟨by rw [show fI g2 102 4 = fI g 102 4 from (FRf hf1 hf2 (fun h => h) (fun h => h)), show arI g2 176 = arI g 176 from ((hf2.2.1 176 (fun h => h)).trans (hf1.2.1 176 (fun h => h)))]; exact hRl.2.1, fun m k hm hk => by rw [show arI g2 (113 + 1 * m) = arI g (113 + 1 * m) from (hf2.2.1 (113 + 1 * m) (fun h => h)).trans (hf1.2.1 (113 + 1 * m) (fun h => h)), show arI g2 177 = arI g 177 from ((hf2.2.1 177 (fun h => h)).trans (hf1.2.1 177 (fun h => h)))]; exact hRl.2.2 m k hm hk⟩⟩ hW hl

set_option maxRecDepth 100000 in
set_option maxHeartbeats 4000000 in
theorem lc_questions {K : KT} {cA : Nat → ClassId} {ad : Nat → Nat} {b L : Nat} {xs : Nat → Int32} {H : Heap} {locs : List Loc} {ls : Array Slot} {g : Nat → va_E} {i : Int32} (hM : MB K cA code 4 R_law) (hXB : XB K b L xs) (hL : L ≤ 3072) (hR : HasRoom K 2048 84000) (hC : Cells K 600000 7302250) (hP : PI ad cA g) (hRl : RT g) (hi0 : 0 ≤ i.toInt) (hi : i.toInt + 6 ≤ L) (hW : WB NN ad K g H locs) (hl : lv_has ls 4 [(3, .int i), (2, .ref (ad 129)), (1, .ref (ad 0)), (0, .ref b)]) (kk : ∀ (g : Nat → va_E) (H : Heap) (locs : List Loc) (ls : Array Slot), PI ad cA g → RT g → WB NN ad K g H locs → lv_has ls 4 [(3, .int i), (2, .ref (ad 129)), (1, .ref (ad 0)), (0, .ref b)] → XX K 600000 7302250 H locs 1457 ls []) : XX K 600000 7302250 H locs 1028 ls [] := by
  have hLn : L < 1000000 := by omega
  obtain ⟨lw, lwn, hlc, h13, h14⟩ := id hP.2.2.1
  refine q_aload_n hM dL_law_1028 (lv_at hl 2 rfl) ?_
  refine q_aload_n hM dL_law_1029 (lv_at hl 3 rfl) ?_
  refine q_iload_n hM dL_law_1030 (lv_at hl 0 rfl) ?_
  refine q_iconst (v := (1 : Int32)) hM dL_law_1031 (by decide) ?_
  refine q_iadd hM dL_law_1032 (fun z14070 hz14070 => ?_)
  have tz14070 := i_addT hz14070 (rfl : i.toInt = i.toInt) (kc_1 : (1 : Int32).toInt = 1) (by omega) (by omega)
  refine s_iald z14070.toInt.toNat hM hW hXB (by omega) (by omega) (by omega) dL_law_1033 ?_
  refine q_top (fun a14071 ha14071 => ?_)
  refine q_aload_n hM dL_law_1034 (lv_at hl 3 rfl) ?_
  refine q_iload_n hM dL_law_1035 (lv_at hl 0 rfl) ?_
  refine q_iconst (v := (2 : Int32)) hM dL_law_1036 (by decide) ?_
  refine q_iadd hM dL_law_1037 (fun z14072 hz14072 => ?_)
  have tz14072 := i_addT hz14072 (rfl : i.toInt = i.toInt) (kc_2 : (2 : Int32).toInt = 2) (by omega) (by omega)
  refine s_iald z14072.toInt.toNat hM hW hXB (by omega) (by omega) (by omega) dL_law_1038 ?_
  refine q_top (fun a14073 ha14073 => ?_)
  refine q_callV (As := [.int a14071, .int a14073]) (rest := []) hM hW hR hC myX11_questions (kAW (v_3_9 (List.mem_of_getElem? (i := 14) rfl)) rfl) (rfl : vwCl[11]? = some (RX11, TX11, 16)) rfl lb_0.1 (shO hP.1 lb_0) (p_X11_questions _ _ cA ad g a14071 a14073  hP.1 hP.2.1) ⟨by decide, by decide⟩ rfl rfl hl.1 (Nat.le_of_ble_eq_true rfl) dL_law_1039 (fun v g1 H locs hp hW => ?_)
  obtain ⟨r1, rfl, hs1, hG1, hf1⟩ := hp
  have hP0 := hP
  have hP : PI ad cA g1 := PI_fr hP0 hs1 hG1 hf1 (fun h => h) (fun h => h) (fun h => h) (fun h => h) (fun h => h) (fun h => h) (fun h => h) (fun h => h) (fun h => h)
  refine q_pop hM dL_law_1042 rfl ?_
  refine q_aload_n hM dL_law_1043 (lv_at hl 1 rfl) ?_
  refine q_aload_n hM dL_law_1044 (lv_at hl 3 rfl) ?_
  refine q_iload_n hM dL_law_1045 (lv_at hl 0 rfl) ?_
  refine q_iconst (v := (1 : Int32)) hM dL_law_1046 (by decide) ?_
  refine q_iadd hM dL_law_1047 (fun z14074 hz14074 => ?_)
  have tz14074 := i_addT hz14074 (rfl : i.toInt = i.toInt) (kc_1 : (1 : Int32).toInt = 1) (by omega) (by omega)
  refine s_iald z14074.toInt.toNat hM hW hXB (by omega) (by omega) (by omega) dL_law_1048 ?_
  refine q_top (fun a14075 ha14075 => ?_)
  refine q_aload_n hM dL_law_1049 (lv_at hl 3 rfl) ?_
  refine q_iload_n hM dL_law_1050 (lv_at hl 0 rfl) ?_
  refine q_iconst (v := (2 : Int32)) hM dL_law_1051 (by decide) ?_
  refine q_iadd hM dL_law_1052 (fun z14076 hz14076 => ?_)
  have tz14076 := i_addT hz14076 (rfl : i.toInt = i.toInt) (kc_2 : (2 : Int32).toInt = 2) (by omega) (by omega)
  refine s_iald z14076.toInt.toNat hM hW hXB (by omega) (by omega) (by omega) dL_law_1053 ?_
  refine q_top (fun a14077 ha14077 => ?_)
  refine q_callV (As := [.int a14075, .int a14077]) (rest := []) hM hW hR hC myX12_questions (kAW (v_7_0 (List.mem_of_getElem? (i := 6) rfl)) rfl) (rfl : vwCl[12]? = some (RX12, TX12, 86)) rfl lb_129.1 (shO hP.1 lb_129) (p_X12_questions _ _ cA ad g1 a14075 a14077 hP.1 hP.2.1) ⟨by decide, by decide⟩ rfl rfl hl.1 (Nat.le_of_ble_eq_true rfl) dL_law_1054 (fun v g2 H locs hp hW => ?_)
  obtain ⟨r2, rfl, hs2, hG2, hf2⟩ := hp
  have hP1 := hP
  have hP : PI ad cA g2 := PI_fr hP1 hs2 hG2 hf2 (fun h => h) (fun h => h) (fun h => h) (fun h => h) (fun h => h) (fun h => h) (fun h => h) (fun h => h) (fun h => h)
  have qa14075 : a14075 = a14071 := by rw [ha14075, ha14071]; congr 1; omega
  have qa14077 : a14077 = a14073 := by rw [ha14077, ha14073]; congr 1; omega
  refine q_pop hM dL_law_1057 rfl ?_
  refine q_goto (tgt := 1457) hM dL_law_1058 (by decide) ?_
  exact kk _ _ _ _ hP ⟨⟨(by rw [show fI g2 3 2 = fI g 3 2 from (FRf hf1 hf2 (fun h => h) (fun h => h)), show arI g2 131 = arI g 131 from ((hf2.2.1 131 (fun h => h)).trans (hf1.2.1 131 (fun h => h)))]; exact hRl.1.1), (by rw [show fI g2 18 3 = fI g 18 3 from (FRf hf1 hf2 (fun h => h) (fun h => h)), show arI g2 158 = arI g 158 from ((hf2.2.1 158 (fun h => h)).trans (hf1.2.1 158 (fun h => h)))]; exact hRl.1.2.1), (by rw [show fI g2 30 3 = fI g 30 3 from (FRf hf1 hf2 (fun h => h) (fun h => h)), show arI g2 162 = arI g 162 from ((hf2.2.1 162 (fun h => h)).trans (hf1.2.1 162 (fun h => h)))]; exact hRl.1.2.2.1), (((FRf hf1 hf2 (fun h => h) (fun h => h))).trans (hRl.1.2.2.2.1.trans ((FRf hf1 hf2 (fun h => h) (fun h => h))).symm)), (((FRf hf1 hf2 (fun h => h) (fun h => h))).trans (hRl.1.2.2.2.2.1.trans ((FRf hf1 hf2 (fun h => h) (fun h => h))).symm)), (((FRf hf1 hf2 (fun h => h) (fun h => h))).trans (hRl.1.2.2.2.2.2.trans (congrFun ((hf2.2.1 166 (fun h => h)).trans (hf1.2.1 166 (fun h => h))) 1).symm))⟩, ⟨by rw [show fI g2 102 4 = fI g 102 4 from (FRf hf1 hf2 (fun h => h) (fun h => h)), show arI g2 176 = arI g 176 from ((hf2.2.1 176 (fun h => h)).trans (hf1.2.1 176 (fun h => h)))]; exact hRl.2.1, fun m k hm hk => by rw [show arI g2 (113 + 1 * m) = arI g (113 + 1 * m) from (hf2.2.1 (113 + 1 * m) (fun h => h)).trans (hf1.2.1 (113 + 1 * m) (fun h => h)), show arI g2 177 = arI g 177 from ((hf2.2.1 177 (fun h => h)).trans (hf1.2.1 177 (fun h => h)))]; exact hRl.2.2 m k hm hk⟩⟩ hW hl

set_option maxRecDepth 100000 in
set_option maxHeartbeats 4000000 in
theorem lc_reminds {K : KT} {cA : Nat → ClassId} {ad : Nat → Nat} {b L : Nat} {xs : Nat → Int32} {H : Heap} {locs : List Loc} {ls : Array Slot} {g : Nat → va_E} {i : Int32} (hM : MB K cA code 4 R_law) (hXB : XB K b L xs) (hL : L ≤ 3072) (hR : HasRoom K 2048 84000) (hC : Cells K 600000 7302250) (hP : PI ad cA g) (hRl : RT g) (hi0 : 0 ≤ i.toInt) (hi : i.toInt + 6 ≤ L) (hW : WB NN ad K g H locs) (hl : lv_has ls 4 [(3, .int i), (2, .ref (ad 129)), (1, .ref (ad 0)), (0, .ref b)]) (kk : ∀ (g : Nat → va_E) (H : Heap) (locs : List Loc) (ls : Array Slot), PI ad cA g → RT g → WB NN ad K g H locs → lv_has ls 4 [(3, .int i), (2, .ref (ad 129)), (1, .ref (ad 0)), (0, .ref b)] → XX K 600000 7302250 H locs 1457 ls []) : XX K 600000 7302250 H locs 1061 ls [] := by
  have hLn : L < 1000000 := by omega
  obtain ⟨lw, lwn, hlc, h13, h14⟩ := id hP.2.2.1
  refine q_aload_n hM dL_law_1061 (lv_at hl 2 rfl) ?_
  refine q_aload_n hM dL_law_1062 (lv_at hl 3 rfl) ?_
  refine q_iload_n hM dL_law_1063 (lv_at hl 0 rfl) ?_
  refine q_iconst (v := (1 : Int32)) hM dL_law_1064 (by decide) ?_
  refine q_iadd hM dL_law_1065 (fun z14078 hz14078 => ?_)
  have tz14078 := i_addT hz14078 (rfl : i.toInt = i.toInt) (kc_1 : (1 : Int32).toInt = 1) (by omega) (by omega)
  refine s_iald z14078.toInt.toNat hM hW hXB (by omega) (by omega) (by omega) dL_law_1066 ?_
  refine q_top (fun a14079 ha14079 => ?_)
  refine q_aload_n hM dL_law_1067 (lv_at hl 3 rfl) ?_
  refine q_iload_n hM dL_law_1068 (lv_at hl 0 rfl) ?_
  refine q_iconst (v := (2 : Int32)) hM dL_law_1069 (by decide) ?_
  refine q_iadd hM dL_law_1070 (fun z14080 hz14080 => ?_)
  have tz14080 := i_addT hz14080 (rfl : i.toInt = i.toInt) (kc_2 : (2 : Int32).toInt = 2) (by omega) (by omega)
  refine s_iald z14080.toInt.toNat hM hW hXB (by omega) (by omega) (by omega) dL_law_1071 ?_
  refine q_top (fun a14081 ha14081 => ?_)
  refine q_aload_n hM dL_law_1072 (lv_at hl 3 rfl) ?_
  refine q_iload_n hM dL_law_1073 (lv_at hl 0 rfl) ?_
  refine q_iconst (v := (3 : Int32)) hM dL_law_1074 (by decide) ?_
  refine q_iadd hM dL_law_1075 (fun z14082 hz14082 => ?_)
  have tz14082 := i_addT hz14082 (rfl : i.toInt = i.toInt) (kc_3 : (3 : Int32).toInt = 3) (by omega) (by omega)
  refine s_iald z14082.toInt.toNat hM hW hXB (by omega) (by omega) (by omega) dL_law_1076 ?_
  refine q_top (fun a14083 ha14083 => ?_)
  refine q_callV (As := [.int a14079, .int a14081, .int a14083]) (rest := []) hM hW hR hC myX11_reminds (kAW (v_3_10 (List.mem_of_getElem? (i := 15) rfl)) rfl) (rfl : vwCl[11]? = some (RX11, TX11, 16)) rfl lb_0.1 (shO hP.1 lb_0) (p_X11_reminds _ _ cA ad g a14079 a14081 a14083  hP.1 hP.2.1) ⟨by decide, by decide⟩ rfl rfl hl.1 (Nat.le_of_ble_eq_true rfl) dL_law_1077 (fun v g1 H locs hp hW => ?_)
  obtain ⟨r1, rfl, hs1, hG1, hf1, ha1⟩ := hp
  have hP0 := hP
  have hP : PI ad cA g1 := PI_fr hP0 hs1 hG1 hf1 (by omega) (by omega) (by omega) (by omega) (by omega) (by omega) (by omega) (by omega) (by omega)
  refine q_pop hM dL_law_1080 rfl ?_
  refine q_aload_n hM dL_law_1081 (lv_at hl 1 rfl) ?_
  refine q_aload_n hM dL_law_1082 (lv_at hl 3 rfl) ?_
  refine q_iload_n hM dL_law_1083 (lv_at hl 0 rfl) ?_
  refine q_iconst (v := (1 : Int32)) hM dL_law_1084 (by decide) ?_
  refine q_iadd hM dL_law_1085 (fun z14084 hz14084 => ?_)
  have tz14084 := i_addT hz14084 (rfl : i.toInt = i.toInt) (kc_1 : (1 : Int32).toInt = 1) (by omega) (by omega)
  refine s_iald z14084.toInt.toNat hM hW hXB (by omega) (by omega) (by omega) dL_law_1086 ?_
  refine q_top (fun a14085 ha14085 => ?_)
  refine q_aload_n hM dL_law_1087 (lv_at hl 3 rfl) ?_
  refine q_iload_n hM dL_law_1088 (lv_at hl 0 rfl) ?_
  refine q_iconst (v := (2 : Int32)) hM dL_law_1089 (by decide) ?_
  refine q_iadd hM dL_law_1090 (fun z14086 hz14086 => ?_)
  have tz14086 := i_addT hz14086 (rfl : i.toInt = i.toInt) (kc_2 : (2 : Int32).toInt = 2) (by omega) (by omega)
  refine s_iald z14086.toInt.toNat hM hW hXB (by omega) (by omega) (by omega) dL_law_1091 ?_
  refine q_top (fun a14087 ha14087 => ?_)
  refine q_aload_n hM dL_law_1092 (lv_at hl 3 rfl) ?_
  refine q_iload_n hM dL_law_1093 (lv_at hl 0 rfl) ?_
  refine q_iconst (v := (3 : Int32)) hM dL_law_1094 (by decide) ?_
  refine q_iadd hM dL_law_1095 (fun z14088 hz14088 => ?_)
  have tz14088 := i_addT hz14088 (rfl : i.toInt = i.toInt) (kc_3 : (3 : Int32).toInt = 3) (by omega) (by omega)
  refine s_iald z14088.toInt.toNat hM hW hXB (by omega) (by omega) (by omega) dL_law_1096 ?_
  refine q_top (fun a14089 ha14089 => ?_)
  refine q_callV (As := [.int a14085, .int a14087, .int a14089]) (rest := []) hM hW hR hC myX12_reminds (kAW (v_7_1 (List.mem_of_getElem? (i := 3) rfl)) rfl) (rfl : vwCl[12]? = some (RX12, TX12, 86)) rfl lb_129.1 (shO hP.1 lb_129) (p_X12_reminds _ _ cA ad g1 a14085 a14087 a14089 hP.1 hP.2.1) ⟨by decide, by decide⟩ rfl rfl hl.1 (Nat.le_of_ble_eq_true rfl) dL_law_1097 (fun v g2 H locs hp hW => ?_)
  obtain ⟨r2, rfl, hs2, hG2, hf2, ha2⟩ := hp
  have hP1 := hP
  have hP : PI ad cA g2 := PI_fr hP1 hs2 hG2 hf2 (by omega) (by omega) (by omega) (by omega) (by omega) (by omega) (by omega) (by omega) (by omega)
  have qa14085 : a14085 = a14079 := by rw [ha14085, ha14079]; congr 1; omega
  have qa14087 : a14087 = a14081 := by rw [ha14087, ha14081]; congr 1; omega
  have qa14089 : a14089 = a14083 := by rw [ha14089, ha14083]; congr 1; omega
  first | rw [qa14085] at ha2 | skip
  first | rw [qa14087] at ha2 | skip
  first | rw [qa14089] at ha2 | skip
  refine q_pop hM dL_law_1100 rfl ?_
  refine q_goto (tgt := 1457) hM dL_law_1101 (by decide) ?_
  exact kk _ _ _ _ hP ⟨⟨(by rw [show fI g2 3 2 = fI g 3 2 from (FRf hf1 hf2 (by omega) (by omega)), show arI g2 131 = arI g 131 from ((hf2.2.1 131 (by omega)).trans (hf1.2.1 131 (by omega)))]; exact hRl.1.1), (by rw [show fI g2 18 3 = fI g 18 3 from (FRf hf1 hf2 (by omega) (by omega)), show arI g2 158 = arI g 158 from ((hf2.2.1 158 (by omega)).trans (hf1.2.1 158 (by omega)))]; exact hRl.1.2.1), (by rw [show fI g2 30 3 = fI g 30 3 from (FRf hf1 hf2 (by omega) (by omega)), show arI g2 162 = arI g 162 from ((hf2.2.1 162 (by omega)).trans (hf1.2.1 162 (by omega)))]; exact hRl.1.2.2.1), (((FRf hf1 hf2 (by omega) (by omega))).trans (hRl.1.2.2.2.1.trans ((FRf hf1 hf2 (by omega) (by omega))).symm)), (((FRf hf1 hf2 (by omega) (by omega))).trans (hRl.1.2.2.2.2.1.trans ((FRf hf1 hf2 (by omega) (by omega))).symm)), (((FRf hf1 hf2 (by omega) (by omega))).trans (hRl.1.2.2.2.2.2.trans (congrFun ((hf2.2.1 166 (by omega)).trans (hf1.2.1 166 (by omega))) 1).symm))⟩, ⟨by rw [show fI g2 102 4 = fI g 102 4 from (FRf hf1 hf2 (by omega) (by omega)), show arI g2 176 = arI g 176 from ((hf2.2.1 176 (by omega)).trans (hf1.2.1 176 (by omega)))]; exact hRl.2.1, fun m k hm hk => by rw [show arI g2 (113 + 1 * m) = arI g (113 + 1 * m) from (hf2.2.1 (113 + 1 * m) (by omega)).trans (hf1.2.1 (113 + 1 * m) (by omega)), show arI g2 177 = arI g 177 from ((hf2.2.1 177 (by omega)).trans (hf1.2.1 177 (by omega)))]; exact hRl.2.2 m k hm hk⟩⟩ hW hl

set_option maxRecDepth 100000 in
set_option maxHeartbeats 4000000 in
theorem lc_parted {K : KT} {cA : Nat → ClassId} {ad : Nat → Nat} {b L : Nat} {xs : Nat → Int32} {H : Heap} {locs : List Loc} {ls : Array Slot} {g : Nat → va_E} {i : Int32} (hM : MB K cA code 4 R_law) (hXB : XB K b L xs) (hL : L ≤ 3072) (hR : HasRoom K 2048 84000) (hC : Cells K 600000 7302250) (hP : PI ad cA g) (hRl : RT g) (hi0 : 0 ≤ i.toInt) (hi : i.toInt + 6 ≤ L) (hW : WB NN ad K g H locs) (hl : lv_has ls 4 [(3, .int i), (2, .ref (ad 129)), (1, .ref (ad 0)), (0, .ref b)]) (kk : ∀ (g : Nat → va_E) (H : Heap) (locs : List Loc) (ls : Array Slot), PI ad cA g → RT g → WB NN ad K g H locs → lv_has ls 4 [(3, .int i), (2, .ref (ad 129)), (1, .ref (ad 0)), (0, .ref b)] → XX K 600000 7302250 H locs 1457 ls []) : XX K 600000 7302250 H locs 1104 ls [] := by
  have hLn : L < 1000000 := by omega
  obtain ⟨lw, lwn, hlc, h13, h14⟩ := id hP.2.2.1
  refine q_aload_n hM dL_law_1104 (lv_at hl 2 rfl) ?_
  refine q_aload_n hM dL_law_1105 (lv_at hl 3 rfl) ?_
  refine q_iload_n hM dL_law_1106 (lv_at hl 0 rfl) ?_
  refine q_iconst (v := (1 : Int32)) hM dL_law_1107 (by decide) ?_
  refine q_iadd hM dL_law_1108 (fun z14090 hz14090 => ?_)
  have tz14090 := i_addT hz14090 (rfl : i.toInt = i.toInt) (kc_1 : (1 : Int32).toInt = 1) (by omega) (by omega)
  refine s_iald z14090.toInt.toNat hM hW hXB (by omega) (by omega) (by omega) dL_law_1109 ?_
  refine q_top (fun a14091 ha14091 => ?_)
  refine q_aload_n hM dL_law_1110 (lv_at hl 3 rfl) ?_
  refine q_iload_n hM dL_law_1111 (lv_at hl 0 rfl) ?_
  refine q_iconst (v := (2 : Int32)) hM dL_law_1112 (by decide) ?_
  refine q_iadd hM dL_law_1113 (fun z14092 hz14092 => ?_)
  have tz14092 := i_addT hz14092 (rfl : i.toInt = i.toInt) (kc_2 : (2 : Int32).toInt = 2) (by omega) (by omega)
  refine s_iald z14092.toInt.toNat hM hW hXB (by omega) (by omega) (by omega) dL_law_1114 ?_
  refine q_top (fun a14093 ha14093 => ?_)
  refine q_callV (As := [.int a14091, .int a14093]) (rest := []) hM hW hR hC myX11_parted (kAW (v_3_11 (List.mem_of_getElem? (i := 3) rfl)) rfl) (rfl : vwCl[11]? = some (RX11, TX11, 16)) rfl lb_0.1 (shO hP.1 lb_0) (p_X11_parted _ _ cA ad g a14091 a14093  hP.1 hP.2.1) ⟨by decide, by decide⟩ rfl rfl hl.1 (Nat.le_of_ble_eq_true rfl) dL_law_1115 (fun v g1 H locs hp hW => ?_)
  obtain ⟨r1, rfl, hs1, hG1, hf1⟩ := hp
  have hP0 := hP
  have hP : PI ad cA g1 := PI_fr hP0 hs1 hG1 hf1 (fun h => h) (fun h => h) (fun h => h) (fun h => h) (fun h => h) (fun h => h) (fun h => h) (fun h => h) (fun h => h)
  refine q_pop hM dL_law_1118 rfl ?_
  refine q_aload_n hM dL_law_1119 (lv_at hl 1 rfl) ?_
  refine q_aload_n hM dL_law_1120 (lv_at hl 3 rfl) ?_
  refine q_iload_n hM dL_law_1121 (lv_at hl 0 rfl) ?_
  refine q_iconst (v := (1 : Int32)) hM dL_law_1122 (by decide) ?_
  refine q_iadd hM dL_law_1123 (fun z14094 hz14094 => ?_)
  have tz14094 := i_addT hz14094 (rfl : i.toInt = i.toInt) (kc_1 : (1 : Int32).toInt = 1) (by omega) (by omega)
  refine s_iald z14094.toInt.toNat hM hW hXB (by omega) (by omega) (by omega) dL_law_1124 ?_
  refine q_top (fun a14095 ha14095 => ?_)
  refine q_aload_n hM dL_law_1125 (lv_at hl 3 rfl) ?_
  refine q_iload_n hM dL_law_1126 (lv_at hl 0 rfl) ?_
  refine q_iconst (v := (2 : Int32)) hM dL_law_1127 (by decide) ?_
  refine q_iadd hM dL_law_1128 (fun z14096 hz14096 => ?_)
  have tz14096 := i_addT hz14096 (rfl : i.toInt = i.toInt) (kc_2 : (2 : Int32).toInt = 2) (by omega) (by omega)
  refine s_iald z14096.toInt.toNat hM hW hXB (by omega) (by omega) (by omega) dL_law_1129 ?_
  refine q_top (fun a14097 ha14097 => ?_)
  refine q_callV (As := [.int a14095, .int a14097]) (rest := []) hM hW hR hC myX12_parted (kAW (v_7_1 (List.mem_of_getElem? (i := 7) rfl)) rfl) (rfl : vwCl[12]? = some (RX12, TX12, 86)) rfl lb_129.1 (shO hP.1 lb_129) (p_X12_parted _ _ cA ad g1 a14095 a14097 hP.1 hP.2.1) ⟨by decide, by decide⟩ rfl rfl hl.1 (Nat.le_of_ble_eq_true rfl) dL_law_1130 (fun v g2 H locs hp hW => ?_)
  obtain ⟨r2, rfl, hs2, hG2, hf2⟩ := hp
  have hP1 := hP
  have hP : PI ad cA g2 := PI_fr hP1 hs2 hG2 hf2 (fun h => h) (fun h => h) (fun h => h) (fun h => h) (fun h => h) (fun h => h) (fun h => h) (fun h => h) (fun h => h)
  have qa14095 : a14095 = a14091 := by rw [ha14095, ha14091]; congr 1; omega
  have qa14097 : a14097 = a14093 := by rw [ha14097, ha14093]; congr 1; omega
  refine q_pop hM dL_law_1133 rfl ?_
  refine q_goto (tgt := 1457) hM dL_law_1134 (by decide) ?_
  exact kk _ _ _ _ hP ⟨⟨(by rw [show fI g2 3 2 = fI g 3 2 from (FRf hf1 hf2 (fun h => h) (fun h => h)), show arI g2 131 = arI g 131 from ((hf2.2.1 131 (fun h => h)).trans (hf1.2.1 131 (fun h => h)))]; exact hRl.1.1), (by rw [show fI g2 18 3 = fI g 18 3 from (FRf hf1 hf2 (fun h => h) (fun h => h)), show arI g2 158 = arI g 158 from ((hf2.2.1 158 (fun h => h)).trans (hf1.2.1 158 (fun h => h)))]; exact hRl.1.2.1), (by rw [show fI g2 30 3 = fI g 30 3 from (FRf hf1 hf2 (fun h => h) (fun h => h)), show arI g2 162 = arI g 162 from ((hf2.2.1 162 (fun h => h)).trans (hf1.2.1 162 (fun h => h)))]; exact hRl.1.2.2.1), (((FRf hf1 hf2 (fun h => h) (fun h => h))).trans (hRl.1.2.2.2.1.trans ((FRf hf1 hf2 (fun h => h) (fun h => h))).symm)), (((FRf hf1 hf2 (fun h => h) (fun h => h))).trans (hRl.1.2.2.2.2.1.trans ((FRf hf1 hf2 (fun h => h) (fun h => h))).symm)), (((FRf hf1 hf2 (fun h => h) (fun h => h))).trans (hRl.1.2.2.2.2.2.trans (congrFun ((hf2.2.1 166 (fun h => h)).trans (hf1.2.1 166 (fun h => h))) 1).symm))⟩, ⟨by rw [show fI g2 102 4 = fI g 102 4 from (FRf hf1 hf2 (fun h => h) (fun h => h)), show arI g2 176 = arI g 176 from ((hf2.2.1 176 (fun h => h)).trans (hf1.2.1 176 (fun h => h)))]; exact hRl.2.1, fun m k hm hk => by rw [show arI g2 (113 + 1 * m) = arI g (113 + 1 * m) from (hf2.2.1 (113 + 1 * m) (fun h => h)).trans (hf1.2.1 (113 + 1 * m) (fun h => h)), show arI g2 177 = arI g 177 from ((hf2.2.1 177 (fun h => h)).trans (hf1.2.1 177 (fun h => h)))]; exact hRl.2.2 m k hm hk⟩⟩ hW hl

set_option maxRecDepth 100000 in
set_option maxHeartbeats 4000000 in
theorem lc_skill {K : KT} {cA : Nat → ClassId} {ad : Nat → Nat} {b L : Nat} {xs : Nat → Int32} {H : Heap} {locs : List Loc} {ls : Array Slot} {g : Nat → va_E} {i : Int32} (hM : MB K cA code 4 R_law) (hXB : XB K b L xs) (hL : L ≤ 3072) (hR : HasRoom K 2048 84000) (hC : Cells K 600000 7302250) (hP : PI ad cA g) (hRl : RT g) (hi0 : 0 ≤ i.toInt) (hi : i.toInt + 6 ≤ L) (hW : WB NN ad K g H locs) (hl : lv_has ls 4 [(3, .int i), (2, .ref (ad 129)), (1, .ref (ad 0)), (0, .ref b)]) (kk : ∀ (g : Nat → va_E) (H : Heap) (locs : List Loc) (ls : Array Slot), PI ad cA g → RT g → WB NN ad K g H locs → lv_has ls 4 [(3, .int i), (2, .ref (ad 129)), (1, .ref (ad 0)), (0, .ref b)] → XX K 600000 7302250 H locs 1457 ls []) : XX K 600000 7302250 H locs 1137 ls [] := by
  have hLn : L < 1000000 := by omega
  obtain ⟨lw, lwn, hlc, h13, h14⟩ := id hP.2.2.1
  refine q_aload_n hM dL_law_1137 (lv_at hl 2 rfl) ?_
  refine q_aload_n hM dL_law_1138 (lv_at hl 3 rfl) ?_
  refine q_iload_n hM dL_law_1139 (lv_at hl 0 rfl) ?_
  refine q_iconst (v := (1 : Int32)) hM dL_law_1140 (by decide) ?_
  refine q_iadd hM dL_law_1141 (fun z14098 hz14098 => ?_)
  have tz14098 := i_addT hz14098 (rfl : i.toInt = i.toInt) (kc_1 : (1 : Int32).toInt = 1) (by omega) (by omega)
  refine s_iald z14098.toInt.toNat hM hW hXB (by omega) (by omega) (by omega) dL_law_1142 ?_
  refine q_top (fun a14099 ha14099 => ?_)
  refine q_aload_n hM dL_law_1143 (lv_at hl 3 rfl) ?_
  refine q_iload_n hM dL_law_1144 (lv_at hl 0 rfl) ?_
  refine q_iconst (v := (2 : Int32)) hM dL_law_1145 (by decide) ?_
  refine q_iadd hM dL_law_1146 (fun z14100 hz14100 => ?_)
  have tz14100 := i_addT hz14100 (rfl : i.toInt = i.toInt) (kc_2 : (2 : Int32).toInt = 2) (by omega) (by omega)
  refine s_iald z14100.toInt.toNat hM hW hXB (by omega) (by omega) (by omega) dL_law_1147 ?_
  refine q_top (fun a14101 ha14101 => ?_)
  refine q_aload_n hM dL_law_1148 (lv_at hl 3 rfl) ?_
  refine q_iload_n hM dL_law_1149 (lv_at hl 0 rfl) ?_
  refine q_iconst (v := (3 : Int32)) hM dL_law_1150 (by decide) ?_
  refine q_iadd hM dL_law_1151 (fun z14102 hz14102 => ?_)
  have tz14102 := i_addT hz14102 (rfl : i.toInt = i.toInt) (kc_3 : (3 : Int32).toInt = 3) (by omega) (by omega)
  refine s_iald z14102.toInt.toNat hM hW hXB (by omega) (by omega) (by omega) dL_law_1152 ?_
  refine q_top (fun a14103 ha14103 => ?_)
  refine q_callV (As := [.int a14099, .int a14101, .int a14103]) (rest := []) hM hW hR hC myX11_skill (kAW (v_3_12 (List.mem_of_getElem? (i := 3) rfl)) rfl) (rfl : vwCl[11]? = some (RX11, TX11, 16)) rfl lb_0.1 (shO hP.1 lb_0) (s_X11_skill _ _ cA ad g a14099 a14101 a14103 (fI g 102 4)  hP.1 hP.2.1 (shI hP.1 lb_102 (by decide) (by decide))) ⟨by decide, by decide⟩ rfl rfl hl.1 (Nat.le_of_ble_eq_true rfl) dL_law_1153 (fun v g1 H locs hp hW => ?_)
  obtain ⟨x0, r1, rfl, hs1, hG1, hf1, cx0, cx1, ha1⟩ := hp
  have hP0 := hP
  have hP : PI ad cA g1 := PI_fr hP0 hs1 hG1 hf1 (by omega) (by omega) (by omega) (by omega) (by omega) (by omega) (by omega) (by omega) (by omega)
  refine q_pop hM dL_law_1156 rfl ?_
  refine q_aload_n hM dL_law_1157 (lv_at hl 1 rfl) ?_
  refine q_aload_n hM dL_law_1158 (lv_at hl 3 rfl) ?_
  refine q_iload_n hM dL_law_1159 (lv_at hl 0 rfl) ?_
  refine q_iconst (v := (1 : Int32)) hM dL_law_1160 (by decide) ?_
  refine q_iadd hM dL_law_1161 (fun z14104 hz14104 => ?_)
  have tz14104 := i_addT hz14104 (rfl : i.toInt = i.toInt) (kc_1 : (1 : Int32).toInt = 1) (by omega) (by omega)
  refine s_iald z14104.toInt.toNat hM hW hXB (by omega) (by omega) (by omega) dL_law_1162 ?_
  refine q_top (fun a14105 ha14105 => ?_)
  refine q_aload_n hM dL_law_1163 (lv_at hl 3 rfl) ?_
  refine q_iload_n hM dL_law_1164 (lv_at hl 0 rfl) ?_
  refine q_iconst (v := (2 : Int32)) hM dL_law_1165 (by decide) ?_
  refine q_iadd hM dL_law_1166 (fun z14106 hz14106 => ?_)
  have tz14106 := i_addT hz14106 (rfl : i.toInt = i.toInt) (kc_2 : (2 : Int32).toInt = 2) (by omega) (by omega)
  refine s_iald z14106.toInt.toNat hM hW hXB (by omega) (by omega) (by omega) dL_law_1167 ?_
  refine q_top (fun a14107 ha14107 => ?_)
  refine q_aload_n hM dL_law_1168 (lv_at hl 3 rfl) ?_
  refine q_iload_n hM dL_law_1169 (lv_at hl 0 rfl) ?_
  refine q_iconst (v := (3 : Int32)) hM dL_law_1170 (by decide) ?_
  refine q_iadd hM dL_law_1171 (fun z14108 hz14108 => ?_)
  have tz14108 := i_addT hz14108 (rfl : i.toInt = i.toInt) (kc_3 : (3 : Int32).toInt = 3) (by omega) (by omega)
  refine s_iald z14108.toInt.toNat hM hW hXB (by omega) (by omega) (by omega) dL_law_1172 ?_
  refine q_top (fun a14109 ha14109 => ?_)
  refine q_callV (As := [.int a14105, .int a14107, .int a14109]) (rest := []) hM hW hR hC myX12_skill (kAW (v_7_2 (List.mem_of_getElem? (i := 0) rfl)) rfl) (rfl : vwCl[12]? = some (RX12, TX12, 86)) rfl lb_129.1 (shO hP.1 lb_129) (s_X12_skill _ _ cA ad g1 a14105 a14107 a14109 hP.1 hP.2.1) ⟨by decide, by decide⟩ rfl rfl hl.1 (Nat.le_of_ble_eq_true rfl) dL_law_1173 (fun v g2 H locs hp hW => ?_)
  obtain ⟨r2, rfl, hs2, hG2, hf2, cm0, ha2⟩ := hp
  have hP1 := hP
  have hP : PI ad cA g2 := PI_fr hP1 hs2 hG2 hf2 (by omega) (by omega) (by omega) (by omega) (by omega) (by omega) (by omega) (by omega) (by omega)
  have qa14105 : a14105 = a14099 := by rw [ha14105, ha14099]; congr 1; omega
  have qa14107 : a14107 = a14101 := by rw [ha14107, ha14101]; congr 1; omega
  have qa14109 : a14109 = a14103 := by rw [ha14109, ha14103]; congr 1; omega
  first | rw [qa14105] at ha2 | skip
  first | rw [qa14107] at ha2 | skip
  first | rw [qa14109] at ha2 | skip
  first | rw [qa14105] at cm0 | skip
  first | rw [qa14107] at cm0 | skip
  first | rw [qa14109] at cm0 | skip
  refine q_pop hM dL_law_1176 rfl ?_
  refine q_goto (tgt := 1457) hM dL_law_1177 (by decide) ?_
  exact kk _ _ _ _ hP ⟨⟨(by rw [show fI g2 3 2 = fI g 3 2 from (FRf hf1 hf2 (by omega) (by omega)), show arI g2 131 = arI g 131 from ((hf2.2.1 131 (by omega)).trans (hf1.2.1 131 (by omega)))]; exact hRl.1.1), (by rw [show fI g2 18 3 = fI g 18 3 from (FRf hf1 hf2 (by omega) (by omega)), show arI g2 158 = arI g 158 from ((hf2.2.1 158 (by omega)).trans (hf1.2.1 158 (by omega)))]; exact hRl.1.2.1), (by rw [show fI g2 30 3 = fI g 30 3 from (FRf hf1 hf2 (by omega) (by omega)), show arI g2 162 = arI g 162 from ((hf2.2.1 162 (by omega)).trans (hf1.2.1 162 (by omega)))]; exact hRl.1.2.2.1), (((FRf hf1 hf2 (by omega) (by omega))).trans (hRl.1.2.2.2.1.trans ((FRf hf1 hf2 (by omega) (by omega))).symm)), (((FRf hf1 hf2 (by omega) (by omega))).trans (hRl.1.2.2.2.2.1.trans ((FRf hf1 hf2 (by omega) (by omega))).symm)), (((FRf hf1 hf2 (by omega) (by omega))).trans (hRl.1.2.2.2.2.2.trans (congrFun ((hf2.2.1 166 (by omega)).trans (hf1.2.1 166 (by omega))) 1).symm))⟩, (by
    rcases cx1 with ⟨c1, et, ex⟩ | ⟨c1, et, ex⟩
    · rcases cm0 with ⟨c2, e6, e7⟩ | ⟨c2, e6, e7⟩
      · exact RK_upd hRl.2 (by omega) (by omega) (by omega) (by omega) (by omega) (by omega) (((FR1f hf2 (by omega)).trans (fI_of cx0)).trans et) (by rw [e6, hf1.2.1 176 (by omega)]) (fun k hk => (hf2.2.1 (113 + 1 * k) (by omega)).trans (ex k hk)) (by rw [e7, hf1.2.1 177 (by omega)])
      · exact absurd c1 c2
    · rcases cm0 with ⟨c2, e6, e7⟩ | ⟨c2, e6, e7⟩
      · exact absurd c2 c1
      · exact ⟨by rw [show fI g2 102 4 = fI g 102 4 from ((FR1f hf2 (by omega)).trans (fI_of cx0)).trans et, e6, hf1.2.1 176 (by omega)]; exact hRl.2.1, fun m k hm hk => by rw [hf2.2.1 (113 + 1 * m) (by omega), ex m hm, e7, hf1.2.1 177 (by omega)]; exact hRl.2.2 m k hm hk⟩)⟩ hW hl

set_option maxRecDepth 100000 in
set_option maxHeartbeats 4000000 in
theorem lc_taught {K : KT} {cA : Nat → ClassId} {ad : Nat → Nat} {b L : Nat} {xs : Nat → Int32} {H : Heap} {locs : List Loc} {ls : Array Slot} {g : Nat → va_E} {i : Int32} (hM : MB K cA code 4 R_law) (hXB : XB K b L xs) (hL : L ≤ 3072) (hR : HasRoom K 2048 84000) (hC : Cells K 600000 7302250) (hP : PI ad cA g) (hRl : RT g) (hi0 : 0 ≤ i.toInt) (hi : i.toInt + 6 ≤ L) (hW : WB NN ad K g H locs) (hl : lv_has ls 4 [(3, .int i), (2, .ref (ad 129)), (1, .ref (ad 0)), (0, .ref b)]) (kk : ∀ (g : Nat → va_E) (H : Heap) (locs : List Loc) (ls : Array Slot), PI ad cA g → RT g → WB NN ad K g H locs → lv_has ls 4 [(3, .int i), (2, .ref (ad 129)), (1, .ref (ad 0)), (0, .ref b)] → XX K 600000 7302250 H locs 1457 ls []) : XX K 600000 7302250 H locs 1180 ls [] := by
  have hLn : L < 1000000 := by omega
  obtain ⟨lw, lwn, hlc, h13, h14⟩ := id hP.2.2.1
  refine q_aload_n hM dL_law_1180 (lv_at hl 2 rfl) ?_
  refine q_aload_n hM dL_law_1181 (lv_at hl 3 rfl) ?_
  refine q_iload_n hM dL_law_1182 (lv_at hl 0 rfl) ?_
  refine q_iconst (v := (1 : Int32)) hM dL_law_1183 (by decide) ?_
  refine q_iadd hM dL_law_1184 (fun z14110 hz14110 => ?_)
  have tz14110 := i_addT hz14110 (rfl : i.toInt = i.toInt) (kc_1 : (1 : Int32).toInt = 1) (by omega) (by omega)
  refine s_iald z14110.toInt.toNat hM hW hXB (by omega) (by omega) (by omega) dL_law_1185 ?_
  refine q_top (fun a14111 ha14111 => ?_)
  refine q_aload_n hM dL_law_1186 (lv_at hl 3 rfl) ?_
  refine q_iload_n hM dL_law_1187 (lv_at hl 0 rfl) ?_
  refine q_iconst (v := (2 : Int32)) hM dL_law_1188 (by decide) ?_
  refine q_iadd hM dL_law_1189 (fun z14112 hz14112 => ?_)
  have tz14112 := i_addT hz14112 (rfl : i.toInt = i.toInt) (kc_2 : (2 : Int32).toInt = 2) (by omega) (by omega)
  refine s_iald z14112.toInt.toNat hM hW hXB (by omega) (by omega) (by omega) dL_law_1190 ?_
  refine q_top (fun a14113 ha14113 => ?_)
  refine q_aload_n hM dL_law_1191 (lv_at hl 3 rfl) ?_
  refine q_iload_n hM dL_law_1192 (lv_at hl 0 rfl) ?_
  refine q_iconst (v := (3 : Int32)) hM dL_law_1193 (by decide) ?_
  refine q_iadd hM dL_law_1194 (fun z14114 hz14114 => ?_)
  have tz14114 := i_addT hz14114 (rfl : i.toInt = i.toInt) (kc_3 : (3 : Int32).toInt = 3) (by omega) (by omega)
  refine s_iald z14114.toInt.toNat hM hW hXB (by omega) (by omega) (by omega) dL_law_1195 ?_
  refine q_top (fun a14115 ha14115 => ?_)
  refine q_callV (As := [.int a14111, .int a14113, .int a14115]) (rest := []) hM hW hR hC myX11_taught (kAW (v_3_12 (List.mem_of_getElem? (i := 7) rfl)) rfl) (rfl : vwCl[11]? = some (RX11, TX11, 16)) rfl lb_0.1 (shO hP.1 lb_0) (s_X11_taught _ _ cA ad g a14111 a14113 a14115 (fI g 102 4)  hP.1 hP.2.1 (shI hP.1 lb_102 (by decide) (by decide)) (fun m k hm hk => by rw [(hRl.2.2 m k hm hk).1]; exact (hRl.2.2 m k hm hk).2)) ⟨by decide, by decide⟩ rfl rfl hl.1 (Nat.le_of_ble_eq_true rfl) dL_law_1196 (fun v g1 H locs hp hW => ?_)
  obtain ⟨r1, rfl, hs1, hG1, hf1, ha1⟩ := hp
  have hP0 := hP
  have hP : PI ad cA g1 := PI_fr hP0 hs1 hG1 hf1 (by omega) (by omega) (by omega) (by omega) (by omega) (by omega) (by omega) (by omega) (by omega)
  refine q_aload_n hM dL_law_1199 (lv_at hl 1 rfl) ?_
  refine q_aload_n hM dL_law_1200 (lv_at hl 3 rfl) ?_
  refine q_iload_n hM dL_law_1201 (lv_at hl 0 rfl) ?_
  refine q_iconst (v := (1 : Int32)) hM dL_law_1202 (by decide) ?_
  refine q_iadd hM dL_law_1203 (fun z14116 hz14116 => ?_)
  have tz14116 := i_addT hz14116 (rfl : i.toInt = i.toInt) (kc_1 : (1 : Int32).toInt = 1) (by omega) (by omega)
  refine s_iald z14116.toInt.toNat hM hW hXB (by omega) (by omega) (by omega) dL_law_1204 ?_
  refine q_top (fun a14117 ha14117 => ?_)
  refine q_aload_n hM dL_law_1205 (lv_at hl 3 rfl) ?_
  refine q_iload_n hM dL_law_1206 (lv_at hl 0 rfl) ?_
  refine q_iconst (v := (2 : Int32)) hM dL_law_1207 (by decide) ?_
  refine q_iadd hM dL_law_1208 (fun z14118 hz14118 => ?_)
  have tz14118 := i_addT hz14118 (rfl : i.toInt = i.toInt) (kc_2 : (2 : Int32).toInt = 2) (by omega) (by omega)
  refine s_iald z14118.toInt.toNat hM hW hXB (by omega) (by omega) (by omega) dL_law_1209 ?_
  refine q_top (fun a14119 ha14119 => ?_)
  refine q_aload_n hM dL_law_1210 (lv_at hl 3 rfl) ?_
  refine q_iload_n hM dL_law_1211 (lv_at hl 0 rfl) ?_
  refine q_iconst (v := (3 : Int32)) hM dL_law_1212 (by decide) ?_
  refine q_iadd hM dL_law_1213 (fun z14120 hz14120 => ?_)
  have tz14120 := i_addT hz14120 (rfl : i.toInt = i.toInt) (kc_3 : (3 : Int32).toInt = 3) (by omega) (by omega)
  refine s_iald z14120.toInt.toNat hM hW hXB (by omega) (by omega) (by omega) dL_law_1214 ?_
  refine q_top (fun a14121 ha14121 => ?_)
  refine q_callV (As := [.int a14117, .int a14119, .int a14121]) (rest := [.int r1]) hM hW hR hC myX12_taught (kAW (v_7_2 (List.mem_of_getElem? (i := 5) rfl)) rfl) (rfl : vwCl[12]? = some (RX12, TX12, 86)) rfl lb_129.1 (shO hP.1 lb_129) (s_X12_taught _ _ cA ad g1 a14117 a14119 a14121 hP.1 hP.2.1 (fun m k hm hk => by rw [hf1.2.1 177 (by omega)]; exact (hRl.2.2 m k hm hk).2)) ⟨by decide, by decide⟩ rfl rfl hl.1 (Nat.le_of_ble_eq_true rfl) dL_law_1215 (fun v g2 H locs hp hW => ?_)
  obtain ⟨r2, rfl, hs2, hG2, hf2, ha2⟩ := hp
  have hP1 := hP
  have hP : PI ad cA g2 := PI_fr hP1 hs2 hG2 hf2 (by omega) (by omega) (by omega) (by omega) (by omega) (by omega) (by omega) (by omega) (by omega)
  have qa14117 : a14117 = a14111 := by rw [ha14117, ha14111]; congr 1; omega
  have qa14119 : a14119 = a14113 := by rw [ha14119, ha14113]; congr 1; omega
  have qa14121 : a14121 = a14115 := by rw [ha14121, ha14115]; congr 1; omega
  first | rw [qa14117] at ha2 | skip
  first | rw [qa14119] at ha2 | skip
  first | rw [qa14121] at ha2 | skip
  have bk9 := (hP0.2.1).f (shI hP0.1 lb_102 (by decide) (by decide)) rF_102_4 (by decide)
  rw [hf1.2.1 176 (by omega)] at ha2
  have ew := wSR hRl.2 (hf1.2.1 177 (by omega))
  have k5 : r1.toInt = r2.toInt := by
    rcases ha1 with ⟨a1, b1⟩ | ⟨a1, c9, m1, b1, c1⟩
    · rcases ha2 with ⟨a2, b2⟩ | ⟨a2, r9, m2, b2, c2⟩
      · omega
      · obtain ⟨d1, d2, ⟨t9, u1, u2⟩, d4, d5, d6, d7⟩ := a2
        rw [told_eq5 hRl.2.1 (by omega) (by omega) u1] at u2
        exact absurd ⟨u2, d4, d5, d6, d7⟩ a1
    · obtain ⟨d1, d2, d3, d4, d5⟩ := a1
      have q1 := sub_in (by omega) d1
      have q2 := cn_6 (s := a14113) (by omega) (by omega)
      have q3 := cn_5 (s := a14111) (by omega) (by omega)
      have q4 := pos_64 (s := a14113) (by omega) (by omega)
      have q5 := cn_cb a14111 12
      rcases ha2 with ⟨a2, b2⟩ | ⟨a2, r9, m2, b2, c2⟩
      · refine absurd ⟨?_, by omega, ⟨_, bs_self (fI g 102 4) hRl.2.1 (by omega) (by omega), d1⟩, d2, d3, d4, d5⟩ a2
        by_cases z : a14111.toInt = 0
        · rw [cb_00 z] at d4; omega
        · omega
      · unfold WX at b1
        rw [ew] at b1
        unfold WM at b2
        obtain ⟨e1, e2, e3⟩ := taught_eq (w := wR g1) (M := a14111) (A := a14113) (n := cn a14113 6) (c := c9) (r := r9) (by rw [← ew]; exact wS_0 (fun m k hm hk => by rw [(hRl.2.2 m k hm hk).1]; exact (hRl.2.2 m k hm hk).2)) (fun q _ hb => bt_lt (n := 5) (by omega) (by omega) hb) (by omega) rfl b1 b2 (by omega)
        rcases c1 with ⟨c1, v1⟩ | ⟨c1, v1⟩
        · rcases c2 with ⟨c2, v2⟩ | ⟨c2, v2⟩
          · omega
          · omega
        · rcases c2 with ⟨c2, v2⟩ | ⟨c2, v2⟩
          · omega
          · rcases d5 with d5 | ⟨d5, d6, d7⟩
            · omega
            · have l9 : cn a14113 a14115.toInt.toNat < cn a14113 6 := cn_lt d7 (by omega)
              rcases v1 with v1 | v1
              · omega
              · rcases v2 with v2 | v2
                · omega
                · rw [v1, v2, e3 _ l9]
  refine q_icmp_eq (tgt := 1457) hM dL_law_1218 (by decide) (rfl : r1.toInt = r1.toInt) (rfl : r2.toInt = r2.toInt) (fun hq => ?_) (fun hq => by omega)
  exact kk _ _ _ _ hP ⟨⟨(by rw [show fI g2 3 2 = fI g 3 2 from (FRf hf1 hf2 (by omega) (by omega)), show arI g2 131 = arI g 131 from ((hf2.2.1 131 (by omega)).trans (hf1.2.1 131 (by omega)))]; exact hRl.1.1), (by rw [show fI g2 18 3 = fI g 18 3 from (FRf hf1 hf2 (by omega) (by omega)), show arI g2 158 = arI g 158 from ((hf2.2.1 158 (by omega)).trans (hf1.2.1 158 (by omega)))]; exact hRl.1.2.1), (by rw [show fI g2 30 3 = fI g 30 3 from (FRf hf1 hf2 (by omega) (by omega)), show arI g2 162 = arI g 162 from ((hf2.2.1 162 (by omega)).trans (hf1.2.1 162 (by omega)))]; exact hRl.1.2.2.1), (((FRf hf1 hf2 (by omega) (by omega))).trans (hRl.1.2.2.2.1.trans ((FRf hf1 hf2 (by omega) (by omega))).symm)), (((FRf hf1 hf2 (by omega) (by omega))).trans (hRl.1.2.2.2.2.1.trans ((FRf hf1 hf2 (by omega) (by omega))).symm)), (((FRf hf1 hf2 (by omega) (by omega))).trans (hRl.1.2.2.2.2.2.trans (congrFun ((hf2.2.1 166 (by omega)).trans (hf1.2.1 166 (by omega))) 1).symm))⟩, ⟨by rw [show fI g2 102 4 = fI g 102 4 from (FRf hf1 hf2 (by omega) (by omega)), show arI g2 176 = arI g 176 from ((hf2.2.1 176 (by omega)).trans (hf1.2.1 176 (by omega)))]; exact hRl.2.1, fun m k hm hk => by rw [show arI g2 (113 + 1 * m) = arI g (113 + 1 * m) from (hf2.2.1 (113 + 1 * m) (by omega)).trans (hf1.2.1 (113 + 1 * m) (by omega)), show arI g2 177 = arI g 177 from ((hf2.2.1 177 (by omega)).trans (hf1.2.1 177 (by omega)))]; exact hRl.2.2 m k hm hk⟩⟩ hW hl

set_option maxRecDepth 100000 in
set_option maxHeartbeats 4000000 in
theorem lc_hummed {K : KT} {cA : Nat → ClassId} {ad : Nat → Nat} {b L : Nat} {xs : Nat → Int32} {H : Heap} {locs : List Loc} {ls : Array Slot} {g : Nat → va_E} {i : Int32} (hM : MB K cA code 4 R_law) (hXB : XB K b L xs) (hL : L ≤ 3072) (hR : HasRoom K 2048 84000) (hC : Cells K 600000 7302250) (hP : PI ad cA g) (hRl : RT g) (hi0 : 0 ≤ i.toInt) (hi : i.toInt + 6 ≤ L) (hW : WB NN ad K g H locs) (hl : lv_has ls 4 [(3, .int i), (2, .ref (ad 129)), (1, .ref (ad 0)), (0, .ref b)]) (kk : ∀ (g : Nat → va_E) (H : Heap) (locs : List Loc) (ls : Array Slot), PI ad cA g → RT g → WB NN ad K g H locs → lv_has ls 4 [(3, .int i), (2, .ref (ad 129)), (1, .ref (ad 0)), (0, .ref b)] → XX K 600000 7302250 H locs 1457 ls []) : XX K 600000 7302250 H locs 1223 ls [] := by
  have hLn : L < 1000000 := by omega
  obtain ⟨lw, lwn, hlc, h13, h14⟩ := id hP.2.2.1
  refine q_aload_n hM dL_law_1223 (lv_at hl 2 rfl) ?_
  refine q_aload_n hM dL_law_1224 (lv_at hl 3 rfl) ?_
  refine q_iload_n hM dL_law_1225 (lv_at hl 0 rfl) ?_
  refine q_iconst (v := (1 : Int32)) hM dL_law_1226 (by decide) ?_
  refine q_iadd hM dL_law_1227 (fun z14122 hz14122 => ?_)
  have tz14122 := i_addT hz14122 (rfl : i.toInt = i.toInt) (kc_1 : (1 : Int32).toInt = 1) (by omega) (by omega)
  refine s_iald z14122.toInt.toNat hM hW hXB (by omega) (by omega) (by omega) dL_law_1228 ?_
  refine q_top (fun a14123 ha14123 => ?_)
  refine q_aload_n hM dL_law_1229 (lv_at hl 3 rfl) ?_
  refine q_iload_n hM dL_law_1230 (lv_at hl 0 rfl) ?_
  refine q_iconst (v := (2 : Int32)) hM dL_law_1231 (by decide) ?_
  refine q_iadd hM dL_law_1232 (fun z14124 hz14124 => ?_)
  have tz14124 := i_addT hz14124 (rfl : i.toInt = i.toInt) (kc_2 : (2 : Int32).toInt = 2) (by omega) (by omega)
  refine s_iald z14124.toInt.toNat hM hW hXB (by omega) (by omega) (by omega) dL_law_1233 ?_
  refine q_top (fun a14125 ha14125 => ?_)
  refine q_aload_n hM dL_law_1234 (lv_at hl 3 rfl) ?_
  refine q_iload_n hM dL_law_1235 (lv_at hl 0 rfl) ?_
  refine q_iconst (v := (3 : Int32)) hM dL_law_1236 (by decide) ?_
  refine q_iadd hM dL_law_1237 (fun z14126 hz14126 => ?_)
  have tz14126 := i_addT hz14126 (rfl : i.toInt = i.toInt) (kc_3 : (3 : Int32).toInt = 3) (by omega) (by omega)
  refine s_iald z14126.toInt.toNat hM hW hXB (by omega) (by omega) (by omega) dL_law_1238 ?_
  refine q_top (fun a14127 ha14127 => ?_)
  refine q_callV (As := [.int a14123, .int a14125, .int a14127]) (rest := []) hM hW hR hC myX11_hummed (kAW (v_3_13 (List.mem_of_getElem? (i := 8) rfl)) rfl) (rfl : vwCl[11]? = some (RX11, TX11, 16)) rfl lb_0.1 (shO hP.1 lb_0) (p_X11_hummed _ _ cA ad g a14123 a14125 a14127  hP.1 hP.2.1) ⟨by decide, by decide⟩ rfl rfl hl.1 (Nat.le_of_ble_eq_true rfl) dL_law_1239 (fun v g1 H locs hp hW => ?_)
  obtain ⟨r1, rfl, hs1, hG1, hf1⟩ := hp
  have hP0 := hP
  have hP : PI ad cA g1 := PI_fr hP0 hs1 hG1 hf1 (by omega) (by omega) (by omega) (by omega) (by omega) (by omega) (by omega) (by omega) (by omega)
  refine q_pop hM dL_law_1242 rfl ?_
  refine q_aload_n hM dL_law_1243 (lv_at hl 1 rfl) ?_
  refine q_aload_n hM dL_law_1244 (lv_at hl 3 rfl) ?_
  refine q_iload_n hM dL_law_1245 (lv_at hl 0 rfl) ?_
  refine q_iconst (v := (1 : Int32)) hM dL_law_1246 (by decide) ?_
  refine q_iadd hM dL_law_1247 (fun z14128 hz14128 => ?_)
  have tz14128 := i_addT hz14128 (rfl : i.toInt = i.toInt) (kc_1 : (1 : Int32).toInt = 1) (by omega) (by omega)
  refine s_iald z14128.toInt.toNat hM hW hXB (by omega) (by omega) (by omega) dL_law_1248 ?_
  refine q_top (fun a14129 ha14129 => ?_)
  refine q_aload_n hM dL_law_1249 (lv_at hl 3 rfl) ?_
  refine q_iload_n hM dL_law_1250 (lv_at hl 0 rfl) ?_
  refine q_iconst (v := (2 : Int32)) hM dL_law_1251 (by decide) ?_
  refine q_iadd hM dL_law_1252 (fun z14130 hz14130 => ?_)
  have tz14130 := i_addT hz14130 (rfl : i.toInt = i.toInt) (kc_2 : (2 : Int32).toInt = 2) (by omega) (by omega)
  refine s_iald z14130.toInt.toNat hM hW hXB (by omega) (by omega) (by omega) dL_law_1253 ?_
  refine q_top (fun a14131 ha14131 => ?_)
  refine q_aload_n hM dL_law_1254 (lv_at hl 3 rfl) ?_
  refine q_iload_n hM dL_law_1255 (lv_at hl 0 rfl) ?_
  refine q_iconst (v := (3 : Int32)) hM dL_law_1256 (by decide) ?_
  refine q_iadd hM dL_law_1257 (fun z14132 hz14132 => ?_)
  have tz14132 := i_addT hz14132 (rfl : i.toInt = i.toInt) (kc_3 : (3 : Int32).toInt = 3) (by omega) (by omega)
  refine s_iald z14132.toInt.toNat hM hW hXB (by omega) (by omega) (by omega) dL_law_1258 ?_
  refine q_top (fun a14133 ha14133 => ?_)
  refine q_callV (As := [.int a14129, .int a14131, .int a14133]) (rest := []) hM hW hR hC myX12_hummed (kAW (v_7_3 (List.mem_of_getElem? (i := 2) rfl)) rfl) (rfl : vwCl[12]? = some (RX12, TX12, 86)) rfl lb_129.1 (shO hP.1 lb_129) (p_X12_hummed _ _ cA ad g1 a14129 a14131 a14133 hP.1 hP.2.1) ⟨by decide, by decide⟩ rfl rfl hl.1 (Nat.le_of_ble_eq_true rfl) dL_law_1259 (fun v g2 H locs hp hW => ?_)
  obtain ⟨r2, rfl, hs2, hG2, hf2⟩ := hp
  have hP1 := hP
  have hP : PI ad cA g2 := PI_fr hP1 hs2 hG2 hf2 (by omega) (by omega) (by omega) (by omega) (by omega) (by omega) (by omega) (by omega) (by omega)
  have qa14129 : a14129 = a14123 := by rw [ha14129, ha14123]; congr 1; omega
  have qa14131 : a14131 = a14125 := by rw [ha14131, ha14125]; congr 1; omega
  have qa14133 : a14133 = a14127 := by rw [ha14133, ha14127]; congr 1; omega
  refine q_pop hM dL_law_1262 rfl ?_
  refine q_goto (tgt := 1457) hM dL_law_1263 (by decide) ?_
  exact kk _ _ _ _ hP ⟨⟨(by rw [show fI g2 3 2 = fI g 3 2 from (FRf hf1 hf2 (by omega) (by omega)), show arI g2 131 = arI g 131 from ((hf2.2.1 131 (by omega)).trans (hf1.2.1 131 (by omega)))]; exact hRl.1.1), (by rw [show fI g2 18 3 = fI g 18 3 from (FRf hf1 hf2 (by omega) (by omega)), show arI g2 158 = arI g 158 from ((hf2.2.1 158 (by omega)).trans (hf1.2.1 158 (by omega)))]; exact hRl.1.2.1), (by rw [show fI g2 30 3 = fI g 30 3 from (FRf hf1 hf2 (by omega) (by omega)), show arI g2 162 = arI g 162 from ((hf2.2.1 162 (by omega)).trans (hf1.2.1 162 (by omega)))]; exact hRl.1.2.2.1), (((FRf hf1 hf2 (by omega) (by omega))).trans (hRl.1.2.2.2.1.trans ((FRf hf1 hf2 (by omega) (by omega))).symm)), (((FRf hf1 hf2 (by omega) (by omega))).trans (hRl.1.2.2.2.2.1.trans ((FRf hf1 hf2 (by omega) (by omega))).symm)), (((FRf hf1 hf2 (by omega) (by omega))).trans (hRl.1.2.2.2.2.2.trans (congrFun ((hf2.2.1 166 (by omega)).trans (hf1.2.1 166 (by omega))) 1).symm))⟩, ⟨by rw [show fI g2 102 4 = fI g 102 4 from (FRf hf1 hf2 (by omega) (by omega)), show arI g2 176 = arI g 176 from ((hf2.2.1 176 (by omega)).trans (hf1.2.1 176 (by omega)))]; exact hRl.2.1, fun m k hm hk => by rw [show arI g2 (113 + 1 * m) = arI g (113 + 1 * m) from (hf2.2.1 (113 + 1 * m) (by omega)).trans (hf1.2.1 (113 + 1 * m) (by omega)), show arI g2 177 = arI g 177 from ((hf2.2.1 177 (by omega)).trans (hf1.2.1 177 (by omega)))]; exact hRl.2.2 m k hm hk⟩⟩ hW hl
