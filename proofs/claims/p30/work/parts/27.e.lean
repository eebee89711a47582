set_option maxRecDepth 100000 in
set_option maxHeartbeats 4000000 in
theorem lc_odds {K : KT} {cA : Nat → ClassId} {ad : Nat → Nat} {b L : Nat} {xs : Nat → Int32} {H : Heap} {locs : List Loc} {ls : Array Slot} {g : Nat → va_E} {i : Int32} (hM : MB K cA code 4 R_law) (hXB : XB K b L xs) (hL : L ≤ 3072) (hR : HasRoom K 2048 84000) (hC : Cells K 600000 7302250) (hP : PI ad cA g) (hRl : RT g) (hi0 : 0 ≤ i.toInt) (hi : i.toInt + 6 ≤ L) (hW : WB NN ad K g H locs) (hl : lv_has ls 4 [(3, .int i), (2, .ref (ad 129)), (1, .ref (ad 0)), (0, .ref b)]) (kk : ∀ (g : Nat → va_E) (H : Heap) (locs : List Loc) (ls : Array Slot), PI ad cA g → RT g → WB NN ad K g H locs → lv_has ls 4 [(3, .int i), (2, .ref (ad 129)), (1, .ref (ad 0)), (0, .ref b)] → XX K 600000 7302250 H locs 1457 ls []) : XX K 600000 7302250 H locs 1266 ls [] := by
  have hLn : L < 1000000 := by omega
  obtain ⟨lw, lwn, hlc, h13, h14⟩ := id hP.2.2.1
  refine q_aload_n hM dL_law_1266 (lv_at hl 2 rfl) ?_
  refine q_aload_n hM dL_law_1267 (lv_at hl 3 rfl) ?_
  refine q_iload_n hM dL_law_1268 (lv_at hl 0 rfl) ?_
  refine q_iconst (v := (1 : Int32)) hM dL_law_1269 (by decide) ?_
  refine q_iadd hM dL_law_1270 (fun z14134 hz14134 => ?_)
  have tz14134 := i_addT hz14134 (rfl : i.toInt = i.toInt) (kc_1 : (1 : Int32).toInt = 1) (by omega) (by omega)
  refine s_iald z14134.toInt.toNat hM hW hXB (by omega) (by omega) (by omega) dL_law_1271 ?_
  refine q_top (fun a14135 ha14135 => ?_)
  refine q_aload_n hM dL_law_1272 (lv_at hl 3 rfl) ?_
  refine q_iload_n hM dL_law_1273 (lv_at hl 0 rfl) ?_
  refine q_iconst (v := (2 : Int32)) hM dL_law_1274 (by decide) ?_
  refine q_iadd hM dL_law_1275 (fun z14136 hz14136 => ?_)
  have tz14136 := i_addT hz14136 (rfl : i.toInt = i.toInt) (kc_2 : (2 : Int32).toInt = 2) (by omega) (by omega)
  refine s_iald z14136.toInt.toNat hM hW hXB (by omega) (by omega) (by omega) dL_law_1276 ?_
  refine q_top (fun a14137 ha14137 => ?_)
  refine q_aload_n hM dL_law_1277 (lv_at hl 3 rfl) ?_
  refine q_iload_n hM dL_law_1278 (lv_at hl 0 rfl) ?_
  refine q_iconst (v := (3 : Int32)) hM dL_law_1279 (by decide) ?_
  refine q_iadd hM dL_law_1280 (fun z14138 hz14138 => ?_)
  have tz14138 := i_addT hz14138 (rfl : i.toInt = i.toInt) (kc_3 : (3 : Int32).toInt = 3) (by omega) (by omega)
  refine s_iald z14138.toInt.toNat hM hW hXB (by omega) (by omega) (by omega) dL_law_1281 ?_
  refine q_top (fun a14139 ha14139 => ?_)
  refine q_aload_n hM dL_law_1282 (lv_at hl 3 rfl) ?_
  refine q_iload_n hM dL_law_1283 (lv_at hl 0 rfl) ?_
  refine q_iconst (v := (4 : Int32)) hM dL_law_1284 (by decide) ?_
  refine q_iadd hM dL_law_1285 (fun z14140 hz14140 => ?_)
  have tz14140 := i_addT hz14140 (rfl : i.toInt = i.toInt) (kc_4 : (4 : Int32).toInt = 4) (by omega) (by omega)
  refine s_iald z14140.toInt.toNat hM hW hXB (by omega) (by omega) (by omega) dL_law_1286 ?_
  refine q_top (fun a14141 ha14141 => ?_)
  refine q_callV (As := [.int a14135, .int a14137, .int a14139, .int a14141]) (rest := []) hM hW hR hC myX11_odds (kAW (v_3_14 (List.mem_of_getElem? (i := 8) rfl)) rfl) (rfl : vwCl[11]? = some (RX11, TX11, 16)) rfl lb_0.1 (shO hP.1 lb_0) (p_X11_odds _ _ cA ad g a14135 a14137 a14139 a14141  hP.1 hP.2.1) ⟨by decide, by decide⟩ rfl rfl hl.1 (Nat.le_of_ble_eq_true rfl) dL_law_1287 (fun v g1 H locs hp hW => ?_)
  obtain ⟨r1, rfl, hs1, hG1, hf1⟩ := hp
  have hP0 := hP
  have hP : PI ad cA g1 := PI_fr hP0 hs1 hG1 hf1 (by omega) (by omega) (by omega) (by omega) (by omega) (by omega) (by omega) (by omega) (by omega)
  refine q_pop hM dL_law_1290 rfl ?_
  refine q_aload_n hM dL_law_1291 (lv_at hl 1 rfl) ?_
  refine q_aload_n hM dL_law_1292 (lv_at hl 3 rfl) ?_
  refine q_iload_n hM dL_law_1293 (lv_at hl 0 rfl) ?_
  refine q_iconst (v := (1 : Int32)) hM dL_law_1294 (by decide) ?_
  refine q_iadd hM dL_law_1295 (fun z14142 hz14142 => ?_)
  have tz14142 := i_addT hz14142 (rfl : i.toInt = i.toInt) (kc_1 : (1 : Int32).toInt = 1) (by omega) (by omega)
  refine s_iald z14142.toInt.toNat hM hW hXB (by omega) (by omega) (by omega) dL_law_1296 ?_
  refine q_top (fun a14143 ha14143 => ?_)
  refine q_aload_n hM dL_law_1297 (lv_at hl 3 rfl) ?_
  refine q_iload_n hM dL_law_1298 (lv_at hl 0 rfl) ?_
  refine q_iconst (v := (2 : Int32)) hM dL_law_1299 (by decide) ?_
  refine q_iadd hM dL_law_1300 (fun z14144 hz14144 => ?_)
  have tz14144 := i_addT hz14144 (rfl : i.toInt = i.toInt) (kc_2 : (2 : Int32).toInt = 2) (by omega) (by omega)
  refine s_iald z14144.toInt.toNat hM hW hXB (by omega) (by omega) (by omega) dL_law_1301 ?_
  refine q_top (fun a14145 ha14145 => ?_)
  refine q_aload_n hM dL_law_1302 (lv_at hl 3 rfl) ?_
  refine q_iload_n hM dL_law_1303 (lv_at hl 0 rfl) ?_
  refine q_iconst (v := (3 : Int32)) hM dL_law_1304 (by decide) ?_
  refine q_iadd hM dL_law_1305 (fun z14146 hz14146 => ?_)
  have tz14146 := i_addT hz14146 (rfl : i.toInt = i.toInt) (kc_3 : (3 : Int32).toInt = 3) (by omega) (by omega)
  refine s_iald z14146.toInt.toNat hM hW hXB (by omega) (by omega) (by omega) dL_law_1306 ?_
  refine q_top (fun a14147 ha14147 => ?_)
  refine q_aload_n hM dL_law_1307 (lv_at hl 3 rfl) ?_
  refine q_iload_n hM dL_law_1308 (lv_at hl 0 rfl) ?_
  refine q_iconst (v := (4 : Int32)) hM dL_law_1309 (by decide) ?_
  refine q_iadd hM dL_law_1310 (fun z14148 hz14148 => ?_)
  have tz14148 := i_addT hz14148 (rfl : i.toInt = i.toInt) (kc_4 : (4 : Int32).toInt = 4) (by omega) (by omega)
  refine s_iald z14148.toInt.toNat hM hW hXB (by omega) (by omega) (by omega) dL_law_1311 ?_
  refine q_top (fun a14149 ha14149 => ?_)
  refine q_callV (As := [.int a14143, .int a14145, .int a14147, .int a14149]) (rest := []) hM hW hR hC myX12_odds (kAW (v_7_4 (List.mem_of_getElem? (i := 3) rfl)) rfl) (rfl : vwCl[12]? = some (RX12, TX12, 86)) rfl lb_129.1 (shO hP.1 lb_129) (p_X12_odds _ _ cA ad g1 a14143 a14145 a14147 a14149 hP.1 hP.2.1) ⟨by decide, by decide⟩ rfl rfl hl.1 (Nat.le_of_ble_eq_true rfl) dL_law_1312 (fun v g2 H locs hp hW => ?_)
  obtain ⟨r2, rfl, hs2, hG2, hf2⟩ := hp
  have hP1 := hP
  have hP : PI ad cA g2 := PI_fr hP1 hs2 hG2 hf2 (by omega) (by omega) (by omega) (by omega) (by omega) (by omega) (by omega) (by omega) (by omega)
  have qa14143 : a14143 = a14135 := by rw [ha14143, ha14135]; congr 1; omega
  have qa14145 : a14145 = a14137 := by rw [ha14145, ha14137]; congr 1; omega
  have qa14147 : a14147 = a14139 := by rw [ha14147, ha14139]; congr 1; omega
  have qa14149 : a14149 = a14141 := by rw [ha14149, ha14141]; congr 1; omega
  refine q_pop hM dL_law_1315 rfl ?_
  refine q_goto (tgt := 1457) hM dL_law_1316 (by decide) ?_
  exact kk _ _ _ _ hP ⟨⟨(by rw [show fI g2 3 2 = fI g 3 2 from (FRf hf1 hf2 (by omega) (by omega)), show arI g2 131 = arI g 131 from ((hf2.2.1 131 (by omega)).trans (hf1.2.1 131 (by omega)))]; exact hRl.1.1), (by rw [show fI g2 18 3 = fI g 18 3 from (FRf hf1 hf2 (by omega) (by omega)), show arI g2 158 = arI g 158 from ((hf2.2.1 158 (by omega)).trans (hf1.2.1 158 (by omega)))]; exact hRl.1.2.1), (by rw [show fI g2 30 3 = fI g 30 3 from (FRf hf1 hf2 (by omega) (by omega)), show arI g2 162 = arI g 162 from ((hf2.2.1 162 (by omega)).trans (hf1.2.1 162 (by omega)))]; exact hRl.1.2.2.1), (((FRf hf1 hf2 (by omega) (by omega))).trans (hRl.1.2.2.2.1.trans ((FRf hf1 hf2 (by omega) (by omega))).symm)), (((FRf hf1 hf2 (by omega) (by omega))).trans (hRl.1.2.2.2.2.1.trans ((FRf hf1 hf2 (by omega) (by omega))).symm)), (((FRf hf1 hf2 (by omega) (by omega))).trans (hRl.1.2.2.2.2.2.trans (congrFun ((hf2.2.1 166 (by omega)).trans (hf1.2.1 166 (by omega))) 1).symm))⟩, ⟨by rw [show fI g2 102 4 = fI g 102 4 from (FRf hf1 hf2 (by omega) (by omega)), show arI g2 176 = arI g 176 from ((hf2.2.1 176 (by omega)).trans (hf1.2.1 176 (by omega)))]; exact hRl.2.1, fun m k hm hk => by rw [show arI g2 (113 + 1 * m) = arI g (113 + 1 * m) from (hf2.2.1 (113 + 1 * m) (by omega)).trans (hf1.2.1 (113 + 1 * m) (by omega)), show arI g2 177 = arI g 177 from ((hf2.2.1 177 (by omega)).trans (hf1.2.1 177 (by omega)))]; exact hRl.2.2 m k hm hk⟩⟩ hW hl

set_option maxRecDepth 100000 in
set_option maxHeartbeats 4000000 in
theorem lc_crib {K : KT} {cA : Nat → ClassId} {ad : Nat → Nat} {b L : Nat} {xs : Nat → Int32} {H : Heap} {locs : List Loc} {ls : Array Slot} {g : Nat → va_E} {i : Int32} (hM : MB K cA code 4 R_law) (hXB : XB K b L xs) (hL : L ≤ 3072) (hR : HasRoom K 2048 84000) (hC : Cells K 600000 7302250) (hP : PI ad cA g) (hRl : RT g) (hi0 : 0 ≤ i.toInt) (hi : i.toInt + 6 ≤ L) (hW : WB NN ad K g H locs) (hl : lv_has ls 4 [(3, .int i), (2, .ref (ad 129)), (1, .ref (ad 0)), (0, .ref b)]) (kk : ∀ (g : Nat → va_E) (H : Heap) (locs : List Loc) (ls : Array Slot), PI ad cA g → RT g → WB NN ad K g H locs → lv_has ls 4 [(3, .int i), (2, .ref (ad 129)), (1, .ref (ad 0)), (0, .ref b)] → XX K 600000 7302250 H locs 1457 ls []) : XX K 600000 7302250 H locs 1319 ls [] := by
  have hLn : L < 1000000 := by omega
  obtain ⟨lw, lwn, hlc, h13, h14⟩ := id hP.2.2.1
  refine q_aload_n hM dL_law_1319 (lv_at hl 2 rfl) ?_
  refine q_aload_n hM dL_law_1320 (lv_at hl 3 rfl) ?_
  refine q_iload_n hM dL_law_1321 (lv_at hl 0 rfl) ?_
  refine q_iconst (v := (1 : Int32)) hM dL_law_1322 (by decide) ?_
  refine q_iadd hM dL_law_1323 (fun z14150 hz14150 => ?_)
  have tz14150 := i_addT hz14150 (rfl : i.toInt = i.toInt) (kc_1 : (1 : Int32).toInt = 1) (by omega) (by omega)
  refine s_iald z14150.toInt.toNat hM hW hXB (by omega) (by omega) (by omega) dL_law_1324 ?_
  refine q_top (fun a14151 ha14151 => ?_)
  refine q_aload_n hM dL_law_1325 (lv_at hl 3 rfl) ?_
  refine q_iload_n hM dL_law_1326 (lv_at hl 0 rfl) ?_
  refine q_iconst (v := (2 : Int32)) hM dL_law_1327 (by decide) ?_
  refine q_iadd hM dL_law_1328 (fun z14152 hz14152 => ?_)
  have tz14152 := i_addT hz14152 (rfl : i.toInt = i.toInt) (kc_2 : (2 : Int32).toInt = 2) (by omega) (by omega)
  refine s_iald z14152.toInt.toNat hM hW hXB (by omega) (by omega) (by omega) dL_law_1329 ?_
  refine q_top (fun a14153 ha14153 => ?_)
  refine q_callV (As := [.int a14151, .int a14153]) (rest := []) hM hW hR hC myX11_crib (kAW (v_4_0 (List.mem_of_getElem? (i := 13) rfl)) rfl) (rfl : vwCl[11]? = some (RX11, TX11, 16)) rfl lb_0.1 (shO hP.1 lb_0) (p_X11_crib _ _ cA ad g a14151 a14153 lw hP.1 hP.2.1 (by unfold isLw; omega) h13) ⟨by decide, by decide⟩ rfl rfl hl.1 (Nat.le_of_ble_eq_true rfl) dL_law_1330 (fun v g1 H locs hp hW => ?_)
  obtain ⟨r1, rfl, hs1, hG1, hf1⟩ := hp
  have hP0 := hP
  have hP : PI ad cA g1 := PI_fr hP0 hs1 hG1 hf1 (by omega) (by omega) (by omega) (by omega) (by omega) (by omega) (by omega) (by omega) (by omega)
  refine q_pop hM dL_law_1333 rfl ?_
  refine q_aload_n hM dL_law_1334 (lv_at hl 1 rfl) ?_
  refine q_aload_n hM dL_law_1335 (lv_at hl 3 rfl) ?_
  refine q_iload_n hM dL_law_1336 (lv_at hl 0 rfl) ?_
  refine q_iconst (v := (1 : Int32)) hM dL_law_1337 (by decide) ?_
  refine q_iadd hM dL_law_1338 (fun z14154 hz14154 => ?_)
  have tz14154 := i_addT hz14154 (rfl : i.toInt = i.toInt) (kc_1 : (1 : Int32).toInt = 1) (by omega) (by omega)
  refine s_iald z14154.toInt.toNat hM hW hXB (by omega) (by omega) (by omega) dL_law_1339 ?_
  refine q_top (fun a14155 ha14155 => ?_)
  refine q_aload_n hM dL_law_1340 (lv_at hl 3 rfl) ?_
  refine q_iload_n hM dL_law_1341 (lv_at hl 0 rfl) ?_
  refine q_iconst (v := (2 : Int32)) hM dL_law_1342 (by decide) ?_
  refine q_iadd hM dL_law_1343 (fun z14156 hz14156 => ?_)
  have tz14156 := i_addT hz14156 (rfl : i.toInt = i.toInt) (kc_2 : (2 : Int32).toInt = 2) (by omega) (by omega)
  refine s_iald z14156.toInt.toNat hM hW hXB (by omega) (by omega) (by omega) dL_law_1344 ?_
  refine q_top (fun a14157 ha14157 => ?_)
  refine q_callV (As := [.int a14155, .int a14157]) (rest := []) hM hW hR hC myX12_crib (kAW (v_7_4 (List.mem_of_getElem? (i := 10) rfl)) rfl) (rfl : vwCl[12]? = some (RX12, TX12, 86)) rfl lb_129.1 (shO hP.1 lb_129) (p_X12_crib _ _ cA ad g1 a14155 a14157 hP.1 hP.2.1 hP.2.2.2.1.1) ⟨by decide, by decide⟩ rfl rfl hl.1 (Nat.le_of_ble_eq_true rfl) dL_law_1345 (fun v g2 H locs hp hW => ?_)
  obtain ⟨r2, rfl, hs2, hG2, hf2⟩ := hp
  have hP1 := hP
  have hP : PI ad cA g2 := PI_fr hP1 hs2 hG2 hf2 (by omega) (by omega) (by omega) (by omega) (by omega) (by omega) (by omega) (by omega) (by omega)
  have qa14155 : a14155 = a14151 := by rw [ha14155, ha14151]; congr 1; omega
  have qa14157 : a14157 = a14153 := by rw [ha14157, ha14153]; congr 1; omega
  refine q_pop hM dL_law_1348 rfl ?_
  refine q_goto (tgt := 1457) hM dL_law_1349 (by decide) ?_
  exact kk _ _ _ _ hP ⟨⟨(by rw [show fI g2 3 2 = fI g 3 2 from (FRf hf1 hf2 (by omega) (by omega)), show arI g2 131 = arI g 131 from ((hf2.2.1 131 (by omega)).trans (hf1.2.1 131 (by omega)))]; exact hRl.1.1), (by rw [show fI g2 18 3 = fI g 18 3 from (FRf hf1 hf2 (by omega) (by omega)), show arI g2 158 = arI g 158 from ((hf2.2.1 158 (by omega)).trans (hf1.2.1 158 (by omega)))]; exact hRl.1.2.1), (by rw [show fI g2 30 3 = fI g 30 3 from (FRf hf1 hf2 (by omega) (by omega)), show arI g2 162 = arI g 162 from ((hf2.2.1 162 (by omega)).trans (hf1.2.1 162 (by omega)))]; exact hRl.1.2.2.1), (((FRf hf1 hf2 (by omega) (by omega))).trans (hRl.1.2.2.2.1.trans ((FRf hf1 hf2 (by omega) (by omega))).symm)), (((FRf hf1 hf2 (by omega) (by omega))).trans (hRl.1.2.2.2.2.1.trans ((FRf hf1 hf2 (by omega) (by omega))).symm)), (((FRf hf1 hf2 (by omega) (by omega))).trans (hRl.1.2.2.2.2.2.trans (congrFun ((hf2.2.1 166 (by omega)).trans (hf1.2.1 166 (by omega))) 1).symm))⟩, ⟨by rw [show fI g2 102 4 = fI g 102 4 from (FRf hf1 hf2 (by omega) (by omega)), show arI g2 176 = arI g 176 from ((hf2.2.1 176 (by omega)).trans (hf1.2.1 176 (by omega)))]; exact hRl.2.1, fun m k hm hk => by rw [show arI g2 (113 + 1 * m) = arI g (113 + 1 * m) from (hf2.2.1 (113 + 1 * m) (by omega)).trans (hf1.2.1 (113 + 1 * m) (by omega)), show arI g2 177 = arI g 177 from ((hf2.2.1 177 (by omega)).trans (hf1.2.1 177 (by omega)))]; exact hRl.2.2 m k hm hk⟩⟩ hW hl

set_option maxRecDepth 100000 in
set_option maxHeartbeats 4000000 in
theorem lc_seed {K : KT} {cA : Nat → ClassId} {ad : Nat → Nat} {b L : Nat} {xs : Nat → Int32} {H : Heap} {locs : List Loc} {ls : Array Slot} {g : Nat → va_E} {i : Int32} (hM : MB K cA code 4 R_law) (hXB : XB K b L xs) (hL : L ≤ 3072) (hR : HasRoom K 2048 84000) (hC : Cells K 600000 7302250) (hP : PI ad cA g) (hRl : RT g) (hi0 : 0 ≤ i.toInt) (hi : i.toInt + 6 ≤ L) (hW : WB NN ad K g H locs) (hl : lv_has ls 4 [(3, .int i), (2, .ref (ad 129)), (1, .ref (ad 0)), (0, .ref b)]) (kk : ∀ (g : Nat → va_E) (H : Heap) (locs : List Loc) (ls : Array Slot), PI ad cA g → RT g → WB NN ad K g H locs → lv_has ls 4 [(3, .int i), (2, .ref (ad 129)), (1, .ref (ad 0)), (0, .ref b)] → XX K 600000 7302250 H locs 1457 ls []) : XX K 600000 7302250 H locs 1352 ls [] := by
  have hLn : L < 1000000 := by omega
  obtain ⟨lw, lwn, hlc, h13, h14⟩ := id hP.2.2.1
  refine q_aload_n hM dL_law_1352 (lv_at hl 2 rfl) ?_
  refine q_aload_n hM dL_law_1353 (lv_at hl 3 rfl) ?_
  refine q_iload_n hM dL_law_1354 (lv_at hl 0 rfl) ?_
  refine q_iconst (v := (1 : Int32)) hM dL_law_1355 (by decide) ?_
  refine q_iadd hM dL_law_1356 (fun z14158 hz14158 => ?_)
  have tz14158 := i_addT hz14158 (rfl : i.toInt = i.toInt) (kc_1 : (1 : Int32).toInt = 1) (by omega) (by omega)
  refine s_iald z14158.toInt.toNat hM hW hXB (by omega) (by omega) (by omega) dL_law_1357 ?_
  refine q_top (fun a14159 ha14159 => ?_)
  refine q_callV (As := [.int a14159]) (rest := []) hM hW hR hC myX11_seed (kAW (v_4_1 (List.mem_of_getElem? (i := 2) rfl)) rfl) (rfl : vwCl[11]? = some (RX11, TX11, 16)) rfl lb_0.1 (shO hP.1 lb_0) (p_X11_seed _ _ cA ad g a14159  hP.1 hP.2.1) ⟨by decide, by decide⟩ rfl rfl hl.1 (Nat.le_of_ble_eq_true rfl) dL_law_1358 (fun v g1 H locs hp hW => ?_)
  obtain ⟨r1, rfl, hs1, hG1, hf1, ha1⟩ := hp
  have hP0 := hP
  have hP : PI ad cA g1 := PI_fr hP0 hs1 hG1 hf1 (by omega) (by omega) (by omega) (by omega) (by omega) (by omega) (by omega) (by omega) (by omega)
  refine q_pop hM dL_law_1361 rfl ?_
  refine q_aload_n hM dL_law_1362 (lv_at hl 1 rfl) ?_
  refine q_aload_n hM dL_law_1363 (lv_at hl 3 rfl) ?_
  refine q_iload_n hM dL_law_1364 (lv_at hl 0 rfl) ?_
  refine q_iconst (v := (1 : Int32)) hM dL_law_1365 (by decide) ?_
  refine q_iadd hM dL_law_1366 (fun z14160 hz14160 => ?_)
  have tz14160 := i_addT hz14160 (rfl : i.toInt = i.toInt) (kc_1 : (1 : Int32).toInt = 1) (by omega) (by omega)
  refine s_iald z14160.toInt.toNat hM hW hXB (by omega) (by omega) (by omega) dL_law_1367 ?_
  refine q_top (fun a14161 ha14161 => ?_)
  refine q_callV (As := [.int a14161]) (rest := []) hM hW hR hC myX12_seed (kAW (v_7_5 (List.mem_of_getElem? (i := 2) rfl)) rfl) (rfl : vwCl[12]? = some (RX12, TX12, 86)) rfl lb_129.1 (shO hP.1 lb_129) (p_X12_seed _ _ cA ad g1 a14161 hP.1 hP.2.1) ⟨by decide, by decide⟩ rfl rfl hl.1 (Nat.le_of_ble_eq_true rfl) dL_law_1368 (fun v g2 H locs hp hW => ?_)
  obtain ⟨r2, rfl, hs2, hG2, hf2, ha2⟩ := hp
  have hP1 := hP
  have hP : PI ad cA g2 := PI_fr hP1 hs2 hG2 hf2 (by omega) (by omega) (by omega) (by omega) (by omega) (by omega) (by omega) (by omega) (by omega)
  have qa14161 : a14161 = a14159 := by rw [ha14161, ha14159]; congr 1; omega
  first | rw [qa14161] at ha2 | skip
  refine q_pop hM dL_law_1371 rfl ?_
  refine q_goto (tgt := 1457) hM dL_law_1372 (by decide) ?_
  exact kk _ _ _ _ hP ⟨⟨(by rw [show fI g2 3 2 = fI g 3 2 from (FRf hf1 hf2 (by omega) (by omega)), show arI g2 131 = arI g 131 from ((hf2.2.1 131 (by omega)).trans (hf1.2.1 131 (by omega)))]; exact hRl.1.1), (by rw [show fI g2 18 3 = fI g 18 3 from (FRf hf1 hf2 (by omega) (by omega)), show arI g2 158 = arI g 158 from ((hf2.2.1 158 (by omega)).trans (hf1.2.1 158 (by omega)))]; exact hRl.1.2.1), (by rw [show fI g2 30 3 = fI g 30 3 from (FRf hf1 hf2 (by omega) (by omega)), show arI g2 162 = arI g 162 from ((hf2.2.1 162 (by omega)).trans (hf1.2.1 162 (by omega)))]; exact hRl.1.2.2.1), (((FRf hf1 hf2 (by omega) (by omega))).trans (hRl.1.2.2.2.1.trans ((FRf hf1 hf2 (by omega) (by omega))).symm)), (((FRf hf1 hf2 (by omega) (by omega))).trans (hRl.1.2.2.2.2.1.trans ((FRf hf1 hf2 (by omega) (by omega))).symm)), (((FRf hf1 hf2 (by omega) (by omega))).trans (hRl.1.2.2.2.2.2.trans (congrFun ((hf2.2.1 166 (by omega)).trans (hf1.2.1 166 (by omega))) 1).symm))⟩, ⟨by rw [show fI g2 102 4 = fI g 102 4 from (FRf hf1 hf2 (by omega) (by omega)), show arI g2 176 = arI g 176 from ((hf2.2.1 176 (by omega)).trans (hf1.2.1 176 (by omega)))]; exact hRl.2.1, fun m k hm hk => by rw [show arI g2 (113 + 1 * m) = arI g (113 + 1 * m) from (hf2.2.1 (113 + 1 * m) (by omega)).trans (hf1.2.1 (113 + 1 * m) (by omega)), show arI g2 177 = arI g 177 from ((hf2.2.1 177 (by omega)).trans (hf1.2.1 177 (by omega)))]; exact hRl.2.2 m k hm hk⟩⟩ hW hl

set_option maxRecDepth 100000 in
set_option maxHeartbeats 4000000 in
theorem lc_keep {K : KT} {cA : Nat → ClassId} {ad : Nat → Nat} {b L : Nat} {xs : Nat → Int32} {H : Heap} {locs : List Loc} {ls : Array Slot} {g : Nat → va_E} {i : Int32} (hM : MB K cA code 4 R_law) (hXB : XB K b L xs) (hL : L ≤ 3072) (hR : HasRoom K 2048 84000) (hC : Cells K 600000 7302250) (hP : PI ad cA g) (hRl : RT g) (hi0 : 0 ≤ i.toInt) (hi : i.toInt + 6 ≤ L) (hW : WB NN ad K g H locs) (hl : lv_has ls 4 [(3, .int i), (2, .ref (ad 129)), (1, .ref (ad 0)), (0, .ref b)]) (kk : ∀ (g : Nat → va_E) (H : Heap) (locs : List Loc) (ls : Array Slot), PI ad cA g → RT g → WB NN ad K g H locs → lv_has ls 4 [(3, .int i), (2, .ref (ad 129)), (1, .ref (ad 0)), (0, .ref b)] → XX K 600000 7302250 H locs 1457 ls []) : XX K 600000 7302250 H locs 1375 ls [] := by
  have hLn : L < 1000000 := by omega
  obtain ⟨lw, lwn, hlc, h13, h14⟩ := id hP.2.2.1
  refine q_aload_n hM dL_law_1375 (lv_at hl 2 rfl) ?_
  refine q_callV (As := []) (rest := []) hM hW hR hC myX11_keep (kAW (v_4_1 (List.mem_of_getElem? (i := 7) rfl)) rfl) (rfl : vwCl[11]? = some (RX11, TX11, 16)) rfl lb_0.1 (shO hP.1 lb_0) (s_X11_keep _ _ cA ad g  (fI g 18 3) (fI g 18 4)  hP.1 hP.2.1 (shI hP.1 lb_18 (by decide) (by decide)) (shI hP.1 lb_18 (by decide) (by decide))) ⟨by decide, by decide⟩ rfl rfl hl.1 (Nat.le_of_ble_eq_true rfl) dL_law_1376 (fun v g1 H locs hp hW => ?_)
  obtain ⟨r1, rfl, hs1, hG1, hf1, cx0, cx1, cx2, ha1⟩ := hp
  have hP0 := hP
  have hP : PI ad cA g1 := PI_fr hP0 hs1 hG1 hf1 (by omega) (by omega) (by omega) (by omega) (by omega) (by omega) (by omega) (by omega) (by omega)
  refine q_pop hM dL_law_1379 rfl ?_
  refine q_aload_n hM dL_law_1380 (lv_at hl 1 rfl) ?_
  refine q_callV (As := []) (rest := []) hM hW hR hC myX12_keep (kAW (v_7_5 (List.mem_of_getElem? (i := 7) rfl)) rfl) (rfl : vwCl[12]? = some (RX12, TX12, 86)) rfl lb_129.1 (shO hP.1 lb_129) (s_X12_keep _ _ cA ad g1  (fI g1 129 56) hP.1 hP.2.1 (shI hP.1 lb_129 (by decide) (by decide)) (fun q hq => by rw [hf1.2.1 158 (by omega)]; exact SM_01 hRl.1.2.1 q hq)) ⟨by decide, by decide⟩ rfl rfl hl.1 (Nat.le_of_ble_eq_true rfl) dL_law_1381 (fun v g2 H locs hp hW => ?_)
  obtain ⟨r2, rfl, hs2, hG2, hf2, cm0, cm1, cm2, ha2⟩ := hp
  have hP1 := hP
  have hP : PI ad cA g2 := PI_fr hP1 hs2 hG2 hf2 (by omega) (by omega) (by omega) (by omega) (by omega) (by omega) (by omega) (by omega) (by omega)
  have k5 : r1 = r2 := by rw [ha1, ha2, FR1f hf1 (by omega)]; exact hRl.1.2.2.2.2.1
  rw [k5] at *
  refine q_pop hM dL_law_1384 rfl ?_
  refine q_goto (tgt := 1457) hM dL_law_1385 (by decide) ?_
  exact kk _ _ _ _ hP ⟨⟨(by rw [show fI g2 3 2 = fI g 3 2 from (FRf hf1 hf2 (by omega) (by omega)), show arI g2 131 = arI g 131 from ((hf2.2.1 131 (by omega)).trans (hf1.2.1 131 (by omega)))]; exact hRl.1.1), (by rw [show fI g2 18 3 = fI g 18 3 from (FRf hf1 hf2 (by omega) (by omega)), show arI g2 158 = arI g 158 from ((hf2.2.1 158 (by omega)).trans (hf1.2.1 158 (by omega)))]; exact hRl.1.2.1), (by rw [show fI g2 30 3 = fI g 18 3 from ((FR1f hf2 (by omega)).trans (fI_of cx0))]; exact SM_cg hRl.1.2.1 (fun q hq => (cm1 q hq).trans (congrFun (hf1.2.1 158 (by omega)) q))), (((FR1f hf2 (by omega)).trans (fI_of cx2)).trans (fI_of cm0).symm), (((FRf hf1 hf2 (by omega) (by omega))).trans (hRl.1.2.2.2.2.1.trans ((FRf hf1 hf2 (by omega) (by omega))).symm)), (((FR1f hf2 (by omega)).trans (fI_of cx1)).trans (hRl.1.2.2.2.2.1.trans ((FR1f hf1 (by omega)).symm.trans cm2.symm)))⟩, ⟨by rw [show fI g2 102 4 = fI g 102 4 from (FRf hf1 hf2 (by omega) (by omega)), show arI g2 176 = arI g 176 from ((hf2.2.1 176 (by omega)).trans (hf1.2.1 176 (by omega)))]; exact hRl.2.1, fun m k hm hk => by rw [show arI g2 (113 + 1 * m) = arI g (113 + 1 * m) from (hf2.2.1 (113 + 1 * m) (by omega)).trans (hf1.2.1 (113 + 1 * m) (by omega)), show arI g2 177 = arI g 177 from ((hf2.2.1 177 (by omega)).trans (hf1.2.1 177 (by omega)))]; exact hRl.2.2 m k hm hk⟩⟩ hW hl

set_option maxRecDepth 100000 in
set_option maxHeartbeats 4000000 in
theorem lc_undo {K : KT} {cA : Nat → ClassId} {ad : Nat → Nat} {b L : Nat} {xs : Nat → Int32} {H : Heap} {locs : List Loc} {ls : Array Slot} {g : Nat → va_E} {i : Int32} (hM : MB K cA code 4 R_law) (hXB : XB K b L xs) (hL : L ≤ 3072) (hR : HasRoom K 2048 84000) (hC : Cells K 600000 7302250) (hP : PI ad cA g) (hRl : RT g) (hi0 : 0 ≤ i.toInt) (hi : i.toInt + 6 ≤ L) (hW : WB NN ad K g H locs) (hl : lv_has ls 4 [(3, .int i), (2, .ref (ad 129)), (1, .ref (ad 0)), (0, .ref b)]) (kk : ∀ (g : Nat → va_E) (H : Heap) (locs : List Loc) (ls : Array Slot), PI ad cA g → RT g → WB NN ad K g H locs → lv_has ls 4 [(3, .int i), (2, .ref (ad 129)), (1, .ref (ad 0)), (0, .ref b)] → XX K 600000 7302250 H locs 1457 ls []) : XX K 600000 7302250 H locs 1388 ls [] := by
  have hLn : L < 1000000 := by omega
  obtain ⟨lw, lwn, hlc, h13, h14⟩ := id hP.2.2.1
  refine q_aload_n hM dL_law_1388 (lv_at hl 2 rfl) ?_
  refine q_callV (As := []) (rest := []) hM hW hR hC myX11_undo (kAW (v_4_1 (List.mem_of_getElem? (i := 11) rfl)) rfl) (rfl : vwCl[11]? = some (RX11, TX11, 16)) rfl lb_0.1 (shO hP.1 lb_0) (s_X11_undo _ _ cA ad g  (fI g 0 15) (fI g 30 3) (fI g 30 4) (fI g 18 3) (fI g 18 4)  hP.1 hP.2.1 (shI hP.1 lb_0 (by decide) (by decide)) (shI hP.1 lb_30 (by decide) (by decide)) (shI hP.1 lb_30 (by decide) (by decide)) (shI hP.1 lb_18 (by decide) (by decide)) (shI hP.1 lb_18 (by decide) (by decide))) ⟨by decide, by decide⟩ rfl rfl hl.1 (Nat.le_of_ble_eq_true rfl) dL_law_1389 (fun v g1 H locs hp hW => ?_)
  obtain ⟨x0, x1, r1, rfl, hs1, hG1, hf1, cx0, cx1, ha1⟩ := hp
  have hP0 := hP
  have hP : PI ad cA g1 := PI_fr hP0 hs1 hG1 hf1 (by omega) (by omega) (by omega) (by omega) (by omega) (by omega) (by omega) (by omega) (by omega)
  refine q_pop hM dL_law_1392 rfl ?_
  refine q_aload_n hM dL_law_1393 (lv_at hl 1 rfl) ?_
  refine q_callV (As := []) (rest := []) hM hW hR hC myX12_undo (kAW (v_7_5 (List.mem_of_getElem? (i := 11) rfl)) rfl) (rfl : vwCl[12]? = some (RX12, TX12, 86)) rfl lb_129.1 (shO hP.1 lb_129) (s_X12_undo _ _ cA ad g1  (fI g1 129 75) (fI g1 129 56) hP.1 hP.2.1 (shI hP.1 lb_129 (by decide) (by decide)) (shI hP.1 lb_129 (by decide) (by decide)) (fun q hq => by rw [hf1.2.1 162 (by omega)]; exact SM_01 hRl.1.2.2.1 q hq)) ⟨by decide, by decide⟩ rfl rfl hl.1 (Nat.le_of_ble_eq_true rfl) dL_law_1394 (fun v g2 H locs hp hW => ?_)
  obtain ⟨m0, r2, rfl, hs2, hG2, hf2, cm0, ha2⟩ := hp
  have hP1 := hP
  have hP : PI ad cA g2 := PI_fr hP1 hs2 hG2 hf2 (by omega) (by omega) (by omega) (by omega) (by omega) (by omega) (by omega) (by omega) (by omega)
  have k5 : fI g1 129 75 = fI g 0 15 := (FR1f hf1 (by omega)).trans hRl.1.2.2.2.1.symm
  rw [k5] at ha2
  refine q_pop hM dL_law_1397 rfl ?_
  refine q_goto (tgt := 1457) hM dL_law_1398 (by decide) ?_
  exact kk _ _ _ _ hP ⟨⟨(by rw [show fI g2 3 2 = fI g 3 2 from (FRf hf1 hf2 (by omega) (by omega)), show arI g2 131 = arI g 131 from ((hf2.2.1 131 (by omega)).trans (hf1.2.1 131 (by omega)))]; exact hRl.1.1), (by
    rw [show fI g2 18 3 = x0 from ((FR1f hf2 (by omega)).trans (fI_of cx0))]
    rcases ha1 with ⟨-, q1, e1, -⟩ | ⟨-, q1, e1, -⟩
    · rcases ha2 with ⟨-, q2, e2, -⟩ | ⟨-, q2, -, -⟩
      · rw [e1]; exact SM_cg hRl.1.2.2.1 (fun q hq => (e2 q hq).trans (congrFun (hf1.2.1 162 (by omega)) (8 + q)))
      · exact absurd q2 q1
    · rcases ha2 with ⟨-, q2, -, -⟩ | ⟨-, q2, e2, -⟩
      · exact absurd q1 q2
      · rw [e1]; exact SM_cg hRl.1.2.1 (fun q hq => (e2 q hq).trans (congrFun (hf1.2.1 158 (by omega)) q))), (by rw [show fI g2 30 3 = fI g 30 3 from (FRf hf1 hf2 (by omega) (by omega)), show arI g2 162 = arI g 162 from ((hf2.2.1 162 (by omega)).trans (hf1.2.1 162 (by omega)))]; exact hRl.1.2.2.1), (((FRf hf1 hf2 (by omega) (by omega))).trans (hRl.1.2.2.2.1.trans ((FRf hf1 hf2 (by omega) (by omega))).symm)), (by
    rw [show fI g2 18 4 = x1 from ((FR1f hf2 (by omega)).trans (fI_of cx1)), show fI g2 129 56 = m0 from fI_of cm0]
    rcases ha1 with ⟨-, q1, -, e1⟩ | ⟨-, q1, -, e1⟩
    · rcases ha2 with ⟨-, q2, -, e2⟩ | ⟨-, q2, -, -⟩
      · rw [e1, e2, hRl.1.2.2.2.2.2, (hf1.2.1 166 (by omega))]
      · exact absurd q2 q1
    · rcases ha2 with ⟨-, q2, -, -⟩ | ⟨-, q2, -, e2⟩
      · exact absurd q1 q2
      · rw [e1, e2, FR1f hf1 (by omega)]; exact hRl.1.2.2.2.2.1), (((FRf hf1 hf2 (by omega) (by omega))).trans (hRl.1.2.2.2.2.2.trans (congrFun ((hf2.2.1 166 (by omega)).trans (hf1.2.1 166 (by omega))) 1).symm))⟩, ⟨by rw [show fI g2 102 4 = fI g 102 4 from (FRf hf1 hf2 (by omega) (by omega)), show arI g2 176 = arI g 176 from ((hf2.2.1 176 (by omega)).trans (hf1.2.1 176 (by omega)))]; exact hRl.2.1, fun m k hm hk => by rw [show arI g2 (113 + 1 * m) = arI g (113 + 1 * m) from (hf2.2.1 (113 + 1 * m) (by omega)).trans (hf1.2.1 (113 + 1 * m) (by omega)), show arI g2 177 = arI g 177 from ((hf2.2.1 177 (by omega)).trans (hf1.2.1 177 (by omega)))]; exact hRl.2.2 m k hm hk⟩⟩ hW hl

set_option maxRecDepth 100000 in
set_option maxHeartbeats 4000000 in
theorem lc_check {K : KT} {cA : Nat → ClassId} {ad : Nat → Nat} {b L : Nat} {xs : Nat → Int32} {H : Heap} {locs : List Loc} {ls : Array Slot} {g : Nat → va_E} {i : Int32} (hM : MB K cA code 4 R_law) (hXB : XB K b L xs) (hL : L ≤ 3072) (hR : HasRoom K 2048 84000) (hC : Cells K 600000 7302250) (hP : PI ad cA g) (hRl : RT g) (hi0 : 0 ≤ i.toInt) (hi : i.toInt + 6 ≤ L) (hW : WB NN ad K g H locs) (hl : lv_has ls 4 [(3, .int i), (2, .ref (ad 129)), (1, .ref (ad 0)), (0, .ref b)]) (kk : ∀ (g : Nat → va_E) (H : Heap) (locs : List Loc) (ls : Array Slot), PI ad cA g → RT g → WB NN ad K g H locs → lv_has ls 4 [(3, .int i), (2, .ref (ad 129)), (1, .ref (ad 0)), (0, .ref b)] → XX K 600000 7302250 H locs 1457 ls []) : XX K 600000 7302250 H locs 1401 ls [] := by
  have hLn : L < 1000000 := by omega
  obtain ⟨lw, lwn, hlc, h13, h14⟩ := id hP.2.2.1
  refine q_aload_n hM dL_law_1401 (lv_at hl 2 rfl) ?_
  refine q_aload_n hM dL_law_1402 (lv_at hl 3 rfl) ?_
  refine q_iload_n hM dL_law_1403 (lv_at hl 0 rfl) ?_
  refine q_iconst (v := (1 : Int32)) hM dL_law_1404 (by decide) ?_
  refine q_iadd hM dL_law_1405 (fun z14162 hz14162 => ?_)
  have tz14162 := i_addT hz14162 (rfl : i.toInt = i.toInt) (kc_1 : (1 : Int32).toInt = 1) (by omega) (by omega)
  refine s_iald z14162.toInt.toNat hM hW hXB (by omega) (by omega) (by omega) dL_law_1406 ?_
  refine q_top (fun a14163 ha14163 => ?_)
  refine q_aload_n hM dL_law_1407 (lv_at hl 3 rfl) ?_
  refine q_iload_n hM dL_law_1408 (lv_at hl 0 rfl) ?_
  refine q_iconst (v := (2 : Int32)) hM dL_law_1409 (by decide) ?_
  refine q_iadd hM dL_law_1410 (fun z14164 hz14164 => ?_)
  have tz14164 := i_addT hz14164 (rfl : i.toInt = i.toInt) (kc_2 : (2 : Int32).toInt = 2) (by omega) (by omega)
  refine s_iald z14164.toInt.toNat hM hW hXB (by omega) (by omega) (by omega) dL_law_1411 ?_
  refine q_top (fun a14165 ha14165 => ?_)
  refine q_callV (As := [.int a14163, .int a14165]) (rest := []) hM hW hR hC myX11_check (kAW (v_4_1 (List.mem_of_getElem? (i := 15) rfl)) rfl) (rfl : vwCl[11]? = some (RX11, TX11, 16)) rfl lb_0.1 (shO hP.1 lb_0) (p_X11_check _ _ cA ad g a14163 a14165  hP.1 hP.2.1) ⟨by decide, by decide⟩ rfl rfl hl.1 (Nat.le_of_ble_eq_true rfl) dL_law_1412 (fun v g1 H locs hp hW => ?_)
  obtain ⟨r1, rfl, hs1, hG1, hf1⟩ := hp
  have hP0 := hP
  have hP : PI ad cA g1 := PI_fr hP0 hs1 hG1 hf1 (by omega) (by omega) (by omega) (by omega) (by omega) (by omega) (by omega) (by omega) (by omega)
  refine q_pop hM dL_law_1415 rfl ?_
  refine q_aload_n hM dL_law_1416 (lv_at hl 1 rfl) ?_
  refine q_aload_n hM dL_law_1417 (lv_at hl 3 rfl) ?_
  refine q_iload_n hM dL_law_1418 (lv_at hl 0 rfl) ?_
  refine q_iconst (v := (1 : Int32)) hM dL_law_1419 (by decide) ?_
  refine q_iadd hM dL_law_1420 (fun z14166 hz14166 => ?_)
  have tz14166 := i_addT hz14166 (rfl : i.toInt = i.toInt) (kc_1 : (1 : Int32).toInt = 1) (by omega) (by omega)
  refine s_iald z14166.toInt.toNat hM hW hXB (by omega) (by omega) (by omega) dL_law_1421 ?_
  refine q_top (fun a14167 ha14167 => ?_)
  refine q_aload_n hM dL_law_1422 (lv_at hl 3 rfl) ?_
  refine q_iload_n hM dL_law_1423 (lv_at hl 0 rfl) ?_
  refine q_iconst (v := (2 : Int32)) hM dL_law_1424 (by decide) ?_
  refine q_iadd hM dL_law_1425 (fun z14168 hz14168 => ?_)
  have tz14168 := i_addT hz14168 (rfl : i.toInt = i.toInt) (kc_2 : (2 : Int32).toInt = 2) (by omega) (by omega)
  refine s_iald z14168.toInt.toNat hM hW hXB (by omega) (by omega) (by omega) dL_law_1426 ?_
  refine q_top (fun a14169 ha14169 => ?_)
  refine q_callV (As := [.int a14167, .int a14169]) (rest := []) hM hW hR hC myX12_check (kAW (v_7_5 (List.mem_of_getElem? (i := 15) rfl)) rfl) (rfl : vwCl[12]? = some (RX12, TX12, 86)) rfl lb_129.1 (shO hP.1 lb_129) (p_X12_check _ _ cA ad g1 a14167 a14169 hP.1 hP.2.1) ⟨by decide, by decide⟩ rfl rfl hl.1 (Nat.le_of_ble_eq_true rfl) dL_law_1427 (fun v g2 H locs hp hW => ?_)
  obtain ⟨r2, rfl, hs2, hG2, hf2⟩ := hp
  have hP1 := hP
  have hP : PI ad cA g2 := PI_fr hP1 hs2 hG2 hf2 (by omega) (by omega) (by omega) (by omega) (by omega) (by omega) (by omega) (by omega) (by omega)
  have qa14167 : a14167 = a14163 := by rw [ha14167, ha14163]; congr 1; omega
  have qa14169 : a14169 = a14165 := by rw [ha14169, ha14165]; congr 1; omega
  refine q_pop hM dL_law_1430 rfl ?_
  refine q_goto (tgt := 1457) hM dL_law_1431 (by decide) ?_
  exact kk _ _ _ _ hP ⟨⟨(by rw [show fI g2 3 2 = fI g 3 2 from (FRf hf1 hf2 (by omega) (by omega)), show arI g2 131 = arI g 131 from ((hf2.2.1 131 (by omega)).trans (hf1.2.1 131 (by omega)))]; exact hRl.1.1), (by rw [show fI g2 18 3 = fI g 18 3 from (FRf hf1 hf2 (by omega) (by omega)), show arI g2 158 = arI g 158 from ((hf2.2.1 158 (by omega)).trans (hf1.2.1 158 (by omega)))]; exact hRl.1.2.1), (by rw [show fI g2 30 3 = fI g 30 3 from (FRf hf1 hf2 (by omega) (by omega)), show arI g2 162 = arI g 162 from ((hf2.2.1 162 (by omega)).trans (hf1.2.1 162 (by omega)))]; exact hRl.1.2.2.1), (((FRf hf1 hf2 (by omega) (by omega))).trans (hRl.1.2.2.2.1.trans ((FRf hf1 hf2 (by omega) (by omega))).symm)), (((FRf hf1 hf2 (by omega) (by omega))).trans (hRl.1.2.2.2.2.1.trans ((FRf hf1 hf2 (by omega) (by omega))).symm)), (((FRf hf1 hf2 (by omega) (by omega))).trans (hRl.1.2.2.2.2.2.trans (congrFun ((hf2.2.1 166 (by omega)).trans (hf1.2.1 166 (by omega))) 1).symm))⟩, ⟨by rw [show fI g2 102 4 = fI g 102 4 from (FRf hf1 hf2 (by omega) (by omega)), show arI g2 176 = arI g 176 from ((hf2.2.1 176 (by omega)).trans (hf1.2.1 176 (by omega)))]; exact hRl.2.1, fun m k hm hk => by rw [show arI g2 (113 + 1 * m) = arI g (113 + 1 * m) from (hf2.2.1 (113 + 1 * m) (by omega)).trans (hf1.2.1 (113 + 1 * m) (by omega)), show arI g2 177 = arI g 177 from ((hf2.2.1 177 (by omega)).trans (hf1.2.1 177 (by omega)))]; exact hRl.2.2 m k hm hk⟩⟩ hW hl

set_option maxRecDepth 100000 in
set_option maxHeartbeats 4000000 in
theorem lc_count {K : KT} {cA : Nat → ClassId} {ad : Nat → Nat} {b L : Nat} {xs : Nat → Int32} {H : Heap} {locs : List Loc} {ls : Array Slot} {g : Nat → va_E} {i : Int32} (hM : MB K cA code 4 R_law) (hXB : XB K b L xs) (hL : L ≤ 3072) (hR : HasRoom K 2048 84000) (hC : Cells K 600000 7302250) (hP : PI ad cA g) (hRl : RT g) (hi0 : 0 ≤ i.toInt) (hi : i.toInt + 6 ≤ L) (hW : WB NN ad K g H locs) (hl : lv_has ls 4 [(3, .int i), (2, .ref (ad 129)), (1, .ref (ad 0)), (0, .ref b)]) (kk : ∀ (g : Nat → va_E) (H : Heap) (locs : List Loc) (ls : Array Slot), PI ad cA g → RT g → WB NN ad K g H locs → lv_has ls 4 [(3, .int i), (2, .ref (ad 129)), (1, .ref (ad 0)), (0, .ref b)] → XX K 600000 7302250 H locs 1457 ls []) : XX K 600000 7302250 H locs 1434 ls [] := by
  have hLn : L < 1000000 := by omega
  obtain ⟨lw, lwn, hlc, h13, h14⟩ := id hP.2.2.1
  refine q_aload_n hM dL_law_1434 (lv_at hl 2 rfl) ?_
  refine q_aload_n hM dL_law_1435 (lv_at hl 3 rfl) ?_
  refine q_iload_n hM dL_law_1436 (lv_at hl 0 rfl) ?_
  refine q_iconst (v := (1 : Int32)) hM dL_law_1437 (by decide) ?_
  refine q_iadd hM dL_law_1438 (fun z14170 hz14170 => ?_)
  have tz14170 := i_addT hz14170 (rfl : i.toInt = i.toInt) (kc_1 : (1 : Int32).toInt = 1) (by omega) (by omega)
  refine s_iald z14170.toInt.toNat hM hW hXB (by omega) (by omega) (by omega) dL_law_1439 ?_
  refine q_top (fun a14171 ha14171 => ?_)
  refine q_callV (As := [.int a14171]) (rest := []) hM hW hR hC myX11_count (kAW (v_4_2 (List.mem_of_getElem? (i := 3) rfl)) rfl) (rfl : vwCl[11]? = some (RX11, TX11, 16)) rfl lb_0.1 (shO hP.1 lb_0) (p_X11_count _ _ cA ad g a14171 lw hP.1 hP.2.1 (by unfold isLw; omega) h13) ⟨by decide, by decide⟩ rfl rfl hl.1 (Nat.le_of_ble_eq_true rfl) dL_law_1440 (fun v g1 H locs hp hW => ?_)
  obtain ⟨r1, rfl, hs1, hG1, hf1⟩ := hp
  have hP0 := hP
  have hP : PI ad cA g1 := PI_fr hP0 hs1 hG1 hf1 (fun h => h) (fun h => h) (fun h => h) (fun h => h) (fun h => h) (fun h => h) (fun h => h) (fun h => h) (fun h => h)
  refine q_pop hM dL_law_1443 rfl ?_
  refine q_aload_n hM dL_law_1444 (lv_at hl 1 rfl) ?_
  refine q_aload_n hM dL_law_1445 (lv_at hl 3 rfl) ?_
  refine q_iload_n hM dL_law_1446 (lv_at hl 0 rfl) ?_
  refine q_iconst (v := (1 : Int32)) hM dL_law_1447 (by decide) ?_
  refine q_iadd hM dL_law_1448 (fun z14172 hz14172 => ?_)
  have tz14172 := i_addT hz14172 (rfl : i.toInt = i.toInt) (kc_1 : (1 : Int32).toInt = 1) (by omega) (by omega)
  refine s_iald z14172.toInt.toNat hM hW hXB (by omega) (by omega) (by omega) dL_law_1449 ?_
  refine q_top (fun a14173 ha14173 => ?_)
  refine q_callV (As := [.int a14173]) (rest := []) hM hW hR hC myX12_count (kAW (v_7_6 (List.mem_of_getElem? (i := 3) rfl)) rfl) (rfl : vwCl[12]? = some (RX12, TX12, 86)) rfl lb_129.1 (shO hP.1 lb_129) (p_X12_count _ _ cA ad g1 a14173 hP.1 hP.2.1) ⟨by decide, by decide⟩ rfl rfl hl.1 (Nat.le_of_ble_eq_true rfl) dL_law_1450 (fun v g2 H locs hp hW => ?_)
  obtain ⟨r2, rfl, hs2, hG2, hf2⟩ := hp
  have hP1 := hP
  have hP : PI ad cA g2 := PI_fr hP1 hs2 hG2 hf2 (fun h => h) (fun h => h) (fun h => h) (fun h => h) (fun h => h) (fun h => h) (fun h => h) (fun h => h) (fun h => h)
  have qa14173 : a14173 = a14171 := by rw [ha14173, ha14171]; congr 1; omega
  refine q_pop hM dL_law_1453 rfl ?_
  refine q_goto (tgt := 1457) hM dL_law_1454 (by decide) ?_
  exact kk _ _ _ _ hP ⟨⟨(by rw [show fI g2 3 2 = fI g 3 2 from (FRf hf1 hf2 (fun h => h) (fun h => h)), show arI g2 131 = arI g 131 from ((hf2.2.1 131 (fun h => h)).trans (hf1.2.1 131 (fun h => h)))]; exact hRl.1.1), (by rw [show fI g2 18 3 = fI g 18 3 from (FRf hf1 hf2 (fun h => h) (fun h => h)), show arI g2 158 = arI g 158 from ((hf2.2.1 158 (fun h => h)).trans (hf1.2.1 158 (fun h => h)))]; exact hRl.1.2.1), (by rw [show fI g2 30 3 = fI g 30 3 from (FRf hf1 hf2 (fun h => h) (fun h => h)), show arI g2 162 = arI g 162 from ((hf2.2.1 162 (fun h => h)).trans (hf1.2.1 162 (fun h => h)))]; exact hRl.1.2.2.1), (((FRf hf1 hf2 (fun h => h) (fun h => h))).trans (hRl.1.2.2.2.1.trans ((FRf hf1 hf2 (fun h => h) (fun h => h))).symm)), (((FRf hf1 hf2 (fun h => h) (fun h => h))).trans (hRl.1.2.2.2.2.1.trans ((FRf hf1 hf2 (fun h => h) (fun h => h))).symm)), (((FRf hf1 hf2 (fun h => h) (fun h => h))).trans (hRl.1.2.2.2.2.2.trans (congrFun ((hf2.2.1 166 (fun h => h)).trans (hf1.2.1 166 (fun h => h))) 1).symm))⟩, ⟨by rw [show fI g2 102 4 = fI g 102 4 from (FRf hf1 hf2 (fun h => h) (fun h => h)), show arI g2 176 = arI g 176 from ((hf2.2.1 176 (fun h => h)).trans (hf1.2.1 176 (fun h => h)))]; exact hRl.2.1, fun m k hm hk => by rw [show arI g2 (113 + 1 * m) = arI g (113 + 1 * m) from (hf2.2.1 (113 + 1 * m) (fun h => h)).trans (hf1.2.1 (113 + 1 * m) (fun h => h)), show arI g2 177 = arI g 177 from ((hf2.2.1 177 (fun h => h)).trans (hf1.2.1 177 (fun h => h)))]; exact hRl.2.2 m k hm hk⟩⟩ hW hl
