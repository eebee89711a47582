set_option maxRecDepth 100000 in
set_option maxHeartbeats 4000000 in
theorem lc_odds {K : KT} {cA : Nat → ClassId} {ad : Nat → Nat} {b L : Nat} {xs : Nat → Int32} {H : Heap} {locs : List Loc} {ls : Array Slot} {g : Nat → va_E} {i : Int32} (hM : MB K cA code 4 R_law) (hXB : XB K b L xs) (hL : L ≤ 3072) (hR : HasRoom K 2048 84000) (hC : Cells K 600000 7302250) (hP : PI ad cA g) (hRl : RQ g) (hi0 : 0 ≤ i.toInt) (hi : i.toInt + 6 ≤ L) (hW : WB NN ad K g H locs) (hl : lv_has ls 4 [(3, .int i), (2, .ref (ad 129)), (1, .ref (ad 0)), (0, .ref b)]) (kk : ∀ (g : Nat → va_E) (H : Heap) (locs : List Loc) (ls : Array Slot), PI ad cA g → RQ g → WB NN ad K g H locs → lv_has ls 4 [(3, .int i), (2, .ref (ad 129)), (1, .ref (ad 0)), (0, .ref b)] → XX K 600000 7302250 H locs 1457 ls []) : XX K 600000 7302250 H locs 1266 ls [] := by
  have hLn : L < 1000000 := by omega
  obtain ⟨lw, lwn, hlc, h13, h14⟩ := id hP.2.2.1
  refine q_aload_n hM dL_law_1266 (lv_at hl 2 rfl) ?_
  refine q_aload_n hM dL_law_1267 (lv_at hl 3 rfl) ?_
  refine q_iload_n hM dL_law_1268 (lv_at hl 0 rfl) ?_
  refine q_iconst (v := (1 : Int32)) hM dL_law_1269 (by decide) ?_
  refine q_iadd hM dL_law_1270 (fun z14037 hz14037 => ?_)
  have tz14037 := i_addT hz14037 (rfl : i.toInt = i.toInt) (kc_1 : (1 : Int32).toInt = 1) (by omega) (by omega)
  refine s_iald z14037.toInt.toNat hM hW hXB (by omega) (by omega) (by omega) dL_law_1271 ?_
  refine q_top (fun a14038 ha14038 => ?_)
  refine q_aload_n hM dL_law_1272 (lv_at hl 3 rfl) ?_
  refine q_iload_n hM dL_law_1273 (lv_at hl 0 rfl) ?_
  refine q_iconst (v := (2 : Int32)) hM dL_law_1274 (by decide) ?_
  refine q_iadd hM dL_law_1275 (fun z14039 hz14039 => ?_)
  have tz14039 := i_addT hz14039 (rfl : i.toInt = i.toInt) (kc_2 : (2 : Int32).toInt = 2) (by omega) (by omega)
  refine s_iald z14039.toInt.toNat hM hW hXB (by omega) (by omega) (by omega) dL_law_1276 ?_
  refine q_top (fun a14040 ha14040 => ?_)
  refine q_aload_n hM dL_law_1277 (lv_at hl 3 rfl) ?_
  refine q_iload_n hM dL_law_1278 (lv_at hl 0 rfl) ?_
  refine q_iconst (v := (3 : Int32)) hM dL_law_1279 (by decide) ?_
  refine q_iadd hM dL_law_1280 (fun z14041 hz14041 => ?_)
  have tz14041 := i_addT hz14041 (rfl : i.toInt = i.toInt) (kc_3 : (3 : Int32).toInt = 3) (by omega) (by omega)
  refine s_iald z14041.toInt.toNat hM hW hXB (by omega) (by omega) (by omega) dL_law_1281 ?_
  refine q_top (fun a14042 ha14042 => ?_)
  refine q_aload_n hM dL_law_1282 (lv_at hl 3 rfl) ?_
  refine q_iload_n hM dL_law_1283 (lv_at hl 0 rfl) ?_
  refine q_iconst (v := (4 : Int32)) hM dL_law_1284 (by decide) ?_
  refine q_iadd hM dL_law_1285 (fun z14043 hz14043 => ?_)
  have tz14043 := i_addT hz14043 (rfl : i.toInt = i.toInt) (kc_4 : (4 : Int32).toInt = 4) (by omega) (by omega)
  refine s_iald z14043.toInt.toNat hM hW hXB (by omega) (by omega) (by omega) dL_law_1286 ?_
  refine q_top (fun a14044 ha14044 => ?_)
  refine q_callV (As := [.int a14038, .int a14040, .int a14042, .int a14044]) (rest := []) hM hW hR hC myX11_odds (kAW (v_3_14 (List.mem_of_getElem? (i := 8) rfl)) rfl) (rfl : vwCl[11]? = some (RX11, TX11, 16)) rfl lb_0.1 (shO hP.1 lb_0) (p_X11_odds _ _ cA ad g a14038 a14040 a14042 a14044  hP.1 hP.2.1) ⟨by decide, by decide⟩ rfl rfl hl.1 (Nat.le_of_ble_eq_true rfl) dL_law_1287 (fun v g1 H locs hp hW => ?_)
  obtain ⟨r1, rfl, hs1, hG1, hf1⟩ := hp
  have hP0 := hP
  have hP : PI ad cA g1 := PI_fr hP0 hs1 hG1 hf1 (by first | decide | omega) (by first | decide | omega) (by first | decide | omega) (by first | decide | omega) (by first | decide | omega) (by first | decide | omega) (by first | decide | omega) (by first | decide | omega) (by first | decide | omega)
  refine q_pop hM dL_law_1290 rfl ?_
  refine q_aload_n hM dL_law_1291 (lv_at hl 1 rfl) ?_
  refine q_aload_n hM dL_law_1292 (lv_at hl 3 rfl) ?_
  refine q_iload_n hM dL_law_1293 (lv_at hl 0 rfl) ?_
  refine q_iconst (v := (1 : Int32)) hM dL_law_1294 (by decide) ?_
  refine q_iadd hM dL_law_1295 (fun z14045 hz14045 => ?_)
  have tz14045 := i_addT hz14045 (rfl : i.toInt = i.toInt) (kc_1 : (1 : Int32).toInt = 1) (by omega) (by omega)
  refine s_iald z14045.toInt.toNat hM hW hXB (by omega) (by omega) (by omega) dL_law_1296 ?_
  refine q_top (fun a14046 ha14046 => ?_)
  refine q_aload_n hM dL_law_1297 (lv_at hl 3 rfl) ?_
  refine q_iload_n hM dL_law_1298 (lv_at hl 0 rfl) ?_
  refine q_iconst (v := (2 : Int32)) hM dL_law_1299 (by decide) ?_
  refine q_iadd hM dL_law_1300 (fun z14047 hz14047 => ?_)
  have tz14047 := i_addT hz14047 (rfl : i.toInt = i.toInt) (kc_2 : (2 : Int32).toInt = 2) (by omega) (by omega)
  refine s_iald z14047.toInt.toNat hM hW hXB (by omega) (by omega) (by omega) dL_law_1301 ?_
  refine q_top (fun a14048 ha14048 => ?_)
  refine q_aload_n hM dL_law_1302 (lv_at hl 3 rfl) ?_
  refine q_iload_n hM dL_law_1303 (lv_at hl 0 rfl) ?_
  refine q_iconst (v := (3 : Int32)) hM dL_law_1304 (by decide) ?_
  refine q_iadd hM dL_law_1305 (fun z14049 hz14049 => ?_)
  have tz14049 := i_addT hz14049 (rfl : i.toInt = i.toInt) (kc_3 : (3 : Int32).toInt = 3) (by omega) (by omega)
  refine s_iald z14049.toInt.toNat hM hW hXB (by omega) (by omega) (by omega) dL_law_1306 ?_
  refine q_top (fun a14050 ha14050 => ?_)
  refine q_aload_n hM dL_law_1307 (lv_at hl 3 rfl) ?_
  refine q_iload_n hM dL_law_1308 (lv_at hl 0 rfl) ?_
  refine q_iconst (v := (4 : Int32)) hM dL_law_1309 (by decide) ?_
  refine q_iadd hM dL_law_1310 (fun z14051 hz14051 => ?_)
  have tz14051 := i_addT hz14051 (rfl : i.toInt = i.toInt) (kc_4 : (4 : Int32).toInt = 4) (by omega) (by omega)
  refine s_iald z14051.toInt.toNat hM hW hXB (by omega) (by omega) (by omega) dL_law_1311 ?_
  refine q_top (fun a14052 ha14052 => ?_)
  refine q_callV (As := [.int a14046, .int a14048, .int a14050, .int a14052]) (rest := []) hM hW hR hC myX12_odds (kAW (v_7_4 (List.mem_of_getElem? (i := 3) rfl)) rfl) (rfl : vwCl[12]? = some (RX12, TX12, 86)) rfl lb_129.1 (shO hP.1 lb_129) (p_X12_odds _ _ cA ad g1 a14046 a14048 a14050 a14052 hP.1 hP.2.1) ⟨by decide, by decide⟩ rfl rfl hl.1 (Nat.le_of_ble_eq_true rfl) dL_law_1312 (fun v g2 H locs hp hW => ?_)
  obtain ⟨r2, rfl, hs2, hG2, hf2⟩ := hp
  have hP1 := hP
  have hP : PI ad cA g2 := PI_fr hP1 hs2 hG2 hf2 (by first | decide | omega) (by first | decide | omega) (by first | decide | omega) (by first | decide | omega) (by first | decide | omega) (by first | decide | omega) (by first | decide | omega) (by first | decide | omega) (by first | decide | omega)
  have qa14046 : a14046 = a14038 := by rw [ha14046, ha14038]; congr 1; omega
  have qa14048 : a14048 = a14040 := by rw [ha14048, ha14040]; congr 1; omega
  have qa14050 : a14050 = a14042 := by rw [ha14050, ha14042]; congr 1; omega
  have qa14052 : a14052 = a14044 := by rw [ha14052, ha14044]; congr 1; omega
  refine q_pop hM dL_law_1315 rfl ?_
  refine q_goto (tgt := 1457) hM dL_law_1316 (by decide) ?_
  exact kk _ _ _ _ hP ⟨⟨(by rw [show fI g2 3 2 = fI g 3 2 from (FRf hf1 hf2 (by first | decide | omega) (by first | decide | omega)), show arI g2 131 = arI g 131 from ((hf2.2.1 131 (by first | decide | omega)).trans (hf1.2.1 131 (by first | decide | omega)))]; exact hRl.1.1), (by rw [show fI g2 18 3 = fI g 18 3 from (FRf hf1 hf2 (by first | decide | omega) (by first | decide | omega)), show arI g2 158 = arI g 158 from ((hf2.2.1 158 (by first | decide | omega)).trans (hf1.2.1 158 (by first | decide | omega)))]; exact hRl.1.2.1), (by rw [show fI g2 30 3 = fI g 30 3 from (FRf hf1 hf2 (by first | decide | omega) (by first | decide | omega)), show arI g2 162 = arI g 162 from ((hf2.2.1 162 (by first | decide | omega)).trans (hf1.2.1 162 (by first | decide | omega)))]; exact hRl.1.2.2.1), (((FRf hf1 hf2 (by first | decide | omega) (by first | decide | omega))).trans (hRl.1.2.2.2.1.trans ((FRf hf1 hf2 (by first | decide | omega) (by first | decide | omega))).symm)), (((FRf hf1 hf2 (by first | decide | omega) (by first | decide | omega))).trans (hRl.1.2.2.2.2.1.trans ((FRf hf1 hf2 (by first | decide | omega) (by first | decide | omega))).symm)), (((FRf hf1 hf2 (by first | decide | omega) (by first | decide | omega))).trans (hRl.1.2.2.2.2.2.trans (congrFun ((hf2.2.1 166 (by first | decide | omega)).trans (hf1.2.1 166 (by first | decide | omega))) 1).symm))⟩, (fun k j hk hj => (congrFun ((hf2.2.1 (6 + 1 * k) (by first | decide | omega)).trans (hf1.2.1 (6 + 1 * k) (by first | decide | omega))) j).trans ((hRl.2 k j hk hj).trans (congrFun ((hf2.2.1 133 (by first | decide | omega)).trans (hf1.2.1 133 (by first | decide | omega))) _).symm))⟩ hW hl

set_option maxRecDepth 100000 in
set_option maxHeartbeats 4000000 in
theorem lc_crib {K : KT} {cA : Nat → ClassId} {ad : Nat → Nat} {b L : Nat} {xs : Nat → Int32} {H : Heap} {locs : List Loc} {ls : Array Slot} {g : Nat → va_E} {i : Int32} (hM : MB K cA code 4 R_law) (hXB : XB K b L xs) (hL : L ≤ 3072) (hR : HasRoom K 2048 84000) (hC : Cells K 600000 7302250) (hP : PI ad cA g) (hRl : RQ g) (hi0 : 0 ≤ i.toInt) (hi : i.toInt + 6 ≤ L) (hW : WB NN ad K g H locs) (hl : lv_has ls 4 [(3, .int i), (2, .ref (ad 129)), (1, .ref (ad 0)), (0, .ref b)]) (kk : ∀ (g : Nat → va_E) (H : Heap) (locs : List Loc) (ls : Array Slot), PI ad cA g → RQ g → WB NN ad K g H locs → lv_has ls 4 [(3, .int i), (2, .ref (ad 129)), (1, .ref (ad 0)), (0, .ref b)] → XX K 600000 7302250 H locs 1457 ls []) : XX K 600000 7302250 H locs 1319 ls [] := by
  have hLn : L < 1000000 := by omega
  obtain ⟨lw, lwn, hlc, h13, h14⟩ := id hP.2.2.1
  refine q_aload_n hM dL_law_1319 (lv_at hl 2 rfl) ?_
  refine q_aload_n hM dL_law_1320 (lv_at hl 3 rfl) ?_
  refine q_iload_n hM dL_law_1321 (lv_at hl 0 rfl) ?_
  refine q_iconst (v := (1 : Int32)) hM dL_law_1322 (by decide) ?_
  refine q_iadd hM dL_law_1323 (fun z14053 hz14053 => ?_)
  have tz14053 := i_addT hz14053 (rfl : i.toInt = i.toInt) (kc_1 : (1 : Int32).toInt = 1) (by omega) (by omega)
  refine s_iald z14053.toInt.toNat hM hW hXB (by omega) (by omega) (by omega) dL_law_1324 ?_
  refine q_top (fun a14054 ha14054 => ?_)
  refine q_aload_n hM dL_law_1325 (lv_at hl 3 rfl) ?_
  refine q_iload_n hM dL_law_1326 (lv_at hl 0 rfl) ?_
  refine q_iconst (v := (2 : Int32)) hM dL_law_1327 (by decide) ?_
  refine q_iadd hM dL_law_1328 (fun z14055 hz14055 => ?_)
  have tz14055 := i_addT hz14055 (rfl : i.toInt = i.toInt) (kc_2 : (2 : Int32).toInt = 2) (by omega) (by omega)
  refine s_iald z14055.toInt.toNat hM hW hXB (by omega) (by omega) (by omega) dL_law_1329 ?_
  refine q_top (fun a14056 ha14056 => ?_)
  refine q_callV (As := [.int a14054, .int a14056]) (rest := []) hM hW hR hC myX11_crib (kAW (v_4_0 (List.mem_of_getElem? (i := 13) rfl)) rfl) (rfl : vwCl[11]? = some (RX11, TX11, 16)) rfl lb_0.1 (shO hP.1 lb_0) (p_X11_crib _ _ cA ad g a14054 a14056 lw hP.1 hP.2.1 (by unfold isLw; omega) h13) ⟨by decide, by decide⟩ rfl rfl hl.1 (Nat.le_of_ble_eq_true rfl) dL_law_1330 (fun v g1 H locs hp hW => ?_)
  obtain ⟨r1, rfl, hs1, hG1, hf1⟩ := hp
  have hP0 := hP
  have hP : PI ad cA g1 := PI_fr hP0 hs1 hG1 hf1 (by omega) (by omega) (by omega) (by omega) (by omega) (by omega) (by omega) (by omega) (by omega)
  refine q_pop hM dL_law_1333 rfl ?_
  refine q_aload_n hM dL_law_1334 (lv_at hl 1 rfl) ?_
  refine q_aload_n hM dL_law_1335 (lv_at hl 3 rfl) ?_
  refine q_iload_n hM dL_law_1336 (lv_at hl 0 rfl) ?_
  refine q_iconst (v := (1 : Int32)) hM dL_law_1337 (by decide) ?_
  refine q_iadd hM dL_law_1338 (fun z14057 hz14057 => ?_)
  have tz14057 := i_addT hz14057 (rfl : i.toInt = i.toInt) (kc_1 : (1 : Int32).toInt = 1) (by omega) (by omega)
  refine s_iald z14057.toInt.toNat hM hW hXB (by omega) (by omega) (by omega) dL_law_1339 ?_
  refine q_top (fun a14058 ha14058 => ?_)
  refine q_aload_n hM dL_law_1340 (lv_at hl 3 rfl) ?_
  refine q_iload_n hM dL_law_1341 (lv_at hl 0 rfl) ?_
  refine q_iconst (v := (2 : Int32)) hM dL_law_1342 (by decide) ?_
  refine q_iadd hM dL_law_1343 (fun z14059 hz14059 => ?_)
  have tz14059 := i_addT hz14059 (rfl : i.toInt = i.toInt) (kc_2 : (2 : Int32).toInt = 2) (by omega) (by omega)
  refine s_iald z14059.toInt.toNat hM hW hXB (by omega) (by omega) (by omega) dL_law_1344 ?_
  refine q_top (fun a14060 ha14060 => ?_)
  refine q_callV (As := [.int a14058, .int a14060]) (rest := []) hM hW hR hC myX12_crib (kAW (v_7_4 (List.mem_of_getElem? (i := 10) rfl)) rfl) (rfl : vwCl[12]? = some (RX12, TX12, 86)) rfl lb_129.1 (shO hP.1 lb_129) (p_X12_crib _ _ cA ad g1 a14058 a14060 hP.1 hP.2.1 hP.2.2.2.1.1) ⟨by decide, by decide⟩ rfl rfl hl.1 (Nat.le_of_ble_eq_true rfl) dL_law_1345 (fun v g2 H locs hp hW => ?_)
  obtain ⟨r2, rfl, hs2, hG2, hf2⟩ := hp
  have hP1 := hP
  have hP : PI ad cA g2 := PI_fr hP1 hs2 hG2 hf2 (by first | decide | omega) (by first | decide | omega) (by first | decide | omega) (by first | decide | omega) (by first | decide | omega) (by first | decide | omega) (by first | decide | omega) (by first | decide | omega) (by first | decide | omega)
  have qa14058 : a14058 = a14054 := by rw [ha14058, ha14054]; congr 1; omega
  have qa14060 : a14060 = a14056 := by rw [ha14060, ha14056]; congr 1; omega
  refine q_pop hM dL_law_1348 rfl ?_
  refine q_goto (tgt := 1457) hM dL_law_1349 (by decide) ?_
  exact kk _ _ _ _ hP ⟨⟨(by rw [show fI g2 3 2 = fI g 3 2 from (FRf hf1 hf2 (by omega) (by first | decide | omega)), show arI g2 131 = arI g 131 from ((hf2.2.1 131 (by first | decide | omega)).trans (hf1.2.1 131 (by omega)))]; exact hRl.1.1), (by rw [show fI g2 18 3 = fI g 18 3 from (FRf hf1 hf2 (by omega) (by first | decide | omega)), show arI g2 158 = arI g 158 from ((hf2.2.1 158 (by first | decide | omega)).trans (hf1.2.1 158 (by omega)))]; exact hRl.1.2.1), (by rw [show fI g2 30 3 = fI g 30 3 from (FRf hf1 hf2 (by omega) (by first | decide | omega)), show arI g2 162 = arI g 162 from ((hf2.2.1 162 (by first | decide | omega)).trans (hf1.2.1 162 (by omega)))]; exact hRl.1.2.2.1), (((FRf hf1 hf2 (by omega) (by first | decide | omega))).trans (hRl.1.2.2.2.1.trans ((FRf hf1 hf2 (by omega) (by first | decide | omega))).symm)), (((FRf hf1 hf2 (by omega) (by first | decide | omega))).trans (hRl.1.2.2.2.2.1.trans ((FRf hf1 hf2 (by omega) (by first | decide | omega))).symm)), (((FRf hf1 hf2 (by omega) (by first | decide | omega))).trans (hRl.1.2.2.2.2.2.trans (congrFun ((hf2.2.1 166 (by first | decide | omega)).trans (hf1.2.1 166 (by omega))) 1).symm))⟩, (fun k j hk hj => (congrFun ((hf2.2.1 (6 + 1 * k) (by first | decide | omega)).trans (hf1.2.1 (6 + 1 * k) (by omega))) j).trans ((hRl.2 k j hk hj).trans (congrFun ((hf2.2.1 133 (by first | decide | omega)).trans (hf1.2.1 133 (by omega))) _).symm))⟩ hW hl

set_option maxRecDepth 100000 in
set_option maxHeartbeats 4000000 in
theorem lc_seed {K : KT} {cA : Nat → ClassId} {ad : Nat → Nat} {b L : Nat} {xs : Nat → Int32} {H : Heap} {locs : List Loc} {ls : Array Slot} {g : Nat → va_E} {i : Int32} (hM : MB K cA code 4 R_law) (hXB : XB K b L xs) (hL : L ≤ 3072) (hR : HasRoom K 2048 84000) (hC : Cells K 600000 7302250) (hP : PI ad cA g) (hRl : RQ g) (hi0 : 0 ≤ i.toInt) (hi : i.toInt + 6 ≤ L) (hW : WB NN ad K g H locs) (hl : lv_has ls 4 [(3, .int i), (2, .ref (ad 129)), (1, .ref (ad 0)), (0, .ref b)]) (kk : ∀ (g : Nat → va_E) (H : Heap) (locs : List Loc) (ls : Array Slot), PI ad cA g → RQ g → WB NN ad K g H locs → lv_has ls 4 [(3, .int i), (2, .ref (ad 129)), (1, .ref (ad 0)), (0, .ref b)] → XX K 600000 7302250 H locs 1457 ls []) : XX K 600000 7302250 H locs 1352 ls [] := by
  have hLn : L < 1000000 := by omega
  obtain ⟨lw, lwn, hlc, h13, h14⟩ := id hP.2.2.1
  refine q_aload_n hM dL_law_1352 (lv_at hl 2 rfl) ?_
  refine q_aload_n hM dL_law_1353 (lv_at hl 3 rfl) ?_
  refine q_iload_n hM dL_law_1354 (lv_at hl 0 rfl) ?_
  refine q_iconst (v := (1 : Int32)) hM dL_law_1355 (by decide) ?_
  refine q_iadd hM dL_law_1356 (fun z14061 hz14061 => ?_)
  have tz14061 := i_addT hz14061 (rfl : i.toInt = i.toInt) (kc_1 : (1 : Int32).toInt = 1) (by omega) (by omega)
  refine s_iald z14061.toInt.toNat hM hW hXB (by omega) (by omega) (by omega) dL_law_1357 ?_
  refine q_top (fun a14062 ha14062 => ?_)
  refine q_callV (As := [.int a14062]) (rest := []) hM hW hR hC myX11_seed (kAW (v_4_1 (List.mem_of_getElem? (i := 2) rfl)) rfl) (rfl : vwCl[11]? = some (RX11, TX11, 16)) rfl lb_0.1 (shO hP.1 lb_0) (p_X11_seed _ _ cA ad g a14062  hP.1 hP.2.1) ⟨by decide, by decide⟩ rfl rfl hl.1 (Nat.le_of_ble_eq_true rfl) dL_law_1358 (fun v g1 H locs hp hW => ?_)
  obtain ⟨r1, rfl, hs1, hG1, hf1, ha1⟩ := hp
  have hP0 := hP
  have hP : PI ad cA g1 := PI_fr hP0 hs1 hG1 hf1 (by first | decide | omega) (by first | decide | omega) (by first | decide | omega) (by first | decide | omega) (by first | decide | omega) (by first | decide | omega) (by first | decide | omega) (by first | decide | omega) (by first | decide | omega)
  refine q_pop hM dL_law_1361 rfl ?_
  refine q_aload_n hM dL_law_1362 (lv_at hl 1 rfl) ?_
  refine q_aload_n hM dL_law_1363 (lv_at hl 3 rfl) ?_
  refine q_iload_n hM dL_law_1364 (lv_at hl 0 rfl) ?_
  refine q_iconst (v := (1 : Int32)) hM dL_law_1365 (by decide) ?_
  refine q_iadd hM dL_law_1366 (fun z14063 hz14063 => ?_)
  have tz14063 := i_addT hz14063 (rfl : i.toInt = i.toInt) (kc_1 : (1 : Int32).toInt = 1) (by omega) (by omega)
  refine s_iald z14063.toInt.toNat hM hW hXB (by omega) (by omega) (by omega) dL_law_1367 ?_
  refine q_top (fun a14064 ha14064 => ?_)
  refine q_callV (As := [.int a14064]) (rest := []) hM hW hR hC myX12_seed (kAW (v_7_5 (List.mem_of_getElem? (i := 2) rfl)) rfl) (rfl : vwCl[12]? = some (RX12, TX12, 86)) rfl lb_129.1 (shO hP.1 lb_129) (p_X12_seed _ _ cA ad g1 a14064 hP.1 hP.2.1) ⟨by decide, by decide⟩ rfl rfl hl.1 (Nat.le_of_ble_eq_true rfl) dL_law_1368 (fun v g2 H locs hp hW => ?_)
  obtain ⟨r2, rfl, hs2, hG2, hf2, ha2⟩ := hp
  have hP1 := hP
  have hP : PI ad cA g2 := PI_fr hP1 hs2 hG2 hf2 (by first | decide | omega) (by first | decide | omega) (by first | decide | omega) (by first | decide | omega) (by first | decide | omega) (by first | decide | omega) (by first | decide | omega) (by first | decide | omega) (by first | decide | omega)
  have qa14064 : a14064 = a14062 := by rw [ha14064, ha14062]; congr 1; omega
  first | rw [qa14064] at ha2 | skip
  refine q_pop hM dL_law_1371 rfl ?_
  refine q_goto (tgt := 1457) hM dL_law_1372 (by decide) ?_
  exact kk _ _ _ _ hP ⟨⟨(by rw [show fI g2 3 2 = fI g 3 2 from (FRf hf1 hf2 (by first | decide | omega) (by first | decide | omega)), show arI g2 131 = arI g 131 from ((hf2.2.1 131 (by first | decide | omega)).trans (hf1.2.1 131 (by first | decide | omega)))]; exact hRl.1.1), (by rw [show fI g2 18 3 = fI g 18 3 from (FRf hf1 hf2 (by first | decide | omega) (by first | decide | omega)), show arI g2 158 = arI g 158 from ((hf2.2.1 158 (by first | decide | omega)).trans (hf1.2.1 158 (by first | decide | omega)))]; exact hRl.1.2.1), (by rw [show fI g2 30 3 = fI g 30 3 from (FRf hf1 hf2 (by first | decide | omega) (by first | decide | omega)), show arI g2 162 = arI g 162 from ((hf2.2.1 162 (by first | decide | omega)).trans (hf1.2.1 162 (by first | decide | omega)))]; exact hRl.1.2.2.1), (((FRf hf1 hf2 (by first | decide | omega) (by first | decide | omega))).trans (hRl.1.2.2.2.1.trans ((FRf hf1 hf2 (by first | decide | omega) (by first | decide | omega))).symm)), (((FRf hf1 hf2 (by first | decide | omega) (by first | decide | omega))).trans (hRl.1.2.2.2.2.1.trans ((FRf hf1 hf2 (by first | decide | omega) (by first | decide | omega))).symm)), (((FRf hf1 hf2 (by first | decide | omega) (by first | decide | omega))).trans (hRl.1.2.2.2.2.2.trans (congrFun ((hf2.2.1 166 (by first | decide | omega)).trans (hf1.2.1 166 (by first | decide | omega))) 1).symm))⟩, (fun k j hk hj => (congrFun ((hf2.2.1 (6 + 1 * k) (by first | decide | omega)).trans (hf1.2.1 (6 + 1 * k) (by first | decide | omega))) j).trans ((hRl.2 k j hk hj).trans (congrFun ((hf2.2.1 133 (by first | decide | omega)).trans (hf1.2.1 133 (by first | decide | omega))) _).symm))⟩ hW hl

set_option maxRecDepth 100000 in
set_option maxHeartbeats 4000000 in
theorem lc_keep {K : KT} {cA : Nat → ClassId} {ad : Nat → Nat} {b L : Nat} {xs : Nat → Int32} {H : Heap} {locs : List Loc} {ls : Array Slot} {g : Nat → va_E} {i : Int32} (hM : MB K cA code 4 R_law) (hXB : XB K b L xs) (hL : L ≤ 3072) (hR : HasRoom K 2048 84000) (hC : Cells K 600000 7302250) (hP : PI ad cA g) (hRl : RQ g) (hi0 : 0 ≤ i.toInt) (hi : i.toInt + 6 ≤ L) (hW : WB NN ad K g H locs) (hl : lv_has ls 4 [(3, .int i), (2, .ref (ad 129)), (1, .ref (ad 0)), (0, .ref b)]) (kk : ∀ (g : Nat → va_E) (H : Heap) (locs : List Loc) (ls : Array Slot), PI ad cA g → RQ g → WB NN ad K g H locs → lv_has ls 4 [(3, .int i), (2, .ref (ad 129)), (1, .ref (ad 0)), (0, .ref b)] → XX K 600000 7302250 H locs 1457 ls []) : XX K 600000 7302250 H locs 1375 ls [] := by
  have hLn : L < 1000000 := by omega
  obtain ⟨lw, lwn, hlc, h13, h14⟩ := id hP.2.2.1
  refine q_aload_n hM dL_law_1375 (lv_at hl 2 rfl) ?_
  refine q_callV (As := []) (rest := []) hM hW hR hC myX11_keep (kAW (v_4_1 (List.mem_of_getElem? (i := 7) rfl)) rfl) (rfl : vwCl[11]? = some (RX11, TX11, 16)) rfl lb_0.1 (shO hP.1 lb_0) (s_X11_keep _ _ cA ad g  (fI g 18 3) (fI g 18 4)  hP.1 hP.2.1 (shI hP.1 lb_18 (by decide) (by decide)) (shI hP.1 lb_18 (by decide) (by decide))) ⟨by decide, by decide⟩ rfl rfl hl.1 (Nat.le_of_ble_eq_true rfl) dL_law_1376 (fun v g1 H locs hp hW => ?_)
  obtain ⟨r1, rfl, hs1, hG1, hf1, cx0, cx1, cx2, ha1⟩ := hp
  have hP0 := hP
  have hP : PI ad cA g1 := PI_fr hP0 hs1 hG1 hf1 (by first | decide | omega) (by first | decide | omega) (by first | decide | omega) (by first | decide | omega) (by first | decide | omega) (by first | decide | omega) (by first | decide | omega) (by first | decide | omega) (by first | decide | omega)
  refine q_pop hM dL_law_1379 rfl ?_
  refine q_aload_n hM dL_law_1380 (lv_at hl 1 rfl) ?_
  refine q_callV (As := []) (rest := []) hM hW hR hC myX12_keep (kAW (v_7_5 (List.mem_of_getElem? (i := 7) rfl)) rfl) (rfl : vwCl[12]? = some (RX12, TX12, 86)) rfl lb_129.1 (shO hP.1 lb_129) (s_X12_keep _ _ cA ad g1  (fI g1 129 56) hP.1 hP.2.1 (shI hP.1 lb_129 (by decide) (by decide)) (fun q hq => by rw [hf1.2.1 158 (by first | decide | omega)]; exact SM_01 hRl.1.2.1 q hq)) ⟨by decide, by decide⟩ rfl rfl hl.1 (Nat.le_of_ble_eq_true rfl) dL_law_1381 (fun v g2 H locs hp hW => ?_)
  obtain ⟨r2, rfl, hs2, hG2, hf2, cm0, cm1, cm2, ha2⟩ := hp
  have hP1 := hP
  have hP : PI ad cA g2 := PI_fr hP1 hs2 hG2 hf2 (by first | decide | omega) (by first | decide | omega) (by first | decide | omega) (by first | decide | omega) (by first | decide | omega) (by first | decide | omega) (by first | decide | omega) (by first | decide | omega) (by first | decide | omega)
  have k5 : r1 = r2 := by rw [ha1, ha2, FR1f hf1 (by first | decide | omega)]; exact hRl.1.2.2.2.2.1
  have k6 := congrArg Int32.toInt k5
  refine q_pop hM dL_law_1384 rfl ?_
  refine q_goto (tgt := 1457) hM dL_law_1385 (by decide) ?_
  exact kk _ _ _ _ hP ⟨⟨(by rw [show fI g2 3 2 = fI g 3 2 from (FRf hf1 hf2 (by first | decide | omega) (by first | decide | omega)), show arI g2 131 = arI g 131 from ((hf2.2.1 131 (by first | decide | omega)).trans (hf1.2.1 131 (by first | decide | omega)))]; exact hRl.1.1), (by rw [show fI g2 18 3 = fI g 18 3 from (FRf hf1 hf2 (by first | decide | omega) (by first | decide | omega)), show arI g2 158 = arI g 158 from ((hf2.2.1 158 (by first | decide | omega)).trans (hf1.2.1 158 (by first | decide | omega)))]; exact hRl.1.2.1), (by rw [show fI g2 30 3 = fI g 18 3 from ((FR1f hf2 (by first | decide | omega)).trans (fI_of cx0))]; exact SM_cg hRl.1.2.1 (fun q hq => (cm1 q hq).trans (congrFun (hf1.2.1 158 (by first | decide | omega)) q))), (((FR1f hf2 (by first | decide | omega)).trans (fI_of cx2)).trans (fI_of cm0).symm), (((FRf hf1 hf2 (by first | decide | omega) (by first | decide | omega))).trans (hRl.1.2.2.2.2.1.trans ((FRf hf1 hf2 (by first | decide | omega) (by first | decide | omega))).symm)), (((FR1f hf2 (by first | decide | omega)).trans (fI_of cx1)).trans (hRl.1.2.2.2.2.1.trans ((FR1f hf1 (by first | decide | omega)).symm.trans cm2.symm)))⟩, (fun k j hk hj => (congrFun ((hf2.2.1 (6 + 1 * k) (by first | decide | omega)).trans (hf1.2.1 (6 + 1 * k) (by first | decide | omega))) j).trans ((hRl.2 k j hk hj).trans (congrFun ((hf2.2.1 133 (by first | decide | omega)).trans (hf1.2.1 133 (by first | decide | omega))) _).symm))⟩ hW hl

set_option maxRecDepth 100000 in
set_option maxHeartbeats 4000000 in
theorem lc_undo {K : KT} {cA : Nat → ClassId} {ad : Nat → Nat} {b L : Nat} {xs : Nat → Int32} {H : Heap} {locs : List Loc} {ls : Array Slot} {g : Nat → va_E} {i : Int32} (hM : MB K cA code 4 R_law) (hXB : XB K b L xs) (hL : L ≤ 3072) (hR : HasRoom K 2048 84000) (hC : Cells K 600000 7302250) (hP : PI ad cA g) (hRl : RQ g) (hi0 : 0 ≤ i.toInt) (hi : i.toInt + 6 ≤ L) (hW : WB NN ad K g H locs) (hl : lv_has ls 4 [(3, .int i), (2, .ref (ad 129)), (1, .ref (ad 0)), (0, .ref b)]) (kk : ∀ (g : Nat → va_E) (H : Heap) (locs : List Loc) (ls : Array Slot), PI ad cA g → RQ g → WB NN ad K g H locs → lv_has ls 4 [(3, .int i), (2, .ref (ad 129)), (1, .ref (ad 0)), (0, .ref b)] → XX K 600000 7302250 H locs 1457 ls []) : XX K 600000 7302250 H locs 1388 ls [] := by
  have hLn : L < 1000000 := by omega
  obtain ⟨lw, lwn, hlc, h13, h14⟩ := id hP.2.2.1
  refine q_aload_n hM dL_law_1388 (lv_at hl 2 rfl) ?_
  refine q_callV (As := []) (rest := []) hM hW hR hC myX11_undo (kAW (v_4_1 (List.mem_of_getElem? (i := 11) rfl)) rfl) (rfl : vwCl[11]? = some (RX11, TX11, 16)) rfl lb_0.1 (shO hP.1 lb_0) (s_X11_undo _ _ cA ad g  (fI g 0 15) (fI g 30 3) (fI g 30 4) (fI g 18 3) (fI g 18 4)  hP.1 hP.2.1 (shI hP.1 lb_0 (by decide) (by decide)) (shI hP.1 lb_30 (by decide) (by decide)) (shI hP.1 lb_30 (by decide) (by decide)) (shI hP.1 lb_18 (by decide) (by decide)) (shI hP.1 lb_18 (by decide) (by decide))) ⟨by decide, by decide⟩ rfl rfl hl.1 (Nat.le_of_ble_eq_true rfl) dL_law_1389 (fun v g1 H locs hp hW => ?_)
  obtain ⟨x0, x1, r1, rfl, hs1, hG1, hf1, cx0, cx1, ha1⟩ := hp
  have hP0 := hP
  have hP : PI ad cA g1 := PI_fr hP0 hs1 hG1 hf1 (by first | decide | omega) (by first | decide | omega) (by first | decide | omega) (by first | decide | omega) (by first | decide | omega) (by first | decide | omega) (by first | decide | omega) (by first | decide | omega) (by first | decide | omega)
  refine q_pop hM dL_law_1392 rfl ?_
  refine q_aload_n hM dL_law_1393 (lv_at hl 1 rfl) ?_
  refine q_callV (As := []) (rest := []) hM hW hR hC myX12_undo (kAW (v_7_5 (List.mem_of_getElem? (i := 11) rfl)) rfl) (rfl : vwCl[12]? = some (RX12, TX12, 86)) rfl lb_129.1 (shO hP.1 lb_129) (s_X12_undo _ _ cA ad g1  (fI g1 129 75) (fI g1 129 56) hP.1 hP.2.1 (shI hP.1 lb_129 (by decide) (by decide)) (shI hP.1 lb_129 (by decide) (by decide)) (fun q hq => by rw [hf1.2.1 162 (by first | decide | omega)]; exact SM_01 hRl.1.2.2.1 q hq)) ⟨by decide, by decide⟩ rfl rfl hl.1 (Nat.le_of_ble_eq_true rfl) dL_law_1394 (fun v g2 H locs hp hW => ?_)
  obtain ⟨m0, r2, rfl, hs2, hG2, hf2, cm0, ha2⟩ := hp
  have hP1 := hP
  have hP : PI ad cA g2 := PI_fr hP1 hs2 hG2 hf2 (by first | decide | omega) (by first | decide | omega) (by first | decide | omega) (by first | decide | omega) (by first | decide | omega) (by first | decide | omega) (by first | decide | omega) (by first | decide | omega) (by first | decide | omega)
  have k5 : fI g1 129 75 = fI g 0 15 := (FR1f hf1 (by first | decide | omega)).trans hRl.1.2.2.2.1.symm
  rw [k5] at ha2
  refine q_pop hM dL_law_1397 rfl ?_
  refine q_goto (tgt := 1457) hM dL_law_1398 (by decide) ?_
  exact kk _ _ _ _ hP ⟨⟨(by rw [show fI g2 3 2 = fI g 3 2 from (FRf hf1 hf2 (by first | decide | omega) (by first | decide | omega)), show arI g2 131 = arI g 131 from ((hf2.2.1 131 (by first | decide | omega)).trans (hf1.2.1 131 (by first | decide | omega)))]; exact hRl.1.1), (by
    rw [show fI g2 18 3 = x0 from ((FR1f hf2 (by first | decide | omega)).trans (fI_of cx0))]
    rcases ha1 with ⟨-, q1, e1, -⟩ | ⟨-, q1, e1, -⟩
    · rcases ha2 with ⟨-, q2, e2, -⟩ | ⟨-, q2, -, -⟩
      · rw [e1]; exact SM_cg hRl.1.2.2.1 (fun q hq => (e2 q hq).trans (congrFun (hf1.2.1 162 (by first | decide | omega)) (8 + q)))
      · exact absurd q2 q1
    · rcases ha2 with ⟨-, q2, -, -⟩ | ⟨-, q2, e2, -⟩
      · exact absurd q1 q2
      · rw [e1]; exact SM_cg hRl.1.2.1 (fun q hq => (e2 q hq).trans (congrFun (hf1.2.1 158 (by first | decide | omega)) q))), (by rw [show fI g2 30 3 = fI g 30 3 from (FRf hf1 hf2 (by first | decide | omega) (by first | decide | omega)), show arI g2 162 = arI g 162 from ((hf2.2.1 162 (by first | decide | omega)).trans (hf1.2.1 162 (by first | decide | omega)))]; exact hRl.1.2.2.1), (((FRf hf1 hf2 (by first | decide | omega) (by first | decide | omega))).trans (hRl.1.2.2.2.1.trans ((FRf hf1 hf2 (by first | decide | omega) (by first | decide | omega))).symm)), (by
    rw [show fI g2 18 4 = x1 from ((FR1f hf2 (by first | decide | omega)).trans (fI_of cx1)), show fI g2 129 56 = m0 from fI_of cm0]
    rcases ha1 with ⟨-, q1, -, e1⟩ | ⟨-, q1, -, e1⟩
    · rcases ha2 with ⟨-, q2, -, e2⟩ | ⟨-, q2, -, -⟩
      · rw [e1, e2, hRl.1.2.2.2.2.2, (hf1.2.1 166 (by first | decide | omega))]
      · exact absurd q2 q1
    · rcases ha2 with ⟨-, q2, -, -⟩ | ⟨-, q2, -, e2⟩
      · exact absurd q1 q2
      · rw [e1, e2, FR1f hf1 (by first | decide | omega)]; exact hRl.1.2.2.2.2.1), (((FRf hf1 hf2 (by first | decide | omega) (by first | decide | omega))).trans (hRl.1.2.2.2.2.2.trans (congrFun ((hf2.2.1 166 (by first | decide | omega)).trans (hf1.2.1 166 (by first | decide | omega))) 1).symm))⟩, (fun k j hk hj => (congrFun ((hf2.2.1 (6 + 1 * k) (by first | decide | omega)).trans (hf1.2.1 (6 + 1 * k) (by first | decide | omega))) j).trans ((hRl.2 k j hk hj).trans (congrFun ((hf2.2.1 133 (by first | decide | omega)).trans (hf1.2.1 133 (by first | decide | omega))) _).symm))⟩ hW hl

set_option maxRecDepth 100000 in
set_option maxHeartbeats 4000000 in
theorem lc_check {K : KT} {cA : Nat → ClassId} {ad : Nat → Nat} {b L : Nat} {xs : Nat → Int32} {H : Heap} {locs : List Loc} {ls : Array Slot} {g : Nat → va_E} {i : Int32} (hM : MB K cA code 4 R_law) (hXB : XB K b L xs) (hL : L ≤ 3072) (hR : HasRoom K 2048 84000) (hC : Cells K 600000 7302250) (hP : PI ad cA g) (hRl : RQ g) (hi0 : 0 ≤ i.toInt) (hi : i.toInt + 6 ≤ L) (hW : WB NN ad K g H locs) (hl : lv_has ls 4 [(3, .int i), (2, .ref (ad 129)), (1, .ref (ad 0)), (0, .ref b)]) (kk : ∀ (g : Nat → va_E) (H : Heap) (locs : List Loc) (ls : Array Slot), PI ad cA g → RQ g → WB NN ad K g H locs → lv_has ls 4 [(3, .int i), (2, .ref (ad 129)), (1, .ref (ad 0)), (0, .ref b)] → XX K 600000 7302250 H locs 1457 ls []) : XX K 600000 7302250 H locs 1401 ls [] := by
  have hLn : L < 1000000 := by omega
  obtain ⟨lw, lwn, hlc, h13, h14⟩ := id hP.2.2.1
  refine q_aload_n hM dL_law_1401 (lv_at hl 2 rfl) ?_
  refine q_aload_n hM dL_law_1402 (lv_at hl 3 rfl) ?_
  refine q_iload_n hM dL_law_1403 (lv_at hl 0 rfl) ?_
  refine q_iconst (v := (1 : Int32)) hM dL_law_1404 (by decide) ?_
  refine q_iadd hM dL_law_1405 (fun z14065 hz14065 => ?_)
  have tz14065 := i_addT hz14065 (rfl : i.toInt = i.toInt) (kc_1 : (1 : Int32).toInt = 1) (by omega) (by omega)
  refine s_iald z14065.toInt.toNat hM hW hXB (by omega) (by omega) (by omega) dL_law_1406 ?_
  refine q_top (fun a14066 ha14066 => ?_)
  refine q_aload_n hM dL_law_1407 (lv_at hl 3 rfl) ?_
  refine q_iload_n hM dL_law_1408 (lv_at hl 0 rfl) ?_
  refine q_iconst (v := (2 : Int32)) hM dL_law_1409 (by decide) ?_
  refine q_iadd hM dL_law_1410 (fun z14067 hz14067 => ?_)
  have tz14067 := i_addT hz14067 (rfl : i.toInt = i.toInt) (kc_2 : (2 : Int32).toInt = 2) (by omega) (by omega)
  refine s_iald z14067.toInt.toNat hM hW hXB (by omega) (by omega) (by omega) dL_law_1411 ?_
  refine q_top (fun a14068 ha14068 => ?_)
  refine q_callV (As := [.int a14066, .int a14068]) (rest := []) hM hW hR hC myX11_check (kAW (v_4_1 (List.mem_of_getElem? (i := 15) rfl)) rfl) (rfl : vwCl[11]? = some (RX11, TX11, 16)) rfl lb_0.1 (shO hP.1 lb_0) (p_X11_check _ _ cA ad g a14066 a14068  hP.1 hP.2.1) ⟨by decide, by decide⟩ rfl rfl hl.1 (Nat.le_of_ble_eq_true rfl) dL_law_1412 (fun v g1 H locs hp hW => ?_)
  obtain ⟨r1, rfl, hs1, hG1, hf1⟩ := hp
  have hP0 := hP
  have hP : PI ad cA g1 := PI_fr hP0 hs1 hG1 hf1 (by first | decide | omega) (by first | decide | omega) (by first | decide | omega) (by first | decide | omega) (by first | decide | omega) (by first | decide | omega) (by first | decide | omega) (by first | decide | omega) (by first | decide | omega)
  refine q_pop hM dL_law_1415 rfl ?_
  refine q_aload_n hM dL_law_1416 (lv_at hl 1 rfl) ?_
  refine q_aload_n hM dL_law_1417 (lv_at hl 3 rfl) ?_
  refine q_iload_n hM dL_law_1418 (lv_at hl 0 rfl) ?_
  refine q_iconst (v := (1 : Int32)) hM dL_law_1419 (by decide) ?_
  refine q_iadd hM dL_law_1420 (fun z14069 hz14069 => ?_)
  have tz14069 := i_addT hz14069 (rfl : i.toInt = i.toInt) (kc_1 : (1 : Int32).toInt = 1) (by omega) (by omega)
  refine s_iald z14069.toInt.toNat hM hW hXB (by omega) (by omega) (by omega) dL_law_1421 ?_
  refine q_top (fun a14070 ha14070 => ?_)
  refine q_aload_n hM dL_law_1422 (lv_at hl 3 rfl) ?_
  refine q_iload_n hM dL_law_1423 (lv_at hl 0 rfl) ?_
  refine q_iconst (v := (2 : Int32)) hM dL_law_1424 (by decide) ?_
  refine q_iadd hM dL_law_1425 (fun z14071 hz14071 => ?_)
  have tz14071 := i_addT hz14071 (rfl : i.toInt = i.toInt) (kc_2 : (2 : Int32).toInt = 2) (by omega) (by omega)
  refine s_iald z14071.toInt.toNat hM hW hXB (by omega) (by omega) (by omega) dL_law_1426 ?_
  refine q_top (fun a14072 ha14072 => ?_)
  refine q_callV (As := [.int a14070, .int a14072]) (rest := []) hM hW hR hC myX12_check (kAW (v_7_5 (List.mem_of_getElem? (i := 15) rfl)) rfl) (rfl : vwCl[12]? = some (RX12, TX12, 86)) rfl lb_129.1 (shO hP.1 lb_129) (p_X12_check _ _ cA ad g1 a14070 a14072 hP.1 hP.2.1) ⟨by decide, by decide⟩ rfl rfl hl.1 (Nat.le_of_ble_eq_true rfl) dL_law_1427 (fun v g2 H locs hp hW => ?_)
  obtain ⟨r2, rfl, hs2, hG2, hf2⟩ := hp
  have hP1 := hP
  have hP : PI ad cA g2 := PI_fr hP1 hs2 hG2 hf2 (by first | decide | omega) (by first | decide | omega) (by first | decide | omega) (by first | decide | omega) (by first | decide | omega) (by first | decide | omega) (by first | decide | omega) (by first | decide | omega) (by first | decide | omega)
  have qa14070 : a14070 = a14066 := by rw [ha14070, ha14066]; congr 1; omega
  have qa14072 : a14072 = a14068 := by rw [ha14072, ha14068]; congr 1; omega
  refine q_pop hM dL_law_1430 rfl ?_
  refine q_goto (tgt := 1457) hM dL_law_1431 (by decide) ?_
  exact kk _ _ _ _ hP ⟨⟨(by rw [show fI g2 3 2 = fI g 3 2 from (FRf hf1 hf2 (by first | decide | omega) (by first | decide | omega)), show arI g2 131 = arI g 131 from ((hf2.2.1 131 (by first | decide | omega)).trans (hf1.2.1 131 (by first | decide | omega)))]; exact hRl.1.1), (by rw [show fI g2 18 3 = fI g 18 3 from (FRf hf1 hf2 (by first | decide | omega) (by first | decide | omega)), show arI g2 158 = arI g 158 from ((hf2.2.1 158 (by first | decide | omega)).trans (hf1.2.1 158 (by first | decide | omega)))]; exact hRl.1.2.1), (by rw [show fI g2 30 3 = fI g 30 3 from (FRf hf1 hf2 (by first | decide | omega) (by first | decide | omega)), show arI g2 162 = arI g 162 from ((hf2.2.1 162 (by first | decide | omega)).trans (hf1.2.1 162 (by first | decide | omega)))]; exact hRl.1.2.2.1), (((FRf hf1 hf2 (by first | decide | omega) (by first | decide | omega))).trans (hRl.1.2.2.2.1.trans ((FRf hf1 hf2 (by first | decide | omega) (by first | decide | omega))).symm)), (((FRf hf1 hf2 (by first | decide | omega) (by first | decide | omega))).trans (hRl.1.2.2.2.2.1.trans ((FRf hf1 hf2 (by first | decide | omega) (by first | decide | omega))).symm)), (((FRf hf1 hf2 (by first | decide | omega) (by first | decide | omega))).trans (hRl.1.2.2.2.2.2.trans (congrFun ((hf2.2.1 166 (by first | decide | omega)).trans (hf1.2.1 166 (by first | decide | omega))) 1).symm))⟩, (fun k j hk hj => (congrFun ((hf2.2.1 (6 + 1 * k) (by first | decide | omega)).trans (hf1.2.1 (6 + 1 * k) (by first | decide | omega))) j).trans ((hRl.2 k j hk hj).trans (congrFun ((hf2.2.1 133 (by first | decide | omega)).trans (hf1.2.1 133 (by first | decide | omega))) _).symm))⟩ hW hl

set_option maxRecDepth 100000 in
set_option maxHeartbeats 4000000 in
theorem lc_count {K : KT} {cA : Nat → ClassId} {ad : Nat → Nat} {b L : Nat} {xs : Nat → Int32} {H : Heap} {locs : List Loc} {ls : Array Slot} {g : Nat → va_E} {i : Int32} (hM : MB K cA code 4 R_law) (hXB : XB K b L xs) (hL : L ≤ 3072) (hR : HasRoom K 2048 84000) (hC : Cells K 600000 7302250) (hP : PI ad cA g) (hRl : RQ g) (hi0 : 0 ≤ i.toInt) (hi : i.toInt + 6 ≤ L) (hW : WB NN ad K g H locs) (hl : lv_has ls 4 [(3, .int i), (2, .ref (ad 129)), (1, .ref (ad 0)), (0, .ref b)]) (kk : ∀ (g : Nat → va_E) (H : Heap) (locs : List Loc) (ls : Array Slot), PI ad cA g → RQ g → WB NN ad K g H locs → lv_has ls 4 [(3, .int i), (2, .ref (ad 129)), (1, .ref (ad 0)), (0, .ref b)] → XX K 600000 7302250 H locs 1457 ls []) : XX K 600000 7302250 H locs 1434 ls [] := by
  have hLn : L < 1000000 := by omega
  obtain ⟨lw, lwn, hlc, h13, h14⟩ := id hP.2.2.1
  refine q_aload_n hM dL_law_1434 (lv_at hl 2 rfl) ?_
  refine q_aload_n hM dL_law_1435 (lv_at hl 3 rfl) ?_
  refine q_iload_n hM dL_law_1436 (lv_at hl 0 rfl) ?_
  refine q_iconst (v := (1 : Int32)) hM dL_law_1437 (by decide) ?_
  refine q_iadd hM dL_law_1438 (fun z14073 hz14073 => ?_)
  have tz14073 := i_addT hz14073 (rfl : i.toInt = i.toInt) (kc_1 : (1 : Int32).toInt = 1) (by omega) (by omega)
  refine s_iald z14073.toInt.toNat hM hW hXB (by omega) (by omega) (by omega) dL_law_1439 ?_
  refine q_top (fun a14074 ha14074 => ?_)
  refine q_callV (As := [.int a14074]) (rest := []) hM hW hR hC myX11_count (kAW (v_4_2 (List.mem_of_getElem? (i := 3) rfl)) rfl) (rfl : vwCl[11]? = some (RX11, TX11, 16)) rfl lb_0.1 (shO hP.1 lb_0) (p_X11_count _ _ cA ad g a14074 lw hP.1 hP.2.1 (by unfold isLw; omega) h13) ⟨by decide, by decide⟩ rfl rfl hl.1 (Nat.le_of_ble_eq_true rfl) dL_law_1440 (fun v g1 H locs hp hW => ?_)
  obtain ⟨r1, rfl, hs1, hG1, hf1⟩ := hp
  have hP0 := hP
  have hP : PI ad cA g1 := PI_fr hP0 hs1 hG1 hf1 (fun h => h) (fun h => h) (fun h => h) (fun h => h) (fun h => h) (fun h => h) (fun h => h) (fun h => h) (fun h => h)
  refine q_pop hM dL_law_1443 rfl ?_
  refine q_aload_n hM dL_law_1444 (lv_at hl 1 rfl) ?_
  refine q_aload_n hM dL_law_1445 (lv_at hl 3 rfl) ?_
  refine q_iload_n hM dL_law_1446 (lv_at hl 0 rfl) ?_
  refine q_iconst (v := (1 : Int32)) hM dL_law_1447 (by decide) ?_
  refine q_iadd hM dL_law_1448 (fun z14075 hz14075 => ?_)
  have tz14075 := i_addT hz14075 (rfl : i.toInt = i.toInt) (kc_1 : (1 : Int32).toInt = 1) (by omega) (by omega)
  refine s_iald z14075.toInt.toNat hM hW hXB (by omega) (by omega) (by omega) dL_law_1449 ?_
  refine q_top (fun a14076 ha14076 => ?_)
  refine q_callV (As := [.int a14076]) (rest := []) hM hW hR hC myX12_count (kAW (v_7_6 (List.mem_of_getElem? (i := 3) rfl)) rfl) (rfl : vwCl[12]? = some (RX12, TX12, 86)) rfl lb_129.1 (shO hP.1 lb_129) (p_X12_count _ _ cA ad g1 a14076 hP.1 hP.2.1) ⟨by decide, by decide⟩ rfl rfl hl.1 (Nat.le_of_ble_eq_true rfl) dL_law_1450 (fun v g2 H locs hp hW => ?_)
  obtain ⟨r2, rfl, hs2, hG2, hf2⟩ := hp
  have hP1 := hP
  have hP : PI ad cA g2 := PI_fr hP1 hs2 hG2 hf2 (fun h => h) (fun h => h) (fun h => h) (fun h => h) (fun h => h) (fun h => h) (fun h => h) (fun h => h) (fun h => h)
  have qa14076 : a14076 = a14074 := by rw [ha14076, ha14074]; congr 1; omega
  refine q_pop hM dL_law_1453 rfl ?_
  refine q_goto (tgt := 1457) hM dL_law_1454 (by decide) ?_
  exact kk _ _ _ _ hP ⟨⟨(by rw [show fI g2 3 2 = fI g 3 2 from (FRf hf1 hf2 (fun h => h) (fun h => h)), show arI g2 131 = arI g 131 from ((hf2.2.1 131 (fun h => h)).trans (hf1.2.1 131 (fun h => h)))]; exact hRl.1.1), (by rw [show fI g2 18 3 = fI g 18 3 from (FRf hf1 hf2 (fun h => h) (fun h => h)), show arI g2 158 = arI g 158 from ((hf2.2.1 158 (fun h => h)).trans (hf1.2.1 158 (fun h => h)))]; exact hRl.1.2.1), (by rw [show fI g2 30 3 = fI g 30 3 from (FRf hf1 hf2 (fun h => h) (fun h => h)), show arI g2 162 = arI g 162 from ((hf2.2.1 162 (fun h => h)).trans (hf1.2.1 162 (fun h => h)))]; exact hRl.1.2.2.1), (((FRf hf1 hf2 (fun h => h) (fun h => h))).trans (hRl.1.2.2.2.1.trans ((FRf hf1 hf2 (fun h => h) (fun h => h))).symm)), (((FRf hf1 hf2 (fun h => h) (fun h => h))).trans (hRl.1.2.2.2.2.1.trans ((FRf hf1 hf2 (fun h => h) (fun h => h))).symm)), (((FRf hf1 hf2 (fun h => h) (fun h => h))).trans (hRl.1.2.2.2.2.2.trans (congrFun ((hf2.2.1 166 (fun h => h)).trans (hf1.2.1 166 (fun h => h))) 1).symm))⟩, (fun k j hk hj => (congrFun ((hf2.2.1 (6 + 1 * k) (fun h => h)).trans (hf1.2.1 (6 + 1 * k) (fun h => h))) j).trans ((hRl.2 k j hk hj).trans (congrFun ((hf2.2.1 133 (fun h => h)).trans (hf1.2.1 133 (fun h => h))) _).symm))⟩ hW hl
