set_option maxRecDepth 100000 in
set_option maxHeartbeats 4000000 in
theorem lc_fact {K : KT} {cA : Nat → ClassId} {ad : Nat → Nat} {b L : Nat} {xs : Nat → Int32} {H : Heap} {locs : List Loc} {ls : Array Slot} {g : Nat → va_E} {i : Int32} (hM : MB K cA code 4 R_law) (hXB : XB K b L xs) (hL : L ≤ 3072) (hR : HasRoom K 2048 84000) (hC : Cells K 600000 7302250) (hP : PI ad cA g) (hRl : RP g) (hi0 : 0 ≤ i.toInt) (hi : i.toInt + 6 ≤ L) (hW : WB NN ad K g H locs) (hl : lv_has ls 4 [(3, .int i), (2, .ref (ad 129)), (1, .ref (ad 0)), (0, .ref b)]) (kk : ∀ (g : Nat → va_E) (H : Heap) (locs : List Loc) (ls : Array Slot), PI ad cA g → RP g → WB NN ad K g H locs → lv_has ls 4 [(3, .int i), (2, .ref (ad 129)), (1, .ref (ad 0)), (0, .ref b)] → XX K 600000 7302250 H locs 1457 ls []) : XX K 600000 7302250 H locs 196 ls [] := by
  have hLn : L < 1000000 := by omega
  obtain ⟨lw, lwn, hlc, h13, h14⟩ := id hP.2.2.1
  refine q_aload_n hM dL_law_196 (lv_at hl 2 rfl) ?_
  refine q_aload_n hM dL_law_197 (lv_at hl 3 rfl) ?_
  refine q_iload_n hM dL_law_198 (lv_at hl 0 rfl) ?_
  refine q_iconst (v := (1 : Int32)) hM dL_law_199 (by decide) ?_
  refine q_iadd hM dL_law_200 (fun z13575 hz13575 => ?_)
  have tz13575 := i_addT hz13575 (rfl : i.toInt = i.toInt) (kc_1 : (1 : Int32).toInt = 1) (by omega) (by omega)
  refine s_iald z13575.toInt.toNat hM hW hXB (by omega) (by omega) (by omega) dL_law_201 ?_
  refine q_top (fun a13576 ha13576 => ?_)
  refine q_aload_n hM dL_law_202 (lv_at hl 3 rfl) ?_
  refine q_iload_n hM dL_law_203 (lv_at hl 0 rfl) ?_
  refine q_iconst (v := (2 : Int32)) hM dL_law_204 (by decide) ?_
  refine q_iadd hM dL_law_205 (fun z13577 hz13577 => ?_)
  have tz13577 := i_addT hz13577 (rfl : i.toInt = i.toInt) (kc_2 : (2 : Int32).toInt = 2) (by omega) (by omega)
  refine s_iald z13577.toInt.toNat hM hW hXB (by omega) (by omega) (by omega) dL_law_206 ?_
  refine q_top (fun a13578 ha13578 => ?_)
  refine q_callV (As := [.int a13576, .int a13578]) (rest := []) hM hW hR hC myX11_fact (kAW (v_1_9 (List.mem_of_getElem? (i := 13) rfl)) rfl) (rfl : vwCl[11]? = some (RX11, TX11, 16)) rfl lb_0.1 (shO hP.1 lb_0) (s_X11_fact _ _ cA ad g a13576 a13578 (fI g 3 2)  hP.1 hP.2.1 (shI hP.1 lb_3 (by decide) (by decide))) ⟨by decide, by decide⟩ rfl rfl hl.1 (Nat.le_of_ble_eq_true rfl) dL_law_207 (fun v g1 H locs hp hW => ?_)
  obtain ⟨x0, r1, rfl, hs1, hG1, hf1, cx0, cx1, ha1⟩ := hp
  have hP0 := hP
  have hP : PI ad cA g1 := PI_fr hP0 hs1 hG1 hf1 (by first | decide | omega) (by first | decide | omega) (by first | decide | omega) (by first | decide | omega) (by first | decide | omega) (by first | decide | omega) (by first | decide | omega) (by first | decide | omega) (by first | decide | omega)
  refine q_pop hM dL_law_210 rfl ?_
  refine q_aload_n hM dL_law_211 (lv_at hl 1 rfl) ?_
  refine q_aload_n hM dL_law_212 (lv_at hl 3 rfl) ?_
  refine q_iload_n hM dL_law_213 (lv_at hl 0 rfl) ?_
  refine q_iconst (v := (1 : Int32)) hM dL_law_214 (by decide) ?_
  refine q_iadd hM dL_law_215 (fun z13579 hz13579 => ?_)
  have tz13579 := i_addT hz13579 (rfl : i.toInt = i.toInt) (kc_1 : (1 : Int32).toInt = 1) (by omega) (by omega)
  refine s_iald z13579.toInt.toNat hM hW hXB (by omega) (by omega) (by omega) dL_law_216 ?_
  refine q_top (fun a13580 ha13580 => ?_)
  refine q_aload_n hM dL_law_217 (lv_at hl 3 rfl) ?_
  refine q_iload_n hM dL_law_218 (lv_at hl 0 rfl) ?_
  refine q_iconst (v := (2 : Int32)) hM dL_law_219 (by decide) ?_
  refine q_iadd hM dL_law_220 (fun z13581 hz13581 => ?_)
  have tz13581 := i_addT hz13581 (rfl : i.toInt = i.toInt) (kc_2 : (2 : Int32).toInt = 2) (by omega) (by omega)
  refine s_iald z13581.toInt.toNat hM hW hXB (by omega) (by omega) (by omega) dL_law_221 ?_
  refine q_top (fun a13582 ha13582 => ?_)
  refine q_callV (As := [.int a13580, .int a13582]) (rest := []) hM hW hR hC myX12_fact (kAW (v_5_4 (List.mem_of_getElem? (i := 9) rfl)) rfl) (rfl : vwCl[12]? = some (RX12, TX12, 86)) rfl lb_129.1 (shO hP.1 lb_129) (s_X12_fact _ _ cA ad g1 a13580 a13582 hP.1 hP.2.1) ⟨by decide, by decide⟩ rfl rfl hl.1 (Nat.le_of_ble_eq_true rfl) dL_law_222 (fun v g2 H locs hp hW => ?_)
  obtain ⟨r2, rfl, hs2, hG2, hf2, cm0, ha2⟩ := hp
  have hP1 := hP
  have hP : PI ad cA g2 := PI_fr hP1 hs2 hG2 hf2 (by first | decide | omega) (by first | decide | omega) (by first | decide | omega) (by first | decide | omega) (by first | decide | omega) (by first | decide | omega) (by first | decide | omega) (by first | decide | omega) (by first | decide | omega)
  have qa13580 : a13580 = a13576 := by rw [ha13580, ha13576]; congr 1; omega
  have qa13582 : a13582 = a13578 := by rw [ha13582, ha13578]; congr 1; omega
  first | rw [qa13580] at ha2 | skip
  first | rw [qa13582] at ha2 | skip
  first | rw [qa13580] at cm0 | skip
  first | rw [qa13582] at cm0 | skip
  refine q_pop hM dL_law_225 rfl ?_
  refine q_goto (tgt := 1457) hM dL_law_226 (by decide) ?_
  exact kk _ _ _ _ hP ⟨(by
    rw [show fI g2 3 2 = x0 from ((FR1f hf2 (by first | decide | omega)).trans (fI_of cx0))]
    rcases cx1 with ⟨c1, e1⟩ | ⟨c1, e1⟩
    · rcases cm0 with ⟨c2, e2⟩ | ⟨c2, e2⟩
      · exact SM_set hRl.1 (by decide) e1 (by rw [e2, (hf1.2.1 131 (by first | decide | omega))]) (by decide) (by omega) (by omega)
      · exact absurd c1 c2
    · rcases cm0 with ⟨c2, e2⟩ | ⟨c2, e2⟩
      · exact absurd c2 c1
      · rw [e1, e2, (hf1.2.1 131 (by first | decide | omega))]; exact hRl.1), (by rw [show fI g2 18 3 = fI g 18 3 from (FRf hf1 hf2 (by first | decide | omega) (by first | decide | omega)), show arI g2 158 = arI g 158 from ((hf2.2.1 158 (by first | decide | omega)).trans (hf1.2.1 158 (by first | decide | omega)))]; exact hRl.2.1), (by rw [show fI g2 30 3 = fI g 30 3 from (FRf hf1 hf2 (by first | decide | omega) (by first | decide | omega)), show arI g2 162 = arI g 162 from ((hf2.2.1 162 (by first | decide | omega)).trans (hf1.2.1 162 (by first | decide | omega)))]; exact hRl.2.2.1), (((FRf hf1 hf2 (by first | decide | omega) (by first | decide | omega))).trans (hRl.2.2.2.1.trans ((FRf hf1 hf2 (by first | decide | omega) (by first | decide | omega))).symm)), (((FRf hf1 hf2 (by first | decide | omega) (by first | decide | omega))).trans (hRl.2.2.2.2.1.trans ((FRf hf1 hf2 (by first | decide | omega) (by first | decide | omega))).symm)), (((FRf hf1 hf2 (by first | decide | omega) (by first | decide | omega))).trans (hRl.2.2.2.2.2.trans (congrFun ((hf2.2.1 166 (by first | decide | omega)).trans (hf1.2.1 166 (by first | decide | omega))) 1).symm))⟩ hW hl

set_option maxRecDepth 100000 in
set_option maxHeartbeats 4000000 in
theorem lc_link {K : KT} {cA : Nat → ClassId} {ad : Nat → Nat} {b L : Nat} {xs : Nat → Int32} {H : Heap} {locs : List Loc} {ls : Array Slot} {g : Nat → va_E} {i : Int32} (hM : MB K cA code 4 R_law) (hXB : XB K b L xs) (hL : L ≤ 3072) (hR : HasRoom K 2048 84000) (hC : Cells K 600000 7302250) (hP : PI ad cA g) (hRl : RP g) (hi0 : 0 ≤ i.toInt) (hi : i.toInt + 6 ≤ L) (hW : WB NN ad K g H locs) (hl : lv_has ls 4 [(3, .int i), (2, .ref (ad 129)), (1, .ref (ad 0)), (0, .ref b)]) (kk : ∀ (g : Nat → va_E) (H : Heap) (locs : List Loc) (ls : Array Slot), PI ad cA g → RP g → WB NN ad K g H locs → lv_has ls 4 [(3, .int i), (2, .ref (ad 129)), (1, .ref (ad 0)), (0, .ref b)] → XX K 600000 7302250 H locs 1457 ls []) : XX K 600000 7302250 H locs 229 ls [] := by
  have hLn : L < 1000000 := by omega
  obtain ⟨lw, lwn, hlc, h13, h14⟩ := id hP.2.2.1
  refine q_aload_n hM dL_law_229 (lv_at hl 2 rfl) ?_
  refine q_aload_n hM dL_law_230 (lv_at hl 3 rfl) ?_
  refine q_iload_n hM dL_law_231 (lv_at hl 0 rfl) ?_
  refine q_iconst (v := (1 : Int32)) hM dL_law_232 (by decide) ?_
  refine q_iadd hM dL_law_233 (fun z13583 hz13583 => ?_)
  have tz13583 := i_addT hz13583 (rfl : i.toInt = i.toInt) (kc_1 : (1 : Int32).toInt = 1) (by omega) (by omega)
  refine s_iald z13583.toInt.toNat hM hW hXB (by omega) (by omega) (by omega) dL_law_234 ?_
  refine q_top (fun a13584 ha13584 => ?_)
  refine q_aload_n hM dL_law_235 (lv_at hl 3 rfl) ?_
  refine q_iload_n hM dL_law_236 (lv_at hl 0 rfl) ?_
  refine q_iconst (v := (2 : Int32)) hM dL_law_237 (by decide) ?_
  refine q_iadd hM dL_law_238 (fun z13585 hz13585 => ?_)
  have tz13585 := i_addT hz13585 (rfl : i.toInt = i.toInt) (kc_2 : (2 : Int32).toInt = 2) (by omega) (by omega)
  refine s_iald z13585.toInt.toNat hM hW hXB (by omega) (by omega) (by omega) dL_law_239 ?_
  refine q_top (fun a13586 ha13586 => ?_)
  refine q_aload_n hM dL_law_240 (lv_at hl 3 rfl) ?_
  refine q_iload_n hM dL_law_241 (lv_at hl 0 rfl) ?_
  refine q_iconst (v := (3 : Int32)) hM dL_law_242 (by decide) ?_
  refine q_iadd hM dL_law_243 (fun z13587 hz13587 => ?_)
  have tz13587 := i_addT hz13587 (rfl : i.toInt = i.toInt) (kc_3 : (3 : Int32).toInt = 3) (by omega) (by omega)
  refine s_iald z13587.toInt.toNat hM hW hXB (by omega) (by omega) (by omega) dL_law_244 ?_
  refine q_top (fun a13588 ha13588 => ?_)
  refine q_callV (As := [.int a13584, .int a13586, .int a13588]) (rest := []) hM hW hR hC myX11_link (kAW (v_1_10 (List.mem_of_getElem? (i := 4) rfl)) rfl) (rfl : vwCl[11]? = some (RX11, TX11, 16)) rfl lb_0.1 (shO hP.1 lb_0) (p_X11_link _ _ cA ad g a13584 a13586 a13588  hP.1 hP.2.1) ⟨by decide, by decide⟩ rfl rfl hl.1 (Nat.le_of_ble_eq_true rfl) dL_law_245 (fun v g1 H locs hp hW => ?_)
  obtain ⟨r1, rfl, hs1, hG1, hf1, ha1⟩ := hp
  have hP0 := hP
  have hP : PI ad cA g1 := PI_fr hP0 hs1 hG1 hf1 (by first | decide | omega) (by first | decide | omega) (by first | decide | omega) (by first | decide | omega) (by first | decide | omega) (by first | decide | omega) (by first | decide | omega) (by first | decide | omega) (by first | decide | omega)
  refine q_pop hM dL_law_248 rfl ?_
  refine q_aload_n hM dL_law_249 (lv_at hl 1 rfl) ?_
  refine q_aload_n hM dL_law_250 (lv_at hl 3 rfl) ?_
  refine q_iload_n hM dL_law_251 (lv_at hl 0 rfl) ?_
  refine q_iconst (v := (1 : Int32)) hM dL_law_252 (by decide) ?_
  refine q_iadd hM dL_law_253 (fun z13589 hz13589 => ?_)
  have tz13589 := i_addT hz13589 (rfl : i.toInt = i.toInt) (kc_1 : (1 : Int32).toInt = 1) (by omega) (by omega)
  refine s_iald z13589.toInt.toNat hM hW hXB (by omega) (by omega) (by omega) dL_law_254 ?_
  refine q_top (fun a13590 ha13590 => ?_)
  refine q_aload_n hM dL_law_255 (lv_at hl 3 rfl) ?_
  refine q_iload_n hM dL_law_256 (lv_at hl 0 rfl) ?_
  refine q_iconst (v := (2 : Int32)) hM dL_law_257 (by decide) ?_
  refine q_iadd hM dL_law_258 (fun z13591 hz13591 => ?_)
  have tz13591 := i_addT hz13591 (rfl : i.toInt = i.toInt) (kc_2 : (2 : Int32).toInt = 2) (by omega) (by omega)
  refine s_iald z13591.toInt.toNat hM hW hXB (by omega) (by omega) (by omega) dL_law_259 ?_
  refine q_top (fun a13592 ha13592 => ?_)
  refine q_aload_n hM dL_law_260 (lv_at hl 3 rfl) ?_
  refine q_iload_n hM dL_law_261 (lv_at hl 0 rfl) ?_
  refine q_iconst (v := (3 : Int32)) hM dL_law_262 (by decide) ?_
  refine q_iadd hM dL_law_263 (fun z13593 hz13593 => ?_)
  have tz13593 := i_addT hz13593 (rfl : i.toInt = i.toInt) (kc_3 : (3 : Int32).toInt = 3) (by omega) (by omega)
  refine s_iald z13593.toInt.toNat hM hW hXB (by omega) (by omega) (by omega) dL_law_264 ?_
  refine q_top (fun a13594 ha13594 => ?_)
  refine q_callV (As := [.int a13590, .int a13592, .int a13594]) (rest := []) hM hW hR hC myX12_link (kAW (v_5_5 (List.mem_of_getElem? (i := 2) rfl)) rfl) (rfl : vwCl[12]? = some (RX12, TX12, 86)) rfl lb_129.1 (shO hP.1 lb_129) (p_X12_link _ _ cA ad g1 a13590 a13592 a13594 hP.1 hP.2.1) ⟨by decide, by decide⟩ rfl rfl hl.1 (Nat.le_of_ble_eq_true rfl) dL_law_265 (fun v g2 H locs hp hW => ?_)
  obtain ⟨r2, rfl, hs2, hG2, hf2, ha2⟩ := hp
  have hP1 := hP
  have hP : PI ad cA g2 := PI_fr hP1 hs2 hG2 hf2 (by first | decide | omega) (by first | decide | omega) (by first | decide | omega) (by first | decide | omega) (by first | decide | omega) (by first | decide | omega) (by first | decide | omega) (by first | decide | omega) (by first | decide | omega)
  have qa13590 : a13590 = a13584 := by rw [ha13590, ha13584]; congr 1; omega
  have qa13592 : a13592 = a13586 := by rw [ha13592, ha13586]; congr 1; omega
  have qa13594 : a13594 = a13588 := by rw [ha13594, ha13588]; congr 1; omega
  first | rw [qa13590] at ha2 | skip
  first | rw [qa13592] at ha2 | skip
  first | rw [qa13594] at ha2 | skip
  refine q_pop hM dL_law_268 rfl ?_
  refine q_goto (tgt := 1457) hM dL_law_269 (by decide) ?_
  exact kk _ _ _ _ hP ⟨(by rw [show fI g2 3 2 = fI g 3 2 from (FRf hf1 hf2 (by first | decide | omega) (by first | decide | omega)), show arI g2 131 = arI g 131 from ((hf2.2.1 131 (by first | decide | omega)).trans (hf1.2.1 131 (by first | decide | omega)))]; exact hRl.1), (by rw [show fI g2 18 3 = fI g 18 3 from (FRf hf1 hf2 (by first | decide | omega) (by first | decide | omega)), show arI g2 158 = arI g 158 from ((hf2.2.1 158 (by first | decide | omega)).trans (hf1.2.1 158 (by first | decide | omega)))]; exact hRl.2.1), (by rw [show fI g2 30 3 = fI g 30 3 from (FRf hf1 hf2 (by first | decide | omega) (by first | decide | omega)), show arI g2 162 = arI g 162 from ((hf2.2.1 162 (by first | decide | omega)).trans (hf1.2.1 162 (by first | decide | omega)))]; exact hRl.2.2.1), (((FRf hf1 hf2 (by first | decide | omega) (by first | decide | omega))).trans (hRl.2.2.2.1.trans ((FRf hf1 hf2 (by first | decide | omega) (by first | decide | omega))).symm)), (((FRf hf1 hf2 (by first | decide | omega) (by first | decide | omega))).trans (hRl.2.2.2.2.1.trans ((FRf hf1 hf2 (by first | decide | omega) (by first | decide | omega))).symm)), (((FRf hf1 hf2 (by first | decide | omega) (by first | decide | omega))).trans (hRl.2.2.2.2.2.trans (congrFun ((hf2.2.1 166 (by first | decide | omega)).trans (hf1.2.1 166 (by first | decide | omega))) 1).symm))⟩ hW hl

set_option maxRecDepth 100000 in
set_option maxHeartbeats 4000000 in
theorem lc_pupil {K : KT} {cA : Nat → ClassId} {ad : Nat → Nat} {b L : Nat} {xs : Nat → Int32} {H : Heap} {locs : List Loc} {ls : Array Slot} {g : Nat → va_E} {i : Int32} (hM : MB K cA code 4 R_law) (hXB : XB K b L xs) (hL : L ≤ 3072) (hR : HasRoom K 2048 84000) (hC : Cells K 600000 7302250) (hP : PI ad cA g) (hRl : RP g) (hi0 : 0 ≤ i.toInt) (hi : i.toInt + 6 ≤ L) (hW : WB NN ad K g H locs) (hl : lv_has ls 4 [(3, .int i), (2, .ref (ad 129)), (1, .ref (ad 0)), (0, .ref b)]) (kk : ∀ (g : Nat → va_E) (H : Heap) (locs : List Loc) (ls : Array Slot), PI ad cA g → RP g → WB NN ad K g H locs → lv_has ls 4 [(3, .int i), (2, .ref (ad 129)), (1, .ref (ad 0)), (0, .ref b)] → XX K 600000 7302250 H locs 1457 ls []) : XX K 600000 7302250 H locs 272 ls [] := by
  have hLn : L < 1000000 := by omega
  obtain ⟨lw, lwn, hlc, h13, h14⟩ := id hP.2.2.1
  refine q_aload_n hM dL_law_272 (lv_at hl 2 rfl) ?_
  refine q_aload_n hM dL_law_273 (lv_at hl 3 rfl) ?_
  refine q_iload_n hM dL_law_274 (lv_at hl 0 rfl) ?_
  refine q_iconst (v := (1 : Int32)) hM dL_law_275 (by decide) ?_
  refine q_iadd hM dL_law_276 (fun z13595 hz13595 => ?_)
  have tz13595 := i_addT hz13595 (rfl : i.toInt = i.toInt) (kc_1 : (1 : Int32).toInt = 1) (by omega) (by omega)
  refine s_iald z13595.toInt.toNat hM hW hXB (by omega) (by omega) (by omega) dL_law_277 ?_
  refine q_top (fun a13596 ha13596 => ?_)
  refine q_aload_n hM dL_law_278 (lv_at hl 3 rfl) ?_
  refine q_iload_n hM dL_law_279 (lv_at hl 0 rfl) ?_
  refine q_iconst (v := (2 : Int32)) hM dL_law_280 (by decide) ?_
  refine q_iadd hM dL_law_281 (fun z13597 hz13597 => ?_)
  have tz13597 := i_addT hz13597 (rfl : i.toInt = i.toInt) (kc_2 : (2 : Int32).toInt = 2) (by omega) (by omega)
  refine s_iald z13597.toInt.toNat hM hW hXB (by omega) (by omega) (by omega) dL_law_282 ?_
  refine q_top (fun a13598 ha13598 => ?_)
  refine q_aload_n hM dL_law_283 (lv_at hl 3 rfl) ?_
  refine q_iload_n hM dL_law_284 (lv_at hl 0 rfl) ?_
  refine q_iconst (v := (3 : Int32)) hM dL_law_285 (by decide) ?_
  refine q_iadd hM dL_law_286 (fun z13599 hz13599 => ?_)
  have tz13599 := i_addT hz13599 (rfl : i.toInt = i.toInt) (kc_3 : (3 : Int32).toInt = 3) (by omega) (by omega)
  refine s_iald z13599.toInt.toNat hM hW hXB (by omega) (by omega) (by omega) dL_law_287 ?_
  refine q_top (fun a13600 ha13600 => ?_)
  refine q_callV (As := [.int a13596, .int a13598, .int a13600]) (rest := []) hM hW hR hC myX11_pupil (kAW (v_1_10 (List.mem_of_getElem? (i := 11) rfl)) rfl) (rfl : vwCl[11]? = some (RX11, TX11, 16)) rfl lb_0.1 (shO hP.1 lb_0) (s_X11_pupil _ _ cA ad g a13596 a13598 a13600 (fI g 18 3)  hP.1 hP.2.1 (shI hP.1 lb_18 (by decide) (by decide))) ⟨by decide, by decide⟩ rfl rfl hl.1 (Nat.le_of_ble_eq_true rfl) dL_law_288 (fun v g1 H locs hp hW => ?_)
  obtain ⟨x0, r1, rfl, hs1, hG1, hf1, cx0, cx1, ha1⟩ := hp
  have hP0 := hP
  have hP : PI ad cA g1 := PI_fr hP0 hs1 hG1 hf1 (by first | decide | omega) (by first | decide | omega) (by first | decide | omega) (by first | decide | omega) (by first | decide | omega) (by first | decide | omega) (by first | decide | omega) (by first | decide | omega) (by first | decide | omega)
  refine q_pop hM dL_law_291 rfl ?_
  refine q_aload_n hM dL_law_292 (lv_at hl 1 rfl) ?_
  refine q_aload_n hM dL_law_293 (lv_at hl 3 rfl) ?_
  refine q_iload_n hM dL_law_294 (lv_at hl 0 rfl) ?_
  refine q_iconst (v := (1 : Int32)) hM dL_law_295 (by decide) ?_
  refine q_iadd hM dL_law_296 (fun z13601 hz13601 => ?_)
  have tz13601 := i_addT hz13601 (rfl : i.toInt = i.toInt) (kc_1 : (1 : Int32).toInt = 1) (by omega) (by omega)
  refine s_iald z13601.toInt.toNat hM hW hXB (by omega) (by omega) (by omega) dL_law_297 ?_
  refine q_top (fun a13602 ha13602 => ?_)
  refine q_aload_n hM dL_law_298 (lv_at hl 3 rfl) ?_
  refine q_iload_n hM dL_law_299 (lv_at hl 0 rfl) ?_
  refine q_iconst (v := (2 : Int32)) hM dL_law_300 (by decide) ?_
  refine q_iadd hM dL_law_301 (fun z13603 hz13603 => ?_)
  have tz13603 := i_addT hz13603 (rfl : i.toInt = i.toInt) (kc_2 : (2 : Int32).toInt = 2) (by omega) (by omega)
  refine s_iald z13603.toInt.toNat hM hW hXB (by omega) (by omega) (by omega) dL_law_302 ?_
  refine q_top (fun a13604 ha13604 => ?_)
  refine q_aload_n hM dL_law_303 (lv_at hl 3 rfl) ?_
  refine q_iload_n hM dL_law_304 (lv_at hl 0 rfl) ?_
  refine q_iconst (v := (3 : Int32)) hM dL_law_305 (by decide) ?_
  refine q_iadd hM dL_law_306 (fun z13605 hz13605 => ?_)
  have tz13605 := i_addT hz13605 (rfl : i.toInt = i.toInt) (kc_3 : (3 : Int32).toInt = 3) (by omega) (by omega)
  refine s_iald z13605.toInt.toNat hM hW hXB (by omega) (by omega) (by omega) dL_law_307 ?_
  refine q_top (fun a13606 ha13606 => ?_)
  refine q_callV (As := [.int a13602, .int a13604, .int a13606]) (rest := []) hM hW hR hC myX12_pupil (kAW (v_6_1 (List.mem_of_getElem? (i := 15) rfl)) rfl) (rfl : vwCl[12]? = some (RX12, TX12, 86)) rfl lb_129.1 (shO hP.1 lb_129) (s_X12_pupil _ _ cA ad g1 a13602 a13604 a13606 hP.1 hP.2.1) ⟨by decide, by decide⟩ rfl rfl hl.1 (Nat.le_of_ble_eq_true rfl) dL_law_308 (fun v g2 H locs hp hW => ?_)
  obtain ⟨r2, rfl, hs2, hG2, hf2, cm0, ha2⟩ := hp
  have hP1 := hP
  have hP : PI ad cA g2 := PI_fr hP1 hs2 hG2 hf2 (by first | decide | omega) (by first | decide | omega) (by first | decide | omega) (by first | decide | omega) (by first | decide | omega) (by first | decide | omega) (by first | decide | omega) (by first | decide | omega) (by first | decide | omega)
  have qa13602 : a13602 = a13596 := by rw [ha13602, ha13596]; congr 1; omega
  have qa13604 : a13604 = a13598 := by rw [ha13604, ha13598]; congr 1; omega
  have qa13606 : a13606 = a13600 := by rw [ha13606, ha13600]; congr 1; omega
  first | rw [qa13602] at ha2 | skip
  first | rw [qa13604] at ha2 | skip
  first | rw [qa13606] at ha2 | skip
  first | rw [qa13602] at cm0 | skip
  first | rw [qa13604] at cm0 | skip
  first | rw [qa13606] at cm0 | skip
  refine q_pop hM dL_law_311 rfl ?_
  refine q_goto (tgt := 1457) hM dL_law_312 (by decide) ?_
  exact kk _ _ _ _ hP ⟨(by rw [show fI g2 3 2 = fI g 3 2 from (FRf hf1 hf2 (by first | decide | omega) (by first | decide | omega)), show arI g2 131 = arI g 131 from ((hf2.2.1 131 (by first | decide | omega)).trans (hf1.2.1 131 (by first | decide | omega)))]; exact hRl.1), (by
    rw [show fI g2 18 3 = x0 from ((FR1f hf2 (by first | decide | omega)).trans (fI_of cx0))]
    rcases cx1 with ⟨c1, e1⟩ | ⟨c1, e1⟩
    · rcases cm0 with ⟨c2, e2⟩ | ⟨c2, e2⟩
      · exact SM_set hRl.2.1 (by decide) e1 (by rw [e2, (hf1.2.1 158 (by first | decide | omega))]) (by decide) (by omega) (by omega)
      · exact absurd c1 c2
    · rcases cm0 with ⟨c2, e2⟩ | ⟨c2, e2⟩
      · exact absurd c2 c1
      · rw [e1, e2, (hf1.2.1 158 (by first | decide | omega))]; exact hRl.2.1), (by rw [show fI g2 30 3 = fI g 30 3 from (FRf hf1 hf2 (by first | decide | omega) (by first | decide | omega)), show arI g2 162 = arI g 162 from ((hf2.2.1 162 (by first | decide | omega)).trans (hf1.2.1 162 (by first | decide | omega)))]; exact hRl.2.2.1), (((FRf hf1 hf2 (by first | decide | omega) (by first | decide | omega))).trans (hRl.2.2.2.1.trans ((FRf hf1 hf2 (by first | decide | omega) (by first | decide | omega))).symm)), (((FRf hf1 hf2 (by first | decide | omega) (by first | decide | omega))).trans (hRl.2.2.2.2.1.trans ((FRf hf1 hf2 (by first | decide | omega) (by first | decide | omega))).symm)), (((FRf hf1 hf2 (by first | decide | omega) (by first | decide | omega))).trans (hRl.2.2.2.2.2.trans (congrFun ((hf2.2.1 166 (by first | decide | omega)).trans (hf1.2.1 166 (by first | decide | omega))) 1).symm))⟩ hW hl

set_option maxRecDepth 100000 in
set_option maxHeartbeats 4000000 in
theorem lc_knows {K : KT} {cA : Nat → ClassId} {ad : Nat → Nat} {b L : Nat} {xs : Nat → Int32} {H : Heap} {locs : List Loc} {ls : Array Slot} {g : Nat → va_E} {i : Int32} (hM : MB K cA code 4 R_law) (hXB : XB K b L xs) (hL : L ≤ 3072) (hR : HasRoom K 2048 84000) (hC : Cells K 600000 7302250) (hP : PI ad cA g) (hRl : RP g) (hi0 : 0 ≤ i.toInt) (hi : i.toInt + 6 ≤ L) (hW : WB NN ad K g H locs) (hl : lv_has ls 4 [(3, .int i), (2, .ref (ad 129)), (1, .ref (ad 0)), (0, .ref b)]) (kk : ∀ (g : Nat → va_E) (H : Heap) (locs : List Loc) (ls : Array Slot), PI ad cA g → RP g → WB NN ad K g H locs → lv_has ls 4 [(3, .int i), (2, .ref (ad 129)), (1, .ref (ad 0)), (0, .ref b)] → XX K 600000 7302250 H locs 1457 ls []) : XX K 600000 7302250 H locs 315 ls [] := by
  have hLn : L < 1000000 := by omega
  obtain ⟨lw, lwn, hlc, h13, h14⟩ := id hP.2.2.1
  refine q_aload_n hM dL_law_315 (lv_at hl 2 rfl) ?_
  refine q_aload_n hM dL_law_316 (lv_at hl 3 rfl) ?_
  refine q_iload_n hM dL_law_317 (lv_at hl 0 rfl) ?_
  refine q_iconst (v := (1 : Int32)) hM dL_law_318 (by decide) ?_
  refine q_iadd hM dL_law_319 (fun z13607 hz13607 => ?_)
  have tz13607 := i_addT hz13607 (rfl : i.toInt = i.toInt) (kc_1 : (1 : Int32).toInt = 1) (by omega) (by omega)
  refine s_iald z13607.toInt.toNat hM hW hXB (by omega) (by omega) (by omega) dL_law_320 ?_
  refine q_top (fun a13608 ha13608 => ?_)
  refine q_aload_n hM dL_law_321 (lv_at hl 3 rfl) ?_
  refine q_iload_n hM dL_law_322 (lv_at hl 0 rfl) ?_
  refine q_iconst (v := (2 : Int32)) hM dL_law_323 (by decide) ?_
  refine q_iadd hM dL_law_324 (fun z13609 hz13609 => ?_)
  have tz13609 := i_addT hz13609 (rfl : i.toInt = i.toInt) (kc_2 : (2 : Int32).toInt = 2) (by omega) (by omega)
  refine s_iald z13609.toInt.toNat hM hW hXB (by omega) (by omega) (by omega) dL_law_325 ?_
  refine q_top (fun a13610 ha13610 => ?_)
  refine q_aload_n hM dL_law_326 (lv_at hl 3 rfl) ?_
  refine q_iload_n hM dL_law_327 (lv_at hl 0 rfl) ?_
  refine q_iconst (v := (3 : Int32)) hM dL_law_328 (by decide) ?_
  refine q_iadd hM dL_law_329 (fun z13611 hz13611 => ?_)
  have tz13611 := i_addT hz13611 (rfl : i.toInt = i.toInt) (kc_3 : (3 : Int32).toInt = 3) (by omega) (by omega)
  refine s_iald z13611.toInt.toNat hM hW hXB (by omega) (by omega) (by omega) dL_law_330 ?_
  refine q_top (fun a13612 ha13612 => ?_)
  refine q_callV (As := [.int a13608, .int a13610, .int a13612]) (rest := []) hM hW hR hC myX11_knows (kAW (v_1_11 (List.mem_of_getElem? (i := 3) rfl)) rfl) (rfl : vwCl[11]? = some (RX11, TX11, 16)) rfl lb_0.1 (shO hP.1 lb_0) (p_X11_knows _ _ cA ad g a13608 a13610 a13612  hP.1 hP.2.1) ⟨by decide, by decide⟩ rfl rfl hl.1 (Nat.le_of_ble_eq_true rfl) dL_law_331 (fun v g1 H locs hp hW => ?_)
  obtain ⟨r1, rfl, hs1, hG1, hf1, ha1⟩ := hp
  have hP0 := hP
  have hP : PI ad cA g1 := PI_fr hP0 hs1 hG1 hf1 (by first | decide | omega) (by first | decide | omega) (by first | decide | omega) (by first | decide | omega) (by first | decide | omega) (by first | decide | omega) (by first | decide | omega) (by first | decide | omega) (by first | decide | omega)
  refine q_pop hM dL_law_334 rfl ?_
  refine q_aload_n hM dL_law_335 (lv_at hl 1 rfl) ?_
  refine q_aload_n hM dL_law_336 (lv_at hl 3 rfl) ?_
  refine q_iload_n hM dL_law_337 (lv_at hl 0 rfl) ?_
  refine q_iconst (v := (1 : Int32)) hM dL_law_338 (by decide) ?_
  refine q_iadd hM dL_law_339 (fun z13613 hz13613 => ?_)
  have tz13613 := i_addT hz13613 (rfl : i.toInt = i.toInt) (kc_1 : (1 : Int32).toInt = 1) (by omega) (by omega)
  refine s_iald z13613.toInt.toNat hM hW hXB (by omega) (by omega) (by omega) dL_law_340 ?_
  refine q_top (fun a13614 ha13614 => ?_)
  refine q_aload_n hM dL_law_341 (lv_at hl 3 rfl) ?_
  refine q_iload_n hM dL_law_342 (lv_at hl 0 rfl) ?_
  refine q_iconst (v := (2 : Int32)) hM dL_law_343 (by decide) ?_
  refine q_iadd hM dL_law_344 (fun z13615 hz13615 => ?_)
  have tz13615 := i_addT hz13615 (rfl : i.toInt = i.toInt) (kc_2 : (2 : Int32).toInt = 2) (by omega) (by omega)
  refine s_iald z13615.toInt.toNat hM hW hXB (by omega) (by omega) (by omega) dL_law_345 ?_
  refine q_top (fun a13616 ha13616 => ?_)
  refine q_aload_n hM dL_law_346 (lv_at hl 3 rfl) ?_
  refine q_iload_n hM dL_law_347 (lv_at hl 0 rfl) ?_
  refine q_iconst (v := (3 : Int32)) hM dL_law_348 (by decide) ?_
  refine q_iadd hM dL_law_349 (fun z13617 hz13617 => ?_)
  have tz13617 := i_addT hz13617 (rfl : i.toInt = i.toInt) (kc_3 : (3 : Int32).toInt = 3) (by omega) (by omega)
  refine s_iald z13617.toInt.toNat hM hW hXB (by omega) (by omega) (by omega) dL_law_350 ?_
  refine q_top (fun a13618 ha13618 => ?_)
  refine q_callV (As := [.int a13614, .int a13616, .int a13618]) (rest := []) hM hW hR hC myX12_knows (kAW (v_6_2 (List.mem_of_getElem? (i := 5) rfl)) rfl) (rfl : vwCl[12]? = some (RX12, TX12, 86)) rfl lb_129.1 (shO hP.1 lb_129) (p_X12_knows _ _ cA ad g1 a13614 a13616 a13618 hP.1 hP.2.1) ⟨by decide, by decide⟩ rfl rfl hl.1 (Nat.le_of_ble_eq_true rfl) dL_law_351 (fun v g2 H locs hp hW => ?_)
  obtain ⟨r2, rfl, hs2, hG2, hf2, ha2⟩ := hp
  have hP1 := hP
  have hP : PI ad cA g2 := PI_fr hP1 hs2 hG2 hf2 (by first | decide | omega) (by first | decide | omega) (by first | decide | omega) (by first | decide | omega) (by first | decide | omega) (by first | decide | omega) (by first | decide | omega) (by first | decide | omega) (by first | decide | omega)
  have qa13614 : a13614 = a13608 := by rw [ha13614, ha13608]; congr 1; omega
  have qa13616 : a13616 = a13610 := by rw [ha13616, ha13610]; congr 1; omega
  have qa13618 : a13618 = a13612 := by rw [ha13618, ha13612]; congr 1; omega
  first | rw [qa13614] at ha2 | skip
  first | rw [qa13616] at ha2 | skip
  first | rw [qa13618] at ha2 | skip
  refine q_pop hM dL_law_354 rfl ?_
  refine q_goto (tgt := 1457) hM dL_law_355 (by decide) ?_
  exact kk _ _ _ _ hP ⟨(by rw [show fI g2 3 2 = fI g 3 2 from (FRf hf1 hf2 (by first | decide | omega) (by first | decide | omega)), show arI g2 131 = arI g 131 from ((hf2.2.1 131 (by first | decide | omega)).trans (hf1.2.1 131 (by first | decide | omega)))]; exact hRl.1), (by rw [show fI g2 18 3 = fI g 18 3 from (FRf hf1 hf2 (by first | decide | omega) (by first | decide | omega)), show arI g2 158 = arI g 158 from ((hf2.2.1 158 (by first | decide | omega)).trans (hf1.2.1 158 (by first | decide | omega)))]; exact hRl.2.1), (by rw [show fI g2 30 3 = fI g 30 3 from (FRf hf1 hf2 (by first | decide | omega) (by first | decide | omega)), show arI g2 162 = arI g 162 from ((hf2.2.1 162 (by first | decide | omega)).trans (hf1.2.1 162 (by first | decide | omega)))]; exact hRl.2.2.1), (((FRf hf1 hf2 (by first | decide | omega) (by first | decide | omega))).trans (hRl.2.2.2.1.trans ((FRf hf1 hf2 (by first | decide | omega) (by first | decide | omega))).symm)), (((FRf hf1 hf2 (by first | decide | omega) (by first | decide | omega))).trans (hRl.2.2.2.2.1.trans ((FRf hf1 hf2 (by first | decide | omega) (by first | decide | omega))).symm)), (((FRf hf1 hf2 (by first | decide | omega) (by first | decide | omega))).trans (hRl.2.2.2.2.2.trans (congrFun ((hf2.2.1 166 (by first | decide | omega)).trans (hf1.2.1 166 (by first | decide | omega))) 1).symm))⟩ hW hl

set_option maxRecDepth 100000 in
set_option maxHeartbeats 4000000 in
theorem lc_feed {K : KT} {cA : Nat → ClassId} {ad : Nat → Nat} {b L : Nat} {xs : Nat → Int32} {H : Heap} {locs : List Loc} {ls : Array Slot} {g : Nat → va_E} {i : Int32} (hM : MB K cA code 4 R_law) (hXB : XB K b L xs) (hL : L ≤ 3072) (hR : HasRoom K 2048 84000) (hC : Cells K 600000 7302250) (hP : PI ad cA g) (hRl : RP g) (hi0 : 0 ≤ i.toInt) (hi : i.toInt + 6 ≤ L) (hW : WB NN ad K g H locs) (hl : lv_has ls 4 [(3, .int i), (2, .ref (ad 129)), (1, .ref (ad 0)), (0, .ref b)]) (kk : ∀ (g : Nat → va_E) (H : Heap) (locs : List Loc) (ls : Array Slot), PI ad cA g → RP g → WB NN ad K g H locs → lv_has ls 4 [(3, .int i), (2, .ref (ad 129)), (1, .ref (ad 0)), (0, .ref b)] → XX K 600000 7302250 H locs 1457 ls []) : XX K 600000 7302250 H locs 358 ls [] := by
  have hLn : L < 1000000 := by omega
  obtain ⟨lw, lwn, hlc, h13, h14⟩ := id hP.2.2.1
  refine q_aload_n hM dL_law_358 (lv_at hl 2 rfl) ?_
  refine q_aload_n hM dL_law_359 (lv_at hl 3 rfl) ?_
  refine q_iload_n hM dL_law_360 (lv_at hl 0 rfl) ?_
  refine q_iconst (v := (1 : Int32)) hM dL_law_361 (by decide) ?_
  refine q_iadd hM dL_law_362 (fun z13619 hz13619 => ?_)
  have tz13619 := i_addT hz13619 (rfl : i.toInt = i.toInt) (kc_1 : (1 : Int32).toInt = 1) (by omega) (by omega)
  refine s_iald z13619.toInt.toNat hM hW hXB (by omega) (by omega) (by omega) dL_law_363 ?_
  refine q_top (fun a13620 ha13620 => ?_)
  refine q_aload_n hM dL_law_364 (lv_at hl 3 rfl) ?_
  refine q_iload_n hM dL_law_365 (lv_at hl 0 rfl) ?_
  refine q_iconst (v := (2 : Int32)) hM dL_law_366 (by decide) ?_
  refine q_iadd hM dL_law_367 (fun z13621 hz13621 => ?_)
  have tz13621 := i_addT hz13621 (rfl : i.toInt = i.toInt) (kc_2 : (2 : Int32).toInt = 2) (by omega) (by omega)
  refine s_iald z13621.toInt.toNat hM hW hXB (by omega) (by omega) (by omega) dL_law_368 ?_
  refine q_top (fun a13622 ha13622 => ?_)
  refine q_aload_n hM dL_law_369 (lv_at hl 3 rfl) ?_
  refine q_iload_n hM dL_law_370 (lv_at hl 0 rfl) ?_
  refine q_iconst (v := (3 : Int32)) hM dL_law_371 (by decide) ?_
  refine q_iadd hM dL_law_372 (fun z13623 hz13623 => ?_)
  have tz13623 := i_addT hz13623 (rfl : i.toInt = i.toInt) (kc_3 : (3 : Int32).toInt = 3) (by omega) (by omega)
  refine s_iald z13623.toInt.toNat hM hW hXB (by omega) (by omega) (by omega) dL_law_373 ?_
  refine q_top (fun a13624 ha13624 => ?_)
  refine q_aload_n hM dL_law_374 (lv_at hl 3 rfl) ?_
  refine q_iload_n hM dL_law_375 (lv_at hl 0 rfl) ?_
  refine q_iconst (v := (4 : Int32)) hM dL_law_376 (by decide) ?_
  refine q_iadd hM dL_law_377 (fun z13625 hz13625 => ?_)
  have tz13625 := i_addT hz13625 (rfl : i.toInt = i.toInt) (kc_4 : (4 : Int32).toInt = 4) (by omega) (by omega)
  refine s_iald z13625.toInt.toNat hM hW hXB (by omega) (by omega) (by omega) dL_law_378 ?_
  refine q_top (fun a13626 ha13626 => ?_)
  refine q_aload_n hM dL_law_379 (lv_at hl 3 rfl) ?_
  refine q_iload_n hM dL_law_380 (lv_at hl 0 rfl) ?_
  refine q_iconst (v := (5 : Int32)) hM dL_law_381 (by decide) ?_
  refine q_iadd hM dL_law_382 (fun z13627 hz13627 => ?_)
  have tz13627 := i_addT hz13627 (rfl : i.toInt = i.toInt) (kc_5 : (5 : Int32).toInt = 5) (by omega) (by omega)
  refine s_iald z13627.toInt.toNat hM hW hXB (by omega) (by omega) (by omega) dL_law_383 ?_
  refine q_top (fun a13628 ha13628 => ?_)
  refine q_callV (As := [.int a13620, .int a13622, .int a13624, .int a13626, .int a13628]) (rest := []) hM hW hR hC myX11_feed (kAW (v_1_11 (List.mem_of_getElem? (i := 7) rfl)) rfl) (rfl : vwCl[11]? = some (RX11, TX11, 16)) rfl lb_0.1 (shO hP.1 lb_0) (p_X11_feed _ _ cA ad g a13620 a13622 a13624 a13626 a13628  hP.1 hP.2.1) ⟨by decide, by decide⟩ rfl rfl hl.1 (Nat.le_of_ble_eq_true rfl) dL_law_384 (fun v g1 H locs hp hW => ?_)
  obtain ⟨r1, rfl, hs1, hG1, hf1⟩ := hp
  have hP0 := hP
  have hP : PI ad cA g1 := PI_fr hP0 hs1 hG1 hf1 (by first | decide | omega) (by first | decide | omega) (by first | decide | omega) (by first | decide | omega) (by first | decide | omega) (by first | decide | omega) (by first | decide | omega) (by first | decide | omega) (by first | decide | omega)
  refine q_pop hM dL_law_387 rfl ?_
  refine q_aload_n hM dL_law_388 (lv_at hl 1 rfl) ?_
  refine q_aload_n hM dL_law_389 (lv_at hl 3 rfl) ?_
  refine q_iload_n hM dL_law_390 (lv_at hl 0 rfl) ?_
  refine q_iconst (v := (1 : Int32)) hM dL_law_391 (by decide) ?_
  refine q_iadd hM dL_law_392 (fun z13629 hz13629 => ?_)
  have tz13629 := i_addT hz13629 (rfl : i.toInt = i.toInt) (kc_1 : (1 : Int32).toInt = 1) (by omega) (by omega)
  refine s_iald z13629.toInt.toNat hM hW hXB (by omega) (by omega) (by omega) dL_law_393 ?_
  refine q_top (fun a13630 ha13630 => ?_)
  refine q_aload_n hM dL_law_394 (lv_at hl 3 rfl) ?_
  refine q_iload_n hM dL_law_395 (lv_at hl 0 rfl) ?_
  refine q_iconst (v := (2 : Int32)) hM dL_law_396 (by decide) ?_
  refine q_iadd hM dL_law_397 (fun z13631 hz13631 => ?_)
  have tz13631 := i_addT hz13631 (rfl : i.toInt = i.toInt) (kc_2 : (2 : Int32).toInt = 2) (by omega) (by omega)
  refine s_iald z13631.toInt.toNat hM hW hXB (by omega) (by omega) (by omega) dL_law_398 ?_
  refine q_top (fun a13632 ha13632 => ?_)
  refine q_aload_n hM dL_law_399 (lv_at hl 3 rfl) ?_
  refine q_iload_n hM dL_law_400 (lv_at hl 0 rfl) ?_
  refine q_iconst (v := (3 : Int32)) hM dL_law_401 (by decide) ?_
  refine q_iadd hM dL_law_402 (fun z13633 hz13633 => ?_)
  have tz13633 := i_addT hz13633 (rfl : i.toInt = i.toInt) (kc_3 : (3 : Int32).toInt = 3) (by omega) (by omega)
  refine s_iald z13633.toInt.toNat hM hW hXB (by omega) (by omega) (by omega) dL_law_403 ?_
  refine q_top (fun a13634 ha13634 => ?_)
  refine q_aload_n hM dL_law_404 (lv_at hl 3 rfl) ?_
  refine q_iload_n hM dL_law_405 (lv_at hl 0 rfl) ?_
  refine q_iconst (v := (4 : Int32)) hM dL_law_406 (by decide) ?_
  refine q_iadd hM dL_law_407 (fun z13635 hz13635 => ?_)
  have tz13635 := i_addT hz13635 (rfl : i.toInt = i.toInt) (kc_4 : (4 : Int32).toInt = 4) (by omega) (by omega)
  refine s_iald z13635.toInt.toNat hM hW hXB (by omega) (by omega) (by omega) dL_law_408 ?_
  refine q_top (fun a13636 ha13636 => ?_)
  refine q_aload_n hM dL_law_409 (lv_at hl 3 rfl) ?_
  refine q_iload_n hM dL_law_410 (lv_at hl 0 rfl) ?_
  refine q_iconst (v := (5 : Int32)) hM dL_law_411 (by decide) ?_
  refine q_iadd hM dL_law_412 (fun z13637 hz13637 => ?_)
  have tz13637 := i_addT hz13637 (rfl : i.toInt = i.toInt) (kc_5 : (5 : Int32).toInt = 5) (by omega) (by omega)
  refine s_iald z13637.toInt.toNat hM hW hXB (by omega) (by omega) (by omega) dL_law_413 ?_
  refine q_top (fun a13638 ha13638 => ?_)
  refine q_callV (As := [.int a13630, .int a13632, .int a13634, .int a13636, .int a13638]) (rest := []) hM hW hR hC myX12_feed (kAW (v_5_4 (List.mem_of_getElem? (i := 1) rfl)) rfl) (rfl : vwCl[12]? = some (RX12, TX12, 86)) rfl lb_129.1 (shO hP.1 lb_129) (p_X12_feed _ _ cA ad g1 a13630 a13632 a13634 a13636 a13638 hP.1 hP.2.1 hP.2.2.2.2) ⟨by decide, by decide⟩ rfl rfl hl.1 (Nat.le_of_ble_eq_true rfl) dL_law_414 (fun v g2 H locs hp hW => ?_)
  obtain ⟨r2, rfl, hs2, hG2, hf2, ha2⟩ := hp
  have hP1 := hP
  have hP : PI ad cA g2 := by
    obtain ⟨lw9, lwn9, c9, h139, h149⟩ := hP1.2.2.1
    exact ⟨hs2, hG2, ⟨lw9, lwn9, c9, (hf2.1 0 13 (by omega)).trans h139, (hf2.1 0 14 (by omega)).trans h149⟩, LWQ_fr hP1.2.2.2.1 hf2 (by omega) (by omega) (by omega) (by omega) (by omega) (by omega), ha2⟩
  have qa13630 : a13630 = a13620 := by rw [ha13630, ha13620]; congr 1; omega
  have qa13632 : a13632 = a13622 := by rw [ha13632, ha13622]; congr 1; omega
  have qa13634 : a13634 = a13624 := by rw [ha13634, ha13624]; congr 1; omega
  have qa13636 : a13636 = a13626 := by rw [ha13636, ha13626]; congr 1; omega
  have qa13638 : a13638 = a13628 := by rw [ha13638, ha13628]; congr 1; omega
  first | rw [qa13630] at ha2 | skip
  first | rw [qa13632] at ha2 | skip
  first | rw [qa13634] at ha2 | skip
  first | rw [qa13636] at ha2 | skip
  first | rw [qa13638] at ha2 | skip
  refine q_pop hM dL_law_417 rfl ?_
  refine q_goto (tgt := 1457) hM dL_law_418 (by decide) ?_
  exact kk _ _ _ _ hP ⟨(by rw [show fI g2 3 2 = fI g 3 2 from (FRf hf1 hf2 (by first | decide | omega) (by first | decide | omega)), show arI g2 131 = arI g 131 from ((hf2.2.1 131 (by first | decide | omega)).trans (hf1.2.1 131 (by first | decide | omega)))]; exact hRl.1), (by rw [show fI g2 18 3 = fI g 18 3 from (FRf hf1 hf2 (by first | decide | omega) (by first | decide | omega)), show arI g2 158 = arI g 158 from ((hf2.2.1 158 (by first | decide | omega)).trans (hf1.2.1 158 (by first | decide | omega)))]; exact hRl.2.1), (by rw [show fI g2 30 3 = fI g 30 3 from (FRf hf1 hf2 (by first | decide | omega) (by first | decide | omega)), show arI g2 162 = arI g 162 from ((hf2.2.1 162 (by first | decide | omega)).trans (hf1.2.1 162 (by first | decide | omega)))]; exact hRl.2.2.1), (((FRf hf1 hf2 (by first | decide | omega) (by first | decide | omega))).trans (hRl.2.2.2.1.trans ((FRf hf1 hf2 (by first | decide | omega) (by first | decide | omega))).symm)), (((FRf hf1 hf2 (by first | decide | omega) (by first | decide | omega))).trans (hRl.2.2.2.2.1.trans ((FRf hf1 hf2 (by first | decide | omega) (by first | decide | omega))).symm)), (((FRf hf1 hf2 (by first | decide | omega) (by first | decide | omega))).trans (hRl.2.2.2.2.2.trans (congrFun ((hf2.2.1 166 (by first | decide | omega)).trans (hf1.2.1 166 (by first | decide | omega))) 1).symm))⟩ hW hl

set_option maxRecDepth 100000 in
set_option maxHeartbeats 4000000 in
theorem lc_art {K : KT} {cA : Nat → ClassId} {ad : Nat → Nat} {b L : Nat} {xs : Nat → Int32} {H : Heap} {locs : List Loc} {ls : Array Slot} {g : Nat → va_E} {i : Int32} (hM : MB K cA code 4 R_law) (hXB : XB K b L xs) (hL : L ≤ 3072) (hR : HasRoom K 2048 84000) (hC : Cells K 600000 7302250) (hP : PI ad cA g) (hRl : RP g) (hi0 : 0 ≤ i.toInt) (hi : i.toInt + 6 ≤ L) (hW : WB NN ad K g H locs) (hl : lv_has ls 4 [(3, .int i), (2, .ref (ad 129)), (1, .ref (ad 0)), (0, .ref b)]) (kk : ∀ (g : Nat → va_E) (H : Heap) (locs : List Loc) (ls : Array Slot), PI ad cA g → RP g → WB NN ad K g H locs → lv_has ls 4 [(3, .int i), (2, .ref (ad 129)), (1, .ref (ad 0)), (0, .ref b)] → XX K 600000 7302250 H locs 1457 ls []) : XX K 600000 7302250 H locs 421 ls [] := by
  have hLn : L < 1000000 := by omega
  obtain ⟨lw, lwn, hlc, h13, h14⟩ := id hP.2.2.1
  refine q_aload_n hM dL_law_421 (lv_at hl 2 rfl) ?_
  refine q_aload_n hM dL_law_422 (lv_at hl 3 rfl) ?_
  refine q_iload_n hM dL_law_423 (lv_at hl 0 rfl) ?_
  refine q_iconst (v := (1 : Int32)) hM dL_law_424 (by decide) ?_
  refine q_iadd hM dL_law_425 (fun z13639 hz13639 => ?_)
  have tz13639 := i_addT hz13639 (rfl : i.toInt = i.toInt) (kc_1 : (1 : Int32).toInt = 1) (by omega) (by omega)
  refine s_iald z13639.toInt.toNat hM hW hXB (by omega) (by omega) (by omega) dL_law_426 ?_
  refine q_top (fun a13640 ha13640 => ?_)
  refine q_aload_n hM dL_law_427 (lv_at hl 3 rfl) ?_
  refine q_iload_n hM dL_law_428 (lv_at hl 0 rfl) ?_
  refine q_iconst (v := (2 : Int32)) hM dL_law_429 (by decide) ?_
  refine q_iadd hM dL_law_430 (fun z13641 hz13641 => ?_)
  have tz13641 := i_addT hz13641 (rfl : i.toInt = i.toInt) (kc_2 : (2 : Int32).toInt = 2) (by omega) (by omega)
  refine s_iald z13641.toInt.toNat hM hW hXB (by omega) (by omega) (by omega) dL_law_431 ?_
  refine q_top (fun a13642 ha13642 => ?_)
  refine q_callV (As := [.int a13640, .int a13642]) (rest := []) hM hW hR hC myX11_art (kAW (v_1_11 (List.mem_of_getElem? (i := 15) rfl)) rfl) (rfl : vwCl[11]? = some (RX11, TX11, 16)) rfl lb_0.1 (shO hP.1 lb_0) (p_X11_art _ _ cA ad g a13640 a13642  hP.1 hP.2.1) ⟨by decide, by decide⟩ rfl rfl hl.1 (Nat.le_of_ble_eq_true rfl) dL_law_432 (fun v g1 H locs hp hW => ?_)
  obtain ⟨r1, rfl, hs1, hG1, hf1⟩ := hp
  have hP0 := hP
  have hP : PI ad cA g1 := PI_fr hP0 hs1 hG1 hf1 (by first | decide | omega) (by first | decide | omega) (by first | decide | omega) (by first | decide | omega) (by first | decide | omega) (by first | decide | omega) (by first | decide | omega) (by first | decide | omega) (by first | decide | omega)
  refine q_pop hM dL_law_435 rfl ?_
  refine q_aload_n hM dL_law_436 (lv_at hl 1 rfl) ?_
  refine q_aload_n hM dL_law_437 (lv_at hl 3 rfl) ?_
  refine q_iload_n hM dL_law_438 (lv_at hl 0 rfl) ?_
  refine q_iconst (v := (1 : Int32)) hM dL_law_439 (by decide) ?_
  refine q_iadd hM dL_law_440 (fun z13643 hz13643 => ?_)
  have tz13643 := i_addT hz13643 (rfl : i.toInt = i.toInt) (kc_1 : (1 : Int32).toInt = 1) (by omega) (by omega)
  refine s_iald z13643.toInt.toNat hM hW hXB (by omega) (by omega) (by omega) dL_law_441 ?_
  refine q_top (fun a13644 ha13644 => ?_)
  refine q_aload_n hM dL_law_442 (lv_at hl 3 rfl) ?_
  refine q_iload_n hM dL_law_443 (lv_at hl 0 rfl) ?_
  refine q_iconst (v := (2 : Int32)) hM dL_law_444 (by decide) ?_
  refine q_iadd hM dL_law_445 (fun z13645 hz13645 => ?_)
  have tz13645 := i_addT hz13645 (rfl : i.toInt = i.toInt) (kc_2 : (2 : Int32).toInt = 2) (by omega) (by omega)
  refine s_iald z13645.toInt.toNat hM hW hXB (by omega) (by omega) (by omega) dL_law_446 ?_
  refine q_top (fun a13646 ha13646 => ?_)
  refine q_callV (As := [.int a13644, .int a13646]) (rest := []) hM hW hR hC myX12_art (kAW (v_5_8 (List.mem_of_getElem? (i := 1) rfl)) rfl) (rfl : vwCl[12]? = some (RX12, TX12, 86)) rfl lb_129.1 (shO hP.1 lb_129) (p_X12_art _ _ cA ad g1 a13644 a13646 hP.1 hP.2.1 hP.2.2.2.2) ⟨by decide, by decide⟩ rfl rfl hl.1 (Nat.le_of_ble_eq_true rfl) dL_law_447 (fun v g2 H locs hp hW => ?_)
  obtain ⟨r2, rfl, hs2, hG2, hf2⟩ := hp
  have hP1 := hP
  have hP : PI ad cA g2 := PI_fr hP1 hs2 hG2 hf2 (by first | decide | omega) (by first | decide | omega) (by first | decide | omega) (by first | decide | omega) (by first | decide | omega) (by first | decide | omega) (by first | decide | omega) (by first | decide | omega) (by first | decide | omega)
  have qa13644 : a13644 = a13640 := by rw [ha13644, ha13640]; congr 1; omega
  have qa13646 : a13646 = a13642 := by rw [ha13646, ha13642]; congr 1; omega
  refine q_pop hM dL_law_450 rfl ?_
  refine q_goto (tgt := 1457) hM dL_law_451 (by decide) ?_
  exact kk _ _ _ _ hP ⟨(by rw [show fI g2 3 2 = fI g 3 2 from (FRf hf1 hf2 (by first | decide | omega) (by first | decide | omega)), show arI g2 131 = arI g 131 from ((hf2.2.1 131 (by first | decide | omega)).trans (hf1.2.1 131 (by first | decide | omega)))]; exact hRl.1), (by rw [show fI g2 18 3 = fI g 18 3 from (FRf hf1 hf2 (by first | decide | omega) (by first | decide | omega)), show arI g2 158 = arI g 158 from ((hf2.2.1 158 (by first | decide | omega)).trans (hf1.2.1 158 (by first | decide | omega)))]; exact hRl.2.1), (by rw [show fI g2 30 3 = fI g 30 3 from (FRf hf1 hf2 (by first | decide | omega) (by first | decide | omega)), show arI g2 162 = arI g 162 from ((hf2.2.1 162 (by first | decide | omega)).trans (hf1.2.1 162 (by first | decide | omega)))]; exact hRl.2.2.1), (((FRf hf1 hf2 (by first | decide | omega) (by first | decide | omega))).trans (hRl.2.2.2.1.trans ((FRf hf1 hf2 (by first | decide | omega) (by first | decide | omega))).symm)), (((FRf hf1 hf2 (by first | decide | omega) (by first | decide | omega))).trans (hRl.2.2.2.2.1.trans ((FRf hf1 hf2 (by first | decide | omega) (by first | decide | omega))).symm)), (((FRf hf1 hf2 (by first | decide | omega) (by first | decide | omega))).trans (hRl.2.2.2.2.2.trans (congrFun ((hf2.2.1 166 (by first | decide | omega)).trans (hf1.2.1 166 (by first | decide | omega))) 1).symm))⟩ hW hl

set_option maxRecDepth 100000 in
set_option maxHeartbeats 4000000 in
theorem lc_law {K : KT} {cA : Nat → ClassId} {ad : Nat → Nat} {b L : Nat} {xs : Nat → Int32} {H : Heap} {locs : List Loc} {ls : Array Slot} {g : Nat → va_E} {i : Int32} (hM : MB K cA code 4 R_law) (hXB : XB K b L xs) (hL : L ≤ 3072) (hR : HasRoom K 2048 84000) (hC : Cells K 600000 7302250) (hP : PI ad cA g) (hRl : RP g) (hi0 : 0 ≤ i.toInt) (hi : i.toInt + 6 ≤ L) (hW : WB NN ad K g H locs) (hl : lv_has ls 4 [(3, .int i), (2, .ref (ad 129)), (1, .ref (ad 0)), (0, .ref b)]) (kk : ∀ (g : Nat → va_E) (H : Heap) (locs : List Loc) (ls : Array Slot), PI ad cA g → RP g → WB NN ad K g H locs → lv_has ls 4 [(3, .int i), (2, .ref (ad 129)), (1, .ref (ad 0)), (0, .ref b)] → XX K 600000 7302250 H locs 1457 ls []) : XX K 600000 7302250 H locs 454 ls [] := by
  have hLn : L < 1000000 := by omega
  obtain ⟨lw, lwn, hlc, h13, h14⟩ := id hP.2.2.1
  refine q_aload_n hM dL_law_454 (lv_at hl 2 rfl) ?_
  refine q_aload_n hM dL_law_455 (lv_at hl 3 rfl) ?_
  refine q_iload_n hM dL_law_456 (lv_at hl 0 rfl) ?_
  refine q_iconst (v := (1 : Int32)) hM dL_law_457 (by decide) ?_
  refine q_iadd hM dL_law_458 (fun z13647 hz13647 => ?_)
  have tz13647 := i_addT hz13647 (rfl : i.toInt = i.toInt) (kc_1 : (1 : Int32).toInt = 1) (by omega) (by omega)
  refine s_iald z13647.toInt.toNat hM hW hXB (by omega) (by omega) (by omega) dL_law_459 ?_
  refine q_top (fun a13648 ha13648 => ?_)
  refine q_callV (As := [.int a13648]) (rest := []) hM hW hR hC myX11_law (kAW (v_1_14 (List.mem_of_getElem? (i := 15) rfl)) rfl) (rfl : vwCl[11]? = some (RX11, TX11, 16)) rfl lb_0.1 (shO hP.1 lb_0) (p_X11_law _ _ cA ad g a13648 lw lwn hP.1 hP.2.1 (by unfold isLw; omega) (by unfold isLw; omega) h13 h14) ⟨by decide, by decide⟩ rfl rfl hl.1 (Nat.le_of_ble_eq_true rfl) dL_law_460 (fun v g1 H locs hp hW => ?_)
  obtain ⟨r1, rfl, hs1, hG1, hf1, ha1⟩ := hp
  have hP0 := hP
  have hP : PI ad cA g1 := ⟨hs1, hG1, by rcases ha1 with h9 | h9; exact ⟨lw, lwn, hlc, h9.1, h9.2⟩; exact ⟨lwn, lw, by omega, h9.1, h9.2⟩, LWQ_fr hP0.2.2.2.1 hf1 (by omega) (by omega) (by omega) (by omega) (by omega) (by omega), TB_fr hP0.2.2.2.2 hf1 (by omega)⟩
  refine q_pop hM dL_law_463 rfl ?_
  refine q_aload_n hM dL_law_464 (lv_at hl 1 rfl) ?_
  refine q_aload_n hM dL_law_465 (lv_at hl 3 rfl) ?_
  refine q_iload_n hM dL_law_466 (lv_at hl 0 rfl) ?_
  refine q_iconst (v := (1 : Int32)) hM dL_law_467 (by decide) ?_
  refine q_iadd hM dL_law_468 (fun z13649 hz13649 => ?_)
  have tz13649 := i_addT hz13649 (rfl : i.toInt = i.toInt) (kc_1 : (1 : Int32).toInt = 1) (by omega) (by omega)
  refine s_iald z13649.toInt.toNat hM hW hXB (by omega) (by omega) (by omega) dL_law_469 ?_
  refine q_top (fun a13650 ha13650 => ?_)
  refine q_callV (As := [.int a13650]) (rest := []) hM hW hR hC myX12_law (kAW (v_5_11 (List.mem_of_getElem? (i := 6) rfl)) rfl) (rfl : vwCl[12]? = some (RX12, TX12, 86)) rfl lb_129.1 (shO hP.1 lb_129) (p_X12_law _ _ cA ad g1 a13650 (fI g1 129 32) hP.1 hP.2.1 (shI hP.1 lb_129 (by decide) (by decide)) hP.2.2.2.1) ⟨by decide, by decide⟩ rfl rfl hl.1 (Nat.le_of_ble_eq_true rfl) dL_law_470 (fun v g2 H locs hp hW => ?_)
  obtain ⟨r2, rfl, hs2, hG2, hf2, ha2⟩ := hp
  have hP1 := hP
  have hP : PI ad cA g2 := by
    obtain ⟨lw9, lwn9, c9, h139, h149⟩ := hP1.2.2.1
    exact ⟨hs2, hG2, ⟨lw9, lwn9, c9, (hf2.1 0 13 (by omega)).trans h139, (hf2.1 0 14 (by omega)).trans h149⟩, ha2, TB_fr hP1.2.2.2.2 hf2 (by omega)⟩
  have qa13650 : a13650 = a13648 := by rw [ha13650, ha13648]; congr 1; omega
  first | rw [qa13650] at ha2 | skip
  refine q_pop hM dL_law_473 rfl ?_
  refine q_goto (tgt := 1457) hM dL_law_474 (by decide) ?_
  exact kk _ _ _ _ hP ⟨(by rw [show fI g2 3 2 = fI g 3 2 from (FRf hf1 hf2 (by omega) (by first | decide | omega)), show arI g2 131 = arI g 131 from ((hf2.2.1 131 (by first | decide | omega)).trans (hf1.2.1 131 (by omega)))]; exact hRl.1), (by rw [show fI g2 18 3 = fI g 18 3 from (FRf hf1 hf2 (by omega) (by first | decide | omega)), show arI g2 158 = arI g 158 from ((hf2.2.1 158 (by first | decide | omega)).trans (hf1.2.1 158 (by omega)))]; exact hRl.2.1), (by rw [show fI g2 30 3 = fI g 30 3 from (FRf hf1 hf2 (by omega) (by first | decide | omega)), show arI g2 162 = arI g 162 from ((hf2.2.1 162 (by first | decide | omega)).trans (hf1.2.1 162 (by omega)))]; exact hRl.2.2.1), (((FRf hf1 hf2 (by omega) (by first | decide | omega))).trans (hRl.2.2.2.1.trans ((FRf hf1 hf2 (by omega) (by first | decide | omega))).symm)), (((FRf hf1 hf2 (by omega) (by first | decide | omega))).trans (hRl.2.2.2.2.1.trans ((FRf hf1 hf2 (by omega) (by first | decide | omega))).symm)), (((FRf hf1 hf2 (by omega) (by first | decide | omega))).trans (hRl.2.2.2.2.2.trans (congrFun ((hf2.2.1 166 (by first | decide | omega)).trans (hf1.2.1 166 (by omega))) 1).symm))⟩ hW hl

set_option maxRecDepth 100000 in
set_option maxHeartbeats 4000000 in
theorem lc_grade {K : KT} {cA : Nat → ClassId} {ad : Nat → Nat} {b L : Nat} {xs : Nat → Int32} {H : Heap} {locs : List Loc} {ls : Array Slot} {g : Nat → va_E} {i : Int32} (hM : MB K cA code 4 R_law) (hXB : XB K b L xs) (hL : L ≤ 3072) (hR : HasRoom K 2048 84000) (hC : Cells K 600000 7302250) (hP : PI ad cA g) (hRl : RP g) (hi0 : 0 ≤ i.toInt) (hi : i.toInt + 6 ≤ L) (hW : WB NN ad K g H locs) (hl : lv_has ls 4 [(3, .int i), (2, .ref (ad 129)), (1, .ref (ad 0)), (0, .ref b)]) (kk : ∀ (g : Nat → va_E) (H : Heap) (locs : List Loc) (ls : Array Slot), PI ad cA g → RP g → WB NN ad K g H locs → lv_has ls 4 [(3, .int i), (2, .ref (ad 129)), (1, .ref (ad 0)), (0, .ref b)] → XX K 600000 7302250 H locs 1457 ls []) : XX K 600000 7302250 H locs 477 ls [] := by
  have hLn : L < 1000000 := by omega
  obtain ⟨lw, lwn, hlc, h13, h14⟩ := id hP.2.2.1
  refine q_aload_n hM dL_law_477 (lv_at hl 2 rfl) ?_
  refine q_aload_n hM dL_law_478 (lv_at hl 3 rfl) ?_
  refine q_iload_n hM dL_law_479 (lv_at hl 0 rfl) ?_
  refine q_iconst (v := (1 : Int32)) hM dL_law_480 (by decide) ?_
  refine q_iadd hM dL_law_481 (fun z13651 hz13651 => ?_)
  have tz13651 := i_addT hz13651 (rfl : i.toInt = i.toInt) (kc_1 : (1 : Int32).toInt = 1) (by omega) (by omega)
  refine s_iald z13651.toInt.toNat hM hW hXB (by omega) (by omega) (by omega) dL_law_482 ?_
  refine q_top (fun a13652 ha13652 => ?_)
  refine q_aload_n hM dL_law_483 (lv_at hl 3 rfl) ?_
  refine q_iload_n hM dL_law_484 (lv_at hl 0 rfl) ?_
  refine q_iconst (v := (2 : Int32)) hM dL_law_485 (by decide) ?_
  refine q_iadd hM dL_law_486 (fun z13653 hz13653 => ?_)
  have tz13653 := i_addT hz13653 (rfl : i.toInt = i.toInt) (kc_2 : (2 : Int32).toInt = 2) (by omega) (by omega)
  refine s_iald z13653.toInt.toNat hM hW hXB (by omega) (by omega) (by omega) dL_law_487 ?_
  refine q_top (fun a13654 ha13654 => ?_)
  refine q_callV (As := [.int a13652, .int a13654]) (rest := []) hM hW hR hC myX11_grade (kAW (v_2_8 (List.mem_of_getElem? (i := 15) rfl)) rfl) (rfl : vwCl[11]? = some (RX11, TX11, 16)) rfl lb_0.1 (shO hP.1 lb_0) (p_X11_grade _ _ cA ad g a13652 a13654  hP.1 hP.2.1) ⟨by decide, by decide⟩ rfl rfl hl.1 (Nat.le_of_ble_eq_true rfl) dL_law_488 (fun v g1 H locs hp hW => ?_)
  obtain ⟨r1, rfl, hs1, hG1, hf1, ha1⟩ := hp
  have hP0 := hP
  have hP : PI ad cA g1 := PI_fr hP0 hs1 hG1 hf1 (by first | decide | omega) (by first | decide | omega) (by first | decide | omega) (by first | decide | omega) (by first | decide | omega) (by first | decide | omega) (by first | decide | omega) (by first | decide | omega) (by first | decide | omega)
  refine q_pop hM dL_law_491 rfl ?_
  refine q_aload_n hM dL_law_492 (lv_at hl 1 rfl) ?_
  refine q_aload_n hM dL_law_493 (lv_at hl 3 rfl) ?_
  refine q_iload_n hM dL_law_494 (lv_at hl 0 rfl) ?_
  refine q_iconst (v := (1 : Int32)) hM dL_law_495 (by decide) ?_
  refine q_iadd hM dL_law_496 (fun z13655 hz13655 => ?_)
  have tz13655 := i_addT hz13655 (rfl : i.toInt = i.toInt) (kc_1 : (1 : Int32).toInt = 1) (by omega) (by omega)
  refine s_iald z13655.toInt.toNat hM hW hXB (by omega) (by omega) (by omega) dL_law_497 ?_
  refine q_top (fun a13656 ha13656 => ?_)
  refine q_aload_n hM dL_law_498 (lv_at hl 3 rfl) ?_
  refine q_iload_n hM dL_law_499 (lv_at hl 0 rfl) ?_
  refine q_iconst (v := (2 : Int32)) hM dL_law_500 (by decide) ?_
  refine q_iadd hM dL_law_501 (fun z13657 hz13657 => ?_)
  have tz13657 := i_addT hz13657 (rfl : i.toInt = i.toInt) (kc_2 : (2 : Int32).toInt = 2) (by omega) (by omega)
  refine s_iald z13657.toInt.toNat hM hW hXB (by omega) (by omega) (by omega) dL_law_502 ?_
  refine q_top (fun a13658 ha13658 => ?_)
  refine q_callV (As := [.int a13656, .int a13658]) (rest := []) hM hW hR hC myX12_grade (kAW (v_5_11 (List.mem_of_getElem? (i := 1) rfl)) rfl) (rfl : vwCl[12]? = some (RX12, TX12, 86)) rfl lb_129.1 (shO hP.1 lb_129) (p_X12_grade _ _ cA ad g1 a13656 a13658 hP.1 hP.2.1) ⟨by decide, by decide⟩ rfl rfl hl.1 (Nat.le_of_ble_eq_true rfl) dL_law_503 (fun v g2 H locs hp hW => ?_)
  obtain ⟨r2, rfl, hs2, hG2, hf2, ha2⟩ := hp
  have hP1 := hP
  have hP : PI ad cA g2 := PI_fr hP1 hs2 hG2 hf2 (by first | decide | omega) (by first | decide | omega) (by first | decide | omega) (by first | decide | omega) (by first | decide | omega) (by first | decide | omega) (by first | decide | omega) (by first | decide | omega) (by first | decide | omega)
  have qa13656 : a13656 = a13652 := by rw [ha13656, ha13652]; congr 1; omega
  have qa13658 : a13658 = a13654 := by rw [ha13658, ha13654]; congr 1; omega
  first | rw [qa13656] at ha2 | skip
  first | rw [qa13658] at ha2 | skip
  refine q_pop hM dL_law_506 rfl ?_
  refine q_goto (tgt := 1457) hM dL_law_507 (by decide) ?_
  exact kk _ _ _ _ hP ⟨(by rw [show fI g2 3 2 = fI g 3 2 from (FRf hf1 hf2 (by first | decide | omega) (by first | decide | omega)), show arI g2 131 = arI g 131 from ((hf2.2.1 131 (by first | decide | omega)).trans (hf1.2.1 131 (by first | decide | omega)))]; exact hRl.1), (by rw [show fI g2 18 3 = fI g 18 3 from (FRf hf1 hf2 (by first | decide | omega) (by first | decide | omega)), show arI g2 158 = arI g 158 from ((hf2.2.1 158 (by first | decide | omega)).trans (hf1.2.1 158 (by first | decide | omega)))]; exact hRl.2.1), (by rw [show fI g2 30 3 = fI g 30 3 from (FRf hf1 hf2 (by first | decide | omega) (by first | decide | omega)), show arI g2 162 = arI g 162 from ((hf2.2.1 162 (by first | decide | omega)).trans (hf1.2.1 162 (by first | decide | omega)))]; exact hRl.2.2.1), (((FRf hf1 hf2 (by first | decide | omega) (by first | decide | omega))).trans (hRl.2.2.2.1.trans ((FRf hf1 hf2 (by first | decide | omega) (by first | decide | omega))).symm)), (((FRf hf1 hf2 (by first | decide | omega) (by first | decide | omega))).trans (hRl.2.2.2.2.1.trans ((FRf hf1 hf2 (by first | decide | omega) (by first | decide | omega))).symm)), (((FRf hf1 hf2 (by first | decide | omega) (by first | decide | omega))).trans (hRl.2.2.2.2.2.trans (congrFun ((hf2.2.1 166 (by first | decide | omega)).trans (hf1.2.1 166 (by first | decide | omega))) 1).symm))⟩ hW hl

set_option maxRecDepth 100000 in
set_option maxHeartbeats 4000000 in
theorem lc_exam {K : KT} {cA : Nat → ClassId} {ad : Nat → Nat} {b L : Nat} {xs : Nat → Int32} {H : Heap} {locs : List Loc} {ls : Array Slot} {g : Nat → va_E} {i : Int32} (hM : MB K cA code 4 R_law) (hXB : XB K b L xs) (hL : L ≤ 3072) (hR : HasRoom K 2048 84000) (hC : Cells K 600000 7302250) (hP : PI ad cA g) (hRl : RP g) (hi0 : 0 ≤ i.toInt) (hi : i.toInt + 6 ≤ L) (hW : WB NN ad K g H locs) (hl : lv_has ls 4 [(3, .int i), (2, .ref (ad 129)), (1, .ref (ad 0)), (0, .ref b)]) (kk : ∀ (g : Nat → va_E) (H : Heap) (locs : List Loc) (ls : Array Slot), PI ad cA g → RP g → WB NN ad K g H locs → lv_has ls 4 [(3, .int i), (2, .ref (ad 129)), (1, .ref (ad 0)), (0, .ref b)] → XX K 600000 7302250 H locs 1457 ls []) : XX K 600000 7302250 H locs 510 ls [] := by
  have hLn : L < 1000000 := by omega
  obtain ⟨lw, lwn, hlc, h13, h14⟩ := id hP.2.2.1
  refine q_aload_n hM dL_law_510 (lv_at hl 2 rfl) ?_
  refine q_aload_n hM dL_law_511 (lv_at hl 3 rfl) ?_
  refine q_iload_n hM dL_law_512 (lv_at hl 0 rfl) ?_
  refine q_iconst (v := (1 : Int32)) hM dL_law_513 (by decide) ?_
  refine q_iadd hM dL_law_514 (fun z13659 hz13659 => ?_)
  have tz13659 := i_addT hz13659 (rfl : i.toInt = i.toInt) (kc_1 : (1 : Int32).toInt = 1) (by omega) (by omega)
  refine s_iald z13659.toInt.toNat hM hW hXB (by omega) (by omega) (by omega) dL_law_515 ?_
  refine q_top (fun a13660 ha13660 => ?_)
  refine q_aload_n hM dL_law_516 (lv_at hl 3 rfl) ?_
  refine q_iload_n hM dL_law_517 (lv_at hl 0 rfl) ?_
  refine q_iconst (v := (2 : Int32)) hM dL_law_518 (by decide) ?_
  refine q_iadd hM dL_law_519 (fun z13661 hz13661 => ?_)
  have tz13661 := i_addT hz13661 (rfl : i.toInt = i.toInt) (kc_2 : (2 : Int32).toInt = 2) (by omega) (by omega)
  refine s_iald z13661.toInt.toNat hM hW hXB (by omega) (by omega) (by omega) dL_law_520 ?_
  refine q_top (fun a13662 ha13662 => ?_)
  refine q_callV (As := [.int a13660, .int a13662]) (rest := []) hM hW hR hC myX11_exam (kAW (v_2_9 (List.mem_of_getElem? (i := 3) rfl)) rfl) (rfl : vwCl[11]? = some (RX11, TX11, 16)) rfl lb_0.1 (shO hP.1 lb_0) (p_X11_exam _ _ cA ad g a13660 a13662  hP.1 hP.2.1) ⟨by decide, by decide⟩ rfl rfl hl.1 (Nat.le_of_ble_eq_true rfl) dL_law_521 (fun v g1 H locs hp hW => ?_)
  obtain ⟨r1, rfl, hs1, hG1, hf1, ha1⟩ := hp
  have hP0 := hP
  have hP : PI ad cA g1 := PI_fr hP0 hs1 hG1 hf1 (by first | decide | omega) (by first | decide | omega) (by first | decide | omega) (by first | decide | omega) (by first | decide | omega) (by first | decide | omega) (by first | decide | omega) (by first | decide | omega) (by first | decide | omega)
  refine q_pop hM dL_law_524 rfl ?_
  refine q_aload_n hM dL_law_525 (lv_at hl 1 rfl) ?_
  refine q_aload_n hM dL_law_526 (lv_at hl 3 rfl) ?_
  refine q_iload_n hM dL_law_527 (lv_at hl 0 rfl) ?_
  refine q_iconst (v := (1 : Int32)) hM dL_law_528 (by decide) ?_
  refine q_iadd hM dL_law_529 (fun z13663 hz13663 => ?_)
  have tz13663 := i_addT hz13663 (rfl : i.toInt = i.toInt) (kc_1 : (1 : Int32).toInt = 1) (by omega) (by omega)
  refine s_iald z13663.toInt.toNat hM hW hXB (by omega) (by omega) (by omega) dL_law_530 ?_
  refine q_top (fun a13664 ha13664 => ?_)
  refine q_aload_n hM dL_law_531 (lv_at hl 3 rfl) ?_
  refine q_iload_n hM dL_law_532 (lv_at hl 0 rfl) ?_
  refine q_iconst (v := (2 : Int32)) hM dL_law_533 (by decide) ?_
  refine q_iadd hM dL_law_534 (fun z13665 hz13665 => ?_)
  have tz13665 := i_addT hz13665 (rfl : i.toInt = i.toInt) (kc_2 : (2 : Int32).toInt = 2) (by omega) (by omega)
  refine s_iald z13665.toInt.toNat hM hW hXB (by omega) (by omega) (by omega) dL_law_535 ?_
  refine q_top (fun a13666 ha13666 => ?_)
  refine q_callV (As := [.int a13664, .int a13666]) (rest := []) hM hW hR hC myX12_exam (kAW (v_6_2 (List.mem_of_getElem? (i := 13) rfl)) rfl) (rfl : vwCl[12]? = some (RX12, TX12, 86)) rfl lb_129.1 (shO hP.1 lb_129) (p_X12_exam _ _ cA ad g1 a13664 a13666 hP.1 hP.2.1) ⟨by decide, by decide⟩ rfl rfl hl.1 (Nat.le_of_ble_eq_true rfl) dL_law_536 (fun v g2 H locs hp hW => ?_)
  obtain ⟨r2, rfl, hs2, hG2, hf2, ha2⟩ := hp
  have hP1 := hP
  have hP : PI ad cA g2 := PI_fr hP1 hs2 hG2 hf2 (by first | decide | omega) (by first | decide | omega) (by first | decide | omega) (by first | decide | omega) (by first | decide | omega) (by first | decide | omega) (by first | decide | omega) (by first | decide | omega) (by first | decide | omega)
  have qa13664 : a13664 = a13660 := by rw [ha13664, ha13660]; congr 1; omega
  have qa13666 : a13666 = a13662 := by rw [ha13666, ha13662]; congr 1; omega
  first | rw [qa13664] at ha2 | skip
  first | rw [qa13666] at ha2 | skip
  refine q_pop hM dL_law_539 rfl ?_
  refine q_goto (tgt := 1457) hM dL_law_540 (by decide) ?_
  exact kk _ _ _ _ hP ⟨(by rw [show fI g2 3 2 = fI g 3 2 from (FRf hf1 hf2 (by first | decide | omega) (by first | decide | omega)), show arI g2 131 = arI g 131 from ((hf2.2.1 131 (by first | decide | omega)).trans (hf1.2.1 131 (by first | decide | omega)))]; exact hRl.1), (by rw [show fI g2 18 3 = fI g 18 3 from (FRf hf1 hf2 (by first | decide | omega) (by first | decide | omega)), show arI g2 158 = arI g 158 from ((hf2.2.1 158 (by first | decide | omega)).trans (hf1.2.1 158 (by first | decide | omega)))]; exact hRl.2.1), (by rw [show fI g2 30 3 = fI g 30 3 from (FRf hf1 hf2 (by first | decide | omega) (by first | decide | omega)), show arI g2 162 = arI g 162 from ((hf2.2.1 162 (by first | decide | omega)).trans (hf1.2.1 162 (by first | decide | omega)))]; exact hRl.2.2.1), (((FRf hf1 hf2 (by first | decide | omega) (by first | decide | omega))).trans (hRl.2.2.2.1.trans ((FRf hf1 hf2 (by first | decide | omega) (by first | decide | omega))).symm)), (((FRf hf1 hf2 (by first | decide | omega) (by first | decide | omega))).trans (hRl.2.2.2.2.1.trans ((FRf hf1 hf2 (by first | decide | omega) (by first | decide | omega))).symm)), (((FRf hf1 hf2 (by first | decide | omega) (by first | decide | omega))).trans (hRl.2.2.2.2.2.trans (congrFun ((hf2.2.1 166 (by first | decide | omega)).trans (hf1.2.1 166 (by first | decide | omega))) 1).symm))⟩ hW hl

set_option maxRecDepth 100000 in
set_option maxHeartbeats 4000000 in
theorem lc_weeks {K : KT} {cA : Nat → ClassId} {ad : Nat → Nat} {b L : Nat} {xs : Nat → Int32} {H : Heap} {locs : List Loc} {ls : Array Slot} {g : Nat → va_E} {i : Int32} (hM : MB K cA code 4 R_law) (hXB : XB K b L xs) (hL : L ≤ 3072) (hR : HasRoom K 2048 84000) (hC : Cells K 600000 7302250) (hP : PI ad cA g) (hRl : RP g) (hi0 : 0 ≤ i.toInt) (hi : i.toInt + 6 ≤ L) (hW : WB NN ad K g H locs) (hl : lv_has ls 4 [(3, .int i), (2, .ref (ad 129)), (1, .ref (ad 0)), (0, .ref b)]) (kk : ∀ (g : Nat → va_E) (H : Heap) (locs : List Loc) (ls : Array Slot), PI ad cA g → RP g → WB NN ad K g H locs → lv_has ls 4 [(3, .int i), (2, .ref (ad 129)), (1, .ref (ad 0)), (0, .ref b)] → XX K 600000 7302250 H locs 1457 ls []) : XX K 600000 7302250 H locs 543 ls [] := by
  have hLn : L < 1000000 := by omega
  obtain ⟨lw, lwn, hlc, h13, h14⟩ := id hP.2.2.1
  refine q_aload_n hM dL_law_543 (lv_at hl 2 rfl) ?_
  refine q_aload_n hM dL_law_544 (lv_at hl 3 rfl) ?_
  refine q_iload_n hM dL_law_545 (lv_at hl 0 rfl) ?_
  refine q_iconst (v := (1 : Int32)) hM dL_law_546 (by decide) ?_
  refine q_iadd hM dL_law_547 (fun z13667 hz13667 => ?_)
  have tz13667 := i_addT hz13667 (rfl : i.toInt = i.toInt) (kc_1 : (1 : Int32).toInt = 1) (by omega) (by omega)
  refine s_iald z13667.toInt.toNat hM hW hXB (by omega) (by omega) (by omega) dL_law_548 ?_
  refine q_top (fun a13668 ha13668 => ?_)
  refine q_callV (As := [.int a13668]) (rest := []) hM hW hR hC myX11_weeks (kAW (v_2_9 (List.mem_of_getElem? (i := 7) rfl)) rfl) (rfl : vwCl[11]? = some (RX11, TX11, 16)) rfl lb_0.1 (shO hP.1 lb_0) (s_X11_weeks _ _ cA ad g a13668 (fI g 18 4) lw hP.1 hP.2.1 (by unfold isLw; omega) (shI hP.1 lb_18 (by decide) (by decide)) h13) ⟨by decide, by decide⟩ rfl rfl hl.1 (Nat.le_of_ble_eq_true rfl) dL_law_549 (fun v g1 H locs hp hW => ?_)
  obtain ⟨x0, r1, rfl, hs1, hG1, hf1, cx0, cx1⟩ := hp
  have hP0 := hP
  have hP : PI ad cA g1 := PI_fr hP0 hs1 hG1 hf1 (by omega) (by omega) (by omega) (by omega) (by omega) (by omega) (by omega) (by omega) (by omega)
  refine q_pop hM dL_law_552 rfl ?_
  refine q_aload_n hM dL_law_553 (lv_at hl 1 rfl) ?_
  refine q_aload_n hM dL_law_554 (lv_at hl 3 rfl) ?_
  refine q_iload_n hM dL_law_555 (lv_at hl 0 rfl) ?_
  refine q_iconst (v := (1 : Int32)) hM dL_law_556 (by decide) ?_
  refine q_iadd hM dL_law_557 (fun z13669 hz13669 => ?_)
  have tz13669 := i_addT hz13669 (rfl : i.toInt = i.toInt) (kc_1 : (1 : Int32).toInt = 1) (by omega) (by omega)
  refine s_iald z13669.toInt.toNat hM hW hXB (by omega) (by omega) (by omega) dL_law_558 ?_
  refine q_top (fun a13670 ha13670 => ?_)
  refine q_callV (As := [.int a13670]) (rest := []) hM hW hR hC myX12_weeks (kAW (v_6_7 (List.mem_of_getElem? (i := 9) rfl)) rfl) (rfl : vwCl[12]? = some (RX12, TX12, 86)) rfl lb_129.1 (shO hP.1 lb_129) (s_X12_weeks _ _ cA ad g1 a13670 (fI g1 129 56) hP.1 hP.2.1 (shI hP.1 lb_129 (by decide) (by decide)) hP.2.2.2.1.1) ⟨by decide, by decide⟩ rfl rfl hl.1 (Nat.le_of_ble_eq_true rfl) dL_law_559 (fun v g2 H locs hp hW => ?_)
  obtain ⟨m0, r2, rfl, hs2, hG2, hf2, cm0, cm1⟩ := hp
  have hP1 := hP
  have hP : PI ad cA g2 := PI_fr hP1 hs2 hG2 hf2 (by first | decide | omega) (by first | decide | omega) (by first | decide | omega) (by first | decide | omega) (by first | decide | omega) (by first | decide | omega) (by first | decide | omega) (by first | decide | omega) (by first | decide | omega)
  have qa13670 : a13670 = a13668 := by rw [ha13670, ha13668]; congr 1; omega
  first | rw [qa13670] at cm0 | skip
  first | rw [qa13670] at cm1 | skip
  refine q_pop hM dL_law_562 rfl ?_
  refine q_goto (tgt := 1457) hM dL_law_563 (by decide) ?_
  exact kk _ _ _ _ hP ⟨(by rw [show fI g2 3 2 = fI g 3 2 from (FRf hf1 hf2 (by omega) (by first | decide | omega)), show arI g2 131 = arI g 131 from ((hf2.2.1 131 (by first | decide | omega)).trans (hf1.2.1 131 (by omega)))]; exact hRl.1), (by rw [show fI g2 18 3 = fI g 18 3 from (FRf hf1 hf2 (by omega) (by first | decide | omega)), show arI g2 158 = arI g 158 from ((hf2.2.1 158 (by first | decide | omega)).trans (hf1.2.1 158 (by omega)))]; exact hRl.2.1), (by rw [show fI g2 30 3 = fI g 30 3 from (FRf hf1 hf2 (by omega) (by first | decide | omega)), show arI g2 162 = arI g 162 from ((hf2.2.1 162 (by first | decide | omega)).trans (hf1.2.1 162 (by omega)))]; exact hRl.2.2.1), (((FRf hf1 hf2 (by omega) (by first | decide | omega))).trans (hRl.2.2.2.1.trans ((FRf hf1 hf2 (by omega) (by first | decide | omega))).symm)), (by
    rw [show fI g2 18 4 = x0 from ((FR1f hf2 (by first | decide | omega)).trans (fI_of cx0)), show fI g2 129 56 = m0 from fI_of cm0]
    have k5 : fI g1 129 56 = fI g 18 4 := (FR1f hf1 (by omega)).trans hRl.2.2.2.2.1.symm
    rw [k5] at cm1
    unfold WKr at cx1 cm1
    rcases cx1 with h1 | ⟨h1, e1⟩
    · rcases cm1 with h2 | ⟨h2, e2⟩
      · exact Int32.toInt_inj.mp (by omega)
      · exact absurd ⟨h1.1, h1.2.1⟩ h2
    · rcases cm1 with h2 | ⟨h2, e2⟩
      · exact absurd ⟨h2.1, h2.2.1⟩ h1
      · rw [e1, e2]), (((FRf hf1 hf2 (by omega) (by first | decide | omega))).trans (hRl.2.2.2.2.2.trans (congrFun ((hf2.2.1 166 (by first | decide | omega)).trans (hf1.2.1 166 (by omega))) 1).symm))⟩ hW hl
