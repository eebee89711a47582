set_option maxRecDepth 100000 in
set_option maxHeartbeats 4000000 in
theorem lc_fact {K : KT} {cA : Nat → ClassId} {ad : Nat → Nat} {b L : Nat} {xs : Nat → Int32} {H : Heap} {locs : List Loc} {ls : Array Slot} {g : Nat → va_E} {i : Int32} (hM : MB K cA code 4 R_law) (hXB : XB K b L xs) (hL : L ≤ 3072) (hR : HasRoom K 2048 84000) (hC : Cells K 600000 7302250) (hP : PI ad cA g) (hRl : RQ g) (hi0 : 0 ≤ i.toInt) (hi : i.toInt + 6 ≤ L) (hW : WB NN ad K g H locs) (hl : lv_has ls 4 [(3, .int i), (2, .ref (ad 129)), (1, .ref (ad 0)), (0, .ref b)]) (kk : ∀ (g : Nat → va_E) (H : Heap) (locs : List Loc) (ls : Array Slot), PI ad cA g → RQ g → WB NN ad K g H locs → lv_has ls 4 [(3, .int i), (2, .ref (ad 129)), (1, .ref (ad 0)), (0, .ref b)] → XX K 600000 7302250 H locs 1457 ls []) : XX K 600000 7302250 H locs 196 ls [] := by
  have hLn : L < 1000000 := by omega
  obtain ⟨lw, lwn, hlc, h13, h14⟩ := id hP.2.2.1
  refine q_aload_n hM dL_law_196 (lv_at hl 2 rfl) ?_
  refine q_aload_n hM dL_law_197 (lv_at hl 3 rfl) ?_
  refine q_iload_n hM dL_law_198 (lv_at hl 0 rfl) ?_
  refine q_iconst (v := (1 : Int32)) hM dL_law_199 (by decide) ?_
  refine q_iadd hM dL_law_200 (fun z13654 hz13654 => ?_)
  have tz13654 := i_addT hz13654 (rfl : i.toInt = i.toInt) (kc_1 : (1 : Int32).toInt = 1) (by omega) (by omega)
  refine s_iald z13654.toInt.toNat hM hW hXB (by omega) (by omega) (by omega) dL_law_201 ?_
  refine q_top (fun a13655 ha13655 => ?_)
  refine q_aload_n hM dL_law_202 (lv_at hl 3 rfl) ?_
  refine q_iload_n hM dL_law_203 (lv_at hl 0 rfl) ?_
  refine q_iconst (v := (2 : Int32)) hM dL_law_204 (by decide) ?_
  refine q_iadd hM dL_law_205 (fun z13656 hz13656 => ?_)
  have tz13656 := i_addT hz13656 (rfl : i.toInt = i.toInt) (kc_2 : (2 : Int32).toInt = 2) (by omega) (by omega)
  refine s_iald z13656.toInt.toNat hM hW hXB (by omega) (by omega) (by omega) dL_law_206 ?_
  refine q_top (fun a13657 ha13657 => ?_)
  refine q_callV (As := [.int a13655, .int a13657]) (rest := []) hM hW hR hC myX11_fact (kAW (v_1_9 (List.mem_of_getElem? (i := 13) rfl)) rfl) (rfl : vwCl[11]? = some (RX11, TX11, 16)) rfl lb_0.1 (shO hP.1 lb_0) (s_X11_fact _ _ cA ad g a13655 a13657 (fI g 3 2)  hP.1 hP.2.1 (shI hP.1 lb_3 (by decide) (by decide))) ⟨by decide, by decide⟩ rfl rfl hl.1 (Nat.le_of_ble_eq_true rfl) dL_law_207 (fun v g1 H locs hp hW => ?_)
  obtain ⟨x0, r1, rfl, hs1, hG1, hf1, cx0, cx1, ha1⟩ := hp
  have hP0 := hP
  have hP : PI ad cA g1 := PI_fr hP0 hs1 hG1 hf1 (by omega) (by omega) (by omega) (by omega) (by omega) (by omega) (by omega) (by omega) (by omega)
  refine q_pop hM dL_law_210 rfl ?_
  refine q_aload_n hM dL_law_211 (lv_at hl 1 rfl) ?_
  refine q_aload_n hM dL_law_212 (lv_at hl 3 rfl) ?_
  refine q_iload_n hM dL_law_213 (lv_at hl 0 rfl) ?_
  refine q_iconst (v := (1 : Int32)) hM dL_law_214 (by decide) ?_
  refine q_iadd hM dL_law_215 (fun z13658 hz13658 => ?_)
  have tz13658 := i_addT hz13658 (rfl : i.toInt = i.toInt) (kc_1 : (1 : Int32).toInt = 1) (by omega) (by omega)
  refine s_iald z13658.toInt.toNat hM hW hXB (by omega) (by omega) (by omega) dL_law_216 ?_
  refine q_top (fun a13659 ha13659 => ?_)
  refine q_aload_n hM dL_law_217 (lv_at hl 3 rfl) ?_
  refine q_iload_n hM dL_law_218 (lv_at hl 0 rfl) ?_
  refine q_iconst (v := (2 : Int32)) hM dL_law_219 (by decide) ?_
  refine q_iadd hM dL_law_220 (fun z13660 hz13660 => ?_)
  have tz13660 := i_addT hz13660 (rfl : i.toInt = i.toInt) (kc_2 : (2 : Int32).toInt = 2) (by omega) (by omega)
  refine s_iald z13660.toInt.toNat hM hW hXB (by omega) (by omega) (by omega) dL_law_221 ?_
  refine q_top (fun a13661 ha13661 => ?_)
  refine q_callV (As := [.int a13659, .int a13661]) (rest := []) hM hW hR hC myX12_fact (kAW (v_5_4 (List.mem_of_getElem? (i := 9) rfl)) rfl) (rfl : vwCl[12]? = some (RX12, TX12, 86)) rfl lb_129.1 (shO hP.1 lb_129) (s_X12_fact _ _ cA ad g1 a13659 a13661 hP.1 hP.2.1) ⟨by decide, by decide⟩ rfl rfl hl.1 (Nat.le_of_ble_eq_true rfl) dL_law_222 (fun v g2 H locs hp hW => ?_)
  obtain ⟨r2, rfl, hs2, hG2, hf2, cm0, ha2⟩ := hp
  have hP1 := hP
  have hP : PI ad cA g2 := PI_fr hP1 hs2 hG2 hf2 (by omega) (by omega) (by omega) (by omega) (by omega) (by omega) (by omega) (by omega) (by omega)
  have qa13659 : a13659 = a13655 := by rw [ha13659, ha13655]; congr 1; omega
  have qa13661 : a13661 = a13657 := by rw [ha13661, ha13657]; congr 1; omega
  first | rw [qa13659] at ha2 | skip
  first | rw [qa13661] at ha2 | skip
  first | rw [qa13659] at cm0 | skip
  first | rw [qa13661] at cm0 | skip
  refine q_pop hM dL_law_225 rfl ?_
  refine q_goto (tgt := 1457) hM dL_law_226 (by decide) ?_
  exact kk _ _ _ _ hP ⟨⟨(by
    rw [show fI g2 3 2 = x0 from ((FR1f hf2 (by omega)).trans (fI_of cx0))]
    rcases cx1 with ⟨c1, e1⟩ | ⟨c1, e1⟩
    · rcases cm0 with ⟨c2, e2⟩ | ⟨c2, e2⟩
      · exact SM_set hRl.1.1 (by decide) e1 (by rw [e2, (hf1.2.1 131 (by omega))]) (by decide) (by omega) (by omega)
      · exact absurd c1 c2
    · rcases cm0 with ⟨c2, e2⟩ | ⟨c2, e2⟩
      · exact absurd c2 c1
      · rw [e1, e2, (hf1.2.1 131 (by omega))]; exact hRl.1.1), (by rw [show fI g2 18 3 = fI g 18 3 from (FRf hf1 hf2 (by omega) (by omega)), show arI g2 158 = arI g 158 from ((hf2.2.1 158 (by omega)).trans (hf1.2.1 158 (by omega)))]; exact hRl.1.2.1), (by rw [show fI g2 30 3 = fI g 30 3 from (FRf hf1 hf2 (by omega) (by omega)), show arI g2 162 = arI g 162 from ((hf2.2.1 162 (by omega)).trans (hf1.2.1 162 (by omega)))]; exact hRl.1.2.2.1), (((FRf hf1 hf2 (by omega) (by omega))).trans (hRl.1.2.2.2.1.trans ((FRf hf1 hf2 (by omega) (by omega))).symm)), (((FRf hf1 hf2 (by omega) (by omega))).trans (hRl.1.2.2.2.2.1.trans ((FRf hf1 hf2 (by omega) (by omega))).symm)), (((FRf hf1 hf2 (by omega) (by omega))).trans (hRl.1.2.2.2.2.2.trans (congrFun ((hf2.2.1 166 (by omega)).trans (hf1.2.1 166 (by omega))) 1).symm))⟩, (fun k j hk hj => (congrFun ((hf2.2.1 (6 + 1 * k) (by omega)).trans (hf1.2.1 (6 + 1 * k) (by omega))) j).trans ((hRl.2 k j hk hj).trans (congrFun ((hf2.2.1 133 (by omega)).trans (hf1.2.1 133 (by omega))) _).symm))⟩ hW hl

set_option maxRecDepth 100000 in
set_option maxHeartbeats 4000000 in
theorem lc_link {K : KT} {cA : Nat → ClassId} {ad : Nat → Nat} {b L : Nat} {xs : Nat → Int32} {H : Heap} {locs : List Loc} {ls : Array Slot} {g : Nat → va_E} {i : Int32} (hM : MB K cA code 4 R_law) (hXB : XB K b L xs) (hL : L ≤ 3072) (hR : HasRoom K 2048 84000) (hC : Cells K 600000 7302250) (hP : PI ad cA g) (hRl : RQ g) (hi0 : 0 ≤ i.toInt) (hi : i.toInt + 6 ≤ L) (hW : WB NN ad K g H locs) (hl : lv_has ls 4 [(3, .int i), (2, .ref (ad 129)), (1, .ref (ad 0)), (0, .ref b)]) (kk : ∀ (g : Nat → va_E) (H : Heap) (locs : List Loc) (ls : Array Slot), PI ad cA g → RQ g → WB NN ad K g H locs → lv_has ls 4 [(3, .int i), (2, .ref (ad 129)), (1, .ref (ad 0)), (0, .ref b)] → XX K 600000 7302250 H locs 1457 ls []) : XX K 600000 7302250 H locs 229 ls [] := by
  have hLn : L < 1000000 := by omega
  obtain ⟨lw, lwn, hlc, h13, h14⟩ := id hP.2.2.1
  refine q_aload_n hM dL_law_229 (lv_at hl 2 rfl) ?_
  refine q_aload_n hM dL_law_230 (lv_at hl 3 rfl) ?_
  refine q_iload_n hM dL_law_231 (lv_at hl 0 rfl) ?_
  refine q_iconst (v := (1 : Int32)) hM dL_law_232 (by decide) ?_
  refine q_iadd hM dL_law_233 (fun z13662 hz13662 => ?_)
  have tz13662 := i_addT hz13662 (rfl : i.toInt = i.toInt) (kc_1 : (1 : Int32).toInt = 1) (by omega) (by omega)
  refine s_iald z13662.toInt.toNat hM hW hXB (by omega) (by omega) (by omega) dL_law_234 ?_
  refine q_top (fun a13663 ha13663 => ?_)
  refine q_aload_n hM dL_law_235 (lv_at hl 3 rfl) ?_
  refine q_iload_n hM dL_law_236 (lv_at hl 0 rfl) ?_
  refine q_iconst (v := (2 : Int32)) hM dL_law_237 (by decide) ?_
  refine q_iadd hM dL_law_238 (fun z13664 hz13664 => ?_)
  have tz13664 := i_addT hz13664 (rfl : i.toInt = i.toInt) (kc_2 : (2 : Int32).toInt = 2) (by omega) (by omega)
  refine s_iald z13664.toInt.toNat hM hW hXB (by omega) (by omega) (by omega) dL_law_239 ?_
  refine q_top (fun a13665 ha13665 => ?_)
  refine q_aload_n hM dL_law_240 (lv_at hl 3 rfl) ?_
  refine q_iload_n hM dL_law_241 (lv_at hl 0 rfl) ?_
  refine q_iconst (v := (3 : Int32)) hM dL_law_242 (by decide) ?_
  refine q_iadd hM dL_law_243 (fun z13666 hz13666 => ?_)
  have tz13666 := i_addT hz13666 (rfl : i.toInt = i.toInt) (kc_3 : (3 : Int32).toInt = 3) (by omega) (by omega)
  refine s_iald z13666.toInt.toNat hM hW hXB (by omega) (by omega) (by omega) dL_law_244 ?_
  refine q_top (fun a13667 ha13667 => ?_)
  refine q_callV (As := [.int a13663, .int a13665, .int a13667]) (rest := []) hM hW hR hC myX11_link (kAW (v_1_10 (List.mem_of_getElem? (i := 4) rfl)) rfl) (rfl : vwCl[11]? = some (RX11, TX11, 16)) rfl lb_0.1 (shO hP.1 lb_0) (s_X11_link _ _ cA ad g a13663 a13665 a13667 (fI g 3 2)  hP.1 hP.2.1 (shI hP.1 lb_3 (by decide) (by decide))) ⟨by decide, by decide⟩ rfl rfl hl.1 (Nat.le_of_ble_eq_true rfl) dL_law_245 (fun v g1 H locs hp hW => ?_)
  obtain ⟨r1, rfl, hs1, hG1, hf1, cx0, ha1⟩ := hp
  have hP0 := hP
  have hP : PI ad cA g1 := PI_fr hP0 hs1 hG1 hf1 (by omega) (by omega) (by omega) (by omega) (by omega) (by omega) (by omega) (by omega) (by omega)
  refine q_pop hM dL_law_248 rfl ?_
  refine q_aload_n hM dL_law_249 (lv_at hl 1 rfl) ?_
  refine q_aload_n hM dL_law_250 (lv_at hl 3 rfl) ?_
  refine q_iload_n hM dL_law_251 (lv_at hl 0 rfl) ?_
  refine q_iconst (v := (1 : Int32)) hM dL_law_252 (by decide) ?_
  refine q_iadd hM dL_law_253 (fun z13668 hz13668 => ?_)
  have tz13668 := i_addT hz13668 (rfl : i.toInt = i.toInt) (kc_1 : (1 : Int32).toInt = 1) (by omega) (by omega)
  refine s_iald z13668.toInt.toNat hM hW hXB (by omega) (by omega) (by omega) dL_law_254 ?_
  refine q_top (fun a13669 ha13669 => ?_)
  refine q_aload_n hM dL_law_255 (lv_at hl 3 rfl) ?_
  refine q_iload_n hM dL_law_256 (lv_at hl 0 rfl) ?_
  refine q_iconst (v := (2 : Int32)) hM dL_law_257 (by decide) ?_
  refine q_iadd hM dL_law_258 (fun z13670 hz13670 => ?_)
  have tz13670 := i_addT hz13670 (rfl : i.toInt = i.toInt) (kc_2 : (2 : Int32).toInt = 2) (by omega) (by omega)
  refine s_iald z13670.toInt.toNat hM hW hXB (by omega) (by omega) (by omega) dL_law_259 ?_
  refine q_top (fun a13671 ha13671 => ?_)
  refine q_aload_n hM dL_law_260 (lv_at hl 3 rfl) ?_
  refine q_iload_n hM dL_law_261 (lv_at hl 0 rfl) ?_
  refine q_iconst (v := (3 : Int32)) hM dL_law_262 (by decide) ?_
  refine q_iadd hM dL_law_263 (fun z13672 hz13672 => ?_)
  have tz13672 := i_addT hz13672 (rfl : i.toInt = i.toInt) (kc_3 : (3 : Int32).toInt = 3) (by omega) (by omega)
  refine s_iald z13672.toInt.toNat hM hW hXB (by omega) (by omega) (by omega) dL_law_264 ?_
  refine q_top (fun a13673 ha13673 => ?_)
  refine q_callV (As := [.int a13669, .int a13671, .int a13673]) (rest := []) hM hW hR hC myX12_link (kAW (v_5_5 (List.mem_of_getElem? (i := 2) rfl)) rfl) (rfl : vwCl[12]? = some (RX12, TX12, 86)) rfl lb_129.1 (shO hP.1 lb_129) (s_X12_link _ _ cA ad g1 a13669 a13671 a13673 hP.1 hP.2.1) ⟨by decide, by decide⟩ rfl rfl hl.1 (Nat.le_of_ble_eq_true rfl) dL_law_265 (fun v g2 H locs hp hW => ?_)
  obtain ⟨r2, rfl, hs2, hG2, hf2, cm0, ha2⟩ := hp
  have hP1 := hP
  have hP : PI ad cA g2 := PI_fr hP1 hs2 hG2 hf2 (by omega) (by omega) (by omega) (by omega) (by omega) (by omega) (by omega) (by omega) (by omega)
  have qa13669 : a13669 = a13663 := by rw [ha13669, ha13663]; congr 1; omega
  have qa13671 : a13671 = a13665 := by rw [ha13671, ha13665]; congr 1; omega
  have qa13673 : a13673 = a13667 := by rw [ha13673, ha13667]; congr 1; omega
  first | rw [qa13669] at ha2 | skip
  first | rw [qa13671] at ha2 | skip
  first | rw [qa13673] at ha2 | skip
  first | rw [qa13669] at cm0 | skip
  first | rw [qa13671] at cm0 | skip
  first | rw [qa13673] at cm0 | skip
  have bk9 := (hP0.2.1).f (shI hP0.1 lb_3 (by decide) (by decide)) rF_3_2 (by decide)
  have sl0 : bi (fI g 3 2) a13663 = ti (arI g 131) 12 a13663 := SM_bi 12 hRl.1.1 (by omega) (by omega) (by decide) a13663
  have sl1 : bi (fI g 3 2) a13665 = ti (arI g 131) 12 a13665 := SM_bi 12 hRl.1.1 (by omega) (by omega) (by decide) a13665
  rw [hf1.2.1 131 (by omega)] at cm0
  refine q_pop hM dL_law_268 rfl ?_
  refine q_goto (tgt := 1457) hM dL_law_269 (by decide) ?_
  exact kk _ _ _ _ hP ⟨⟨(by rw [show fI g2 3 2 = fI g 3 2 from (FRf hf1 hf2 (by omega) (by omega)), show arI g2 131 = arI g 131 from ((hf2.2.1 131 (by omega)).trans (hf1.2.1 131 (by omega)))]; exact hRl.1.1), (by rw [show fI g2 18 3 = fI g 18 3 from (FRf hf1 hf2 (by omega) (by omega)), show arI g2 158 = arI g 158 from ((hf2.2.1 158 (by omega)).trans (hf1.2.1 158 (by omega)))]; exact hRl.1.2.1), (by rw [show fI g2 30 3 = fI g 30 3 from (FRf hf1 hf2 (by omega) (by omega)), show arI g2 162 = arI g 162 from ((hf2.2.1 162 (by omega)).trans (hf1.2.1 162 (by omega)))]; exact hRl.1.2.2.1), (((FRf hf1 hf2 (by omega) (by omega))).trans (hRl.1.2.2.2.1.trans ((FRf hf1 hf2 (by omega) (by omega))).symm)), (((FRf hf1 hf2 (by omega) (by omega))).trans (hRl.1.2.2.2.2.1.trans ((FRf hf1 hf2 (by omega) (by omega))).symm)), (((FRf hf1 hf2 (by omega) (by omega))).trans (hRl.1.2.2.2.2.2.trans (congrFun ((hf2.2.1 166 (by omega)).trans (hf1.2.1 166 (by omega))) 1).symm))⟩, (by
    rcases cx0 with ⟨c1, e1⟩ | ⟨c1, e1⟩
    · rcases cm0 with ⟨c2, e2⟩ | ⟨c2, e2⟩
      · intro k j hk hj
        rw [hf2.2.1 (6 + 1 * k) (by omega), e1 k hk, e2, hf1.2.1 133 (by omega)]
        exact LK_upd hRl.2 hk hj (by omega) (by omega) (by omega) (by omega)
      · exact absurd (by omega) c2
    · rcases cm0 with ⟨c2, e2⟩ | ⟨c2, e2⟩
      · exact absurd (by have := ti_in c2.1; have := ti_in c2.2.1; omega) c1
      · intro k j hk hj
        rw [hf2.2.1 (6 + 1 * k) (by omega), e1 k hk, e2, hf1.2.1 133 (by omega)]
        exact hRl.2 k j hk hj)⟩ hW hl

set_option maxRecDepth 100000 in
set_option maxHeartbeats 4000000 in
theorem lc_pupil {K : KT} {cA : Nat → ClassId} {ad : Nat → Nat} {b L : Nat} {xs : Nat → Int32} {H : Heap} {locs : List Loc} {ls : Array Slot} {g : Nat → va_E} {i : Int32} (hM : MB K cA code 4 R_law) (hXB : XB K b L xs) (hL : L ≤ 3072) (hR : HasRoom K 2048 84000) (hC : Cells K 600000 7302250) (hP : PI ad cA g) (hRl : RQ g) (hi0 : 0 ≤ i.toInt) (hi : i.toInt + 6 ≤ L) (hW : WB NN ad K g H locs) (hl : lv_has ls 4 [(3, .int i), (2, .ref (ad 129)), (1, .ref (ad 0)), (0, .ref b)]) (kk : ∀ (g : Nat → va_E) (H : Heap) (locs : List Loc) (ls : Array Slot), PI ad cA g → RQ g → WB NN ad K g H locs → lv_has ls 4 [(3, .int i), (2, .ref (ad 129)), (1, .ref (ad 0)), (0, .ref b)] → XX K 600000 7302250 H locs 1457 ls []) : XX K 600000 7302250 H locs 272 ls [] := by
  have hLn : L < 1000000 := by omega
  obtain ⟨lw, lwn, hlc, h13, h14⟩ := id hP.2.2.1
  refine q_aload_n hM dL_law_272 (lv_at hl 2 rfl) ?_
  refine q_aload_n hM dL_law_273 (lv_at hl 3 rfl) ?_
  refine q_iload_n hM dL_law_274 (lv_at hl 0 rfl) ?_
  refine q_iconst (v := (1 : Int32)) hM dL_law_275 (by decide) ?_
  refine q_iadd hM dL_law_276 (fun z13674 hz13674 => ?_)
  have tz13674 := i_addT hz13674 (rfl : i.toInt = i.toInt) (kc_1 : (1 : Int32).toInt = 1) (by omega) (by omega)
  refine s_iald z13674.toInt.toNat hM hW hXB (by omega) (by omega) (by omega) dL_law_277 ?_
  refine q_top (fun a13675 ha13675 => ?_)
  refine q_aload_n hM dL_law_278 (lv_at hl 3 rfl) ?_
  refine q_iload_n hM dL_law_279 (lv_at hl 0 rfl) ?_
  refine q_iconst (v := (2 : Int32)) hM dL_law_280 (by decide) ?_
  refine q_iadd hM dL_law_281 (fun z13676 hz13676 => ?_)
  have tz13676 := i_addT hz13676 (rfl : i.toInt = i.toInt) (kc_2 : (2 : Int32).toInt = 2) (by omega) (by omega)
  refine s_iald z13676.toInt.toNat hM hW hXB (by omega) (by omega) (by omega) dL_law_282 ?_
  refine q_top (fun a13677 ha13677 => ?_)
  refine q_aload_n hM dL_law_283 (lv_at hl 3 rfl) ?_
  refine q_iload_n hM dL_law_284 (lv_at hl 0 rfl) ?_
  refine q_iconst (v := (3 : Int32)) hM dL_law_285 (by decide) ?_
  refine q_iadd hM dL_law_286 (fun z13678 hz13678 => ?_)
  have tz13678 := i_addT hz13678 (rfl : i.toInt = i.toInt) (kc_3 : (3 : Int32).toInt = 3) (by omega) (by omega)
  refine s_iald z13678.toInt.toNat hM hW hXB (by omega) (by omega) (by omega) dL_law_287 ?_
  refine q_top (fun a13679 ha13679 => ?_)
  refine q_callV (As := [.int a13675, .int a13677, .int a13679]) (rest := []) hM hW hR hC myX11_pupil (kAW (v_1_10 (List.mem_of_getElem? (i := 11) rfl)) rfl) (rfl : vwCl[11]? = some (RX11, TX11, 16)) rfl lb_0.1 (shO hP.1 lb_0) (s_X11_pupil _ _ cA ad g a13675 a13677 a13679 (fI g 18 3)  hP.1 hP.2.1 (shI hP.1 lb_18 (by decide) (by decide))) ⟨by decide, by decide⟩ rfl rfl hl.1 (Nat.le_of_ble_eq_true rfl) dL_law_288 (fun v g1 H locs hp hW => ?_)
  obtain ⟨x0, r1, rfl, hs1, hG1, hf1, cx0, cx1, ha1⟩ := hp
  have hP0 := hP
  have hP : PI ad cA g1 := PI_fr hP0 hs1 hG1 hf1 (by omega) (by omega) (by omega) (by omega) (by omega) (by omega) (by omega) (by omega) (by omega)
  refine q_pop hM dL_law_291 rfl ?_
  refine q_aload_n hM dL_law_292 (lv_at hl 1 rfl) ?_
  refine q_aload_n hM dL_law_293 (lv_at hl 3 rfl) ?_
  refine q_iload_n hM dL_law_294 (lv_at hl 0 rfl) ?_
  refine q_iconst (v := (1 : Int32)) hM dL_law_295 (by decide) ?_
  refine q_iadd hM dL_law_296 (fun z13680 hz13680 => ?_)
  have tz13680 := i_addT hz13680 (rfl : i.toInt = i.toInt) (kc_1 : (1 : Int32).toInt = 1) (by omega) (by omega)
  refine s_iald z13680.toInt.toNat hM hW hXB (by omega) (by omega) (by omega) dL_law_297 ?_
  refine q_top (fun a13681 ha13681 => ?_)
  refine q_aload_n hM dL_law_298 (lv_at hl 3 rfl) ?_
  refine q_iload_n hM dL_law_299 (lv_at hl 0 rfl) ?_
  refine q_iconst (v := (2 : Int32)) hM dL_law_300 (by decide) ?_
  refine q_iadd hM dL_law_301 (fun z13682 hz13682 => ?_)
  have tz13682 := i_addT hz13682 (rfl : i.toInt = i.toInt) (kc_2 : (2 : Int32).toInt = 2) (by omega) (by omega)
  refine s_iald z13682.toInt.toNat hM hW hXB (by omega) (by omega) (by omega) dL_law_302 ?_
  refine q_top (fun a13683 ha13683 => ?_)
  refine q_aload_n hM dL_law_303 (lv_at hl 3 rfl) ?_
  refine q_iload_n hM dL_law_304 (lv_at hl 0 rfl) ?_
  refine q_iconst (v := (3 : Int32)) hM dL_law_305 (by decide) ?_
  refine q_iadd hM dL_law_306 (fun z13684 hz13684 => ?_)
  have tz13684 := i_addT hz13684 (rfl : i.toInt = i.toInt) (kc_3 : (3 : Int32).toInt = 3) (by omega) (by omega)
  refine s_iald z13684.toInt.toNat hM hW hXB (by omega) (by omega) (by omega) dL_law_307 ?_
  refine q_top (fun a13685 ha13685 => ?_)
  refine q_callV (As := [.int a13681, .int a13683, .int a13685]) (rest := []) hM hW hR hC myX12_pupil (kAW (v_6_1 (List.mem_of_getElem? (i := 15) rfl)) rfl) (rfl : vwCl[12]? = some (RX12, TX12, 86)) rfl lb_129.1 (shO hP.1 lb_129) (s_X12_pupil _ _ cA ad g1 a13681 a13683 a13685 hP.1 hP.2.1) ⟨by decide, by decide⟩ rfl rfl hl.1 (Nat.le_of_ble_eq_true rfl) dL_law_308 (fun v g2 H locs hp hW => ?_)
  obtain ⟨r2, rfl, hs2, hG2, hf2, cm0, ha2⟩ := hp
  have hP1 := hP
  have hP : PI ad cA g2 := PI_fr hP1 hs2 hG2 hf2 (by omega) (by omega) (by omega) (by omega) (by omega) (by omega) (by omega) (by omega) (by omega)
  have qa13681 : a13681 = a13675 := by rw [ha13681, ha13675]; congr 1; omega
  have qa13683 : a13683 = a13677 := by rw [ha13683, ha13677]; congr 1; omega
  have qa13685 : a13685 = a13679 := by rw [ha13685, ha13679]; congr 1; omega
  first | rw [qa13681] at ha2 | skip
  first | rw [qa13683] at ha2 | skip
  first | rw [qa13685] at ha2 | skip
  first | rw [qa13681] at cm0 | skip
  first | rw [qa13683] at cm0 | skip
  first | rw [qa13685] at cm0 | skip
  refine q_pop hM dL_law_311 rfl ?_
  refine q_goto (tgt := 1457) hM dL_law_312 (by decide) ?_
  exact kk _ _ _ _ hP ⟨⟨(by rw [show fI g2 3 2 = fI g 3 2 from (FRf hf1 hf2 (by omega) (by omega)), show arI g2 131 = arI g 131 from ((hf2.2.1 131 (by omega)).trans (hf1.2.1 131 (by omega)))]; exact hRl.1.1), (by
    rw [show fI g2 18 3 = x0 from ((FR1f hf2 (by omega)).trans (fI_of cx0))]
    rcases cx1 with ⟨c1, e1⟩ | ⟨c1, e1⟩
    · rcases cm0 with ⟨c2, e2⟩ | ⟨c2, e2⟩
      · exact SM_set hRl.1.2.1 (by decide) e1 (by rw [e2, (hf1.2.1 158 (by omega))]) (by decide) (by omega) (by omega)
      · exact absurd c1 c2
    · rcases cm0 with ⟨c2, e2⟩ | ⟨c2, e2⟩
      · exact absurd c2 c1
      · rw [e1, e2, (hf1.2.1 158 (by omega))]; exact hRl.1.2.1), (by rw [show fI g2 30 3 = fI g 30 3 from (FRf hf1 hf2 (by omega) (by omega)), show arI g2 162 = arI g 162 from ((hf2.2.1 162 (by omega)).trans (hf1.2.1 162 (by omega)))]; exact hRl.1.2.2.1), (((FRf hf1 hf2 (by omega) (by omega))).trans (hRl.1.2.2.2.1.trans ((FRf hf1 hf2 (by omega) (by omega))).symm)), (((FRf hf1 hf2 (by omega) (by omega))).trans (hRl.1.2.2.2.2.1.trans ((FRf hf1 hf2 (by omega) (by omega))).symm)), (((FRf hf1 hf2 (by omega) (by omega))).trans (hRl.1.2.2.2.2.2.trans (congrFun ((hf2.2.1 166 (by omega)).trans (hf1.2.1 166 (by omega))) 1).symm))⟩, (fun k j hk hj => (congrFun ((hf2.2.1 (6 + 1 * k) (by omega)).trans (hf1.2.1 (6 + 1 * k) (by omega))) j).trans ((hRl.2 k j hk hj).trans (congrFun ((hf2.2.1 133 (by omega)).trans (hf1.2.1 133 (by omega))) _).symm))⟩ hW hl

set_option maxRecDepth 100000 in
set_option maxHeartbeats 4000000 in
theorem lc_knows {K : KT} {cA : Nat → ClassId} {ad : Nat → Nat} {b L : Nat} {xs : Nat → Int32} {H : Heap} {locs : List Loc} {ls : Array Slot} {g : Nat → va_E} {i : Int32} (hM : MB K cA code 4 R_law) (hXB : XB K b L xs) (hL : L ≤ 3072) (hR : HasRoom K 2048 84000) (hC : Cells K 600000 7302250) (hP : PI ad cA g) (hRl : RQ g) (hi0 : 0 ≤ i.toInt) (hi : i.toInt + 6 ≤ L) (hW : WB NN ad K g H locs) (hl : lv_has ls 4 [(3, .int i), (2, .ref (ad 129)), (1, .ref (ad 0)), (0, .ref b)]) (kk : ∀ (g : Nat → va_E) (H : Heap) (locs : List Loc) (ls : Array Slot), PI ad cA g → RQ g → WB NN ad K g H locs → lv_has ls 4 [(3, .int i), (2, .ref (ad 129)), (1, .ref (ad 0)), (0, .ref b)] → XX K 600000 7302250 H locs 1457 ls []) : XX K 600000 7302250 H locs 315 ls [] := by
  have hLn : L < 1000000 := by omega
  obtain ⟨lw, lwn, hlc, h13, h14⟩ := id hP.2.2.1
  refine q_aload_n hM dL_law_315 (lv_at hl 2 rfl) ?_
  refine q_aload_n hM dL_law_316 (lv_at hl 3 rfl) ?_
  refine q_iload_n hM dL_law_317 (lv_at hl 0 rfl) ?_
  refine q_iconst (v := (1 : Int32)) hM dL_law_318 (by decide) ?_
  refine q_iadd hM dL_law_319 (fun z13686 hz13686 => ?_)
  have tz13686 := i_addT hz13686 (rfl : i.toInt = i.toInt) (kc_1 : (1 : Int32).toInt = 1) (by omega) (by omega)
  refine s_iald z13686.toInt.toNat hM hW hXB (by omega) (by omega) (by omega) dL_law_320 ?_
  refine q_top (fun a13687 ha13687 => ?_)
  refine q_aload_n hM dL_law_321 (lv_at hl 3 rfl) ?_
  refine q_iload_n hM dL_law_322 (lv_at hl 0 rfl) ?_
  refine q_iconst (v := (2 : Int32)) hM dL_law_323 (by decide) ?_
  refine q_iadd hM dL_law_324 (fun z13688 hz13688 => ?_)
  have tz13688 := i_addT hz13688 (rfl : i.toInt = i.toInt) (kc_2 : (2 : Int32).toInt = 2) (by omega) (by omega)
  refine s_iald z13688.toInt.toNat hM hW hXB (by omega) (by omega) (by omega) dL_law_325 ?_
  refine q_top (fun a13689 ha13689 => ?_)
  refine q_aload_n hM dL_law_326 (lv_at hl 3 rfl) ?_
  refine q_iload_n hM dL_law_327 (lv_at hl 0 rfl) ?_
  refine q_iconst (v := (3 : Int32)) hM dL_law_328 (by decide) ?_
  refine q_iadd hM dL_law_329 (fun z13690 hz13690 => ?_)
  have tz13690 := i_addT hz13690 (rfl : i.toInt = i.toInt) (kc_3 : (3 : Int32).toInt = 3) (by omega) (by omega)
  refine s_iald z13690.toInt.toNat hM hW hXB (by omega) (by omega) (by omega) dL_law_330 ?_
  refine q_top (fun a13691 ha13691 => ?_)
  refine q_callV (As := [.int a13687, .int a13689, .int a13691]) (rest := []) hM hW hR hC myX11_knows (kAW (v_1_11 (List.mem_of_getElem? (i := 3) rfl)) rfl) (rfl : vwCl[11]? = some (RX11, TX11, 16)) rfl lb_0.1 (shO hP.1 lb_0) (p_X11_knows _ _ cA ad g a13687 a13689 a13691  hP.1 hP.2.1) ⟨by decide, by decide⟩ rfl rfl hl.1 (Nat.le_of_ble_eq_true rfl) dL_law_331 (fun v g1 H locs hp hW => ?_)
  obtain ⟨r1, rfl, hs1, hG1, hf1, ha1⟩ := hp
  have hP0 := hP
  have hP : PI ad cA g1 := PI_fr hP0 hs1 hG1 hf1 (by omega) (by omega) (by omega) (by omega) (by omega) (by omega) (by omega) (by omega) (by omega)
  refine q_pop hM dL_law_334 rfl ?_
  refine q_aload_n hM dL_law_335 (lv_at hl 1 rfl) ?_
  refine q_aload_n hM dL_law_336 (lv_at hl 3 rfl) ?_
  refine q_iload_n hM dL_law_337 (lv_at hl 0 rfl) ?_
  refine q_iconst (v := (1 : Int32)) hM dL_law_338 (by decide) ?_
  refine q_iadd hM dL_law_339 (fun z13692 hz13692 => ?_)
  have tz13692 := i_addT hz13692 (rfl : i.toInt = i.toInt) (kc_1 : (1 : Int32).toInt = 1) (by omega) (by omega)
  refine s_iald z13692.toInt.toNat hM hW hXB (by omega) (by omega) (by omega) dL_law_340 ?_
  refine q_top (fun a13693 ha13693 => ?_)
  refine q_aload_n hM dL_law_341 (lv_at hl 3 rfl) ?_
  refine q_iload_n hM dL_law_342 (lv_at hl 0 rfl) ?_
  refine q_iconst (v := (2 : Int32)) hM dL_law_343 (by decide) ?_
  refine q_iadd hM dL_law_344 (fun z13694 hz13694 => ?_)
  have tz13694 := i_addT hz13694 (rfl : i.toInt = i.toInt) (kc_2 : (2 : Int32).toInt = 2) (by omega) (by omega)
  refine s_iald z13694.toInt.toNat hM hW hXB (by omega) (by omega) (by omega) dL_law_345 ?_
  refine q_top (fun a13695 ha13695 => ?_)
  refine q_aload_n hM dL_law_346 (lv_at hl 3 rfl) ?_
  refine q_iload_n hM dL_law_347 (lv_at hl 0 rfl) ?_
  refine q_iconst (v := (3 : Int32)) hM dL_law_348 (by decide) ?_
  refine q_iadd hM dL_law_349 (fun z13696 hz13696 => ?_)
  have tz13696 := i_addT hz13696 (rfl : i.toInt = i.toInt) (kc_3 : (3 : Int32).toInt = 3) (by omega) (by omega)
  refine s_iald z13696.toInt.toNat hM hW hXB (by omega) (by omega) (by omega) dL_law_350 ?_
  refine q_top (fun a13697 ha13697 => ?_)
  refine q_callV (As := [.int a13693, .int a13695, .int a13697]) (rest := []) hM hW hR hC myX12_knows (kAW (v_6_2 (List.mem_of_getElem? (i := 5) rfl)) rfl) (rfl : vwCl[12]? = some (RX12, TX12, 86)) rfl lb_129.1 (shO hP.1 lb_129) (p_X12_knows _ _ cA ad g1 a13693 a13695 a13697 hP.1 hP.2.1) ⟨by decide, by decide⟩ rfl rfl hl.1 (Nat.le_of_ble_eq_true rfl) dL_law_351 (fun v g2 H locs hp hW => ?_)
  obtain ⟨r2, rfl, hs2, hG2, hf2, ha2⟩ := hp
  have hP1 := hP
  have hP : PI ad cA g2 := PI_fr hP1 hs2 hG2 hf2 (by omega) (by omega) (by omega) (by omega) (by omega) (by omega) (by omega) (by omega) (by omega)
  have qa13693 : a13693 = a13687 := by rw [ha13693, ha13687]; congr 1; omega
  have qa13695 : a13695 = a13689 := by rw [ha13695, ha13689]; congr 1; omega
  have qa13697 : a13697 = a13691 := by rw [ha13697, ha13691]; congr 1; omega
  first | rw [qa13693] at ha2 | skip
  first | rw [qa13695] at ha2 | skip
  first | rw [qa13697] at ha2 | skip
  refine q_pop hM dL_law_354 rfl ?_
  refine q_goto (tgt := 1457) hM dL_law_355 (by decide) ?_
  exact kk _ _ _ _ hP ⟨⟨(by rw [show fI g2 3 2 = fI g 3 2 from (FRf hf1 hf2 (by omega) (by omega)), show arI g2 131 = arI g 131 from ((hf2.2.1 131 (by omega)).trans (hf1.2.1 131 (by omega)))]; exact hRl.1.1), (by rw [show fI g2 18 3 = fI g 18 3 from (FRf hf1 hf2 (by omega) (by omega)), show arI g2 158 = arI g 158 from ((hf2.2.1 158 (by omega)).trans (hf1.2.1 158 (by omega)))]; exact hRl.1.2.1), (by rw [show fI g2 30 3 = fI g 30 3 from (FRf hf1 hf2 (by omega) (by omega)), show arI g2 162 = arI g 162 from ((hf2.2.1 162 (by omega)).trans (hf1.2.1 162 (by omega)))]; exact hRl.1.2.2.1), (((FRf hf1 hf2 (by omega) (by omega))).trans (hRl.1.2.2.2.1.trans ((FRf hf1 hf2 (by omega) (by omega))).symm)), (((FRf hf1 hf2 (by omega) (by omega))).trans (hRl.1.2.2.2.2.1.trans ((FRf hf1 hf2 (by omega) (by omega))).symm)), (((FRf hf1 hf2 (by omega) (by omega))).trans (hRl.1.2.2.2.2.2.trans (congrFun ((hf2.2.1 166 (by omega)).trans (hf1.2.1 166 (by omega))) 1).symm))⟩, (fun k j hk hj => (congrFun ((hf2.2.1 (6 + 1 * k) (by omega)).trans (hf1.2.1 (6 + 1 * k) (by omega))) j).trans ((hRl.2 k j hk hj).trans (congrFun ((hf2.2.1 133 (by omega)).trans (hf1.2.1 133 (by omega))) _).symm))⟩ hW hl

set_option maxRecDepth 100000 in
set_option maxHeartbeats 4000000 in
theorem lc_feed {K : KT} {cA : Nat → ClassId} {ad : Nat → Nat} {b L : Nat} {xs : Nat → Int32} {H : Heap} {locs : List Loc} {ls : Array Slot} {g : Nat → va_E} {i : Int32} (hM : MB K cA code 4 R_law) (hXB : XB K b L xs) (hL : L ≤ 3072) (hR : HasRoom K 2048 84000) (hC : Cells K 600000 7302250) (hP : PI ad cA g) (hRl : RQ g) (hi0 : 0 ≤ i.toInt) (hi : i.toInt + 6 ≤ L) (hW : WB NN ad K g H locs) (hl : lv_has ls 4 [(3, .int i), (2, .ref (ad 129)), (1, .ref (ad 0)), (0, .ref b)]) (kk : ∀ (g : Nat → va_E) (H : Heap) (locs : List Loc) (ls : Array Slot), PI ad cA g → RQ g → WB NN ad K g H locs → lv_has ls 4 [(3, .int i), (2, .ref (ad 129)), (1, .ref (ad 0)), (0, .ref b)] → XX K 600000 7302250 H locs 1457 ls []) : XX K 600000 7302250 H locs 358 ls [] := by
  have hLn : L < 1000000 := by omega
  obtain ⟨lw, lwn, hlc, h13, h14⟩ := id hP.2.2.1
  refine q_aload_n hM dL_law_358 (lv_at hl 2 rfl) ?_
  refine q_aload_n hM dL_law_359 (lv_at hl 3 rfl) ?_
  refine q_iload_n hM dL_law_360 (lv_at hl 0 rfl) ?_
  refine q_iconst (v := (1 : Int32)) hM dL_law_361 (by decide) ?_
  refine q_iadd hM dL_law_362 (fun z13698 hz13698 => ?_)
  have tz13698 := i_addT hz13698 (rfl : i.toInt = i.toInt) (kc_1 : (1 : Int32).toInt = 1) (by omega) (by omega)
  refine s_iald z13698.toInt.toNat hM hW hXB (by omega) (by omega) (by omega) dL_law_363 ?_
  refine q_top (fun a13699 ha13699 => ?_)
  refine q_aload_n hM dL_law_364 (lv_at hl 3 rfl) ?_
  refine q_iload_n hM dL_law_365 (lv_at hl 0 rfl) ?_
  refine q_iconst (v := (2 : Int32)) hM dL_law_366 (by decide) ?_
  refine q_iadd hM dL_law_367 (fun z13700 hz13700 => ?_)
  have tz13700 := i_addT hz13700 (rfl : i.toInt = i.toInt) (kc_2 : (2 : Int32).toInt = 2) (by omega) (by omega)
  refine s_iald z13700.toInt.toNat hM hW hXB (by omega) (by omega) (by omega) dL_law_368 ?_
  refine q_top (fun a13701 ha13701 => ?_)
  refine q_aload_n hM dL_law_369 (lv_at hl 3 rfl) ?_
  refine q_iload_n hM dL_law_370 (lv_at hl 0 rfl) ?_
  refine q_iconst (v := (3 : Int32)) hM dL_law_371 (by decide) ?_
  refine q_iadd hM dL_law_372 (fun z13702 hz13702 => ?_)
  have tz13702 := i_addT hz13702 (rfl : i.toInt = i.toInt) (kc_3 : (3 : Int32).toInt = 3) (by omega) (by omega)
  refine s_iald z13702.toInt.toNat hM hW hXB (by omega) (by omega) (by omega) dL_law_373 ?_
  refine q_top (fun a13703 ha13703 => ?_)
  refine q_aload_n hM dL_law_374 (lv_at hl 3 rfl) ?_
  refine q_iload_n hM dL_law_375 (lv_at hl 0 rfl) ?_
  refine q_iconst (v := (4 : Int32)) hM dL_law_376 (by decide) ?_
  refine q_iadd hM dL_law_377 (fun z13704 hz13704 => ?_)
  have tz13704 := i_addT hz13704 (rfl : i.toInt = i.toInt) (kc_4 : (4 : Int32).toInt = 4) (by omega) (by omega)
  refine s_iald z13704.toInt.toNat hM hW hXB (by omega) (by omega) (by omega) dL_law_378 ?_
  refine q_top (fun a13705 ha13705 => ?_)
  refine q_aload_n hM dL_law_379 (lv_at hl 3 rfl) ?_
  refine q_iload_n hM dL_law_380 (lv_at hl 0 rfl) ?_
  refine q_iconst (v := (5 : Int32)) hM dL_law_381 (by decide) ?_
  refine q_iadd hM dL_law_382 (fun z13706 hz13706 => ?_)
  have tz13706 := i_addT hz13706 (rfl : i.toInt = i.toInt) (kc_5 : (5 : Int32).toInt = 5) (by omega) (by omega)
  refine s_iald z13706.toInt.toNat hM hW hXB (by omega) (by omega) (by omega) dL_law_383 ?_
  refine q_top (fun a13707 ha13707 => ?_)
  refine q_callV (As := [.int a13699, .int a13701, .int a13703, .int a13705, .int a13707]) (rest := []) hM hW hR hC myX11_feed (kAW (v_1_11 (List.mem_of_getElem? (i := 7) rfl)) rfl) (rfl : vwCl[11]? = some (RX11, TX11, 16)) rfl lb_0.1 (shO hP.1 lb_0) (p_X11_feed _ _ cA ad g a13699 a13701 a13703 a13705 a13707  hP.1 hP.2.1) ⟨by decide, by decide⟩ rfl rfl hl.1 (Nat.le_of_ble_eq_true rfl) dL_law_384 (fun v g1 H locs hp hW => ?_)
  obtain ⟨r1, rfl, hs1, hG1, hf1⟩ := hp
  have hP0 := hP
  have hP : PI ad cA g1 := PI_fr hP0 hs1 hG1 hf1 (by omega) (by omega) (by omega) (by omega) (by omega) (by omega) (by omega) (by omega) (by omega)
  refine q_pop hM dL_law_387 rfl ?_
  refine q_aload_n hM dL_law_388 (lv_at hl 1 rfl) ?_
  refine q_aload_n hM dL_law_389 (lv_at hl 3 rfl) ?_
  refine q_iload_n hM dL_law_390 (lv_at hl 0 rfl) ?_
  refine q_iconst (v := (1 : Int32)) hM dL_law_391 (by decide) ?_
  refine q_iadd hM dL_law_392 (fun z13708 hz13708 => ?_)
  have tz13708 := i_addT hz13708 (rfl : i.toInt = i.toInt) (kc_1 : (1 : Int32).toInt = 1) (by omega) (by omega)
  refine s_iald z13708.toInt.toNat hM hW hXB (by omega) (by omega) (by omega) dL_law_393 ?_
  refine q_top (fun a13709 ha13709 => ?_)
  refine q_aload_n hM dL_law_394 (lv_at hl 3 rfl) ?_
  refine q_iload_n hM dL_law_395 (lv_at hl 0 rfl) ?_
  refine q_iconst (v := (2 : Int32)) hM dL_law_396 (by decide) ?_
  refine q_iadd hM dL_law_397 (fun z13710 hz13710 => ?_)
  have tz13710 := i_addT hz13710 (rfl : i.toInt = i.toInt) (kc_2 : (2 : Int32).toInt = 2) (by omega) (by omega)
  refine s_iald z13710.toInt.toNat hM hW hXB (by omega) (by omega) (by omega) dL_law_398 ?_
  refine q_top (fun a13711 ha13711 => ?_)
  refine q_aload_n hM dL_law_399 (lv_at hl 3 rfl) ?_
  refine q_iload_n hM dL_law_400 (lv_at hl 0 rfl) ?_
  refine q_iconst (v := (3 : Int32)) hM dL_law_401 (by decide) ?_
  refine q_iadd hM dL_law_402 (fun z13712 hz13712 => ?_)
  have tz13712 := i_addT hz13712 (rfl : i.toInt = i.toInt) (kc_3 : (3 : Int32).toInt = 3) (by omega) (by omega)
  refine s_iald z13712.toInt.toNat hM hW hXB (by omega) (by omega) (by omega) dL_law_403 ?_
  refine q_top (fun a13713 ha13713 => ?_)
  refine q_aload_n hM dL_law_404 (lv_at hl 3 rfl) ?_
  refine q_iload_n hM dL_law_405 (lv_at hl 0 rfl) ?_
  refine q_iconst (v := (4 : Int32)) hM dL_law_406 (by decide) ?_
  refine q_iadd hM dL_law_407 (fun z13714 hz13714 => ?_)
  have tz13714 := i_addT hz13714 (rfl : i.toInt = i.toInt) (kc_4 : (4 : Int32).toInt = 4) (by omega) (by omega)
  refine s_iald z13714.toInt.toNat hM hW hXB (by omega) (by omega) (by omega) dL_law_408 ?_
  refine q_top (fun a13715 ha13715 => ?_)
  refine q_aload_n hM dL_law_409 (lv_at hl 3 rfl) ?_
  refine q_iload_n hM dL_law_410 (lv_at hl 0 rfl) ?_
  refine q_iconst (v := (5 : Int32)) hM dL_law_411 (by decide) ?_
  refine q_iadd hM dL_law_412 (fun z13716 hz13716 => ?_)
  have tz13716 := i_addT hz13716 (rfl : i.toInt = i.toInt) (kc_5 : (5 : Int32).toInt = 5) (by omega) (by omega)
  refine s_iald z13716.toInt.toNat hM hW hXB (by omega) (by omega) (by omega) dL_law_413 ?_
  refine q_top (fun a13717 ha13717 => ?_)
  refine q_callV (As := [.int a13709, .int a13711, .int a13713, .int a13715, .int a13717]) (rest := []) hM hW hR hC myX12_feed (kAW (v_5_4 (List.mem_of_getElem? (i := 1) rfl)) rfl) (rfl : vwCl[12]? = some (RX12, TX12, 86)) rfl lb_129.1 (shO hP.1 lb_129) (p_X12_feed _ _ cA ad g1 a13709 a13711 a13713 a13715 a13717 hP.1 hP.2.1 hP.2.2.2.2) ⟨by decide, by decide⟩ rfl rfl hl.1 (Nat.le_of_ble_eq_true rfl) dL_law_414 (fun v g2 H locs hp hW => ?_)
  obtain ⟨r2, rfl, hs2, hG2, hf2, ha2⟩ := hp
  have hP1 := hP
  have hP : PI ad cA g2 := by
    obtain ⟨lw9, lwn9, c9, h139, h149⟩ := hP1.2.2.1
    exact ⟨hs2, hG2, ⟨lw9, lwn9, c9, (hf2.1 0 13 (by omega)).trans h139, (hf2.1 0 14 (by omega)).trans h149⟩, LWQ_fr hP1.2.2.2.1 hf2 (by omega) (by omega) (by omega) (by omega) (by omega) (by omega), ha2⟩
  have qa13709 : a13709 = a13699 := by rw [ha13709, ha13699]; congr 1; omega
  have qa13711 : a13711 = a13701 := by rw [ha13711, ha13701]; congr 1; omega
  have qa13713 : a13713 = a13703 := by rw [ha13713, ha13703]; congr 1; omega
  have qa13715 : a13715 = a13705 := by rw [ha13715, ha13705]; congr 1; omega
  have qa13717 : a13717 = a13707 := by rw [ha13717, ha13707]; congr 1; omega
  first | rw [qa13709] at ha2 | skip
  first | rw [qa13711] at ha2 | skip
  first | rw [qa13713] at ha2 | skip
  first | rw [qa13715] at ha2 | skip
  first | rw [qa13717] at ha2 | skip
  refine q_pop hM dL_law_417 rfl ?_
  refine q_goto (tgt := 1457) hM dL_law_418 (by decide) ?_
  exact kk _ _ _ _ hP ⟨⟨(by rw [show fI g2 3 2 = fI g 3 2 from (FRf hf1 hf2 (by omega) (by omega)), show arI g2 131 = arI g 131 from ((hf2.2.1 131 (by omega)).trans (hf1.2.1 131 (by omega)))]; exact hRl.1.1), (by rw [show fI g2 18 3 = fI g 18 3 from (FRf hf1 hf2 (by omega) (by omega)), show arI g2 158 = arI g 158 from ((hf2.2.1 158 (by omega)).trans (hf1.2.1 158 (by omega)))]; exact hRl.1.2.1), (by rw [show fI g2 30 3 = fI g 30 3 from (FRf hf1 hf2 (by omega) (by omega)), show arI g2 162 = arI g 162 from ((hf2.2.1 162 (by omega)).trans (hf1.2.1 162 (by omega)))]; exact hRl.1.2.2.1), (((FRf hf1 hf2 (by omega) (by omega))).trans (hRl.1.2.2.2.1.trans ((FRf hf1 hf2 (by omega) (by omega))).symm)), (((FRf hf1 hf2 (by omega) (by omega))).trans (hRl.1.2.2.2.2.1.trans ((FRf hf1 hf2 (by omega) (by omega))).symm)), (((FRf hf1 hf2 (by omega) (by omega))).trans (hRl.1.2.2.2.2.2.trans (congrFun ((hf2.2.1 166 (by omega)).trans (hf1.2.1 166 (by omega))) 1).symm))⟩, (fun k j hk hj => (congrFun ((hf2.2.1 (6 + 1 * k) (by omega)).trans (hf1.2.1 (6 + 1 * k) (by omega))) j).trans ((hRl.2 k j hk hj).trans (congrFun ((hf2.2.1 133 (by omega)).trans (hf1.2.1 133 (by omega))) _).symm))⟩ hW hl

set_option maxRecDepth 100000 in
set_option maxHeartbeats 4000000 in
theorem lc_art {K : KT} {cA : Nat → ClassId} {ad : Nat → Nat} {b L : Nat} {xs : Nat → Int32} {H : Heap} {locs : List Loc} {ls : Array Slot} {g : Nat → va_E} {i : Int32} (hM : MB K cA code 4 R_law) (hXB : XB K b L xs) (hL : L ≤ 3072) (hR : HasRoom K 2048 84000) (hC : Cells K 600000 7302250) (hP : PI ad cA g) (hRl : RQ g) (hi0 : 0 ≤ i.toInt) (hi : i.toInt + 6 ≤ L) (hW : WB NN ad K g H locs) (hl : lv_has ls 4 [(3, .int i), (2, .ref (ad 129)), (1, .ref (ad 0)), (0, .ref b)]) (kk : ∀ (g : Nat → va_E) (H : Heap) (locs : List Loc) (ls : Array Slot), PI ad cA g → RQ g → WB NN ad K g H locs → lv_has ls 4 [(3, .int i), (2, .ref (ad 129)), (1, .ref (ad 0)), (0, .ref b)] → XX K 600000 7302250 H locs 1457 ls []) : XX K 600000 7302250 H locs 421 ls [] := by
  have hLn : L < 1000000 := by omega
  obtain ⟨lw, lwn, hlc, h13, h14⟩ := id hP.2.2.1
  refine q_aload_n hM dL_law_421 (lv_at hl 2 rfl) ?_
  refine q_aload_n hM dL_law_422 (lv_at hl 3 rfl) ?_
  refine q_iload_n hM dL_law_423 (lv_at hl 0 rfl) ?_
  refine q_iconst (v := (1 : Int32)) hM dL_law_424 (by decide) ?_
  refine q_iadd hM dL_law_425 (fun z13718 hz13718 => ?_)
  have tz13718 := i_addT hz13718 (rfl : i.toInt = i.toInt) (kc_1 : (1 : Int32).toInt = 1) (by omega) (by omega)
  refine s_iald z13718.toInt.toNat hM hW hXB (by omega) (by omega) (by omega) dL_law_426 ?_
  refine q_top (fun a13719 ha13719 => ?_)
  refine q_aload_n hM dL_law_427 (lv_at hl 3 rfl) ?_
  refine q_iload_n hM dL_law_428 (lv_at hl 0 rfl) ?_
  refine q_iconst (v := (2 : Int32)) hM dL_law_429 (by decide) ?_
  refine q_iadd hM dL_law_430 (fun z13720 hz13720 => ?_)
  have tz13720 := i_addT hz13720 (rfl : i.toInt = i.toInt) (kc_2 : (2 : Int32).toInt = 2) (by omega) (by omega)
  refine s_iald z13720.toInt.toNat hM hW hXB (by omega) (by omega) (by omega) dL_law_431 ?_
  refine q_top (fun a13721 ha13721 => ?_)
  refine q_callV (As := [.int a13719, .int a13721]) (rest := []) hM hW hR hC myX11_art (kAW (v_1_11 (List.mem_of_getElem? (i := 15) rfl)) rfl) (rfl : vwCl[11]? = some (RX11, TX11, 16)) rfl lb_0.1 (shO hP.1 lb_0) (p_X11_art _ _ cA ad g a13719 a13721  hP.1 hP.2.1) ⟨by decide, by decide⟩ rfl rfl hl.1 (Nat.le_of_ble_eq_true rfl) dL_law_432 (fun v g1 H locs hp hW => ?_)
  obtain ⟨r1, rfl, hs1, hG1, hf1⟩ := hp
  have hP0 := hP
  have hP : PI ad cA g1 := PI_fr hP0 hs1 hG1 hf1 (by omega) (by omega) (by omega) (by omega) (by omega) (by omega) (by omega) (by omega) (by omega)
  refine q_pop hM dL_law_435 rfl ?_
  refine q_aload_n hM dL_law_436 (lv_at hl 1 rfl) ?_
  refine q_aload_n hM dL_law_437 (lv_at hl 3 rfl) ?_
  refine q_iload_n hM dL_law_438 (lv_at hl 0 rfl) ?_
  refine q_iconst (v := (1 : Int32)) hM dL_law_439 (by decide) ?_
  refine q_iadd hM dL_law_440 (fun z13722 hz13722 => ?_)
  have tz13722 := i_addT hz13722 (rfl : i.toInt = i.toInt) (kc_1 : (1 : Int32).toInt = 1) (by omega) (by omega)
  refine s_iald z13722.toInt.toNat hM hW hXB (by omega) (by omega) (by omega) dL_law_441 ?_
  refine q_top (fun a13723 ha13723 => ?_)
  refine q_aload_n hM dL_law_442 (lv_at hl 3 rfl) ?_
  refine q_iload_n hM dL_law_443 (lv_at hl 0 rfl) ?_
  refine q_iconst (v := (2 : Int32)) hM dL_law_444 (by decide) ?_
  refine q_iadd hM dL_law_445 (fun z13724 hz13724 => ?_)
  have tz13724 := i_addT hz13724 (rfl : i.toInt = i.toInt) (kc_2 : (2 : Int32).toInt = 2) (by omega) (by omega)
  refine s_iald z13724.toInt.toNat hM hW hXB (by omega) (by omega) (by omega) dL_law_446 ?_
  refine q_top (fun a13725 ha13725 => ?_)
  refine q_callV (As := [.int a13723, .int a13725]) (rest := []) hM hW hR hC myX12_art (kAW (v_5_8 (List.mem_of_getElem? (i := 1) rfl)) rfl) (rfl : vwCl[12]? = some (RX12, TX12, 86)) rfl lb_129.1 (shO hP.1 lb_129) (p_X12_art _ _ cA ad g1 a13723 a13725 hP.1 hP.2.1 hP.2.2.2.2) ⟨by decide, by decide⟩ rfl rfl hl.1 (Nat.le_of_ble_eq_true rfl) dL_law_447 (fun v g2 H locs hp hW => ?_)
  obtain ⟨r2, rfl, hs2, hG2, hf2⟩ := hp
  have hP1 := hP
  have hP : PI ad cA g2 := PI_fr hP1 hs2 hG2 hf2 (by omega) (by omega) (by omega) (by omega) (by omega) (by omega) (by omega) (by omega) (by omega)
  have qa13723 : a13723 = a13719 := by rw [ha13723, ha13719]; congr 1; omega
  have qa13725 : a13725 = a13721 := by rw [ha13725, ha13721]; congr 1; omega
  refine q_pop hM dL_law_450 rfl ?_
  refine q_goto (tgt := 1457) hM dL_law_451 (by decide) ?_
  exact kk _ _ _ _ hP ⟨⟨(by rw [show fI g2 3 2 = fI g 3 2 from (FRf hf1 hf2 (by omega) (by omega)), show arI g2 131 = arI g 131 from ((hf2.2.1 131 (by omega)).trans (hf1.2.1 131 (by omega)))]; exact hRl.1.1), (by rw [show fI g2 18 3 = fI g 18 3 from (FRf hf1 hf2 (by omega) (by omega)), show arI g2 158 = arI g 158 from ((hf2.2.1 158 (by omega)).trans (hf1.2.1 158 (by omega)))]; exact hRl.1.2.1), (by rw [show fI g2 30 3 = fI g 30 3 from (FRf hf1 hf2 (by omega) (by omega)), show arI g2 162 = arI g 162 from ((hf2.2.1 162 (by omega)).trans (hf1.2.1 162 (by omega)))]; exact hRl.1.2.2.1), (((FRf hf1 hf2 (by omega) (by omega))).trans (hRl.1.2.2.2.1.trans ((FRf hf1 hf2 (by omega) (by omega))).symm)), (((FRf hf1 hf2 (by omega) (by omega))).trans (hRl.1.2.2.2.2.1.trans ((FRf hf1 hf2 (by omega) (by omega))).symm)), (((FRf hf1 hf2 (by omega) (by omega))).trans (hRl.1.2.2.2.2.2.trans (congrFun ((hf2.2.1 166 (by omega)).trans (hf1.2.1 166 (by omega))) 1).symm))⟩, (fun k j hk hj => (congrFun ((hf2.2.1 (6 + 1 * k) (by omega)).trans (hf1.2.1 (6 + 1 * k) (by omega))) j).trans ((hRl.2 k j hk hj).trans (congrFun ((hf2.2.1 133 (by omega)).trans (hf1.2.1 133 (by omega))) _).symm))⟩ hW hl

set_option maxRecDepth 100000 in
set_option maxHeartbeats 4000000 in
theorem lc_law {K : KT} {cA : Nat → ClassId} {ad : Nat → Nat} {b L : Nat} {xs : Nat → Int32} {H : Heap} {locs : List Loc} {ls : Array Slot} {g : Nat → va_E} {i : Int32} (hM : MB K cA code 4 R_law) (hXB : XB K b L xs) (hL : L ≤ 3072) (hR : HasRoom K 2048 84000) (hC : Cells K 600000 7302250) (hP : PI ad cA g) (hRl : RQ g) (hi0 : 0 ≤ i.toInt) (hi : i.toInt + 6 ≤ L) (hW : WB NN ad K g H locs) (hl : lv_has ls 4 [(3, .int i), (2, .ref (ad 129)), (1, .ref (ad 0)), (0, .ref b)]) (kk : ∀ (g : Nat → va_E) (H : Heap) (locs : List Loc) (ls : Array Slot), PI ad cA g → RQ g → WB NN ad K g H locs → lv_has ls 4 [(3, .int i), (2, .ref (ad 129)), (1, .ref (ad 0)), (0, .ref b)] → XX K 600000 7302250 H locs 1457 ls []) : XX K 600000 7302250 H locs 454 ls [] := by
  have hLn : L < 1000000 := by omega
  obtain ⟨lw, lwn, hlc, h13, h14⟩ := id hP.2.2.1
  refine q_aload_n hM dL_law_454 (lv_at hl 2 rfl) ?_
  refine q_aload_n hM dL_law_455 (lv_at hl 3 rfl) ?_
  refine q_iload_n hM dL_law_456 (lv_at hl 0 rfl) ?_
  refine q_iconst (v := (1 : Int32)) hM dL_law_457 (by decide) ?_
  refine q_iadd hM dL_law_458 (fun z13726 hz13726 => ?_)
  have tz13726 := i_addT hz13726 (rfl : i.toInt = i.toInt) (kc_1 : (1 : Int32).toInt = 1) (by omega) (by omega)
  refine s_iald z13726.toInt.toNat hM hW hXB (by omega) (by omega) (by omega) dL_law_459 ?_
  refine q_top (fun a13727 ha13727 => ?_)
  refine q_callV (As := [.int a13727]) (rest := []) hM hW hR hC myX11_law (kAW (v_1_14 (List.mem_of_getElem? (i := 15) rfl)) rfl) (rfl : vwCl[11]? = some (RX11, TX11, 16)) rfl lb_0.1 (shO hP.1 lb_0) (p_X11_law _ _ cA ad g a13727 lw lwn hP.1 hP.2.1 (by unfold isLw; omega) (by unfold isLw; omega) h13 h14) ⟨by decide, by decide⟩ rfl rfl hl.1 (Nat.le_of_ble_eq_true rfl) dL_law_460 (fun v g1 H locs hp hW => ?_)
  obtain ⟨r1, rfl, hs1, hG1, hf1, ha1⟩ := hp
  have hP0 := hP
  have hP : PI ad cA g1 := ⟨hs1, hG1, by rcases ha1 with h9 | h9; exact ⟨lw, lwn, hlc, h9.1, h9.2⟩; exact ⟨lwn, lw, by omega, h9.1, h9.2⟩, LWQ_fr hP0.2.2.2.1 hf1 (by omega) (by omega) (by omega) (by omega) (by omega) (by omega), TB_fr hP0.2.2.2.2 hf1 (by omega)⟩
  refine q_pop hM dL_law_463 rfl ?_
  refine q_aload_n hM dL_law_464 (lv_at hl 1 rfl) ?_
  refine q_aload_n hM dL_law_465 (lv_at hl 3 rfl) ?_
  refine q_iload_n hM dL_law_466 (lv_at hl 0 rfl) ?_
  refine q_iconst (v := (1 : Int32)) hM dL_law_467 (by decide) ?_
  refine q_iadd hM dL_law_468 (fun z13728 hz13728 => ?_)
  have tz13728 := i_addT hz13728 (rfl : i.toInt = i.toInt) (kc_1 : (1 : Int32).toInt = 1) (by omega) (by omega)
  refine s_iald z13728.toInt.toNat hM hW hXB (by omega) (by omega) (by omega) dL_law_469 ?_
  refine q_top (fun a13729 ha13729 => ?_)
  refine q_callV (As := [.int a13729]) (rest := []) hM hW hR hC myX12_law (kAW (v_5_11 (List.mem_of_getElem? (i := 6) rfl)) rfl) (rfl : vwCl[12]? = some (RX12, TX12, 86)) rfl lb_129.1 (shO hP.1 lb_129) (p_X12_law _ _ cA ad g1 a13729 (fI g1 129 32) hP.1 hP.2.1 (shI hP.1 lb_129 (by decide) (by decide)) hP.2.2.2.1) ⟨by decide, by decide⟩ rfl rfl hl.1 (Nat.le_of_ble_eq_true rfl) dL_law_470 (fun v g2 H locs hp hW => ?_)
  obtain ⟨r2, rfl, hs2, hG2, hf2, ha2⟩ := hp
  have hP1 := hP
  have hP : PI ad cA g2 := by
    obtain ⟨lw9, lwn9, c9, h139, h149⟩ := hP1.2.2.1
    exact ⟨hs2, hG2, ⟨lw9, lwn9, c9, (hf2.1 0 13 (by omega)).trans h139, (hf2.1 0 14 (by omega)).trans h149⟩, ha2, TB_fr hP1.2.2.2.2 hf2 (by omega)⟩
  have qa13729 : a13729 = a13727 := by rw [ha13729, ha13727]; congr 1; omega
  first | rw [qa13729] at ha2 | skip
  refine q_pop hM dL_law_473 rfl ?_
  refine q_goto (tgt := 1457) hM dL_law_474 (by decide) ?_
  exact kk _ _ _ _ hP ⟨⟨(by rw [show fI g2 3 2 = fI g 3 2 from (FRf hf1 hf2 (by omega) (by omega)), show arI g2 131 = arI g 131 from ((hf2.2.1 131 (by omega)).trans (hf1.2.1 131 (by omega)))]; exact hRl.1.1), (by rw [show fI g2 18 3 = fI g 18 3 from (FRf hf1 hf2 (by omega) (by omega)), show arI g2 158 = arI g 158 from ((hf2.2.1 158 (by omega)).trans (hf1.2.1 158 (by omega)))]; exact hRl.1.2.1), (by rw [show fI g2 30 3 = fI g 30 3 from (FRf hf1 hf2 (by omega) (by omega)), show arI g2 162 = arI g 162 from ((hf2.2.1 162 (by omega)).trans (hf1.2.1 162 (by omega)))]; exact hRl.1.2.2.1), (((FRf hf1 hf2 (by omega) (by omega))).trans (hRl.1.2.2.2.1.trans ((FRf hf1 hf2 (by omega) (by omega))).symm)), (((FRf hf1 hf2 (by omega) (by omega))).trans (hRl.1.2.2.2.2.1.trans ((FRf hf1 hf2 (by omega) (by omega))).symm)), (((FRf hf1 hf2 (by omega) (by omega))).trans (hRl.1.2.2.2.2.2.trans (congrFun ((hf2.2.1 166 (by omega)).trans (hf1.2.1 166 (by omega))) 1).symm))⟩, (fun k j hk hj => (congrFun ((hf2.2.1 (6 + 1 * k) (by omega)).trans (hf1.2.1 (6 + 1 * k) (by omega))) j).trans ((hRl.2 k j hk hj).trans (congrFun ((hf2.2.1 133 (by omega)).trans (hf1.2.1 133 (by omega))) _).symm))⟩ hW hl

set_option maxRecDepth 100000 in
set_option maxHeartbeats 4000000 in
theorem lc_grade {K : KT} {cA : Nat → ClassId} {ad : Nat → Nat} {b L : Nat} {xs : Nat → Int32} {H : Heap} {locs : List Loc} {ls : Array Slot} {g : Nat → va_E} {i : Int32} (hM : MB K cA code 4 R_law) (hXB : XB K b L xs) (hL : L ≤ 3072) (hR : HasRoom K 2048 84000) (hC : Cells K 600000 7302250) (hP : PI ad cA g) (hRl : RQ g) (hi0 : 0 ≤ i.toInt) (hi : i.toInt + 6 ≤ L) (hW : WB NN ad K g H locs) (hl : lv_has ls 4 [(3, .int i), (2, .ref (ad 129)), (1, .ref (ad 0)), (0, .ref b)]) (kk : ∀ (g : Nat → va_E) (H : Heap) (locs : List Loc) (ls : Array Slot), PI ad cA g → RQ g → WB NN ad K g H locs → lv_has ls 4 [(3, .int i), (2, .ref (ad 129)), (1, .ref (ad 0)), (0, .ref b)] → XX K 600000 7302250 H locs 1457 ls []) : XX K 600000 7302250 H locs 477 ls [] := by
  have hLn : L < 1000000 := by omega
  obtain ⟨lw, lwn, hlc, h13, h14⟩ := id hP.2.2.1
  refine q_aload_n hM dL_law_477 (lv_at hl 2 rfl) ?_
  refine q_aload_n hM dL_law_478 (lv_at hl 3 rfl) ?_
  refine q_iload_n hM dL_law_479 (lv_at hl 0 rfl) ?_
  refine q_iconst (v := (1 : Int32)) hM dL_law_480 (by decide) ?_
  refine q_iadd hM dL_law_481 (fun z13730 hz13730 => ?_)
  have tz13730 := i_addT hz13730 (rfl : i.toInt = i.toInt) (kc_1 : (1 : Int32).toInt = 1) (by omega) (by omega)
  refine s_iald z13730.toInt.toNat hM hW hXB (by omega) (by omega) (by omega) dL_law_482 ?_
  refine q_top (fun a13731 ha13731 => ?_)
  refine q_aload_n hM dL_law_483 (lv_at hl 3 rfl) ?_
  refine q_iload_n hM dL_law_484 (lv_at hl 0 rfl) ?_
  refine q_iconst (v := (2 : Int32)) hM dL_law_485 (by decide) ?_
  refine q_iadd hM dL_law_486 (fun z13732 hz13732 => ?_)
  have tz13732 := i_addT hz13732 (rfl : i.toInt = i.toInt) (kc_2 : (2 : Int32).toInt = 2) (by omega) (by omega)
  refine s_iald z13732.toInt.toNat hM hW hXB (by omega) (by omega) (by omega) dL_law_487 ?_
  refine q_top (fun a13733 ha13733 => ?_)
  refine q_callV (As := [.int a13731, .int a13733]) (rest := []) hM hW hR hC myX11_grade (kAW (v_2_8 (List.mem_of_getElem? (i := 15) rfl)) rfl) (rfl : vwCl[11]? = some (RX11, TX11, 16)) rfl lb_0.1 (shO hP.1 lb_0) (p_X11_grade _ _ cA ad g a13731 a13733  hP.1 hP.2.1) ⟨by decide, by decide⟩ rfl rfl hl.1 (Nat.le_of_ble_eq_true rfl) dL_law_488 (fun v g1 H locs hp hW => ?_)
  obtain ⟨r1, rfl, hs1, hG1, hf1, ha1⟩ := hp
  have hP0 := hP
  have hP : PI ad cA g1 := PI_fr hP0 hs1 hG1 hf1 (by omega) (by omega) (by omega) (by omega) (by omega) (by omega) (by omega) (by omega) (by omega)
  refine q_pop hM dL_law_491 rfl ?_
  refine q_aload_n hM dL_law_492 (lv_at hl 1 rfl) ?_
  refine q_aload_n hM dL_law_493 (lv_at hl 3 rfl) ?_
  refine q_iload_n hM dL_law_494 (lv_at hl 0 rfl) ?_
  refine q_iconst (v := (1 : Int32)) hM dL_law_495 (by decide) ?_
  refine q_iadd hM dL_law_496 (fun z13734 hz13734 => ?_)
  have tz13734 := i_addT hz13734 (rfl : i.toInt = i.toInt) (kc_1 : (1 : Int32).toInt = 1) (by omega) (by omega)
  refine s_iald z13734.toInt.toNat hM hW hXB (by omega) (by omega) (by omega) dL_law_497 ?_
  refine q_top (fun a13735 ha13735 => ?_)
  refine q_aload_n hM dL_law_498 (lv_at hl 3 rfl) ?_
  refine q_iload_n hM dL_law_499 (lv_at hl 0 rfl) ?_
  refine q_iconst (v := (2 : Int32)) hM dL_law_500 (by decide) ?_
  refine q_iadd hM dL_law_501 (fun z13736 hz13736 => ?_)
  have tz13736 := i_addT hz13736 (rfl : i.toInt = i.toInt) (kc_2 : (2 : Int32).toInt = 2) (by omega) (by omega)
  refine s_iald z13736.toInt.toNat hM hW hXB (by omega) (by omega) (by omega) dL_law_502 ?_
  refine q_top (fun a13737 ha13737 => ?_)
  refine q_callV (As := [.int a13735, .int a13737]) (rest := []) hM hW hR hC myX12_grade (kAW (v_5_11 (List.mem_of_getElem? (i := 1) rfl)) rfl) (rfl : vwCl[12]? = some (RX12, TX12, 86)) rfl lb_129.1 (shO hP.1 lb_129) (p_X12_grade _ _ cA ad g1 a13735 a13737 hP.1 hP.2.1) ⟨by decide, by decide⟩ rfl rfl hl.1 (Nat.le_of_ble_eq_true rfl) dL_law_503 (fun v g2 H locs hp hW => ?_)
  obtain ⟨r2, rfl, hs2, hG2, hf2, ha2⟩ := hp
  have hP1 := hP
  have hP : PI ad cA g2 := PI_fr hP1 hs2 hG2 hf2 (by omega) (by omega) (by omega) (by omega) (by omega) (by omega) (by omega) (by omega) (by omega)
  have qa13735 : a13735 = a13731 := by rw [ha13735, ha13731]; congr 1; omega
  have qa13737 : a13737 = a13733 := by rw [ha13737, ha13733]; congr 1; omega
  first | rw [qa13735] at ha2 | skip
  first | rw [qa13737] at ha2 | skip
  refine q_pop hM dL_law_506 rfl ?_
  refine q_goto (tgt := 1457) hM dL_law_507 (by decide) ?_
  exact kk _ _ _ _ hP ⟨⟨(by rw [show fI g2 3 2 = fI g 3 2 from (FRf hf1 hf2 (by omega) (by omega)), show arI g2 131 = arI g 131 from ((hf2.2.1 131 (by omega)).trans (hf1.2.1 131 (by omega)))]; exact hRl.1.1), (by rw [show fI g2 18 3 = fI g 18 3 from (FRf hf1 hf2 (by omega) (by omega)), show arI g2 158 = arI g 158 from ((hf2.2.1 158 (by omega)).trans (hf1.2.1 158 (by omega)))]; exact hRl.1.2.1), (by rw [show fI g2 30 3 = fI g 30 3 from (FRf hf1 hf2 (by omega) (by omega)), show arI g2 162 = arI g 162 from ((hf2.2.1 162 (by omega)).trans (hf1.2.1 162 (by omega)))]; exact hRl.1.2.2.1), (((FRf hf1 hf2 (by omega) (by omega))).trans (hRl.1.2.2.2.1.trans ((FRf hf1 hf2 (by omega) (by omega))).symm)), (((FRf hf1 hf2 (by omega) (by omega))).trans (hRl.1.2.2.2.2.1.trans ((FRf hf1 hf2 (by omega) (by omega))).symm)), (((FRf hf1 hf2 (by omega) (by omega))).trans (hRl.1.2.2.2.2.2.trans (congrFun ((hf2.2.1 166 (by omega)).trans (hf1.2.1 166 (by omega))) 1).symm))⟩, (fun k j hk hj => (congrFun ((hf2.2.1 (6 + 1 * k) (by omega)).trans (hf1.2.1 (6 + 1 * k) (by omega))) j).trans ((hRl.2 k j hk hj).trans (congrFun ((hf2.2.1 133 (by omega)).trans (hf1.2.1 133 (by omega))) _).symm))⟩ hW hl

set_option maxRecDepth 100000 in
set_option maxHeartbeats 4000000 in
theorem lc_exam {K : KT} {cA : Nat → ClassId} {ad : Nat → Nat} {b L : Nat} {xs : Nat → Int32} {H : Heap} {locs : List Loc} {ls : Array Slot} {g : Nat → va_E} {i : Int32} (hM : MB K cA code 4 R_law) (hXB : XB K b L xs) (hL : L ≤ 3072) (hR : HasRoom K 2048 84000) (hC : Cells K 600000 7302250) (hP : PI ad cA g) (hRl : RQ g) (hi0 : 0 ≤ i.toInt) (hi : i.toInt + 6 ≤ L) (hW : WB NN ad K g H locs) (hl : lv_has ls 4 [(3, .int i), (2, .ref (ad 129)), (1, .ref (ad 0)), (0, .ref b)]) (kk : ∀ (g : Nat → va_E) (H : Heap) (locs : List Loc) (ls : Array Slot), PI ad cA g → RQ g → WB NN ad K g H locs → lv_has ls 4 [(3, .int i), (2, .ref (ad 129)), (1, .ref (ad 0)), (0, .ref b)] → XX K 600000 7302250 H locs 1457 ls []) : XX K 600000 7302250 H locs 510 ls [] := by
  have hLn : L < 1000000 := by omega
  obtain ⟨lw, lwn, hlc, h13, h14⟩ := id hP.2.2.1
  refine q_aload_n hM dL_law_510 (lv_at hl 2 rfl) ?_
  refine q_aload_n hM dL_law_511 (lv_at hl 3 rfl) ?_
  refine q_iload_n hM dL_law_512 (lv_at hl 0 rfl) ?_
  refine q_iconst (v := (1 : Int32)) hM dL_law_513 (by decide) ?_
  refine q_iadd hM dL_law_514 (fun z13738 hz13738 => ?_)
  have tz13738 := i_addT hz13738 (rfl : i.toInt = i.toInt) (kc_1 : (1 : Int32).toInt = 1) (by omega) (by omega)
  refine s_iald z13738.toInt.toNat hM hW hXB (by omega) (by omega) (by omega) dL_law_515 ?_
  refine q_top (fun a13739 ha13739 => ?_)
  refine q_aload_n hM dL_law_516 (lv_at hl 3 rfl) ?_
  refine q_iload_n hM dL_law_517 (lv_at hl 0 rfl) ?_
  refine q_iconst (v := (2 : Int32)) hM dL_law_518 (by decide) ?_
  refine q_iadd hM dL_law_519 (fun z13740 hz13740 => ?_)
  have tz13740 := i_addT hz13740 (rfl : i.toInt = i.toInt) (kc_2 : (2 : Int32).toInt = 2) (by omega) (by omega)
  refine s_iald z13740.toInt.toNat hM hW hXB (by omega) (by omega) (by omega) dL_law_520 ?_
  refine q_top (fun a13741 ha13741 => ?_)
  refine q_callV (As := [.int a13739, .int a13741]) (rest := []) hM hW hR hC myX11_exam (kAW (v_2_9 (List.mem_of_getElem? (i := 3) rfl)) rfl) (rfl : vwCl[11]? = some (RX11, TX11, 16)) rfl lb_0.1 (shO hP.1 lb_0) (p_X11_exam _ _ cA ad g a13739 a13741  hP.1 hP.2.1) ⟨by decide, by decide⟩ rfl rfl hl.1 (Nat.le_of_ble_eq_true rfl) dL_law_521 (fun v g1 H locs hp hW => ?_)
  obtain ⟨r1, rfl, hs1, hG1, hf1, ha1⟩ := hp
  have hP0 := hP
  have hP : PI ad cA g1 := PI_fr hP0 hs1 hG1 hf1 (by omega) (by omega) (by omega) (by omega) (by omega) (by omega) (by omega) (by omega) (by omega)
  refine q_pop hM dL_law_524 rfl ?_
  refine q_aload_n hM dL_law_525 (lv_at hl 1 rfl) ?_
  refine q_aload_n hM dL_law_526 (lv_at hl 3 rfl) ?_
  refine q_iload_n hM dL_law_527 (lv_at hl 0 rfl) ?_
  refine q_iconst (v := (1 : Int32)) hM dL_law_528 (by decide) ?_
  refine q_iadd hM dL_law_529 (fun z13742 hz13742 => ?_)
  have tz13742 := i_addT hz13742 (rfl : i.toInt = i.toInt) (kc_1 : (1 : Int32).toInt = 1) (by omega) (by omega)
  refine s_iald z13742.toInt.toNat hM hW hXB (by omega) (by omega) (by omega) dL_law_530 ?_
  refine q_top (fun a13743 ha13743 => ?_)
  refine q_aload_n hM dL_law_531 (lv_at hl 3 rfl) ?_
  refine q_iload_n hM dL_law_532 (lv_at hl 0 rfl) ?_
  refine q_iconst (v := (2 : Int32)) hM dL_law_533 (by decide) ?_
  refine q_iadd hM dL_law_534 (fun z13744 hz13744 => ?_)
  have tz13744 := i_addT hz13744 (rfl : i.toInt = i.toInt) (kc_2 : (2 : Int32).toInt = 2) (by omega) (by omega)
  refine s_iald z13744.toInt.toNat hM hW hXB (by omega) (by omega) (by omega) dL_law_535 ?_
  refine q_top (fun a13745 ha13745 => ?_)
  refine q_callV (As := [.int a13743, .int a13745]) (rest := []) hM hW hR hC myX12_exam (kAW (v_6_2 (List.mem_of_getElem? (i := 13) rfl)) rfl) (rfl : vwCl[12]? = some (RX12, TX12, 86)) rfl lb_129.1 (shO hP.1 lb_129) (p_X12_exam _ _ cA ad g1 a13743 a13745 hP.1 hP.2.1) ⟨by decide, by decide⟩ rfl rfl hl.1 (Nat.le_of_ble_eq_true rfl) dL_law_536 (fun v g2 H locs hp hW => ?_)
  obtain ⟨r2, rfl, hs2, hG2, hf2, ha2⟩ := hp
  have hP1 := hP
  have hP : PI ad cA g2 := PI_fr hP1 hs2 hG2 hf2 (by omega) (by omega) (by omega) (by omega) (by omega) (by omega) (by omega) (by omega) (by omega)
  have qa13743 : a13743 = a13739 := by rw [ha13743, ha13739]; congr 1; omega
  have qa13745 : a13745 = a13741 := by rw [ha13745, ha13741]; congr 1; omega
  first | rw [qa13743] at ha2 | skip
  first | rw [qa13745] at ha2 | skip
  refine q_pop hM dL_law_539 rfl ?_
  refine q_goto (tgt := 1457) hM dL_law_540 (by decide) ?_
  exact kk _ _ _ _ hP ⟨⟨(by rw [show fI g2 3 2 = fI g 3 2 from (FRf hf1 hf2 (by omega) (by omega)), show arI g2 131 = arI g 131 from ((hf2.2.1 131 (by omega)).trans (hf1.2.1 131 (by omega)))]; exact hRl.1.1), (by rw [show fI g2 18 3 = fI g 18 3 from (FRf hf1 hf2 (by omega) (by omega)), show arI g2 158 = arI g 158 from ((hf2.2.1 158 (by omega)).trans (hf1.2.1 158 (by omega)))]; exact hRl.1.2.1), (by rw [show fI g2 30 3 = fI g 30 3 from (FRf hf1 hf2 (by omega) (by omega)), show arI g2 162 = arI g 162 from ((hf2.2.1 162 (by omega)).trans (hf1.2.1 162 (by omega)))]; exact hRl.1.2.2.1), (((FRf hf1 hf2 (by omega) (by omega))).trans (hRl.1.2.2.2.1.trans ((FRf hf1 hf2 (by omega) (by omega))).symm)), (((FRf hf1 hf2 (by omega) (by omega))).trans (hRl.1.2.2.2.2.1.trans ((FRf hf1 hf2 (by omega) (by omega))).symm)), (((FRf hf1 hf2 (by omega) (by omega))).trans (hRl.1.2.2.2.2.2.trans (congrFun ((hf2.2.1 166 (by omega)).trans (hf1.2.1 166 (by omega))) 1).symm))⟩, (fun k j hk hj => (congrFun ((hf2.2.1 (6 + 1 * k) (by omega)).trans (hf1.2.1 (6 + 1 * k) (by omega))) j).trans ((hRl.2 k j hk hj).trans (congrFun ((hf2.2.1 133 (by omega)).trans (hf1.2.1 133 (by omega))) _).symm))⟩ hW hl

set_option maxRecDepth 100000 in
set_option maxHeartbeats 4000000 in
theorem lc_weeks {K : KT} {cA : Nat → ClassId} {ad : Nat → Nat} {b L : Nat} {xs : Nat → Int32} {H : Heap} {locs : List Loc} {ls : Array Slot} {g : Nat → va_E} {i : Int32} (hM : MB K cA code 4 R_law) (hXB : XB K b L xs) (hL : L ≤ 3072) (hR : HasRoom K 2048 84000) (hC : Cells K 600000 7302250) (hP : PI ad cA g) (hRl : RQ g) (hi0 : 0 ≤ i.toInt) (hi : i.toInt + 6 ≤ L) (hW : WB NN ad K g H locs) (hl : lv_has ls 4 [(3, .int i), (2, .ref (ad 129)), (1, .ref (ad 0)), (0, .ref b)]) (kk : ∀ (g : Nat → va_E) (H : Heap) (locs : List Loc) (ls : Array Slot), PI ad cA g → RQ g → WB NN ad K g H locs → lv_has ls 4 [(3, .int i), (2, .ref (ad 129)), (1, .ref (ad 0)), (0, .ref b)] → XX K 600000 7302250 H locs 1457 ls []) : XX K 600000 7302250 H locs 543 ls [] := by
  have hLn : L < 1000000 := by omega
  obtain ⟨lw, lwn, hlc, h13, h14⟩ := id hP.2.2.1
  refine q_aload_n hM dL_law_543 (lv_at hl 2 rfl) ?_
  refine q_aload_n hM dL_law_544 (lv_at hl 3 rfl) ?_
  refine q_iload_n hM dL_law_545 (lv_at hl 0 rfl) ?_
  refine q_iconst (v := (1 : Int32)) hM dL_law_546 (by decide) ?_
  refine q_iadd hM dL_law_547 (fun z13746 hz13746 => ?_)
  have tz13746 := i_addT hz13746 (rfl : i.toInt = i.toInt) (kc_1 : (1 : Int32).toInt = 1) (by omega) (by omega)
  refine s_iald z13746.toInt.toNat hM hW hXB (by omega) (by omega) (by omega) dL_law_548 ?_
  refine q_top (fun a13747 ha13747 => ?_)
  refine q_callV (As := [.int a13747]) (rest := []) hM hW hR hC myX11_weeks (kAW (v_2_9 (List.mem_of_getElem? (i := 7) rfl)) rfl) (rfl : vwCl[11]? = some (RX11, TX11, 16)) rfl lb_0.1 (shO hP.1 lb_0) (s_X11_weeks _ _ cA ad g a13747 (fI g 18 4) lw hP.1 hP.2.1 (by unfold isLw; omega) (shI hP.1 lb_18 (by decide) (by decide)) h13) ⟨by decide, by decide⟩ rfl rfl hl.1 (Nat.le_of_ble_eq_true rfl) dL_law_549 (fun v g1 H locs hp hW => ?_)
  obtain ⟨x0, r1, rfl, hs1, hG1, hf1, cx0, cx1⟩ := hp
  have hP0 := hP
  have hP : PI ad cA g1 := PI_fr hP0 hs1 hG1 hf1 (by omega) (by omega) (by omega) (by omega) (by omega) (by omega) (by omega) (by omega) (by omega)
  refine q_pop hM dL_law_552 rfl ?_
  refine q_aload_n hM dL_law_553 (lv_at hl 1 rfl) ?_
  refine q_aload_n hM dL_law_554 (lv_at hl 3 rfl) ?_
  refine q_iload_n hM dL_law_555 (lv_at hl 0 rfl) ?_
  refine q_iconst (v := (1 : Int32)) hM dL_law_556 (by decide) ?_
  refine q_iadd hM dL_law_557 (fun z13748 hz13748 => ?_)
  have tz13748 := i_addT hz13748 (rfl : i.toInt = i.toInt) (kc_1 : (1 : Int32).toInt = 1) (by omega) (by omega)
  refine s_iald z13748.toInt.toNat hM hW hXB (by omega) (by omega) (by omega) dL_law_558 ?_
  refine q_top (fun a13749 ha13749 => ?_)
  refine q_callV (As := [.int a13749]) (rest := []) hM hW hR hC myX12_weeks (kAW (v_6_7 (List.mem_of_getElem? (i := 9) rfl)) rfl) (rfl : vwCl[12]? = some (RX12, TX12, 86)) rfl lb_129.1 (shO hP.1 lb_129) (s_X12_weeks _ _ cA ad g1 a13749 (fI g1 129 56) hP.1 hP.2.1 (shI hP.1 lb_129 (by decide) (by decide)) hP.2.2.2.1.1) ⟨by decide, by decide⟩ rfl rfl hl.1 (Nat.le_of_ble_eq_true rfl) dL_law_559 (fun v g2 H locs hp hW => ?_)
  obtain ⟨m0, r2, rfl, hs2, hG2, hf2, cm0, cm1⟩ := hp
  have hP1 := hP
  have hP : PI ad cA g2 := PI_fr hP1 hs2 hG2 hf2 (by omega) (by omega) (by omega) (by omega) (by omega) (by omega) (by omega) (by omega) (by omega)
  have qa13749 : a13749 = a13747 := by rw [ha13749, ha13747]; congr 1; omega
  first | rw [qa13749] at cm0 | skip
  first | rw [qa13749] at cm1 | skip
  refine q_pop hM dL_law_562 rfl ?_
  refine q_goto (tgt := 1457) hM dL_law_563 (by decide) ?_
  exact kk _ _ _ _ hP ⟨⟨(by rw [show fI g2 3 2 = fI g 3 2 from (FRf hf1 hf2 (by omega) (by omega)), show arI g2 131 = arI g 131 from ((hf2.2.1 131 (by omega)).trans (hf1.2.1 131 (by omega)))]; exact hRl.1.1), (by rw [show fI g2 18 3 = fI g 18 3 from (FRf hf1 hf2 (by omega) (by omega)), show arI g2 158 = arI g 158 from ((hf2.2.1 158 (by omega)).trans (hf1.2.1 158 (by omega)))]; exact hRl.1.2.1), (by rw [show fI g2 30 3 = fI g 30 3 from (FRf hf1 hf2 (by omega) (by omega)), show arI g2 162 = arI g 162 from ((hf2.2.1 162 (by omega)).trans (hf1.2.1 162 (by omega)))]; exact hRl.1.2.2.1), (((FRf hf1 hf2 (by omega) (by omega))).trans (hRl.1.2.2.2.1.trans ((FRf hf1 hf2 (by omega) (by omega))).symm)), (by
    rw [show fI g2 18 4 = x0 from ((FR1f hf2 (by omega)).trans (fI_of cx0)), show fI g2 129 56 = m0 from fI_of cm0]
    have k5 : fI g1 129 56 = fI g 18 4 := (FR1f hf1 (by omega)).trans hRl.1.2.2.2.2.1.symm
    rw [k5] at cm1
    unfold WKr at cx1 cm1
    rcases cx1 with h1 | ⟨h1, e1⟩
    · rcases cm1 with h2 | ⟨h2, e2⟩
      · exact Int32.toInt_inj.mp (by omega)
      · exact absurd ⟨h1.1, h1.2.1⟩ h2
    · rcases cm1 with h2 | ⟨h2, e2⟩
      · exact absurd ⟨h2.1, h2.2.1⟩ h1
      · rw [e1, e2]), (((FRf hf1 hf2 (by omega) (by omega))).trans (hRl.1.2.2.2.2.2.trans (congrFun ((hf2.2.1 166 (by omega)).trans (hf1.2.1 166 (by omega))) 1).symm))⟩, (fun k j hk hj => (congrFun ((hf2.2.1 (6 + 1 * k) (by omega)).trans (hf1.2.1 (6 + 1 * k) (by omega))) j).trans ((hRl.2 k j hk hj).trans (congrFun ((hf2.2.1 133 (by omega)).trans (hf1.2.1 133 (by omega))) _).symm))⟩ hW hl

set_option maxRecDepth 100000 in
set_option maxHeartbeats 4000000 in
theorem lc_tried {K : KT} {cA : Nat → ClassId} {ad : Nat → Nat} {b L : Nat} {xs : Nat → Int32} {H : Heap} {locs : List Loc} {ls : Array Slot} {g : Nat → va_E} {i : Int32} (hM : MB K cA code 4 R_law) (hXB : XB K b L xs) (hL : L ≤ 3072) (hR : HasRoom K 2048 84000) (hC : Cells K 600000 7302250) (hP : PI ad cA g) (hRl : RQ g) (hi0 : 0 ≤ i.toInt) (hi : i.toInt + 6 ≤ L) (hW : WB NN ad K g H locs) (hl : lv_has ls 4 [(3, .int i), (2, .ref (ad 129)), (1, .ref (ad 0)), (0, .ref b)]) (kk : ∀ (g : Nat → va_E) (H : Heap) (locs : List Loc) (ls : Array Slot), PI ad cA g → RQ g → WB NN ad K g H locs → lv_has ls 4 [(3, .int i), (2, .ref (ad 129)), (1, .ref (ad 0)), (0, .ref b)] → XX K 600000 7302250 H locs 1457 ls []) : XX K 600000 7302250 H locs 566 ls [] := by
  have hLn : L < 1000000 := by omega
  obtain ⟨lw, lwn, hlc, h13, h14⟩ := id hP.2.2.1
  refine q_aload_n hM dL_law_566 (lv_at hl 2 rfl) ?_
  refine q_aload_n hM dL_law_567 (lv_at hl 3 rfl) ?_
  refine q_iload_n hM dL_law_568 (lv_at hl 0 rfl) ?_
  refine q_iconst (v := (1 : Int32)) hM dL_law_569 (by decide) ?_
  refine q_iadd hM dL_law_570 (fun z13750 hz13750 => ?_)
  have tz13750 := i_addT hz13750 (rfl : i.toInt = i.toInt) (kc_1 : (1 : Int32).toInt = 1) (by omega) (by omega)
  refine s_iald z13750.toInt.toNat hM hW hXB (by omega) (by omega) (by omega) dL_law_571 ?_
  refine q_top (fun a13751 ha13751 => ?_)
  refine q_aload_n hM dL_law_572 (lv_at hl 3 rfl) ?_
  refine q_iload_n hM dL_law_573 (lv_at hl 0 rfl) ?_
  refine q_iconst (v := (2 : Int32)) hM dL_law_574 (by decide) ?_
  refine q_iadd hM dL_law_575 (fun z13752 hz13752 => ?_)
  have tz13752 := i_addT hz13752 (rfl : i.toInt = i.toInt) (kc_2 : (2 : Int32).toInt = 2) (by omega) (by omega)
  refine s_iald z13752.toInt.toNat hM hW hXB (by omega) (by omega) (by omega) dL_law_576 ?_
  refine q_top (fun a13753 ha13753 => ?_)
  refine q_callV (As := [.int a13751, .int a13753]) (rest := []) hM hW hR hC myX11_tried (kAW (v_2_14 (List.mem_of_getElem? (i := 13) rfl)) rfl) (rfl : vwCl[11]? = some (RX11, TX11, 16)) rfl lb_0.1 (shO hP.1 lb_0) (p_X11_tried _ _ cA ad g a13751 a13753 lw hP.1 hP.2.1 (by unfold isLw; omega) h13) ⟨by decide, by decide⟩ rfl rfl hl.1 (Nat.le_of_ble_eq_true rfl) dL_law_577 (fun v g1 H locs hp hW => ?_)
  obtain ⟨r1, rfl, hs1, hG1, hf1⟩ := hp
  have hP0 := hP
  have hP : PI ad cA g1 := PI_fr hP0 hs1 hG1 hf1 (by omega) (by omega) (by omega) (by omega) (by omega) (by omega) (by omega) (by omega) (by omega)
  refine q_pop hM dL_law_580 rfl ?_
  refine q_aload_n hM dL_law_581 (lv_at hl 1 rfl) ?_
  refine q_aload_n hM dL_law_582 (lv_at hl 3 rfl) ?_
  refine q_iload_n hM dL_law_583 (lv_at hl 0 rfl) ?_
  refine q_iconst (v := (1 : Int32)) hM dL_law_584 (by decide) ?_
  refine q_iadd hM dL_law_585 (fun z13754 hz13754 => ?_)
  have tz13754 := i_addT hz13754 (rfl : i.toInt = i.toInt) (kc_1 : (1 : Int32).toInt = 1) (by omega) (by omega)
  refine s_iald z13754.toInt.toNat hM hW hXB (by omega) (by omega) (by omega) dL_law_586 ?_
  refine q_top (fun a13755 ha13755 => ?_)
  refine q_aload_n hM dL_law_587 (lv_at hl 3 rfl) ?_
  refine q_iload_n hM dL_law_588 (lv_at hl 0 rfl) ?_
  refine q_iconst (v := (2 : Int32)) hM dL_law_589 (by decide) ?_
  refine q_iadd hM dL_law_590 (fun z13756 hz13756 => ?_)
  have tz13756 := i_addT hz13756 (rfl : i.toInt = i.toInt) (kc_2 : (2 : Int32).toInt = 2) (by omega) (by omega)
  refine s_iald z13756.toInt.toNat hM hW hXB (by omega) (by omega) (by omega) dL_law_591 ?_
  refine q_top (fun a13757 ha13757 => ?_)
  refine q_callV (As := [.int a13755, .int a13757]) (rest := []) hM hW hR hC myX12_tried (kAW (v_6_9 (List.mem_of_getElem? (i := 9) rfl)) rfl) (rfl : vwCl[12]? = some (RX12, TX12, 86)) rfl lb_129.1 (shO hP.1 lb_129) (s_X12_tried _ _ cA ad g1 a13755 a13757 (fI g1 129 56) hP.1 hP.2.1 (shI hP.1 lb_129 (by decide) (by decide)) hP.2.2.2.1.1 (fun q hq => by rw [hf1.2.1 158 (by omega)]; exact SM_01 hRl.1.2.1 q hq)) ⟨by decide, by decide⟩ rfl rfl hl.1 (Nat.le_of_ble_eq_true rfl) dL_law_592 (fun v g2 H locs hp hW => ?_)
  obtain ⟨m0, r2, rfl, hs2, hG2, hf2, cm0, cm1, cm2, cm3, cm4⟩ := hp
  have hP1 := hP
  have hP : PI ad cA g2 := PI_fr hP1 hs2 hG2 hf2 (by omega) (by omega) (by omega) (by omega) (by omega) (by omega) (by omega) (by omega) (by omega)
  have qa13755 : a13755 = a13751 := by rw [ha13755, ha13751]; congr 1; omega
  have qa13757 : a13757 = a13753 := by rw [ha13757, ha13753]; congr 1; omega
  first | rw [qa13755] at cm0 | skip
  first | rw [qa13757] at cm0 | skip
  first | rw [qa13755] at cm1 | skip
  first | rw [qa13757] at cm1 | skip
  first | rw [qa13755] at cm2 | skip
  first | rw [qa13757] at cm2 | skip
  first | rw [qa13755] at cm3 | skip
  first | rw [qa13757] at cm3 | skip
  first | rw [qa13755] at cm4 | skip
  first | rw [qa13757] at cm4 | skip
  refine q_pop hM dL_law_595 rfl ?_
  refine q_goto (tgt := 1457) hM dL_law_596 (by decide) ?_
  exact kk _ _ _ _ hP ⟨⟨(by rw [show fI g2 3 2 = fI g 3 2 from (FRf hf1 hf2 (by omega) (by omega)), show arI g2 131 = arI g 131 from ((hf2.2.1 131 (by omega)).trans (hf1.2.1 131 (by omega)))]; exact hRl.1.1), (by rw [show fI g2 18 3 = fI g 18 3 from (FRf hf1 hf2 (by omega) (by omega))]; exact SM_cg hRl.1.2.1 (fun q hq => (cm1 q hq).trans (congrFun (hf1.2.1 158 (by omega)) q))), (by rw [show fI g2 30 3 = fI g 30 3 from (FRf hf1 hf2 (by omega) (by omega))]; exact SM_cg hRl.1.2.2.1 (fun q hq => (cm2 _ (by omega)).trans (congrFun (hf1.2.1 162 (by omega)) (8 + q)))), (((FRf hf1 hf2 (by omega) (by omega))).trans (hRl.1.2.2.2.1.trans ((FRf hf1 hf2 (by omega) (by omega))).symm)), ((FRf hf1 hf2 (by omega) (by omega)).trans (hRl.1.2.2.2.2.1.trans ((FR1f hf1 (by omega)).symm.trans (cm4.symm.trans (fI_of cm0).symm)))), ((FRf hf1 hf2 (by omega) (by omega)).trans (hRl.1.2.2.2.2.2.trans ((congrFun (hf1.2.1 166 (by omega)) 1).symm.trans cm3.symm)))⟩, (fun k j hk hj => (congrFun ((hf2.2.1 (6 + 1 * k) (by omega)).trans (hf1.2.1 (6 + 1 * k) (by omega))) j).trans ((hRl.2 k j hk hj).trans (congrFun ((hf2.2.1 133 (by omega)).trans (hf1.2.1 133 (by omega))) _).symm))⟩ hW hl
