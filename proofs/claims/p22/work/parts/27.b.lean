set_option maxRecDepth 100000 in
set_option maxHeartbeats 4000000 in
theorem lc_fact {K : KT} {cA : Nat → ClassId} {ad : Nat → Nat} {b L : Nat} {xs : Nat → Int32} {H : Heap} {locs : List Loc} {ls : Array Slot} {g : Nat → va_E} {i : Int32} (hM : MB K cA code 4 R_law) (hXB : XB K b L xs) (hL : L ≤ 3072) (hR : HasRoom K 2048 84000) (hC : Cells K 600000 7302250) (hP : PI ad cA g) (hRl : RQ g) (hi0 : 0 ≤ i.toInt) (hi : i.toInt + 6 ≤ L) (hW : WB NN ad K g H locs) (hl : lv_has ls 4 [(3, .int i), (2, .ref (ad 129)), (1, .ref (ad 0)), (0, .ref b)]) (kk : ∀ (g : Nat → va_E) (H : Heap) (locs : List Loc) (ls : Array Slot), PI ad cA g → RQ g → WB NN ad K g H locs → lv_has ls 4 [(3, .int i), (2, .ref (ad 129)), (1, .ref (ad 0)), (0, .ref b)] → XX K 600000 7302250 H locs 1457 ls []) : XX K 600000 7302250 H locs 196 ls [] := by
  have hLn : L < 1000000 := by omega
  obtain ⟨lw, lwn, hlc, h13, h14⟩ := id hP.2.2.1
  refine q_aload_n hM dL_law_196 (lv_at hl 2 rfl) ?_
  refine q_aload_n hM dL_law_197 (lv_at hl 3 rfl) ?_
  refine q_iload_n hM dL_law_198 (lv_at hl 0 rfl) ?_
  refine q_iconst (v := (1 : Int32)) hM dL_law_199 (by decide) ?_
  refine q_iadd hM dL_law_200 (fun z13765 hz13765 => ?_)
  have tz13765 := i_addT hz13765 (rfl : i.toInt = i.toInt) (kc_1 : (1 : Int32).toInt = 1) (by omega) (by omega)
  refine s_iald z13765.toInt.toNat hM hW hXB (by omega) (by omega) (by omega) dL_law_201 ?_
  refine q_top (fun a13766 ha13766 => ?_)
  refine q_aload_n hM dL_law_202 (lv_at hl 3 rfl) ?_
  refine q_iload_n hM dL_law_203 (lv_at hl 0 rfl) ?_
  refine q_iconst (v := (2 : Int32)) hM dL_law_204 (by decide) ?_
  refine q_iadd hM dL_law_205 (fun z13767 hz13767 => ?_)
  have tz13767 := i_addT hz13767 (rfl : i.toInt = i.toInt) (kc_2 : (2 : Int32).toInt = 2) (by omega) (by omega)
  refine s_iald z13767.toInt.toNat hM hW hXB (by omega) (by omega) (by omega) dL_law_206 ?_
  refine q_top (fun a13768 ha13768 => ?_)
  refine q_callV (As := [.int a13766, .int a13768]) (rest := []) hM hW hR hC myX11_fact (kAW (v_1_9 (List.mem_of_getElem? (i := 13) rfl)) rfl) (rfl : vwCl[11]? = some (RX11, TX11, 16)) rfl lb_0.1 (shO hP.1 lb_0) (s_X11_fact _ _ cA ad g a13766 a13768 (fI g 3 2)  hP.1 hP.2.1 (shI hP.1 lb_3 (by decide) (by decide))) ⟨by decide, by decide⟩ rfl rfl hl.1 (Nat.le_of_ble_eq_true rfl) dL_law_207 (fun v g1 H locs hp hW => ?_)
  obtain ⟨x0, r1, rfl, hs1, hG1, hf1, cx0, cx1, ha1⟩ := hp
  have hP0 := hP
  have hP : PI ad cA g1 := PI_fr hP0 hs1 hG1 hf1 (by first | decide | omega) (by first | decide | omega) (by first | decide | omega) (by first | decide | omega) (by first | decide | omega) (by first | decide | omega) (by first | decide | omega) (by first | decide | omega) (by first | decide | omega)
  refine q_pop hM dL_law_210 rfl ?_
  refine q_aload_n hM dL_law_211 (lv_at hl 1 rfl) ?_
  refine q_aload_n hM dL_law_212 (lv_at hl 3 rfl) ?_
  refine q_iload_n hM dL_law_213 (lv_at hl 0 rfl) ?_
  refine q_iconst (v := (1 : Int32)) hM dL_law_214 (by decide) ?_
  refine q_iadd hM dL_law_215 (fun z13769 hz13769 => ?_)
  have tz13769 := i_addT hz13769 (rfl : i.toInt = i.toInt) (kc_1 : (1 : Int32).toInt = 1) (by omega) (by omega)
  refine s_iald z13769.toInt.toNat hM hW hXB (by omega) (by omega) (by omega) dL_law_216 ?_
  refine q_top (fun a13770 ha13770 => ?_)
  refine q_aload_n hM dL_law_217 (lv_at hl 3 rfl) ?_
  refine q_iload_n hM dL_law_218 (lv_at hl 0 rfl) ?_
  refine q_iconst (v := (2 : Int32)) hM dL_law_219 (by decide) ?_
  refine q_iadd hM dL_law_220 (fun z13771 hz13771 => ?_)
  have tz13771 := i_addT hz13771 (rfl : i.toInt = i.toInt) (kc_2 : (2 : Int32).toInt = 2) (by omega) (by omega)
  refine s_iald z13771.toInt.toNat hM hW hXB (by omega) (by omega) (by omega) dL_law_221 ?_
  refine q_top (fun a13772 ha13772 => ?_)
  refine q_callV (As := [.int a13770, .int a13772]) (rest := []) hM hW hR hC myX12_fact (kAW (v_5_4 (List.mem_of_getElem? (i := 9) rfl)) rfl) (rfl : vwCl[12]? = some (RX12, TX12, 86)) rfl lb_129.1 (shO hP.1 lb_129) (s_X12_fact _ _ cA ad g1 a13770 a13772 hP.1 hP.2.1) ⟨by decide, by decide⟩ rfl rfl hl.1 (Nat.le_of_ble_eq_true rfl) dL_law_222 (fun v g2 H locs hp hW => ?_)
  obtain ⟨r2, rfl, hs2, hG2, hf2, cm0, ha2⟩ := hp
  have hP1 := hP
  have hP : PI ad cA g2 := PI_fr hP1 hs2 hG2 hf2 (by first | decide | omega) (by first | decide | omega) (by first | decide | omega) (by first | decide | omega) (by first | decide | omega) (by first | decide | omega) (by first | decide | omega) (by first | decide | omega) (by first | decide | omega)
  have qa13770 : a13770 = a13766 := by rw [ha13770, ha13766]; congr 1; omega
  have qa13772 : a13772 = a13768 := by rw [ha13772, ha13768]; congr 1; omega
  first | rw [qa13770] at ha2 | skip
  first | rw [qa13772] at ha2 | skip
  first | rw [qa13770] at cm0 | skip
  first | rw [qa13772] at cm0 | skip
  refine q_pop hM dL_law_225 rfl ?_
  refine q_goto (tgt := 1457) hM dL_law_226 (by decide) ?_
  exact kk _ _ _ _ hP ⟨⟨(by
    rw [show fI g2 3 2 = x0 from ((FR1f hf2 (by first | decide | omega)).trans (fI_of cx0))]
    rcases cx1 with ⟨c1, e1⟩ | ⟨c1, e1⟩
    · rcases cm0 with ⟨c2, e2⟩ | ⟨c2, e2⟩
      · exact SM_set hRl.1.1 (by decide) e1 (by rw [e2, (hf1.2.1 131 (by first | decide | omega))]) (by decide) (by omega) (by omega)
      · exact absurd c1 c2
    · rcases cm0 with ⟨c2, e2⟩ | ⟨c2, e2⟩
      · exact absurd c2 c1
      · rw [e1, e2, (hf1.2.1 131 (by first | decide | omega))]; exact hRl.1.1), (by rw [show fI g2 18 3 = fI g 18 3 from (FRf hf1 hf2 (by first | decide | omega) (by first | decide | omega)), show arI g2 158 = arI g 158 from ((hf2.2.1 158 (by first | decide | omega)).trans (hf1.2.1 158 (by first | decide | omega)))]; exact hRl.1.2.1), (by rw [show fI g2 30 3 = fI g 30 3 from (FRf hf1 hf2 (by first | decide | omega) (by first | decide | omega)), show arI g2 162 = arI g 162 from ((hf2.2.1 162 (by first | decide | omega)).trans (hf1.2.1 162 (by first | decide | omega)))]; exact hRl.1.2.2.1), (((FRf hf1 hf2 (by first | decide | omega) (by first | decide | omega))).trans (hRl.1.2.2.2.1.trans ((FRf hf1 hf2 (by first | decide | omega) (by first | decide | omega))).symm)), (((FRf hf1 hf2 (by first | decide | omega) (by first | decide | omega))).trans (hRl.1.2.2.2.2.1.trans ((FRf hf1 hf2 (by first | decide | omega) (by first | decide | omega))).symm)), (((FRf hf1 hf2 (by first | decide | omega) (by first | decide | omega))).trans (hRl.1.2.2.2.2.2.trans (congrFun ((hf2.2.1 166 (by first | decide | omega)).trans (hf1.2.1 166 (by first | decide | omega))) 1).symm))⟩, (fun k j hk hj => (congrFun ((hf2.2.1 (6 + 1 * k) (by first | decide | omega)).trans (hf1.2.1 (6 + 1 * k) (by first | decide | omega))) j).trans ((hRl.2 k j hk hj).trans (congrFun ((hf2.2.1 133 (by first | decide | omega)).trans (hf1.2.1 133 (by first | decide | omega))) _).symm))⟩ hW hl

set_option maxRecDepth 100000 in
set_option maxHeartbeats 4000000 in
theorem lc_link {K : KT} {cA : Nat → ClassId} {ad : Nat → Nat} {b L : Nat} {xs : Nat → Int32} {H : Heap} {locs : List Loc} {ls : Array Slot} {g : Nat → va_E} {i : Int32} (hM : MB K cA code 4 R_law) (hXB : XB K b L xs) (hL : L ≤ 3072) (hR : HasRoom K 2048 84000) (hC : Cells K 600000 7302250) (hP : PI ad cA g) (hRl : RQ g) (hi0 : 0 ≤ i.toInt) (hi : i.toInt + 6 ≤ L) (hW : WB NN ad K g H locs) (hl : lv_has ls 4 [(3, .int i), (2, .ref (ad 129)), (1, .ref (ad 0)), (0, .ref b)]) (kk : ∀ (g : Nat → va_E) (H : Heap) (locs : List Loc) (ls : Array Slot), PI ad cA g → RQ g → WB NN ad K g H locs → lv_has ls 4 [(3, .int i), (2, .ref (ad 129)), (1, .ref (ad 0)), (0, .ref b)] → XX K 600000 7302250 H locs 1457 ls []) : XX K 600000 7302250 H locs 229 ls [] := by
  have hLn : L < 1000000 := by omega
  obtain ⟨lw, lwn, hlc, h13, h14⟩ := id hP.2.2.1
  refine q_aload_n hM dL_law_229 (lv_at hl 2 rfl) ?_
  refine q_aload_n hM dL_law_230 (lv_at hl 3 rfl) ?_
  refine q_iload_n hM dL_law_231 (lv_at hl 0 rfl) ?_
  refine q_iconst (v := (1 : Int32)) hM dL_law_232 (by decide) ?_
  refine q_iadd hM dL_law_233 (fun z13773 hz13773 => ?_)
  have tz13773 := i_addT hz13773 (rfl : i.toInt = i.toInt) (kc_1 : (1 : Int32).toInt = 1) (by omega) (by omega)
  refine s_iald z13773.toInt.toNat hM hW hXB (by omega) (by omega) (by omega) dL_law_234 ?_
  refine q_top (fun a13774 ha13774 => ?_)
  refine q_aload_n hM dL_law_235 (lv_at hl 3 rfl) ?_
  refine q_iload_n hM dL_law_236 (lv_at hl 0 rfl) ?_
  refine q_iconst (v := (2 : Int32)) hM dL_law_237 (by decide) ?_
  refine q_iadd hM dL_law_238 (fun z13775 hz13775 => ?_)
  have tz13775 := i_addT hz13775 (rfl : i.toInt = i.toInt) (kc_2 : (2 : Int32).toInt = 2) (by omega) (by omega)
  refine s_iald z13775.toInt.toNat hM hW hXB (by omega) (by omega) (by omega) dL_law_239 ?_
  refine q_top (fun a13776 ha13776 => ?_)
  refine q_aload_n hM dL_law_240 (lv_at hl 3 rfl) ?_
  refine q_iload_n hM dL_law_241 (lv_at hl 0 rfl) ?_
  refine q_iconst (v := (3 : Int32)) hM dL_law_242 (by decide) ?_
  refine q_iadd hM dL_law_243 (fun z13777 hz13777 => ?_)
  have tz13777 := i_addT hz13777 (rfl : i.toInt = i.toInt) (kc_3 : (3 : Int32).toInt = 3) (by omega) (by omega)
  refine s_iald z13777.toInt.toNat hM hW hXB (by omega) (by omega) (by omega) dL_law_244 ?_
  refine q_top (fun a13778 ha13778 => ?_)
  refine q_callV (As := [.int a13774, .int a13776, .int a13778]) (rest := []) hM hW hR hC myX11_link (kAW (v_1_10 (List.mem_of_getElem? (i := 4) rfl)) rfl) (rfl : vwCl[11]? = some (RX11, TX11, 16)) rfl lb_0.1 (shO hP.1 lb_0) (s_X11_link _ _ cA ad g a13774 a13776 a13778 (fI g 3 2)  hP.1 hP.2.1 (shI hP.1 lb_3 (by decide) (by decide))) ⟨by decide, by decide⟩ rfl rfl hl.1 (Nat.le_of_ble_eq_true rfl) dL_law_245 (fun v g1 H locs hp hW => ?_)
  obtain ⟨r1, rfl, hs1, hG1, hf1, cx0, ha1⟩ := hp
  have hP0 := hP
  have hP : PI ad cA g1 := PI_fr hP0 hs1 hG1 hf1 (by first | decide | omega) (by first | decide | omega) (by first | decide | omega) (by first | decide | omega) (by first | decide | omega) (by first | decide | omega) (by first | decide | omega) (by first | decide | omega) (by first | decide | omega)
  refine q_pop hM dL_law_248 rfl ?_
  refine q_aload_n hM dL_law_249 (lv_at hl 1 rfl) ?_
  refine q_aload_n hM dL_law_250 (lv_at hl 3 rfl) ?_
  refine q_iload_n hM dL_law_251 (lv_at hl 0 rfl) ?_
  refine q_iconst (v := (1 : Int32)) hM dL_law_252 (by decide) ?_
  refine q_iadd hM dL_law_253 (fun z13779 hz13779 => ?_)
  have tz13779 := i_addT hz13779 (rfl : i.toInt = i.toInt) (kc_1 : (1 : Int32).toInt = 1) (by omega) (by omega)
  refine s_iald z13779.toInt.toNat hM hW hXB (by omega) (by omega) (by omega) dL_law_254 ?_
  refine q_top (fun a13780 ha13780 => ?_)
  refine q_aload_n hM dL_law_255 (lv_at hl 3 rfl) ?_
  refine q_iload_n hM dL_law_256 (lv_at hl 0 rfl) ?_
  refine q_iconst (v := (2 : Int32)) hM dL_law_257 (by decide) ?_
  refine q_iadd hM dL_law_258 (fun z13781 hz13781 => ?_)
  have tz13781 := i_addT hz13781 (rfl : i.toInt = i.toInt) (kc_2 : (2 : Int32).toInt = 2) (by omega) (by omega)
  refine s_iald z13781.toInt.toNat hM hW hXB (by omega) (by omega) (by omega) dL_law_259 ?_
  refine q_top (fun a13782 ha13782 => ?_)
  refine q_aload_n hM dL_law_260 (lv_at hl 3 rfl) ?_
  refine q_iload_n hM dL_law_261 (lv_at hl 0 rfl) ?_
  refine q_iconst (v := (3 : Int32)) hM dL_law_262 (by decide) ?_
  refine q_iadd hM dL_law_263 (fun z13783 hz13783 => ?_)
  have tz13783 := i_addT hz13783 (rfl : i.toInt = i.toInt) (kc_3 : (3 : Int32).toInt = 3) (by omega) (by omega)
  refine s_iald z13783.toInt.toNat hM hW hXB (by omega) (by omega) (by omega) dL_law_264 ?_
  refine q_top (fun a13784 ha13784 => ?_)
  refine q_callV (As := [.int a13780, .int a13782, .int a13784]) (rest := []) hM hW hR hC myX12_link (kAW (v_5_5 (List.mem_of_getElem? (i := 2) rfl)) rfl) (rfl : vwCl[12]? = some (RX12, TX12, 86)) rfl lb_129.1 (shO hP.1 lb_129) (s_X12_link _ _ cA ad g1 a13780 a13782 a13784 hP.1 hP.2.1) ⟨by decide, by decide⟩ rfl rfl hl.1 (Nat.le_of_ble_eq_true rfl) dL_law_265 (fun v g2 H locs hp hW => ?_)
  obtain ⟨r2, rfl, hs2, hG2, hf2, cm0, ha2⟩ := hp
  have hP1 := hP
  have hP : PI ad cA g2 := PI_fr hP1 hs2 hG2 hf2 (by first | decide | omega) (by first | decide | omega) (by first | decide | omega) (by first | decide | omega) (by first | decide | omega) (by first | decide | omega) (by first | decide | omega) (by first | decide | omega) (by first | decide | omega)
  have qa13780 : a13780 = a13774 := by rw [ha13780, ha13774]; congr 1; omega
  have qa13782 : a13782 = a13776 := by rw [ha13782, ha13776]; congr 1; omega
  have qa13784 : a13784 = a13778 := by rw [ha13784, ha13778]; congr 1; omega
  first | rw [qa13780] at ha2 | skip
  first | rw [qa13782] at ha2 | skip
  first | rw [qa13784] at ha2 | skip
  first | rw [qa13780] at cm0 | skip
  first | rw [qa13782] at cm0 | skip
  first | rw [qa13784] at cm0 | skip
  have bk9 := (hP0.2.1).f (shI hP0.1 lb_3 (by decide) (by decide)) rF_3_2 (by decide)
  have sl0 : bi (fI g 3 2) a13774 = ti (arI g 131) 12 a13774 := SM_bi 12 hRl.1.1 (by omega) (by omega) (by decide) a13774
  have sl1 : bi (fI g 3 2) a13776 = ti (arI g 131) 12 a13776 := SM_bi 12 hRl.1.1 (by omega) (by omega) (by decide) a13776
  rw [hf1.2.1 131 (by first | decide | omega)] at cm0
  refine q_pop hM dL_law_268 rfl ?_
  refine q_goto (tgt := 1457) hM dL_law_269 (by decide) ?_
  exact kk _ _ _ _ hP ⟨⟨(by rw [show fI g2 3 2 = fI g 3 2 from (FRf hf1 hf2 (by first | decide | omega) (by first | decide | omega)), show arI g2 131 = arI g 131 from ((hf2.2.1 131 (by first | decide | omega)).trans (hf1.2.1 131 (by first | decide | omega)))]; exact hRl.1.1), (by rw [show fI g2 18 3 = fI g 18 3 from (FRf hf1 hf2 (by first | decide | omega) (by first | decide | omega)), show arI g2 158 = arI g 158 from ((hf2.2.1 158 (by first | decide | omega)).trans (hf1.2.1 158 (by first | decide | omega)))]; exact hRl.1.2.1), (by rw [show fI g2 30 3 = fI g 30 3 from (FRf hf1 hf2 (by first | decide | omega) (by first | decide | omega)), show arI g2 162 = arI g 162 from ((hf2.2.1 162 (by first | decide | omega)).trans (hf1.2.1 162 (by first | decide | omega)))]; exact hRl.1.2.2.1), (((FRf hf1 hf2 (by first | decide | omega) (by first | decide | omega))).trans (hRl.1.2.2.2.1.trans ((FRf hf1 hf2 (by first | decide | omega) (by first | decide | omega))).symm)), (((FRf hf1 hf2 (by first | decide | omega) (by first | decide | omega))).trans (hRl.1.2.2.2.2.1.trans ((FRf hf1 hf2 (by first | decide | omega) (by first | decide | omega))).symm)), (((FRf hf1 hf2 (by first | decide | omega) (by first | decide | omega))).trans (hRl.1.2.2.2.2.2.trans (congrFun ((hf2.2.1 166 (by first | decide | omega)).trans (hf1.2.1 166 (by first | decide | omega))) 1).symm))⟩, (by
    rcases cx0 with ⟨c1, e1⟩ | ⟨c1, e1⟩
    · rcases cm0 with ⟨c2, e2⟩ | ⟨c2, e2⟩
      · intro k j hk hj
        rw [hf2.2.1 (6 + 1 * k) (by first | decide | omega), e1 k hk, e2, hf1.2.1 133 (by first | decide | omega)]
        exact LK_upd hRl.2 hk hj (by omega) (by omega) (by omega) (by omega)
      · exact absurd (by omega) c2
    · rcases cm0 with ⟨c2, e2⟩ | ⟨c2, e2⟩
      · exact absurd (by have := ti_in c2.1; have := ti_in c2.2.1; omega) c1
      · intro k j hk hj
        rw [hf2.2.1 (6 + 1 * k) (by first | decide | omega), e1 k hk, e2, hf1.2.1 133 (by first | decide | omega)]
        exact hRl.2 k j hk hj)⟩ hW hl

set_option maxRecDepth 100000 in
set_option maxHeartbeats 4000000 in
theorem lc_pupil {K : KT} {cA : Nat → ClassId} {ad : Nat → Nat} {b L : Nat} {xs : Nat → Int32} {H : Heap} {locs : List Loc} {ls : Array Slot} {g : Nat → va_E} {i : Int32} (hM : MB K cA code 4 R_law) (hXB : XB K b L xs) (hL : L ≤ 3072) (hR : HasRoom K 2048 84000) (hC : Cells K 600000 7302250) (hP : PI ad cA g) (hRl : RQ g) (hi0 : 0 ≤ i.toInt) (hi : i.toInt + 6 ≤ L) (hW : WB NN ad K g H locs) (hl : lv_has ls 4 [(3, .int i), (2, .ref (ad 129)), (1, .ref (ad 0)), (0, .ref b)]) (kk : ∀ (g : Nat → va_E) (H : Heap) (locs : List Loc) (ls : Array Slot), PI ad cA g → RQ g → WB NN ad K g H locs → lv_has ls 4 [(3, .int i), (2, .ref (ad 129)), (1, .ref (ad 0)), (0, .ref b)] → XX K 600000 7302250 H locs 1457 ls []) : XX K 600000 7302250 H locs 272 ls [] := by
  have hLn : L < 1000000 := by omega
  obtain ⟨lw, lwn, hlc, h13, h14⟩ := id hP.2.2.1
  refine q_aload_n hM dL_law_272 (lv_at hl 2 rfl) ?_
  refine q_aload_n hM dL_law_273 (lv_at hl 3 rfl) ?_
  refine q_iload_n hM dL_law_274 (lv_at hl 0 rfl) ?_
  refine q_iconst (v := (1 : Int32)) hM dL_law_275 (by decide) ?_
  refine q_iadd hM dL_law_276 (fun z13785 hz13785 => ?_)
  have tz13785 := i_addT hz13785 (rfl : i.toInt = i.toInt) (kc_1 : (1 : Int32).toInt = 1) (by omega) (by omega)
  refine s_iald z13785.toInt.toNat hM hW hXB (by omega) (by omega) (by omega) dL_law_277 ?_
  refine q_top (fun a13786 ha13786 => ?_)
  refine q_aload_n hM dL_law_278 (lv_at hl 3 rfl) ?_
  refine q_iload_n hM dL_law_279 (lv_at hl 0 rfl) ?_
  refine q_iconst (v := (2 : Int32)) hM dL_law_280 (by decide) ?_
  refine q_iadd hM dL_law_281 (fun z13787 hz13787 => ?_)
  have tz13787 := i_addT hz13787 (rfl : i.toInt = i.toInt) (kc_2 : (2 : Int32).toInt = 2) (by omega) (by omega)
  refine s_iald z13787.toInt.toNat hM hW hXB (by omega) (by omega) (by omega) dL_law_282 ?_
  refine q_top (fun a13788 ha13788 => ?_)
  refine q_aload_n hM dL_law_283 (lv_at hl 3 rfl) ?_
  refine q_iload_n hM dL_law_284 (lv_at hl 0 rfl) ?_
  refine q_iconst (v := (3 : Int32)) hM dL_law_285 (by decide) ?_
  refine q_iadd hM dL_law_286 (fun z13789 hz13789 => ?_)
  have tz13789 := i_addT hz13789 (rfl : i.toInt = i.toInt) (kc_3 : (3 : Int32).toInt = 3) (by omega) (by omega)
  refine s_iald z13789.toInt.toNat hM hW hXB (by omega) (by omega) (by omega) dL_law_287 ?_
  refine q_top (fun a13790 ha13790 => ?_)
  refine q_callV (As := [.int a13786, .int a13788, .int a13790]) (rest := []) hM hW hR hC myX11_pupil (kAW (v_1_10 (List.mem_of_getElem? (i := 11) rfl)) rfl) (rfl : vwCl[11]? = some (RX11, TX11, 16)) rfl lb_0.1 (shO hP.1 lb_0) (s_X11_pupil _ _ cA ad g a13786 a13788 a13790 (fI g 18 3)  hP.1 hP.2.1 (shI hP.1 lb_18 (by decide) (by decide))) ⟨by decide, by decide⟩ rfl rfl hl.1 (Nat.le_of_ble_eq_true rfl) dL_law_288 (fun v g1 H locs hp hW => ?_)
  obtain ⟨x0, r1, rfl, hs1, hG1, hf1, cx0, cx1, ha1⟩ := hp
  have hP0 := hP
  have hP : PI ad cA g1 := PI_fr hP0 hs1 hG1 hf1 (by first | decide | omega) (by first | decide | omega) (by first | decide | omega) (by first | decide | omega) (by first | decide | omega) (by first | decide | omega) (by first | decide | omega) (by first | decide | omega) (by first | decide | omega)
  refine q_pop hM dL_law_291 rfl ?_
  refine q_aload_n hM dL_law_292 (lv_at hl 1 rfl) ?_
  refine q_aload_n hM dL_law_293 (lv_at hl 3 rfl) ?_
  refine q_iload_n hM dL_law_294 (lv_at hl 0 rfl) ?_
  refine q_iconst (v := (1 : Int32)) hM dL_law_295 (by decide) ?_
  refine q_iadd hM dL_law_296 (fun z13791 hz13791 => ?_)
  have tz13791 := i_addT hz13791 (rfl : i.toInt = i.toInt) (kc_1 : (1 : Int32).toInt = 1) (by omega) (by omega)
  refine s_iald z13791.toInt.toNat hM hW hXB (by omega) (by omega) (by omega) dL_law_297 ?_
  refine q_top (fun a13792 ha13792 => ?_)
  refine q_aload_n hM dL_law_298 (lv_at hl 3 rfl) ?_
  refine q_iload_n hM dL_law_299 (lv_at hl 0 rfl) ?_
  refine q_iconst (v := (2 : Int32)) hM dL_law_300 (by decide) ?_
  refine q_iadd hM dL_law_301 (fun z13793 hz13793 => ?_)
  have tz13793 := i_addT hz13793 (rfl : i.toInt = i.toInt) (kc_2 : (2 : Int32).toInt = 2) (by omega) (by omega)
  refine s_iald z13793.toInt.toNat hM hW hXB (by omega) (by omega) (by omega) dL_law_302 ?_
  refine q_top (fun a13794 ha13794 => ?_)
  refine q_aload_n hM dL_law_303 (lv_at hl 3 rfl) ?_
  refine q_iload_n hM dL_law_304 (lv_at hl 0 rfl) ?_
  refine q_iconst (v := (3 : Int32)) hM dL_law_305 (by decide) ?_
  refine q_iadd hM dL_law_306 (fun z13795 hz13795 => ?_)
  have tz13795 := i_addT hz13795 (rfl : i.toInt = i.toInt) (kc_3 : (3 : Int32).toInt = 3) (by omega) (by omega)
  refine s_iald z13795.toInt.toNat hM hW hXB (by omega) (by omega) (by omega) dL_law_307 ?_
  refine q_top (fun a13796 ha13796 => ?_)
  refine q_callV (As := [.int a13792, .int a13794, .int a13796]) (rest := []) hM hW hR hC myX12_pupil (kAW (v_6_1 (List.mem_of_getElem? (i := 15) rfl)) rfl) (rfl : vwCl[12]? = some (RX12, TX12, 86)) rfl lb_129.1 (shO hP.1 lb_129) (s_X12_pupil _ _ cA ad g1 a13792 a13794 a13796 hP.1 hP.2.1) ⟨by decide, by decide⟩ rfl rfl hl.1 (Nat.le_of_ble_eq_true rfl) dL_law_308 (fun v g2 H locs hp hW => ?_)
  obtain ⟨r2, rfl, hs2, hG2, hf2, cm0, ha2⟩ := hp
  have hP1 := hP
  have hP : PI ad cA g2 := PI_fr hP1 hs2 hG2 hf2 (by first | decide | omega) (by first | decide | omega) (by first | decide | omega) (by first | decide | omega) (by first | decide | omega) (by first | decide | omega) (by first | decide | omega) (by first | decide | omega) (by first | decide | omega)
  have qa13792 : a13792 = a13786 := by rw [ha13792, ha13786]; congr 1; omega
  have qa13794 : a13794 = a13788 := by rw [ha13794, ha13788]; congr 1; omega
  have qa13796 : a13796 = a13790 := by rw [ha13796, ha13790]; congr 1; omega
  first | rw [qa13792] at ha2 | skip
  first | rw [qa13794] at ha2 | skip
  first | rw [qa13796] at ha2 | skip
  first | rw [qa13792] at cm0 | skip
  first | rw [qa13794] at cm0 | skip
  first | rw [qa13796] at cm0 | skip
  refine q_pop hM dL_law_311 rfl ?_
  refine q_goto (tgt := 1457) hM dL_law_312 (by decide) ?_
  exact kk _ _ _ _ hP ⟨⟨(by rw [show fI g2 3 2 = fI g 3 2 from (FRf hf1 hf2 (by first | decide | omega) (by first | decide | omega)), show arI g2 131 = arI g 131 from ((hf2.2.1 131 (by first | decide | omega)).trans (hf1.2.1 131 (by first | decide | omega)))]; exact hRl.1.1), (by
    rw [show fI g2 18 3 = x0 from ((FR1f hf2 (by first | decide | omega)).trans (fI_of cx0))]
    rcases cx1 with ⟨c1, e1⟩ | ⟨c1, e1⟩
    · rcases cm0 with ⟨c2, e2⟩ | ⟨c2, e2⟩
      · exact SM_set hRl.1.2.1 (by decide) e1 (by rw [e2, (hf1.2.1 158 (by first | decide | omega))]) (by decide) (by omega) (by omega)
      · exact absurd c1 c2
    · rcases cm0 with ⟨c2, e2⟩ | ⟨c2, e2⟩
      · exact absurd c2 c1
      · rw [e1, e2, (hf1.2.1 158 (by first | decide | omega))]; exact hRl.1.2.1), (by rw [show fI g2 30 3 = fI g 30 3 from (FRf hf1 hf2 (by first | decide | omega) (by first | decide | omega)), show arI g2 162 = arI g 162 from ((hf2.2.1 162 (by first | decide | omega)).trans (hf1.2.1 162 (by first | decide | omega)))]; exact hRl.1.2.2.1), (((FRf hf1 hf2 (by first | decide | omega) (by first | decide | omega))).trans (hRl.1.2.2.2.1.trans ((FRf hf1 hf2 (by first | decide | omega) (by first | decide | omega))).symm)), (((FRf hf1 hf2 (by first | decide | omega) (by first | decide | omega))).trans (hRl.1.2.2.2.2.1.trans ((FRf hf1 hf2 (by first | decide | omega) (by first | decide | omega))).symm)), (((FRf hf1 hf2 (by first | decide | omega) (by first | decide | omega))).trans (hRl.1.2.2.2.2.2.trans (congrFun ((hf2.2.1 166 (by first | decide | omega)).trans (hf1.2.1 166 (by first | decide | omega))) 1).symm))⟩, (fun k j hk hj => (congrFun ((hf2.2.1 (6 + 1 * k) (by first | decide | omega)).trans (hf1.2.1 (6 + 1 * k) (by first | decide | omega))) j).trans ((hRl.2 k j hk hj).trans (congrFun ((hf2.2.1 133 (by first | decide | omega)).trans (hf1.2.1 133 (by first | decide | omega))) _).symm))⟩ hW hl

set_option maxRecDepth 100000 in
set_option maxHeartbeats 4000000 in
theorem lc_knows {K : KT} {cA : Nat → ClassId} {ad : Nat → Nat} {b L : Nat} {xs : Nat → Int32} {H : Heap} {locs : List Loc} {ls : Array Slot} {g : Nat → va_E} {i : Int32} (hM : MB K cA code 4 R_law) (hXB : XB K b L xs) (hL : L ≤ 3072) (hR : HasRoom K 2048 84000) (hC : Cells K 600000 7302250) (hP : PI ad cA g) (hRl : RQ g) (hi0 : 0 ≤ i.toInt) (hi : i.toInt + 6 ≤ L) (hW : WB NN ad K g H locs) (hl : lv_has ls 4 [(3, .int i), (2, .ref (ad 129)), (1, .ref (ad 0)), (0, .ref b)]) (kk : ∀ (g : Nat → va_E) (H : Heap) (locs : List Loc) (ls : Array Slot), PI ad cA g → RQ g → WB NN ad K g H locs → lv_has ls 4 [(3, .int i), (2, .ref (ad 129)), (1, .ref (ad 0)), (0, .ref b)] → XX K 600000 7302250 H locs 1457 ls []) : XX K 600000 7302250 H locs 315 ls [] := by
  have hLn : L < 1000000 := by omega
  obtain ⟨lw, lwn, hlc, h13, h14⟩ := id hP.2.2.1
  refine q_aload_n hM dL_law_315 (lv_at hl 2 rfl) ?_
  refine q_aload_n hM dL_law_316 (lv_at hl 3 rfl) ?_
  refine q_iload_n hM dL_law_317 (lv_at hl 0 rfl) ?_
  refine q_iconst (v := (1 : Int32)) hM dL_law_318 (by decide) ?_
  refine q_iadd hM dL_law_319 (fun z13797 hz13797 => ?_)
  have tz13797 := i_addT hz13797 (rfl : i.toInt = i.toInt) (kc_1 : (1 : Int32).toInt = 1) (by omega) (by omega)
  refine s_iald z13797.toInt.toNat hM hW hXB (by omega) (by omega) (by omega) dL_law_320 ?_
  refine q_top (fun a13798 ha13798 => ?_)
  refine q_aload_n hM dL_law_321 (lv_at hl 3 rfl) ?_
  refine q_iload_n hM dL_law_322 (lv_at hl 0 rfl) ?_
  refine q_iconst (v := (2 : Int32)) hM dL_law_323 (by decide) ?_
  refine q_iadd hM dL_law_324 (fun z13799 hz13799 => ?_)
  have tz13799 := i_addT hz13799 (rfl : i.toInt = i.toInt) (kc_2 : (2 : Int32).toInt = 2) (by omega) (by omega)
  refine s_iald z13799.toInt.toNat hM hW hXB (by omega) (by omega) (by omega) dL_law_325 ?_
  refine q_top (fun a13800 ha13800 => ?_)
  refine q_aload_n hM dL_law_326 (lv_at hl 3 rfl) ?_
  refine q_iload_n hM dL_law_327 (lv_at hl 0 rfl) ?_
  refine q_iconst (v := (3 : Int32)) hM dL_law_328 (by decide) ?_
  refine q_iadd hM dL_law_329 (fun z13801 hz13801 => ?_)
  have tz13801 := i_addT hz13801 (rfl : i.toInt = i.toInt) (kc_3 : (3 : Int32).toInt = 3) (by omega) (by omega)
  refine s_iald z13801.toInt.toNat hM hW hXB (by omega) (by omega) (by omega) dL_law_330 ?_
  refine q_top (fun a13802 ha13802 => ?_)
  refine q_callV (As := [.int a13798, .int a13800, .int a13802]) (rest := []) hM hW hR hC myX11_knows (kAW (v_1_11 (List.mem_of_getElem? (i := 3) rfl)) rfl) (rfl : vwCl[11]? = some (RX11, TX11, 16)) rfl lb_0.1 (shO hP.1 lb_0) (p_X11_knows _ _ cA ad g a13798 a13800 a13802  hP.1 hP.2.1) ⟨by decide, by decide⟩ rfl rfl hl.1 (Nat.le_of_ble_eq_true rfl) dL_law_331 (fun v g1 H locs hp hW => ?_)
  obtain ⟨r1, rfl, hs1, hG1, hf1, ha1⟩ := hp
  have hP0 := hP
  have hP : PI ad cA g1 := PI_fr hP0 hs1 hG1 hf1 (by first | decide | omega) (by first | decide | omega) (by first | decide | omega) (by first | decide | omega) (by first | decide | omega) (by first | decide | omega) (by first | decide | omega) (by first | decide | omega) (by first | decide | omega)
  refine q_pop hM dL_law_334 rfl ?_
  refine q_aload_n hM dL_law_335 (lv_at hl 1 rfl) ?_
  refine q_aload_n hM dL_law_336 (lv_at hl 3 rfl) ?_
  refine q_iload_n hM dL_law_337 (lv_at hl 0 rfl) ?_
  refine q_iconst (v := (1 : Int32)) hM dL_law_338 (by decide) ?_
  refine q_iadd hM dL_law_339 (fun z13803 hz13803 => ?_)
  have tz13803 := i_addT hz13803 (rfl : i.toInt = i.toInt) (kc_1 : (1 : Int32).toInt = 1) (by omega) (by omega)
  refine s_iald z13803.toInt.toNat hM hW hXB (by omega) (by omega) (by omega) dL_law_340 ?_
  refine q_top (fun a13804 ha13804 => ?_)
  refine q_aload_n hM dL_law_341 (lv_at hl 3 rfl) ?_
  refine q_iload_n hM dL_law_342 (lv_at hl 0 rfl) ?_
  refine q_iconst (v := (2 : Int32)) hM dL_law_343 (by decide) ?_
  refine q_iadd hM dL_law_344 (fun z13805 hz13805 => ?_)
  have tz13805 := i_addT hz13805 (rfl : i.toInt = i.toInt) (kc_2 : (2 : Int32).toInt = 2) (by omega) (by omega)
  refine s_iald z13805.toInt.toNat hM hW hXB (by omega) (by omega) (by omega) dL_law_345 ?_
  refine q_top (fun a13806 ha13806 => ?_)
  refine q_aload_n hM dL_law_346 (lv_at hl 3 rfl) ?_
  refine q_iload_n hM dL_law_347 (lv_at hl 0 rfl) ?_
  refine q_iconst (v := (3 : Int32)) hM dL_law_348 (by decide) ?_
  refine q_iadd hM dL_law_349 (fun z13807 hz13807 => ?_)
  have tz13807 := i_addT hz13807 (rfl : i.toInt = i.toInt) (kc_3 : (3 : Int32).toInt = 3) (by omega) (by omega)
  refine s_iald z13807.toInt.toNat hM hW hXB (by omega) (by omega) (by omega) dL_law_350 ?_
  refine q_top (fun a13808 ha13808 => ?_)
  refine q_callV (As := [.int a13804, .int a13806, .int a13808]) (rest := []) hM hW hR hC myX12_knows (kAW (v_6_2 (List.mem_of_getElem? (i := 5) rfl)) rfl) (rfl : vwCl[12]? = some (RX12, TX12, 86)) rfl lb_129.1 (shO hP.1 lb_129) (p_X12_knows _ _ cA ad g1 a13804 a13806 a13808 hP.1 hP.2.1) ⟨by decide, by decide⟩ rfl rfl hl.1 (Nat.le_of_ble_eq_true rfl) dL_law_351 (fun v g2 H locs hp hW => ?_)
  obtain ⟨r2, rfl, hs2, hG2, hf2, ha2⟩ := hp
  have hP1 := hP
  have hP : PI ad cA g2 := PI_fr hP1 hs2 hG2 hf2 (by first | decide | omega) (by first | decide | omega) (by first | decide | omega) (by first | decide | omega) (by first | decide | omega) (by first | decide | omega) (by first | decide | omega) (by first | decide | omega) (by first | decide | omega)
  have qa13804 : a13804 = a13798 := by rw [ha13804, ha13798]; congr 1; omega
  have qa13806 : a13806 = a13800 := by rw [ha13806, ha13800]; congr 1; omega
  have qa13808 : a13808 = a13802 := by rw [ha13808, ha13802]; congr 1; omega
  first | rw [qa13804] at ha2 | skip
  first | rw [qa13806] at ha2 | skip
  first | rw [qa13808] at ha2 | skip
  refine q_pop hM dL_law_354 rfl ?_
  refine q_goto (tgt := 1457) hM dL_law_355 (by decide) ?_
  exact kk _ _ _ _ hP ⟨⟨(by rw [show fI g2 3 2 = fI g 3 2 from (FRf hf1 hf2 (by first | decide | omega) (by first | decide | omega)), show arI g2 131 = arI g 131 from ((hf2.2.1 131 (by first | decide | omega)).trans (hf1.2.1 131 (by first | decide | omega)))]; exact hRl.1.1), (by rw [show fI g2 18 3 = fI g 18 3 from (FRf hf1 hf2 (by first | decide | omega) (by first | decide | omega)), show arI g2 158 = arI g 158 from ((hf2.2.1 158 (by first | decide | omega)).trans (hf1.2.1 158 (by first | decide | omega)))]; exact hRl.1.2.1), (by rw [show fI g2 30 3 = fI g 30 3 from (FRf hf1 hf2 (by first | decide | omega) (by first | decide | omega)), show arI g2 162 = arI g 162 from ((hf2.2.1 162 (by first | decide | omega)).trans (hf1.2.1 162 (by first | decide | omega)))]; exact hRl.1.2.2.1), (((FRf hf1 hf2 (by first | decide | omega) (by first | decide | omega))).trans (hRl.1.2.2.2.1.trans ((FRf hf1 hf2 (by first | decide | omega) (by first | decide | omega))).symm)), (((FRf hf1 hf2 (by first | decide | omega) (by first | decide | omega))).trans (hRl.1.2.2.2.2.1.trans ((FRf hf1 hf2 (by first | decide | omega) (by first | decide | omega))).symm)), (((FRf hf1 hf2 (by first | decide | omega) (by first | decide | omega))).trans (hRl.1.2.2.2.2.2.trans (congrFun ((hf2.2.1 166 (by first | decide | omega)).trans (hf1.2.1 166 (by first | decide | omega))) 1).symm))⟩, (fun k j hk hj => (congrFun ((hf2.2.1 (6 + 1 * k) (by first | decide | omega)).trans (hf1.2.1 (6 + 1 * k) (by first | decide | omega))) j).trans ((hRl.2 k j hk hj).trans (congrFun ((hf2.2.1 133 (by first | decide | omega)).trans (hf1.2.1 133 (by first | decide | omega))) _).symm))⟩ hW hl

set_option maxRecDepth 100000 in
set_option maxHeartbeats 4000000 in
theorem lc_feed {K : KT} {cA : Nat → ClassId} {ad : Nat → Nat} {b L : Nat} {xs : Nat → Int32} {H : Heap} {locs : List Loc} {ls : Array Slot} {g : Nat → va_E} {i : Int32} (hM : MB K cA code 4 R_law) (hXB : XB K b L xs) (hL : L ≤ 3072) (hR : HasRoom K 2048 84000) (hC : Cells K 600000 7302250) (hP : PI ad cA g) (hRl : RQ g) (hi0 : 0 ≤ i.toInt) (hi : i.toInt + 6 ≤ L) (hW : WB NN ad K g H locs) (hl : lv_has ls 4 [(3, .int i), (2, .ref (ad 129)), (1, .ref (ad 0)), (0, .ref b)]) (kk : ∀ (g : Nat → va_E) (H : Heap) (locs : List Loc) (ls : Array Slot), PI ad cA g → RQ g → WB NN ad K g H locs → lv_has ls 4 [(3, .int i), (2, .ref (ad 129)), (1, .ref (ad 0)), (0, .ref b)] → XX K 600000 7302250 H locs 1457 ls []) : XX K 600000 7302250 H locs 358 ls [] := by
  have hLn : L < 1000000 := by omega
  obtain ⟨lw, lwn, hlc, h13, h14⟩ := id hP.2.2.1
  refine q_aload_n hM dL_law_358 (lv_at hl 2 rfl) ?_
  refine q_aload_n hM dL_law_359 (lv_at hl 3 rfl) ?_
  refine q_iload_n hM dL_law_360 (lv_at hl 0 rfl) ?_
  refine q_iconst (v := (1 : Int32)) hM dL_law_361 (by decide) ?_
  refine q_iadd hM dL_law_362 (fun z13809 hz13809 => ?_)
  have tz13809 := i_addT hz13809 (rfl : i.toInt = i.toInt) (kc_1 : (1 : Int32).toInt = 1) (by omega) (by omega)
  refine s_iald z13809.toInt.toNat hM hW hXB (by omega) (by omega) (by omega) dL_law_363 ?_
  refine q_top (fun a13810 ha13810 => ?_)
  refine q_aload_n hM dL_law_364 (lv_at hl 3 rfl) ?_
  refine q_iload_n hM dL_law_365 (lv_at hl 0 rfl) ?_
  refine q_iconst (v := (2 : Int32)) hM dL_law_366 (by decide) ?_
  refine q_iadd hM dL_law_367 (fun z13811 hz13811 => ?_)
  have tz13811 := i_addT hz13811 (rfl : i.toInt = i.toInt) (kc_2 : (2 : Int32).toInt = 2) (by omega) (by omega)
  refine s_iald z13811.toInt.toNat hM hW hXB (by omega) (by omega) (by omega) dL_law_368 ?_
  refine q_top (fun a13812 ha13812 => ?_)
  refine q_aload_n hM dL_law_369 (lv_at hl 3 rfl) ?_
  refine q_iload_n hM dL_law_370 (lv_at hl 0 rfl) ?_
  refine q_iconst (v := (3 : Int32)) hM dL_law_371 (by decide) ?_
  refine q_iadd hM dL_law_372 (fun z13813 hz13813 => ?_)
  have tz13813 := i_addT hz13813 (rfl : i.toInt = i.toInt) (kc_3 : (3 : Int32).toInt = 3) (by omega) (by omega)
  refine s_iald z13813.toInt.toNat hM hW hXB (by omega) (by omega) (by omega) dL_law_373 ?_
  refine q_top (fun a13814 ha13814 => ?_)
  refine q_aload_n hM dL_law_374 (lv_at hl 3 rfl) ?_
  refine q_iload_n hM dL_law_375 (lv_at hl 0 rfl) ?_
  refine q_iconst (v := (4 : Int32)) hM dL_law_376 (by decide) ?_
  refine q_iadd hM dL_law_377 (fun z13815 hz13815 => ?_)
  have tz13815 := i_addT hz13815 (rfl : i.toInt = i.toInt) (kc_4 : (4 : Int32).toInt = 4) (by omega) (by omega)
  refine s_iald z13815.toInt.toNat hM hW hXB (by omega) (by omega) (by omega) dL_law_378 ?_
  refine q_top (fun a13816 ha13816 => ?_)
  refine q_aload_n hM dL_law_379 (lv_at hl 3 rfl) ?_
  refine q_iload_n hM dL_law_380 (lv_at hl 0 rfl) ?_
  refine q_iconst (v := (5 : Int32)) hM dL_law_381 (by decide) ?_
  refine q_iadd hM dL_law_382 (fun z13817 hz13817 => ?_)
  have tz13817 := i_addT hz13817 (rfl : i.toInt = i.toInt) (kc_5 : (5 : Int32).toInt = 5) (by omega) (by omega)
  refine s_iald z13817.toInt.toNat hM hW hXB (by omega) (by omega) (by omega) dL_law_383 ?_
  refine q_top (fun a13818 ha13818 => ?_)
  refine q_callV (As := [.int a13810, .int a13812, .int a13814, .int a13816, .int a13818]) (rest := []) hM hW hR hC myX11_feed (kAW (v_1_11 (List.mem_of_getElem? (i := 7) rfl)) rfl) (rfl : vwCl[11]? = some (RX11, TX11, 16)) rfl lb_0.1 (shO hP.1 lb_0) (p_X11_feed _ _ cA ad g a13810 a13812 a13814 a13816 a13818  hP.1 hP.2.1) ⟨by decide, by decide⟩ rfl rfl hl.1 (Nat.le_of_ble_eq_true rfl) dL_law_384 (fun v g1 H locs hp hW => ?_)
  obtain ⟨r1, rfl, hs1, hG1, hf1⟩ := hp
  have hP0 := hP
  have hP : PI ad cA g1 := PI_fr hP0 hs1 hG1 hf1 (by first | decide | omega) (by first | decide | omega) (by first | decide | omega) (by first | decide | omega) (by first | decide | omega) (by first | decide | omega) (by first | decide | omega) (by first | decide | omega) (by first | decide | omega)
  refine q_pop hM dL_law_387 rfl ?_
  refine q_aload_n hM dL_law_388 (lv_at hl 1 rfl) ?_
  refine q_aload_n hM dL_law_389 (lv_at hl 3 rfl) ?_
  refine q_iload_n hM dL_law_390 (lv_at hl 0 rfl) ?_
  refine q_iconst (v := (1 : Int32)) hM dL_law_391 (by decide) ?_
  refine q_iadd hM dL_law_392 (fun z13819 hz13819 => ?_)
  have tz13819 := i_addT hz13819 (rfl : i.toInt = i.toInt) (kc_1 : (1 : Int32).toInt = 1) (by omega) (by omega)
  refine s_iald z13819.toInt.toNat hM hW hXB (by omega) (by omega) (by omega) dL_law_393 ?_
  refine q_top (fun a13820 ha13820 => ?_)
  refine q_aload_n hM dL_law_394 (lv_at hl 3 rfl) ?_
  refine q_iload_n hM dL_law_395 (lv_at hl 0 rfl) ?_
  refine q_iconst (v := (2 : Int32)) hM dL_law_396 (by decide) ?_
  refine q_iadd hM dL_law_397 (fun z13821 hz13821 => ?_)
  have tz13821 := i_addT hz13821 (rfl : i.toInt = i.toInt) (kc_2 : (2 : Int32).toInt = 2) (by omega) (by omega)
  refine s_iald z13821.toInt.toNat hM hW hXB (by omega) (by omega) (by omega) dL_law_398 ?_
  refine q_top (fun a13822 ha13822 => ?_)
  refine q_aload_n hM dL_law_399 (lv_at hl 3 rfl) ?_
  refine q_iload_n hM dL_law_400 (lv_at hl 0 rfl) ?_
  refine q_iconst (v := (3 : Int32)) hM dL_law_401 (by decide) ?_
  refine q_iadd hM dL_law_402 (fun z13823 hz13823 => ?_)
  have tz13823 := i_addT hz13823 (rfl : i.toInt = i.toInt) (kc_3 : (3 : Int32).toInt = 3) (by omega) (by omega)
  refine s_iald z13823.toInt.toNat hM hW hXB (by omega) (by omega) (by omega) dL_law_403 ?_
  refine q_top (fun a13824 ha13824 => ?_)
  refine q_aload_n hM dL_law_404 (lv_at hl 3 rfl) ?_
  refine q_iload_n hM dL_law_405 (lv_at hl 0 rfl) ?_
  refine q_iconst (v := (4 : Int32)) hM dL_law_406 (by decide) ?_
  refine q_iadd hM dL_law_407 (fun z13825 hz13825 => ?_)
  have tz13825 := i_addT hz13825 (rfl : i.toInt = i.toInt) (kc_4 : (4 : Int32).toInt = 4) (by omega) (by omega)
  refine s_iald z13825.toInt.toNat hM hW hXB (by omega) (by omega) (by omega) dL_law_408 ?_
  refine q_top (fun a13826 ha13826 => ?_)
  refine q_aload_n hM dL_law_409 (lv_at hl 3 rfl) ?_
  refine q_iload_n hM dL_law_410 (lv_at hl 0 rfl) ?_
  refine q_iconst (v := (5 : Int32)) hM dL_law_411 (by decide) ?_
  refine q_iadd hM dL_law_412 (fun z13827 hz13827 => ?_)
  have tz13827 := i_addT hz13827 (rfl : i.toInt = i.toInt) (kc_5 : (5 : Int32).toInt = 5) (by omega) (by omega)
  refine s_iald z13827.toInt.toNat hM hW hXB (by omega) (by omega) (by omega) dL_law_413 ?_
  refine q_top (fun a13828 ha13828 => ?_)
  refine q_callV (As := [.int a13820, .int a13822, .int a13824, .int a13826, .int a13828]) (rest := []) hM hW hR hC myX12_feed (kAW (v_5_4 (List.mem_of_getElem? (i := 1) rfl)) rfl) (rfl : vwCl[12]? = some (RX12, TX12, 86)) rfl lb_129.1 (shO hP.1 lb_129) (p_X12_feed _ _ cA ad g1 a13820 a13822 a13824 a13826 a13828 hP.1 hP.2.1 hP.2.2.2.2) ⟨by decide, by decide⟩ rfl rfl hl.1 (Nat.le_of_ble_eq_true rfl) dL_law_414 (fun v g2 H locs hp hW => ?_)
  obtain ⟨r2, rfl, hs2, hG2, hf2, ha2⟩ := hp
  have hP1 := hP
  have hP : PI ad cA g2 := by
    obtain ⟨lw9, lwn9, c9, h139, h149⟩ := hP1.2.2.1
    exact ⟨hs2, hG2, ⟨lw9, lwn9, c9, (hf2.1 0 13 (by omega)).trans h139, (hf2.1 0 14 (by omega)).trans h149⟩, LWQ_fr hP1.2.2.2.1 hf2 (by omega) (by omega) (by omega) (by omega) (by omega) (by omega), ha2⟩
  have qa13820 : a13820 = a13810 := by rw [ha13820, ha13810]; congr 1; omega
  have qa13822 : a13822 = a13812 := by rw [ha13822, ha13812]; congr 1; omega
  have qa13824 : a13824 = a13814 := by rw [ha13824, ha13814]; congr 1; omega
  have qa13826 : a13826 = a13816 := by rw [ha13826, ha13816]; congr 1; omega
  have qa13828 : a13828 = a13818 := by rw [ha13828, ha13818]; congr 1; omega
  first | rw [qa13820] at ha2 | skip
  first | rw [qa13822] at ha2 | skip
  first | rw [qa13824] at ha2 | skip
  first | rw [qa13826] at ha2 | skip
  first | rw [qa13828] at ha2 | skip
  refine q_pop hM dL_law_417 rfl ?_
  refine q_goto (tgt := 1457) hM dL_law_418 (by decide) ?_
  exact kk _ _ _ _ hP ⟨⟨(by rw [show fI g2 3 2 = fI g 3 2 from (FRf hf1 hf2 (by first | decide | omega) (by first | decide | omega)), show arI g2 131 = arI g 131 from ((hf2.2.1 131 (by first | decide | omega)).trans (hf1.2.1 131 (by first | decide | omega)))]; exact hRl.1.1), (by rw [show fI g2 18 3 = fI g 18 3 from (FRf hf1 hf2 (by first | decide | omega) (by first | decide | omega)), show arI g2 158 = arI g 158 from ((hf2.2.1 158 (by first | decide | omega)).trans (hf1.2.1 158 (by first | decide | omega)))]; exact hRl.1.2.1), (by rw [show fI g2 30 3 = fI g 30 3 from (FRf hf1 hf2 (by first | decide | omega) (by first | decide | omega)), show arI g2 162 = arI g 162 from ((hf2.2.1 162 (by first | decide | omega)).trans (hf1.2.1 162 (by first | decide | omega)))]; exact hRl.1.2.2.1), (((FRf hf1 hf2 (by first | decide | omega) (by first | decide | omega))).trans (hRl.1.2.2.2.1.trans ((FRf hf1 hf2 (by first | decide | omega) (by first | decide | omega))).symm)), (((FRf hf1 hf2 (by first | decide | omega) (by first | decide | omega))).trans (hRl.1.2.2.2.2.1.trans ((FRf hf1 hf2 (by first | decide | omega) (by first | decide | omega))).symm)), (((FRf hf1 hf2 (by first | decide | omega) (by first | decide | omega))).trans (hRl.1.2.2.2.2.2.trans (congrFun ((hf2.2.1 166 (by first | decide | omega)).trans (hf1.2.1 166 (by first | decide | omega))) 1).symm))⟩, (fun k j hk hj => (congrFun ((hf2.2.1 (6 + 1 * k) (by first | decide | omega)).trans (hf1.2.1 (6 + 1 * k) (by first | decide | omega))) j).trans ((hRl.2 k j hk hj).trans (congrFun ((hf2.2.1 133 (by first | decide | omega)).trans (hf1.2.1 133 (by first | decide | omega))) _).symm))⟩ hW hl

set_option maxRecDepth 100000 in
set_option maxHeartbeats 4000000 in
theorem lc_art {K : KT} {cA : Nat → ClassId} {ad : Nat → Nat} {b L : Nat} {xs : Nat → Int32} {H : Heap} {locs : List Loc} {ls : Array Slot} {g : Nat → va_E} {i : Int32} (hM : MB K cA code 4 R_law) (hXB : XB K b L xs) (hL : L ≤ 3072) (hR : HasRoom K 2048 84000) (hC : Cells K 600000 7302250) (hP : PI ad cA g) (hRl : RQ g) (hi0 : 0 ≤ i.toInt) (hi : i.toInt + 6 ≤ L) (hW : WB NN ad K g H locs) (hl : lv_has ls 4 [(3, .int i), (2, .ref (ad 129)), (1, .ref (ad 0)), (0, .ref b)]) (kk : ∀ (g : Nat → va_E) (H : Heap) (locs : List Loc) (ls : Array Slot), PI ad cA g → RQ g → WB NN ad K g H locs → lv_has ls 4 [(3, .int i), (2, .ref (ad 129)), (1, .ref (ad 0)), (0, .ref b)] → XX K 600000 7302250 H locs 1457 ls []) : XX K 600000 7302250 H locs 421 ls [] := by
  have hLn : L < 1000000 := by omega
  obtain ⟨lw, lwn, hlc, h13, h14⟩ := id hP.2.2.1
  refine q_aload_n hM dL_law_421 (lv_at hl 2 rfl) ?_
  refine q_aload_n hM dL_law_422 (lv_at hl 3 rfl) ?_
  refine q_iload_n hM dL_law_423 (lv_at hl 0 rfl) ?_
  refine q_iconst (v := (1 : Int32)) hM dL_law_424 (by decide) ?_
  refine q_iadd hM dL_law_425 (fun z13829 hz13829 => ?_)
  have tz13829 := i_addT hz13829 (rfl : i.toInt = i.toInt) (kc_1 : (1 : Int32).toInt = 1) (by omega) (by omega)
  refine s_iald z13829.toInt.toNat hM hW hXB (by omega) (by omega) (by omega) dL_law_426 ?_
  refine q_top (fun a13830 ha13830 => ?_)
  refine q_aload_n hM dL_law_427 (lv_at hl 3 rfl) ?_
  refine q_iload_n hM dL_law_428 (lv_at hl 0 rfl) ?_
  refine q_iconst (v := (2 : Int32)) hM dL_law_429 (by decide) ?_
  refine q_iadd hM dL_law_430 (fun z13831 hz13831 => ?_)
  have tz13831 := i_addT hz13831 (rfl : i.toInt = i.toInt) (kc_2 : (2 : Int32).toInt = 2) (by omega) (by omega)
  refine s_iald z13831.toInt.toNat hM hW hXB (by omega) (by omega) (by omega) dL_law_431 ?_
  refine q_top (fun a13832 ha13832 => ?_)
  refine q_callV (As := [.int a13830, .int a13832]) (rest := []) hM hW hR hC myX11_art (kAW (v_1_11 (List.mem_of_getElem? (i := 15) rfl)) rfl) (rfl : vwCl[11]? = some (RX11, TX11, 16)) rfl lb_0.1 (shO hP.1 lb_0) (p_X11_art _ _ cA ad g a13830 a13832  hP.1 hP.2.1) ⟨by decide, by decide⟩ rfl rfl hl.1 (Nat.le_of_ble_eq_true rfl) dL_law_432 (fun v g1 H locs hp hW => ?_)
  obtain ⟨r1, rfl, hs1, hG1, hf1⟩ := hp
  have hP0 := hP
  have hP : PI ad cA g1 := PI_fr hP0 hs1 hG1 hf1 (by first | decide | omega) (by first | decide | omega) (by first | decide | omega) (by first | decide | omega) (by first | decide | omega) (by first | decide | omega) (by first | decide | omega) (by first | decide | omega) (by first | decide | omega)
  refine q_pop hM dL_law_435 rfl ?_
  refine q_aload_n hM dL_law_436 (lv_at hl 1 rfl) ?_
  refine q_aload_n hM dL_law_437 (lv_at hl 3 rfl) ?_
  refine q_iload_n hM dL_law_438 (lv_at hl 0 rfl) ?_
  refine q_iconst (v := (1 : Int32)) hM dL_law_439 (by decide) ?_
  refine q_iadd hM dL_law_440 (fun z13833 hz13833 => ?_)
  have tz13833 := i_addT hz13833 (rfl : i.toInt = i.toInt) (kc_1 : (1 : Int32).toInt = 1) (by omega) (by omega)
  refine s_iald z13833.toInt.toNat hM hW hXB (by omega) (by omega) (by omega) dL_law_441 ?_
  refine q_top (fun a13834 ha13834 => ?_)
  refine q_aload_n hM dL_law_442 (lv_at hl 3 rfl) ?_
  refine q_iload_n hM dL_law_443 (lv_at hl 0 rfl) ?_
  refine q_iconst (v := (2 : Int32)) hM dL_law_444 (by decide) ?_
  refine q_iadd hM dL_law_445 (fun z13835 hz13835 => ?_)
  have tz13835 := i_addT hz13835 (rfl : i.toInt = i.toInt) (kc_2 : (2 : Int32).toInt = 2) (by omega) (by omega)
  refine s_iald z13835.toInt.toNat hM hW hXB (by omega) (by omega) (by omega) dL_law_446 ?_
  refine q_top (fun a13836 ha13836 => ?_)
  refine q_callV (As := [.int a13834, .int a13836]) (rest := []) hM hW hR hC myX12_art (kAW (v_5_8 (List.mem_of_getElem? (i := 1) rfl)) rfl) (rfl : vwCl[12]? = some (RX12, TX12, 86)) rfl lb_129.1 (shO hP.1 lb_129) (p_X12_art _ _ cA ad g1 a13834 a13836 hP.1 hP.2.1 hP.2.2.2.2) ⟨by decide, by decide⟩ rfl rfl hl.1 (Nat.le_of_ble_eq_true rfl) dL_law_447 (fun v g2 H locs hp hW => ?_)
  obtain ⟨r2, rfl, hs2, hG2, hf2⟩ := hp
  have hP1 := hP
  have hP : PI ad cA g2 := PI_fr hP1 hs2 hG2 hf2 (by first | decide | omega) (by first | decide | omega) (by first | decide | omega) (by first | decide | omega) (by first | decide | omega) (by first | decide | omega) (by first | decide | omega) (by first | decide | omega) (by first | decide | omega)
  have qa13834 : a13834 = a13830 := by rw [ha13834, ha13830]; congr 1; omega
  have qa13836 : a13836 = a13832 := by rw [ha13836, ha13832]; congr 1; omega
  refine q_pop hM dL_law_450 rfl ?_
  refine q_goto (tgt := 1457) hM dL_law_451 (by decide) ?_
  exact kk _ _ _ _ hP ⟨⟨(by rw [show fI g2 3 2 = fI g 3 2 from (FRf hf1 hf2 (by first | decide | omega) (by first | decide | omega)), show arI g2 131 = arI g 131 from ((hf2.2.1 131 (by first | decide | omega)).trans (hf1.2.1 131 (by first | decide | omega)))]; exact hRl.1.1), (by rw [show fI g2 18 3 = fI g 18 3 from (FRf hf1 hf2 (by first | decide | omega) (by first | decide | omega)), show arI g2 158 = arI g 158 from ((hf2.2.1 158 (by first | decide | omega)).trans (hf1.2.1 158 (by first | decide | omega)))]; exact hRl.1.2.1), (by rw [show fI g2 30 3 = fI g 30 3 from (FRf hf1 hf2 (by first | decide | omega) (by first | decide | omega)), show arI g2 162 = arI g 162 from ((hf2.2.1 162 (by first | decide | omega)).trans (hf1.2.1 162 (by first | decide | omega)))]; exact hRl.1.2.2.1), (((FRf hf1 hf2 (by first | decide | omega) (by first | decide | omega))).trans (hRl.1.2.2.2.1.trans ((FRf hf1 hf2 (by first | decide | omega) (by first | decide | omega))).symm)), (((FRf hf1 hf2 (by first | decide | omega) (by first | decide | omega))).trans (hRl.1.2.2.2.2.1.trans ((FRf hf1 hf2 (by first | decide | omega) (by first | decide | omega))).symm)), (((FRf hf1 hf2 (by first | decide | omega) (by first | decide | omega))).trans (hRl.1.2.2.2.2.2.trans (congrFun ((hf2.2.1 166 (by first | decide | omega)).trans (hf1.2.1 166 (by first | decide | omega))) 1).symm))⟩, (fun k j hk hj => (congrFun ((hf2.2.1 (6 + 1 * k) (by first | decide | omega)).trans (hf1.2.1 (6 + 1 * k) (by first | decide | omega))) j).trans ((hRl.2 k j hk hj).trans (congrFun ((hf2.2.1 133 (by first | decide | omega)).trans (hf1.2.1 133 (by first | decide | omega))) _).symm))⟩ hW hl

set_option maxRecDepth 100000 in
set_option maxHeartbeats 4000000 in
theorem lc_law {K : KT} {cA : Nat → ClassId} {ad : Nat → Nat} {b L : Nat} {xs : Nat → Int32} {H : Heap} {locs : List Loc} {ls : Array Slot} {g : Nat → va_E} {i : Int32} (hM : MB K cA code 4 R_law) (hXB : XB K b L xs) (hL : L ≤ 3072) (hR : HasRoom K 2048 84000) (hC : Cells K 600000 7302250) (hP : PI ad cA g) (hRl : RQ g) (hi0 : 0 ≤ i.toInt) (hi : i.toInt + 6 ≤ L) (hW : WB NN ad K g H locs) (hl : lv_has ls 4 [(3, .int i), (2, .ref (ad 129)), (1, .ref (ad 0)), (0, .ref b)]) (kk : ∀ (g : Nat → va_E) (H : Heap) (locs : List Loc) (ls : Array Slot), PI ad cA g → RQ g → WB NN ad K g H locs → lv_has ls 4 [(3, .int i), (2, .ref (ad 129)), (1, .ref (ad 0)), (0, .ref b)] → XX K 600000 7302250 H locs 1457 ls []) : XX K 600000 7302250 H locs 454 ls [] := by
  have hLn : L < 1000000 := by omega
  obtain ⟨lw, lwn, hlc, h13, h14⟩ := id hP.2.2.1
  refine q_aload_n hM dL_law_454 (lv_at hl 2 rfl) ?_
  refine q_aload_n hM dL_law_455 (lv_at hl 3 rfl) ?_
  refine q_iload_n hM dL_law_456 (lv_at hl 0 rfl) ?_
  refine q_iconst (v := (1 : Int32)) hM dL_law_457 (by decide) ?_
  refine q_iadd hM dL_law_458 (fun z13837 hz13837 => ?_)
  have tz13837 := i_addT hz13837 (rfl : i.toInt = i.toInt) (kc_1 : (1 : Int32).toInt = 1) (by omega) (by omega)
  refine s_iald z13837.toInt.toNat hM hW hXB (by omega) (by omega) (by omega) dL_law_459 ?_
  refine q_top (fun a13838 ha13838 => ?_)
  refine q_callV (As := [.int a13838]) (rest := []) hM hW hR hC myX11_law (kAW (v_1_14 (List.mem_of_getElem? (i := 15) rfl)) rfl) (rfl : vwCl[11]? = some (RX11, TX11, 16)) rfl lb_0.1 (shO hP.1 lb_0) (p_X11_law _ _ cA ad g a13838 lw lwn hP.1 hP.2.1 (by unfold isLw; omega) (by unfold isLw; omega) h13 h14) ⟨by decide, by decide⟩ rfl rfl hl.1 (Nat.le_of_ble_eq_true rfl) dL_law_460 (fun v g1 H locs hp hW => ?_)
  obtain ⟨r1, rfl, hs1, hG1, hf1, ha1⟩ := hp
  have hP0 := hP
  have hP : PI ad cA g1 := ⟨hs1, hG1, by rcases ha1 with h9 | h9; exact ⟨lw, lwn, hlc, h9.1, h9.2⟩; exact ⟨lwn, lw, by omega, h9.1, h9.2⟩, LWQ_fr hP0.2.2.2.1 hf1 (by omega) (by omega) (by omega) (by omega) (by omega) (by omega), TB_fr hP0.2.2.2.2 hf1 (by omega)⟩
  refine q_pop hM dL_law_463 rfl ?_
  refine q_aload_n hM dL_law_464 (lv_at hl 1 rfl) ?_
  refine q_aload_n hM dL_law_465 (lv_at hl 3 rfl) ?_
  refine q_iload_n hM dL_law_466 (lv_at hl 0 rfl) ?_
  refine q_iconst (v := (1 : Int32)) hM dL_law_467 (by decide) ?_
  refine q_iadd hM dL_law_468 (fun z13839 hz13839 => ?_)
  have tz13839 := i_addT hz13839 (rfl : i.toInt = i.toInt) (kc_1 : (1 : Int32).toInt = 1) (by omega) (by omega)
  refine s_iald z13839.toInt.toNat hM hW hXB (by omega) (by omega) (by omega) dL_law_469 ?_
  refine q_top (fun a13840 ha13840 => ?_)
  refine q_callV (As := [.int a13840]) (rest := []) hM hW hR hC myX12_law (kAW (v_5_11 (List.mem_of_getElem? (i := 6) rfl)) rfl) (rfl : vwCl[12]? = some (RX12, TX12, 86)) rfl lb_129.1 (shO hP.1 lb_129) (p_X12_law _ _ cA ad g1 a13840 (fI g1 129 32) hP.1 hP.2.1 (shI hP.1 lb_129 (by decide) (by decide)) hP.2.2.2.1) ⟨by decide, by decide⟩ rfl rfl hl.1 (Nat.le_of_ble_eq_true rfl) dL_law_470 (fun v g2 H locs hp hW => ?_)
  obtain ⟨r2, rfl, hs2, hG2, hf2, ha2⟩ := hp
  have hP1 := hP
  have hP : PI ad cA g2 := by
    obtain ⟨lw9, lwn9, c9, h139, h149⟩ := hP1.2.2.1
    exact ⟨hs2, hG2, ⟨lw9, lwn9, c9, (hf2.1 0 13 (by omega)).trans h139, (hf2.1 0 14 (by omega)).trans h149⟩, ha2, TB_fr hP1.2.2.2.2 hf2 (by omega)⟩
  have qa13840 : a13840 = a13838 := by rw [ha13840, ha13838]; congr 1; omega
  first | rw [qa13840] at ha2 | skip
  refine q_pop hM dL_law_473 rfl ?_
  refine q_goto (tgt := 1457) hM dL_law_474 (by decide) ?_
  exact kk _ _ _ _ hP ⟨⟨(by rw [show fI g2 3 2 = fI g 3 2 from (FRf hf1 hf2 (by omega) (by first | decide | omega)), show arI g2 131 = arI g 131 from ((hf2.2.1 131 (by first | decide | omega)).trans (hf1.2.1 131 (by omega)))]; exact hRl.1.1), (by rw [show fI g2 18 3 = fI g 18 3 from (FRf hf1 hf2 (by omega) (by first | decide | omega)), show arI g2 158 = arI g 158 from ((hf2.2.1 158 (by first | decide | omega)).trans (hf1.2.1 158 (by omega)))]; exact hRl.1.2.1), (by rw [show fI g2 30 3 = fI g 30 3 from (FRf hf1 hf2 (by omega) (by first | decide | omega)), show arI g2 162 = arI g 162 from ((hf2.2.1 162 (by first | decide | omega)).trans (hf1.2.1 162 (by omega)))]; exact hRl.1.2.2.1), (((FRf hf1 hf2 (by omega) (by first | decide | omega))).trans (hRl.1.2.2.2.1.trans ((FRf hf1 hf2 (by omega) (by first | decide | omega))).symm)), (((FRf hf1 hf2 (by omega) (by first | decide | omega))).trans (hRl.1.2.2.2.2.1.trans ((FRf hf1 hf2 (by omega) (by first | decide | omega))).symm)), (((FRf hf1 hf2 (by omega) (by first | decide | omega))).trans (hRl.1.2.2.2.2.2.trans (congrFun ((hf2.2.1 166 (by first | decide | omega)).trans (hf1.2.1 166 (by omega))) 1).symm))⟩, (fun k j hk hj => (congrFun ((hf2.2.1 (6 + 1 * k) (by first | decide | omega)).trans (hf1.2.1 (6 + 1 * k) (by omega))) j).trans ((hRl.2 k j hk hj).trans (congrFun ((hf2.2.1 133 (by first | decide | omega)).trans (hf1.2.1 133 (by omega))) _).symm))⟩ hW hl

set_option maxRecDepth 100000 in
set_option maxHeartbeats 4000000 in
theorem lc_grade {K : KT} {cA : Nat → ClassId} {ad : Nat → Nat} {b L : Nat} {xs : Nat → Int32} {H : Heap} {locs : List Loc} {ls : Array Slot} {g : Nat → va_E} {i : Int32} (hM : MB K cA code 4 R_law) (hXB : XB K b L xs) (hL : L ≤ 3072) (hR : HasRoom K 2048 84000) (hC : Cells K 600000 7302250) (hP : PI ad cA g) (hRl : RQ g) (hi0 : 0 ≤ i.toInt) (hi : i.toInt + 6 ≤ L) (hW : WB NN ad K g H locs) (hl : lv_has ls 4 [(3, .int i), (2, .ref (ad 129)), (1, .ref (ad 0)), (0, .ref b)]) (kk : ∀ (g : Nat → va_E) (H : Heap) (locs : List Loc) (ls : Array Slot), PI ad cA g → RQ g → WB NN ad K g H locs → lv_has ls 4 [(3, .int i), (2, .ref (ad 129)), (1, .ref (ad 0)), (0, .ref b)] → XX K 600000 7302250 H locs 1457 ls []) : XX K 600000 7302250 H locs 477 ls [] := by
  have hLn : L < 1000000 := by omega
  obtain ⟨lw, lwn, hlc, h13, h14⟩ := id hP.2.2.1
  refine q_aload_n hM dL_law_477 (lv_at hl 2 rfl) ?_
  refine q_aload_n hM dL_law_478 (lv_at hl 3 rfl) ?_
  refine q_iload_n hM dL_law_479 (lv_at hl 0 rfl) ?_
  refine q_iconst (v := (1 : Int32)) hM dL_law_480 (by decide) ?_
  refine q_iadd hM dL_law_481 (fun z13841 hz13841 => ?_)
  have tz13841 := i_addT hz13841 (rfl : i.toInt = i.toInt) (kc_1 : (1 : Int32).toInt = 1) (by omega) (by omega)
  refine s_iald z13841.toInt.toNat hM hW hXB (by omega) (by omega) (by omega) dL_law_482 ?_
  refine q_top (fun a13842 ha13842 => ?_)
  refine q_aload_n hM dL_law_483 (lv_at hl 3 rfl) ?_
  refine q_iload_n hM dL_law_484 (lv_at hl 0 rfl) ?_
  refine q_iconst (v := (2 : Int32)) hM dL_law_485 (by decide) ?_
  refine q_iadd hM dL_law_486 (fun z13843 hz13843 => ?_)
  have tz13843 := i_addT hz13843 (rfl : i.toInt = i.toInt) (kc_2 : (2 : Int32).toInt = 2) (by omega) (by omega)
  refine s_iald z13843.toInt.toNat hM hW hXB (by omega) (by omega) (by omega) dL_law_487 ?_
  refine q_top (fun a13844 ha13844 => ?_)
  refine q_callV (As := [.int a13842, .int a13844]) (rest := []) hM hW hR hC myX11_grade (kAW (v_2_8 (List.mem_of_getElem? (i := 15) rfl)) rfl) (rfl : vwCl[11]? = some (RX11, TX11, 16)) rfl lb_0.1 (shO hP.1 lb_0) (p_X11_grade _ _ cA ad g a13842 a13844  hP.1 hP.2.1) ⟨by decide, by decide⟩ rfl rfl hl.1 (Nat.le_of_ble_eq_true rfl) dL_law_488 (fun v g1 H locs hp hW => ?_)
  obtain ⟨r1, rfl, hs1, hG1, hf1, ha1⟩ := hp
  have hP0 := hP
  have hP : PI ad cA g1 := PI_fr hP0 hs1 hG1 hf1 (by first | decide | omega) (by first | decide | omega) (by first | decide | omega) (by first | decide | omega) (by first | decide | omega) (by first | decide | omega) (by first | decide | omega) (by first | decide | omega) (by first | decide | omega)
  refine q_pop hM dL_law_491 rfl ?_
  refine q_aload_n hM dL_law_492 (lv_at hl 1 rfl) ?_
  refine q_aload_n hM dL_law_493 (lv_at hl 3 rfl) ?_
  refine q_iload_n hM dL_law_494 (lv_at hl 0 rfl) ?_
  refine q_iconst (v := (1 : Int32)) hM dL_law_495 (by decide) ?_
  refine q_iadd hM dL_law_496 (fun z13845 hz13845 => ?_)
  have tz13845 := i_addT hz13845 (rfl : i.toInt = i.toInt) (kc_1 : (1 : Int32).toInt = 1) (by omega) (by omega)
  refine s_iald z13845.toInt.toNat hM hW hXB (by omega) (by omega) (by omega) dL_law_497 ?_
  refine q_top (fun a13846 ha13846 => ?_)
  refine q_aload_n hM dL_law_498 (lv_at hl 3 rfl) ?_
  refine q_iload_n hM dL_law_499 (lv_at hl 0 rfl) ?_
  refine q_iconst (v := (2 : Int32)) hM dL_law_500 (by decide) ?_
  refine q_iadd hM dL_law_501 (fun z13847 hz13847 => ?_)
  have tz13847 := i_addT hz13847 (rfl : i.toInt = i.toInt) (kc_2 : (2 : Int32).toInt = 2) (by omega) (by omega)
  refine s_iald z13847.toInt.toNat hM hW hXB (by omega) (by omega) (by omega) dL_law_502 ?_
  refine q_top (fun a13848 ha13848 => ?_)
  refine q_callV (As := [.int a13846, .int a13848]) (rest := []) hM hW hR hC myX12_grade (kAW (v_5_11 (List.mem_of_getElem? (i := 1) rfl)) rfl) (rfl : vwCl[12]? = some (RX12, TX12, 86)) rfl lb_129.1 (shO hP.1 lb_129) (p_X12_grade _ _ cA ad g1 a13846 a13848 hP.1 hP.2.1) ⟨by decide, by decide⟩ rfl rfl hl.1 (Nat.le_of_ble_eq_true rfl) dL_law_503 (fun v g2 H locs hp hW => ?_)
  obtain ⟨r2, rfl, hs2, hG2, hf2, ha2⟩ := hp
  have hP1 := hP
  have hP : PI ad cA g2 := PI_fr hP1 hs2 hG2 hf2 (by first | decide | omega) (by first | decide | omega) (by first | decide | omega) (by first | decide | omega) (by first | decide | omega) (by first | decide | omega) (by first | decide | omega) (by first | decide | omega) (by first | decide | omega)
  have qa13846 : a13846 = a13842 := by rw [ha13846, ha13842]; congr 1; omega
  have qa13848 : a13848 = a13844 := by rw [ha13848, ha13844]; congr 1; omega
  first | rw [qa13846] at ha2 | skip
  first | rw [qa13848] at ha2 | skip
  refine q_pop hM dL_law_506 rfl ?_
  refine q_goto (tgt := 1457) hM dL_law_507 (by decide) ?_
  exact kk _ _ _ _ hP ⟨⟨(by rw [show fI g2 3 2 = fI g 3 2 from (FRf hf1 hf2 (by first | decide | omega) (by first | decide | omega)), show arI g2 131 = arI g 131 from ((hf2.2.1 131 (by first | decide | omega)).trans (hf1.2.1 131 (by first | decide | omega)))]; exact hRl.1.1), (by rw [show fI g2 18 3 = fI g 18 3 from (FRf hf1 hf2 (by first | decide | omega) (by first | decide | omega)), show arI g2 158 = arI g 158 from ((hf2.2.1 158 (by first | decide | omega)).trans (hf1.2.1 158 (by first | decide | omega)))]; exact hRl.1.2.1), (by rw [show fI g2 30 3 = fI g 30 3 from (FRf hf1 hf2 (by first | decide | omega) (by first | decide | omega)), show arI g2 162 = arI g 162 from ((hf2.2.1 162 (by first | decide | omega)).trans (hf1.2.1 162 (by first | decide | omega)))]; exact hRl.1.2.2.1), (((FRf hf1 hf2 (by first | decide | omega) (by first | decide | omega))).trans (hRl.1.2.2.2.1.trans ((FRf hf1 hf2 (by first | decide | omega) (by first | decide | omega))).symm)), (((FRf hf1 hf2 (by first | decide | omega) (by first | decide | omega))).trans (hRl.1.2.2.2.2.1.trans ((FRf hf1 hf2 (by first | decide | omega) (by first | decide | omega))).symm)), (((FRf hf1 hf2 (by first | decide | omega) (by first | decide | omega))).trans (hRl.1.2.2.2.2.2.trans (congrFun ((hf2.2.1 166 (by first | decide | omega)).trans (hf1.2.1 166 (by first | decide | omega))) 1).symm))⟩, (fun k j hk hj => (congrFun ((hf2.2.1 (6 + 1 * k) (by first | decide | omega)).trans (hf1.2.1 (6 + 1 * k) (by first | decide | omega))) j).trans ((hRl.2 k j hk hj).trans (congrFun ((hf2.2.1 133 (by first | decide | omega)).trans (hf1.2.1 133 (by first | decide | omega))) _).symm))⟩ hW hl

set_option maxRecDepth 100000 in
set_option maxHeartbeats 4000000 in
theorem lc_exam {K : KT} {cA : Nat → ClassId} {ad : Nat → Nat} {b L : Nat} {xs : Nat → Int32} {H : Heap} {locs : List Loc} {ls : Array Slot} {g : Nat → va_E} {i : Int32} (hM : MB K cA code 4 R_law) (hXB : XB K b L xs) (hL : L ≤ 3072) (hR : HasRoom K 2048 84000) (hC : Cells K 600000 7302250) (hP : PI ad cA g) (hRl : RQ g) (hi0 : 0 ≤ i.toInt) (hi : i.toInt + 6 ≤ L) (hW : WB NN ad K g H locs) (hl : lv_has ls 4 [(3, .int i), (2, .ref (ad 129)), (1, .ref (ad 0)), (0, .ref b)]) (kk : ∀ (g : Nat → va_E) (H : Heap) (locs : List Loc) (ls : Array Slot), PI ad cA g → RQ g → WB NN ad K g H locs → lv_has ls 4 [(3, .int i), (2, .ref (ad 129)), (1, .ref (ad 0)), (0, .ref b)] → XX K 600000 7302250 H locs 1457 ls []) : XX K 600000 7302250 H locs 510 ls [] := by
  have hLn : L < 1000000 := by omega
  obtain ⟨lw, lwn, hlc, h13, h14⟩ := id hP.2.2.1
  refine q_aload_n hM dL_law_510 (lv_at hl 2 rfl) ?_
  refine q_aload_n hM dL_law_511 (lv_at hl 3 rfl) ?_
  refine q_iload_n hM dL_law_512 (lv_at hl 0 rfl) ?_
  refine q_iconst (v := (1 : Int32)) hM dL_law_513 (by decide) ?_
  refine q_iadd hM dL_law_514 (fun z13849 hz13849 => ?_)
  have tz13849 := i_addT hz13849 (rfl : i.toInt = i.toInt) (kc_1 : (1 : Int32).toInt = 1) (by omega) (by omega)
  refine s_iald z13849.toInt.toNat hM hW hXB (by omega) (by omega) (by omega) dL_law_515 ?_
  refine q_top (fun a13850 ha13850 => ?_)
  refine q_aload_n hM dL_law_516 (lv_at hl 3 rfl) ?_
  refine q_iload_n hM dL_law_517 (lv_at hl 0 rfl) ?_
  refine q_iconst (v := (2 : Int32)) hM dL_law_518 (by decide) ?_
  refine q_iadd hM dL_law_519 (fun z13851 hz13851 => ?_)
  have tz13851 := i_addT hz13851 (rfl : i.toInt = i.toInt) (kc_2 : (2 : Int32).toInt = 2) (by omega) (by omega)
  refine s_iald z13851.toInt.toNat hM hW hXB (by omega) (by omega) (by omega) dL_law_520 ?_
  refine q_top (fun a13852 ha13852 => ?_)
  refine q_callV (As := [.int a13850, .int a13852]) (rest := []) hM hW hR hC myX11_exam (kAW (v_2_9 (List.mem_of_getElem? (i := 3) rfl)) rfl) (rfl : vwCl[11]? = some (RX11, TX11, 16)) rfl lb_0.1 (shO hP.1 lb_0) (p_X11_exam _ _ cA ad g a13850 a13852  hP.1 hP.2.1) ⟨by decide, by decide⟩ rfl rfl hl.1 (Nat.le_of_ble_eq_true rfl) dL_law_521 (fun v g1 H locs hp hW => ?_)
  obtain ⟨r1, rfl, hs1, hG1, hf1, ha1⟩ := hp
  have hP0 := hP
  have hP : PI ad cA g1 := PI_fr hP0 hs1 hG1 hf1 (by first | decide | omega) (by first | decide | omega) (by first | decide | omega) (by first | decide | omega) (by first | decide | omega) (by first | decide | omega) (by first | decide | omega) (by first | decide | omega) (by first | decide | omega)
  refine q_pop hM dL_law_524 rfl ?_
  refine q_aload_n hM dL_law_525 (lv_at hl 1 rfl) ?_
  refine q_aload_n hM dL_law_526 (lv_at hl 3 rfl) ?_
  refine q_iload_n hM dL_law_527 (lv_at hl 0 rfl) ?_
  refine q_iconst (v := (1 : Int32)) hM dL_law_528 (by decide) ?_
  refine q_iadd hM dL_law_529 (fun z13853 hz13853 => ?_)
  have tz13853 := i_addT hz13853 (rfl : i.toInt = i.toInt) (kc_1 : (1 : Int32).toInt = 1) (by omega) (by omega)
  refine s_iald z13853.toInt.toNat hM hW hXB (by omega) (by omega) (by omega) dL_law_530 ?_
  refine q_top (fun a13854 ha13854 => ?_)
  refine q_aload_n hM dL_law_531 (lv_at hl 3 rfl) ?_
  refine q_iload_n hM dL_law_532 (lv_at hl 0 rfl) ?_
  refine q_iconst (v := (2 : Int32)) hM dL_law_533 (by decide) ?_
  refine q_iadd hM dL_law_534 (fun z13855 hz13855 => ?_)
  have tz13855 := i_addT hz13855 (rfl : i.toInt = i.toInt) (kc_2 : (2 : Int32).toInt = 2) (by omega) (by omega)
  refine s_iald z13855.toInt.toNat hM hW hXB (by omega) (by omega) (by omega) dL_law_535 ?_
  refine q_top (fun a13856 ha13856 => ?_)
  refine q_callV (As := [.int a13854, .int a13856]) (rest := []) hM hW hR hC myX12_exam (kAW (v_6_2 (List.mem_of_getElem? (i := 13) rfl)) rfl) (rfl : vwCl[12]? = some (RX12, TX12, 86)) rfl lb_129.1 (shO hP.1 lb_129) (p_X12_exam _ _ cA ad g1 a13854 a13856 hP.1 hP.2.1) ⟨by decide, by decide⟩ rfl rfl hl.1 (Nat.le_of_ble_eq_true rfl) dL_law_536 (fun v g2 H locs hp hW => ?_)
  obtain ⟨r2, rfl, hs2, hG2, hf2, ha2⟩ := hp
  have hP1 := hP
  have hP : PI ad cA g2 := PI_fr hP1 hs2 hG2 hf2 (by first | decide | omega) (by first | decide | omega) (by first | decide | omega) (by first | decide | omega) (by first | decide | omega) (by first | decide | omega) (by first | decide | omega) (by first | decide | omega) (by first | decide | omega)
  have qa13854 : a13854 = a13850 := by rw [ha13854, ha13850]; congr 1; omega
  have qa13856 : a13856 = a13852 := by rw [ha13856, ha13852]; congr 1; omega
  first | rw [qa13854] at ha2 | skip
  first | rw [qa13856] at ha2 | skip
  refine q_pop hM dL_law_539 rfl ?_
  refine q_goto (tgt := 1457) hM dL_law_540 (by decide) ?_
  exact kk _ _ _ _ hP ⟨⟨(by rw [show fI g2 3 2 = fI g 3 2 from (FRf hf1 hf2 (by first | decide | omega) (by first | decide | omega)), show arI g2 131 = arI g 131 from ((hf2.2.1 131 (by first | decide | omega)).trans (hf1.2.1 131 (by first | decide | omega)))]; exact hRl.1.1), (by rw [show fI g2 18 3 = fI g 18 3 from (FRf hf1 hf2 (by first | decide | omega) (by first | decide | omega)), show arI g2 158 = arI g 158 from ((hf2.2.1 158 (by first | decide | omega)).trans (hf1.2.1 158 (by first | decide | omega)))]; exact hRl.1.2.1), (by rw [show fI g2 30 3 = fI g 30 3 from (FRf hf1 hf2 (by first | decide | omega) (by first | decide | omega)), show arI g2 162 = arI g 162 from ((hf2.2.1 162 (by first | decide | omega)).trans (hf1.2.1 162 (by first | decide | omega)))]; exact hRl.1.2.2.1), (((FRf hf1 hf2 (by first | decide | omega) (by first | decide | omega))).trans (hRl.1.2.2.2.1.trans ((FRf hf1 hf2 (by first | decide | omega) (by first | decide | omega))).symm)), (((FRf hf1 hf2 (by first | decide | omega) (by first | decide | omega))).trans (hRl.1.2.2.2.2.1.trans ((FRf hf1 hf2 (by first | decide | omega) (by first | decide | omega))).symm)), (((FRf hf1 hf2 (by first | decide | omega) (by first | decide | omega))).trans (hRl.1.2.2.2.2.2.trans (congrFun ((hf2.2.1 166 (by first | decide | omega)).trans (hf1.2.1 166 (by first | decide | omega))) 1).symm))⟩, (fun k j hk hj => (congrFun ((hf2.2.1 (6 + 1 * k) (by first | decide | omega)).trans (hf1.2.1 (6 + 1 * k) (by first | decide | omega))) j).trans ((hRl.2 k j hk hj).trans (congrFun ((hf2.2.1 133 (by first | decide | omega)).trans (hf1.2.1 133 (by first | decide | omega))) _).symm))⟩ hW hl
