set_option maxRecDepth 100000 in
set_option maxHeartbeats 4000000 in
theorem lc_fact {K : KT} {cA : Nat → ClassId} {ad : Nat → Nat} {b L : Nat} {xs : Nat → Int32} {H : Heap} {locs : List Loc} {ls : Array Slot} {g : Nat → va_E} {i : Int32} (hM : MB K cA code 4 R_law) (hXB : XB K b L xs) (hL : L ≤ 3072) (hR : HasRoom K 2048 84000) (hC : Cells K 600000 7302250) (hP : PI ad cA g) (hRl : RT g) (hi0 : 0 ≤ i.toInt) (hi : i.toInt + 6 ≤ L) (hW : WB NN ad K g H locs) (hl : lv_has ls 4 [(3, .int i), (2, .ref (ad 129)), (1, .ref (ad 0)), (0, .ref b)]) (kk : ∀ (g : Nat → va_E) (H : Heap) (locs : List Loc) (ls : Array Slot), PI ad cA g → RT g → WB NN ad K g H locs → lv_has ls 4 [(3, .int i), (2, .ref (ad 129)), (1, .ref (ad 0)), (0, .ref b)] → XX K 600000 7302250 H locs 1457 ls []) : XX K 600000 7302250 H locs 196 ls [] := by
  have hLn : L < 1000000 := by omega
  obtain ⟨lw, lwn, hlc, h13, h14⟩ := id hP.2.2.1
  refine q_aload_n hM dL_law_196 (lv_at hl 2 rfl) ?_
  refine q_aload_n hM dL_law_197 (lv_at hl 3 rfl) ?_
  refine q_iload_n hM dL_law_198 (lv_at hl 0 rfl) ?_
  refine q_iconst (v := (1 : Int32)) hM dL_law_199 (by decide) ?_
  refine q_iadd hM dL_law_200 (fun z13862 hz13862 => ?_)
  have tz13862 := i_addT hz13862 (rfl : i.toInt = i.toInt) (kc_1 : (1 : Int32).toInt = 1) (by omega) (by omega)
  refine s_iald z13862.toInt.toNat hM hW hXB (by omega) (by omega) (by omega) dL_law_201 ?_
  refine q_top (fun a13863 ha13863 => ?_)
  refine q_aload_n hM dL_law_202 (lv_at hl 3 rfl) ?_
  refine q_iload_n hM dL_law_203 (lv_at hl 0 rfl) ?_
  refine q_iconst (v := (2 : Int32)) hM dL_law_204 (by decide) ?_
  refine q_iadd hM dL_law_205 (fun z13864 hz13864 => ?_)
  have tz13864 := i_addT hz13864 (rfl : i.toInt = i.toInt) (kc_2 : (2 : Int32).toInt = 2) (by omega) (by omega)
  refine s_iald z13864.toInt.toNat hM hW hXB (by omega) (by omega) (by omega) dL_law_206 ?_
  refine q_top (fun a13865 ha13865 => ?_)
  refine q_callV (As := [.int a13863, .int a13865]) (rest := []) hM hW hR hC myX11_fact (kAW (v_1_9 (List.mem_of_getElem? (i := 13) rfl)) rfl) (rfl : vwCl[11]? = some (RX11, TX11, 16)) rfl lb_0.1 (shO hP.1 lb_0) (s_X11_fact _ _ cA ad g a13863 a13865 (fI g 3 2)  hP.1 hP.2.1 (shI hP.1 lb_3 (by decide) (by decide))) ⟨by decide, by decide⟩ rfl rfl hl.1 (Nat.le_of_ble_eq_true rfl) dL_law_207 (fun v g1 H locs hp hW => ?_)
  obtain ⟨x0, r1, rfl, hs1, hG1, hf1, cx0, cx1, ha1⟩ := hp
  have hP0 := hP
  have hP : PI ad cA g1 := PI_fr hP0 hs1 hG1 hf1 (by omega) (by omega) (by omega) (by omega) (by omega) (by omega) (by omega) (by omega) (by omega)
  refine q_pop hM dL_law_210 rfl ?_
  refine q_aload_n hM dL_law_211 (lv_at hl 1 rfl) ?_
  refine q_aload_n hM dL_law_212 (lv_at hl 3 rfl) ?_
  refine q_iload_n hM dL_law_213 (lv_at hl 0 rfl) ?_
  refine q_iconst (v := (1 : Int32)) hM dL_law_214 (by decide) ?_
  refine q_iadd hM dL_law_215 (fun z13866 hz13866 => ?_)
  have tz13866 := i_addT hz13866 (rfl : i.toInt = i.toInt) (kc_1 : (1 : Int32).toInt = 1) (by omega) (by omega)
  refine s_iald z13866.toInt.toNat hM hW hXB (by omega) (by omega) (by omega) dL_law_216 ?_
  refine q_top (fun a13867 ha13867 => ?_)
  refine q_aload_n hM dL_law_217 (lv_at hl 3 rfl) ?_
  refine q_iload_n hM dL_law_218 (lv_at hl 0 rfl) ?_
  refine q_iconst (v := (2 : Int32)) hM dL_law_219 (by decide) ?_
  refine q_iadd hM dL_law_220 (fun z13868 hz13868 => ?_)
  have tz13868 := i_addT hz13868 (rfl : i.toInt = i.toInt) (kc_2 : (2 : Int32).toInt = 2) (by omega) (by omega)
  refine s_iald z13868.toInt.toNat hM hW hXB (by omega) (by omega) (by omega) dL_law_221 ?_
  refine q_top (fun a13869 ha13869 => ?_)
  refine q_callV (As := [.int a13867, .int a13869]) (rest := []) hM hW hR hC myX12_fact (kAW (v_5_4 (List.mem_of_getElem? (i := 9) rfl)) rfl) (rfl : vwCl[12]? = some (RX12, TX12, 86)) rfl lb_129.1 (shO hP.1 lb_129) (s_X12_fact _ _ cA ad g1 a13867 a13869 hP.1 hP.2.1) ⟨by decide, by decide⟩ rfl rfl hl.1 (Nat.le_of_ble_eq_true rfl) dL_law_222 (fun v g2 H locs hp hW => ?_)
  obtain ⟨r2, rfl, hs2, hG2, hf2, cm0, ha2⟩ := hp
  have hP1 := hP
  have hP : PI ad cA g2 := PI_fr hP1 hs2 hG2 hf2 (by omega) (by omega) (by omega) (by omega) (by omega) (by omega) (by omega) (by omega) (by omega)
  have qa13867 : a13867 = a13863 := by rw [ha13867, ha13863]; congr 1; omega
  have qa13869 : a13869 = a13865 := by rw [ha13869, ha13865]; congr 1; omega
  first | rw [qa13867] at ha2 | skip
  first | rw [qa13869] at ha2 | skip
  first | rw [qa13867] at cm0 | skip
  first | rw [qa13869] at cm0 | skip
  refine q_pop hM dL_law_225 rfl ?_
  refine q_goto (tgt := 1457) hM dL_law_226 (by decide) ?_
  exact kk _ _ _ _ hP ⟨⟨(by
    rw [show fI g2 3 2 = x0 from ((FR1f hf2 (by omega)).trans (fI_of cx0))]
    rcases cx1 with ⟨c1, e1⟩ | ⟨c1, e1⟩
    · rcases cm0 with ⟨c2, e2⟩ | ⟨c2, e2⟩
      · exact SM_set hRl.1.1 (by decide) e1 (by rw [e2, (hf1.2.1 131 (by omega))]) (by decide) (by omega) (by omega)
      · exact absurd c1 c2
    · rcases cm0 with ⟨c2, e2⟩ | ⟨c2, e2⟩
      · exact absurd c2 c1
      · rw [e1, e2, (hf1.2.1 131 (by omega))]; exact hRl.1.1), (by rw [show fI g2 18 3 = fI g 18 3 from (FRf hf1 hf2 (by omega) (by omega)), show arI g2 158 = arI g 158 from ((hf2.2.1 158 (by omega)).trans (hf1.2.1 158 (by omega)))]; exact hRl.1.2.1), (by rw [show fI g2 30 3 = fI g 30 3 from (FRf hf1 hf2 (by omega) (by omega)), show arI g2 162 = arI g 162 from ((hf2.2.1 162 (by omega)).trans (hf1.2.1 162 (by omega)))]; exact hRl.1.2.2.1), (((FRf hf1 hf2 (by omega) (by omega))).trans (hRl.1.2.2.2.1.trans ((FRf hf1 hf2 (by omega) (by omega))).symm)), (((FRf hf1 hf2 (by omega) (by omega))).trans (hRl.1.2.2.2.2.1.trans ((FRf hf1 hf2 (by omega) (by omega))).symm)), (((FRf hf1 hf2 (by omega) (by omega))).trans (hRl.1.2.2.2.2.2.trans (congrFun ((hf2.2.1 166 (by omega)).trans (hf1.2.1 166 (by omega))) 1).symm))⟩, ⟨by rw [show fI g2 102 4 = fI g 102 4 from (FRf hf1 hf2 (by omega) (by omega)), show arI g2 176 = arI g 176 from ((hf2.2.1 176 (by omega)).trans (hf1.2.1 176 (by omega)))]; exact hRl.2.1, fun m k hm hk => by rw [show arI g2 (113 + 1 * m) = arI g (113 + 1 * m) from (hf2.2.1 (113 + 1 * m) (by omega)).trans (hf1.2.1 (113 + 1 * m) (by omega)), show arI g2 177 = arI g 177 from ((hf2.2.1 177 (by omega)).trans (hf1.2.1 177 (by omega)))]; exact hRl.2.2 m k hm hk⟩⟩ hW hl

set_option maxRecDepth 100000 in
set_option maxHeartbeats 4000000 in
theorem lc_link {K : KT} {cA : Nat → ClassId} {ad : Nat → Nat} {b L : Nat} {xs : Nat → Int32} {H : Heap} {locs : List Loc} {ls : Array Slot} {g : Nat → va_E} {i : Int32} (hM : MB K cA code 4 R_law) (hXB : XB K b L xs) (hL : L ≤ 3072) (hR : HasRoom K 2048 84000) (hC : Cells K 600000 7302250) (hP : PI ad cA g) (hRl : RT g) (hi0 : 0 ≤ i.toInt) (hi : i.toInt + 6 ≤ L) (hW : WB NN ad K g H locs) (hl : lv_has ls 4 [(3, .int i), (2, .ref (ad 129)), (1, .ref (ad 0)), (0, .ref b)]) (kk : ∀ (g : Nat → va_E) (H : Heap) (locs : List Loc) (ls : Array Slot), PI ad cA g → RT g → WB NN ad K g H locs → lv_has ls 4 [(3, .int i), (2, .ref (ad 129)), (1, .ref (ad 0)), (0, .ref b)] → XX K 600000 7302250 H locs 1457 ls []) : XX K 600000 7302250 H locs 229 ls [] := by
  have hLn : L < 1000000 := by omega
  obtain ⟨lw, lwn, hlc, h13, h14⟩ := id hP.2.2.1
  refine q_aload_n hM dL_law_229 (lv_at hl 2 rfl) ?_
  refine q_aload_n hM dL_law_230 (lv_at hl 3 rfl) ?_
  refine q_iload_n hM dL_law_231 (lv_at hl 0 rfl) ?_
  refine q_iconst (v := (1 : Int32)) hM dL_law_232 (by decide) ?_
  refine q_iadd hM dL_law_233 (fun z13870 hz13870 => ?_)
  have tz13870 := i_addT hz13870 (rfl : i.toInt = i.toInt) (kc_1 : (1 : Int32).toInt = 1) (by omega) (by omega)
  refine s_iald z13870.toInt.toNat hM hW hXB (by omega) (by omega) (by omega) dL_law_234 ?_
  refine q_top (fun a13871 ha13871 => ?_)
  refine q_aload_n hM dL_law_235 (lv_at hl 3 rfl) ?_
  refine q_iload_n hM dL_law_236 (lv_at hl 0 rfl) ?_
  refine q_iconst (v := (2 : Int32)) hM dL_law_237 (by decide) ?_
  refine q_iadd hM dL_law_238 (fun z13872 hz13872 => ?_)
  have tz13872 := i_addT hz13872 (rfl : i.toInt = i.toInt) (kc_2 : (2 : Int32).toInt = 2) (by omega) (by omega)
  refine s_iald z13872.toInt.toNat hM hW hXB (by omega) (by omega) (by omega) dL_law_239 ?_
  refine q_top (fun a13873 ha13873 => ?_)
  refine q_aload_n hM dL_law_240 (lv_at hl 3 rfl) ?_
  refine q_iload_n hM dL_law_241 (lv_at hl 0 rfl) ?_
  refine q_iconst (v := (3 : Int32)) hM dL_law_242 (by decide) ?_
  refine q_iadd hM dL_law_243 (fun z13874 hz13874 => ?_)
  have tz13874 := i_addT hz13874 (rfl : i.toInt = i.toInt) (kc_3 : (3 : Int32).toInt = 3) (by omega) (by omega)
  refine s_iald z13874.toInt.toNat hM hW hXB (by omega) (by omega) (by omega) dL_law_244 ?_
  refine q_top (fun a13875 ha13875 => ?_)
  refine q_callV (As := [.int a13871, .int a13873, .int a13875]) (rest := []) hM hW hR hC myX11_link (kAW (v_1_10 (List.mem_of_getElem? (i := 4) rfl)) rfl) (rfl : vwCl[11]? = some (RX11, TX11, 16)) rfl lb_0.1 (shO hP.1 lb_0) (p_X11_link _ _ cA ad g a13871 a13873 a13875  hP.1 hP.2.1) ⟨by decide, by decide⟩ rfl rfl hl.1 (Nat.le_of_ble_eq_true rfl) dL_law_245 (fun v g1 H locs hp hW => ?_)
  obtain ⟨r1, rfl, hs1, hG1, hf1, ha1⟩ := hp
  have hP0 := hP
  have hP : PI ad cA g1 := PI_fr hP0 hs1 hG1 hf1 (by omega) (by omega) (by omega) (by omega) (by omega) (by omega) (by omega) (by omega) (by omega)
  refine q_pop hM dL_law_248 rfl ?_
  refine q_aload_n hM dL_law_249 (lv_at hl 1 rfl) ?_
  refine q_aload_n hM dL_law_250 (lv_at hl 3 rfl) ?_
  refine q_iload_n hM dL_law_251 (lv_at hl 0 rfl) ?_
  refine q_iconst (v := (1 : Int32)) hM dL_law_252 (by decide) ?_
  refine q_iadd hM dL_law_253 (fun z13876 hz13876 => ?_)
  have tz13876 := i_addT hz13876 (rfl : i.toInt = i.toInt) (kc_1 : (1 : Int32).toInt = 1) (by omega) (by omega)
  refine s_iald z13876.toInt.toNat hM hW hXB (by omega) (by omega) (by omega) dL_law_254 ?_
  refine q_top (fun a13877 ha13877 => ?_)
  refine q_aload_n hM dL_law_255 (lv_at hl 3 rfl) ?_
  refine q_iload_n hM dL_law_256 (lv_at hl 0 rfl) ?_
  refine q_iconst (v := (2 : Int32)) hM dL_law_257 (by decide) ?_
  refine q_iadd hM dL_law_258 (fun z13878 hz13878 => ?_)
  have tz13878 := i_addT hz13878 (rfl : i.toInt = i.toInt) (kc_2 : (2 : Int32).toInt = 2) (by omega) (by omega)
  refine s_iald z13878.toInt.toNat hM hW hXB (by omega) (by omega) (by omega) dL_law_259 ?_
  refine q_top (fun a13879 ha13879 => ?_)
  refine q_aload_n hM dL_law_260 (lv_at hl 3 rfl) ?_
  refine q_iload_n hM dL_law_261 (lv_at hl 0 rfl) ?_
  refine q_iconst (v := (3 : Int32)) hM dL_law_262 (by decide) ?_
  refine q_iadd hM dL_law_263 (fun z13880 hz13880 => ?_)
  have tz13880 := i_addT hz13880 (rfl : i.toInt = i.toInt) (kc_3 : (3 : Int32).toInt = 3) (by omega) (by omega)
  refine s_iald z13880.toInt.toNat hM hW hXB (by omega) (by omega) (by omega) dL_law_264 ?_
  refine q_top (fun a13881 ha13881 => ?_)
  refine q_callV (As := [.int a13877, .int a13879, .int a13881]) (rest := []) hM hW hR hC myX12_link (kAW (v_5_5 (List.mem_of_getElem? (i := 2) rfl)) rfl) (rfl : vwCl[12]? = some (RX12, TX12, 86)) rfl lb_129.1 (shO hP.1 lb_129) (p_X12_link _ _ cA ad g1 a13877 a13879 a13881 hP.1 hP.2.1) ⟨by decide, by decide⟩ rfl rfl hl.1 (Nat.le_of_ble_eq_true rfl) dL_law_265 (fun v g2 H locs hp hW => ?_)
  obtain ⟨r2, rfl, hs2, hG2, hf2, ha2⟩ := hp
  have hP1 := hP
  have hP : PI ad cA g2 := PI_fr hP1 hs2 hG2 hf2 (by omega) (by omega) (by omega) (by omega) (by omega) (by omega) (by omega) (by omega) (by omega)
  have qa13877 : a13877 = a13871 := by rw [ha13877, ha13871]; congr 1; omega
  have qa13879 : a13879 = a13873 := by rw [ha13879, ha13873]; congr 1; omega
  have qa13881 : a13881 = a13875 := by rw [ha13881, ha13875]; congr 1; omega
  first | rw [qa13877] at ha2 | skip
  first | rw [qa13879] at ha2 | skip
  first | rw [qa13881] at ha2 | skip
  refine q_pop hM dL_law_268 rfl ?_
  refine q_goto (tgt := 1457) hM dL_law_269 (by decide) ?_
  exact kk _ _ _ _ hP ⟨⟨(by rw [show fI g2 3 2 = fI g 3 2 from (FRf hf1 hf2 (by omega) (by omega)), show arI g2 131 = arI g 131 from ((hf2.2.1 131 (by omega)).trans (hf1.2.1 131 (by omega)))]; exact hRl.1.1), (by rw [show fI g2 18 3 = fI g 18 3 from (FRf hf1 hf2 (by omega) (by omega)), show arI g2 158 = arI g 158 from ((hf2.2.1 158 (by omega)).trans (hf1.2.1 158 (by omega)))]; exact hRl.1.2.1), (by rw [show fI g2 30 3 = fI g 30 3 from (FRf hf1 hf2 (by omega) (by omega)), show arI g2 162 = arI g 162 from ((hf2.2.1 162 (by omega)).trans (hf1.2.1 162 (by omega)))]; exact hRl.1.2.2.1), (((FRf hf1 hf2 (by omega) (by omega))).trans (hRl.1.2.2.2.1.trans ((FRf hf1 hf2 (by omega) (by omega))).symm)), (((FRf hf1 hf2 (by omega) (by omega))).trans (hRl.1.2.2.2.2.1.trans ((FRf hf1 hf2 (by omega) (by omega))).symm)), (((FRf hf1 hf2 (by omega) (by omega))).trans (hRl.1.2.2.2.2.2.trans (congrFun ((hf2.2.1 166 (by omega)).trans (hf1.2.1 166 (by omega))) 1).symm))⟩, ⟨by rw [show fI g2 102 4 = fI g 102 4 from (FRf hf1 hf2 (by omega) (by omega)), show arI g2 176 = arI g 176 from ((hf2.2.1 176 (by omega)).trans (hf1.2.1 176 (by omega)))]; exact hRl.2.1, fun m k hm hk => by rw [show arI g2 (113 + 1 * m) = arI g (113 + 1 * m) from (hf2.2.1 (113 + 1 * m) (by omega)).trans (hf1.2.1 (113 + 1 * m) (by omega)), show arI g2 177 = arI g 177 from ((hf2.2.1 177 (by omega)).trans (hf1.2.1 177 (by omega)))]; exact hRl.2.2 m k hm hk⟩⟩ hW hl

set_option maxRecDepth 100000 in
set_option maxHeartbeats 4000000 in
theorem lc_pupil {K : KT} {cA : Nat → ClassId} {ad : Nat → Nat} {b L : Nat} {xs : Nat → Int32} {H : Heap} {locs : List Loc} {ls : Array Slot} {g : Nat → va_E} {i : Int32} (hM : MB K cA code 4 R_law) (hXB : XB K b L xs) (hL : L ≤ 3072) (hR : HasRoom K 2048 84000) (hC : Cells K 600000 7302250) (hP : PI ad cA g) (hRl : RT g) (hi0 : 0 ≤ i.toInt) (hi : i.toInt + 6 ≤ L) (hW : WB NN ad K g H locs) (hl : lv_has ls 4 [(3, .int i), (2, .ref (ad 129)), (1, .ref (ad 0)), (0, .ref b)]) (kk : ∀ (g : Nat → va_E) (H : Heap) (locs : List Loc) (ls : Array Slot), PI ad cA g → RT g → WB NN ad K g H locs → lv_has ls 4 [(3, .int i), (2, .ref (ad 129)), (1, .ref (ad 0)), (0, .ref b)] → XX K 600000 7302250 H locs 1457 ls []) : XX K 600000 7302250 H locs 272 ls [] := by
  have hLn : L < 1000000 := by omega
  obtain ⟨lw, lwn, hlc, h13, h14⟩ := id hP.2.2.1
  refine q_aload_n hM dL_law_272 (lv_at hl 2 rfl) ?_
  refine q_aload_n hM dL_law_273 (lv_at hl 3 rfl) ?_
  refine q_iload_n hM dL_law_274 (lv_at hl 0 rfl) ?_
  refine q_iconst (v := (1 : Int32)) hM dL_law_275 (by decide) ?_
  refine q_iadd hM dL_law_276 (fun z13882 hz13882 => ?_)
  have tz13882 := i_addT hz13882 (rfl : i.toInt = i.toInt) (kc_1 : (1 : Int32).toInt = 1) (by omega) (by omega)
  refine s_iald z13882.toInt.toNat hM hW hXB (by omega) (by omega) (by omega) dL_law_277 ?_
  refine q_top (fun a13883 ha13883 => ?_)
  refine q_aload_n hM dL_law_278 (lv_at hl 3 rfl) ?_
  refine q_iload_n hM dL_law_279 (lv_at hl 0 rfl) ?_
  refine q_iconst (v := (2 : Int32)) hM dL_law_280 (by decide) ?_
  refine q_iadd hM dL_law_281 (fun z13884 hz13884 => ?_)
  have tz13884 := i_addT hz13884 (rfl : i.toInt = i.toInt) (kc_2 : (2 : Int32).toInt = 2) (by omega) (by omega)
  refine s_iald z13884.toInt.toNat hM hW hXB (by omega) (by omega) (by omega) dL_law_282 ?_
  refine q_top (fun a13885 ha13885 => ?_)
  refine q_aload_n hM dL_law_283 (lv_at hl 3 rfl) ?_
  refine q_iload_n hM dL_law_284 (lv_at hl 0 rfl) ?_
  refine q_iconst (v := (3 : Int32)) hM dL_law_285 (by decide) ?_
  refine q_iadd hM dL_law_286 (fun z13886 hz13886 => ?_)
  have tz13886 := i_addT hz13886 (rfl : i.toInt = i.toInt) (kc_3 : (3 : Int32).toInt = 3) (by omega) (by omega)
  refine s_iald z13886.toInt.toNat hM hW hXB (by omega) (by omega) (by omega) dL_law_287 ?_
  refine q_top (fun a13887 ha13887 => ?_)
  refine q_callV (As := [.int a13883, .int a13885, .int a13887]) (rest := []) hM hW hR hC myX11_pupil (kAW (v_1_10 (List.mem_of_getElem? (i := 11) rfl)) rfl) (rfl : vwCl[11]? = some (RX11, TX11, 16)) rfl lb_0.1 (shO hP.1 lb_0) (s_X11_pupil _ _ cA ad g a13883 a13885 a13887 (fI g 18 3)  hP.1 hP.2.1 (shI hP.1 lb_18 (by decide) (by decide))) ⟨by decide, by decide⟩ rfl rfl hl.1 (Nat.le_of_ble_eq_true rfl) dL_law_288 (fun v g1 H locs hp hW => ?_)
  obtain ⟨x0, r1, rfl, hs1, hG1, hf1, cx0, cx1, ha1⟩ := hp
  have hP0 := hP
  have hP : PI ad cA g1 := PI_fr hP0 hs1 hG1 hf1 (by omega) (by omega) (by omega) (by omega) (by omega) (by omega) (by omega) (by omega) (by omega)
  refine q_pop hM dL_law_291 rfl ?_
  refine q_aload_n hM dL_law_292 (lv_at hl 1 rfl) ?_
  refine q_aload_n hM dL_law_293 (lv_at hl 3 rfl) ?_
  refine q_iload_n hM dL_law_294 (lv_at hl 0 rfl) ?_
  refine q_iconst (v := (1 : Int32)) hM dL_law_295 (by decide) ?_
  refine q_iadd hM dL_law_296 (fun z13888 hz13888 => ?_)
  have tz13888 := i_addT hz13888 (rfl : i.toInt = i.toInt) (kc_1 : (1 : Int32).toInt = 1) (by omega) (by omega)
  refine s_iald z13888.toInt.toNat hM hW hXB (by omega) (by omega) (by omega) dL_law_297 ?_
  refine q_top (fun a13889 ha13889 => ?_)
  refine q_aload_n hM dL_law_298 (lv_at hl 3 rfl) ?_
  refine q_iload_n hM dL_law_299 (lv_at hl 0 rfl) ?_
  refine q_iconst (v := (2 : Int32)) hM dL_law_300 (by decide) ?_
  refine q_iadd hM dL_law_301 (fun z13890 hz13890 => ?_)
  have tz13890 := i_addT hz13890 (rfl : i.toInt = i.toInt) (kc_2 : (2 : Int32).toInt = 2) (by omega) (by omega)
  refine s_iald z13890.toInt.toNat hM hW hXB (by omega) (by omega) (by omega) dL_law_302 ?_
  refine q_top (fun a13891 ha13891 => ?_)
  refine q_aload_n hM dL_law_303 (lv_at hl 3 rfl) ?_
  refine q_iload_n hM dL_law_304 (lv_at hl 0 rfl) ?_
  refine q_iconst (v := (3 : Int32)) hM dL_law_305 (by decide) ?_
  refine q_iadd hM dL_law_306 (fun z13892 hz13892 => ?_)
  have tz13892 := i_addT hz13892 (rfl : i.toInt = i.toInt) (kc_3 : (3 : Int32).toInt = 3) (by omega) (by omega)
  refine s_iald z13892.toInt.toNat hM hW hXB (by omega) (by omega) (by omega) dL_law_307 ?_
  refine q_top (fun a13893 ha13893 => ?_)
  refine q_callV (As := [.int a13889, .int a13891, .int a13893]) (rest := []) hM hW hR hC myX12_pupil (kAW (v_6_1 (List.mem_of_getElem? (i := 15) rfl)) rfl) (rfl : vwCl[12]? = some (RX12, TX12, 86)) rfl lb_129.1 (shO hP.1 lb_129) (s_X12_pupil _ _ cA ad g1 a13889 a13891 a13893 hP.1 hP.2.1) ⟨by decide, by decide⟩ rfl rfl hl.1 (Nat.le_of_ble_eq_true rfl) dL_law_308 (fun v g2 H locs hp hW => ?_)
  obtain ⟨r2, rfl, hs2, hG2, hf2, cm0, ha2⟩ := hp
  have hP1 := hP
  have hP : PI ad cA g2 := PI_fr hP1 hs2 hG2 hf2 (by omega) (by omega) (by omega) (by omega) (by omega) (by omega) (by omega) (by omega) (by omega)
  have qa13889 : a13889 = a13883 := by rw [ha13889, ha13883]; congr 1; omega
  have qa13891 : a13891 = a13885 := by rw [ha13891, ha13885]; congr 1; omega
  have qa13893 : a13893 = a13887 := by rw [ha13893, ha13887]; congr 1; omega
  first | rw [qa13889] at ha2 | skip
  first | rw [qa13891] at ha2 | skip
  first | rw [qa13893] at ha2 | skip
  first | rw [qa13889] at cm0 | skip
  first | rw [qa13891] at cm0 | skip
  first | rw [qa13893] at cm0 | skip
  refine q_pop hM dL_law_311 rfl ?_
  refine q_goto (tgt := 1457) hM dL_law_312 (by decide) ?_
  exact kk _ _ _ _ hP ⟨⟨(by rw [show fI g2 3 2 = fI g 3 2 from (FRf hf1 hf2 (by omega) (by omega)), show arI g2 131 = arI g 131 from ((hf2.2.1 131 (by omega)).trans (hf1.2.1 131 (by omega)))]; exact hRl.1.1), (by
    rw [show fI g2 18 3 = x0 from ((FR1f hf2 (by omega)).trans (fI_of cx0))]
    rcases cx1 with ⟨c1, e1⟩ | ⟨c1, e1⟩
    · rcases cm0 with ⟨c2, e2⟩ | ⟨c2, e2⟩
      · exact SM_set hRl.1.2.1 (by decide) e1 (by rw [e2, (hf1.2.1 158 (by omega))]) (by decide) (by omega) (by omega)
      · exact absurd c1 c2
    · rcases cm0 with ⟨c2, e2⟩ | ⟨c2, e2⟩
      · exact absurd c2 c1
      · rw [e1, e2, (hf1.2.1 158 (by omega))]; exact hRl.1.2.1), (by rw [show fI g2 30 3 = fI g 30 3 from (FRf hf1 hf2 (by omega) (by omega)), show arI g2 162 = arI g 162 from ((hf2.2.1 162 (by omega)).trans (hf1.2.1 162 (by omega)))]; exact hRl.1.2.2.1), (((FRf hf1 hf2 (by omega) (by omega))).trans (hRl.1.2.2.2.1.trans ((FRf hf1 hf2 (by omega) (by omega))).symm)), (((FRf hf1 hf2 (by omega) (by omega))).trans (hRl.1.2.2.2.2.1.trans ((FRf hf1 hf2 (by omega) (by omega))).symm)), (((FRf hf1 hf2 (by omega) (by omega))).trans (hRl.1.2.2.2.2.2.trans (congrFun ((hf2.2.1 166 (by omega)).trans (hf1.2.1 166 (by omega))) 1).symm))⟩, ⟨by rw [show fI g2 102 4 = fI g 102 4 from (FRf hf1 hf2 (by omega) (by omega)), show arI g2 176 = arI g 176 from ((hf2.2.1 176 (by omega)).trans (hf1.2.1 176 (by omega)))]; exact hRl.2.1, fun m k hm hk => by rw [show arI g2 (113 + 1 * m) = arI g (113 + 1 * m) from (hf2.2.1 (113 + 1 * m) (by omega)).trans (hf1.2.1 (113 + 1 * m) (by omega)), show arI g2 177 = arI g 177 from ((hf2.2.1 177 (by omega)).trans (hf1.2.1 177 (by omega)))]; exact hRl.2.2 m k hm hk⟩⟩ hW hl

set_option maxRecDepth 100000 in
set_option maxHeartbeats 4000000 in
theorem lc_knows {K : KT} {cA : Nat → ClassId} {ad : Nat → Nat} {b L : Nat} {xs : Nat → Int32} {H : Heap} {locs : List Loc} {ls : Array Slot} {g : Nat → va_E} {i : Int32} (hM : MB K cA code 4 R_law) (hXB : XB K b L xs) (hL : L ≤ 3072) (hR : HasRoom K 2048 84000) (hC : Cells K 600000 7302250) (hP : PI ad cA g) (hRl : RT g) (hi0 : 0 ≤ i.toInt) (hi : i.toInt + 6 ≤ L) (hW : WB NN ad K g H locs) (hl : lv_has ls 4 [(3, .int i), (2, .ref (ad 129)), (1, .ref (ad 0)), (0, .ref b)]) (kk : ∀ (g : Nat → va_E) (H : Heap) (locs : List Loc) (ls : Array Slot), PI ad cA g → RT g → WB NN ad K g H locs → lv_has ls 4 [(3, .int i), (2, .ref (ad 129)), (1, .ref (ad 0)), (0, .ref b)] → XX K 600000 7302250 H locs 1457 ls []) : XX K 600000 7302250 H locs 315 ls [] := by
  have hLn : L < 1000000 := by omega
  obtain ⟨lw, lwn, hlc, h13, h14⟩ := id hP.2.2.1
  refine q_aload_n hM dL_law_315 (lv_at hl 2 rfl) ?_
  refine q_aload_n hM dL_law_316 (lv_at hl 3 rfl) ?_
  refine q_iload_n hM dL_law_317 (lv_at hl 0 rfl) ?_
  refine q_iconst (v := (1 : Int32)) hM dL_law_318 (by decide) ?_
  refine q_iadd hM dL_law_319 (fun z13894 hz13894 => ?_)
  have tz13894 := i_addT hz13894 (rfl : i.toInt = i.toInt) (kc_1 : (1 : Int32).toInt = 1) (by omega) (by omega)
  refine s_iald z13894.toInt.toNat hM hW hXB (by omega) (by omega) (by omega) dL_law_320 ?_
  refine q_top (fun a13895 ha13895 => ?_)
  refine q_aload_n hM dL_law_321 (lv_at hl 3 rfl) ?_
  refine q_iload_n hM dL_law_322 (lv_at hl 0 rfl) ?_
  refine q_iconst (v := (2 : Int32)) hM dL_law_323 (by decide) ?_
  refine q_iadd hM dL_law_324 (fun z13896 hz13896 => ?_)
  have tz13896 := i_addT hz13896 (rfl : i.toInt = i.toInt) (kc_2 : (2 : Int32).toInt = 2) (by omega) (by omega)
  refine s_iald z13896.toInt.toNat hM hW hXB (by omega) (by omega) (by omega) dL_law_325 ?_
  refine q_top (fun a13897 ha13897 => ?_)
  refine q_aload_n hM dL_law_326 (lv_at hl 3 rfl) ?_
  refine q_iload_n hM dL_law_327 (lv_at hl 0 rfl) ?_
  refine q_iconst (v := (3 : Int32)) hM dL_law_328 (by decide) ?_
  refine q_iadd hM dL_law_329 (fun z13898 hz13898 => ?_)
  have tz13898 := i_addT hz13898 (rfl : i.toInt = i.toInt) (kc_3 : (3 : Int32).toInt = 3) (by omega) (by omega)
  refine s_iald z13898.toInt.toNat hM hW hXB (by omega) (by omega) (by omega) dL_law_330 ?_
  refine q_top (fun a13899 ha13899 => ?_)
  refine q_callV (As := [.int a13895, .int a13897, .int a13899]) (rest := []) hM hW hR hC myX11_knows (kAW (v_1_11 (List.mem_of_getElem? (i := 3) rfl)) rfl) (rfl : vwCl[11]? = some (RX11, TX11, 16)) rfl lb_0.1 (shO hP.1 lb_0) (p_X11_knows _ _ cA ad g a13895 a13897 a13899  hP.1 hP.2.1) ⟨by decide, by decide⟩ rfl rfl hl.1 (Nat.le_of_ble_eq_true rfl) dL_law_331 (fun v g1 H locs hp hW => ?_)
  obtain ⟨r1, rfl, hs1, hG1, hf1, ha1⟩ := hp
  have hP0 := hP
  have hP : PI ad cA g1 := PI_fr hP0 hs1 hG1 hf1 (by omega) (by omega) (by omega) (by omega) (by omega) (by omega) (by omega) (by omega) (by omega)
  refine q_pop hM dL_law_334 rfl ?_
  refine q_aload_n hM dL_law_335 (lv_at hl 1 rfl) ?_
  refine q_aload_n hM dL_law_336 (lv_at hl 3 rfl) ?_
  refine q_iload_n hM dL_law_337 (lv_at hl 0 rfl) ?_
  refine q_iconst (v := (1 : Int32)) hM dL_law_338 (by decide) ?_
  refine q_iadd hM dL_law_339 (fun z13900 hz13900 => ?_)
  have tz13900 := i_addT hz13900 (rfl : i.toInt = i.toInt) (kc_1 : (1 : Int32).toInt = 1) (by omega) (by omega)
  refine s_iald z13900.toInt.toNat hM hW hXB (by omega) (by omega) (by omega) dL_law_340 ?_
  refine q_top (fun a13901 ha13901 => ?_)
  refine q_aload_n hM dL_law_341 (lv_at hl 3 rfl) ?_
  refine q_iload_n hM dL_law_342 (lv_at hl 0 rfl) ?_
  refine q_iconst (v := (2 : Int32)) hM dL_law_343 (by decide) ?_
  refine q_iadd hM dL_law_344 (fun z13902 hz13902 => ?_)
  have tz13902 := i_addT hz13902 (rfl : i.toInt = i.toInt) (kc_2 : (2 : Int32).toInt = 2) (by omega) (by omega)
  refine s_iald z13902.toInt.toNat hM hW hXB (by omega) (by omega) (by omega) dL_law_345 ?_
  refine q_top (fun a13903 ha13903 => ?_)
  refine q_aload_n hM dL_law_346 (lv_at hl 3 rfl) ?_
  refine q_iload_n hM dL_law_347 (lv_at hl 0 rfl) ?_
  refine q_iconst (v := (3 : Int32)) hM dL_law_348 (by decide) ?_
  refine q_iadd hM dL_law_349 (fun z13904 hz13904 => ?_)
  have tz13904 := i_addT hz13904 (rfl : i.toInt = i.toInt) (kc_3 : (3 : Int32).toInt = 3) (by omega) (by omega)
  refine s_iald z13904.toInt.toNat hM hW hXB (by omega) (by omega) (by omega) dL_law_350 ?_
  refine q_top (fun a13905 ha13905 => ?_)
  refine q_callV (As := [.int a13901, .int a13903, .int a13905]) (rest := []) hM hW hR hC myX12_knows (kAW (v_6_2 (List.mem_of_getElem? (i := 5) rfl)) rfl) (rfl : vwCl[12]? = some (RX12, TX12, 86)) rfl lb_129.1 (shO hP.1 lb_129) (p_X12_knows _ _ cA ad g1 a13901 a13903 a13905 hP.1 hP.2.1) ⟨by decide, by decide⟩ rfl rfl hl.1 (Nat.le_of_ble_eq_true rfl) dL_law_351 (fun v g2 H locs hp hW => ?_)
  obtain ⟨r2, rfl, hs2, hG2, hf2, ha2⟩ := hp
  have hP1 := hP
  have hP : PI ad cA g2 := PI_fr hP1 hs2 hG2 hf2 (by omega) (by omega) (by omega) (by omega) (by omega) (by omega) (by omega) (by omega) (by omega)
  have qa13901 : a13901 = a13895 := by rw [ha13901, ha13895]; congr 1; omega
  have qa13903 : a13903 = a13897 := by rw [ha13903, ha13897]; congr 1; omega
  have qa13905 : a13905 = a13899 := by rw [ha13905, ha13899]; congr 1; omega
  first | rw [qa13901] at ha2 | skip
  first | rw [qa13903] at ha2 | skip
  first | rw [qa13905] at ha2 | skip
  refine q_pop hM dL_law_354 rfl ?_
  refine q_goto (tgt := 1457) hM dL_law_355 (by decide) ?_
  exact kk _ _ _ _ hP ⟨⟨(by rw [show fI g2 3 2 = fI g 3 2 from (FRf hf1 hf2 (by omega) (by omega)), show arI g2 131 = arI g 131 from ((hf2.2.1 131 (by omega)).trans (hf1.2.1 131 (by omega)))]; exact hRl.1.1), (by rw [show fI g2 18 3 = fI g 18 3 from (FRf hf1 hf2 (by omega) (by omega)), show arI g2 158 = arI g 158 from ((hf2.2.1 158 (by omega)).trans (hf1.2.1 158 (by omega)))]; exact hRl.1.2.1), (by rw [show fI g2 30 3 = fI g 30 3 from (FRf hf1 hf2 (by omega) (by omega)), show arI g2 162 = arI g 162 from ((hf2.2.1 162 (by omega)).trans (hf1.2.1 162 (by omega)))]; exact hRl.1.2.2.1), (((FRf hf1 hf2 (by omega) (by omega))).trans (hRl.1.2.2.2.1.trans ((FRf hf1 hf2 (by omega) (by omega))).symm)), (((FRf hf1 hf2 (by omega) (by omega))).trans (hRl.1.2.2.2.2.1.trans ((FRf hf1 hf2 (by omega) (by omega))).symm)), (((FRf hf1 hf2 (by omega) (by omega))).trans (hRl.1.2.2.2.2.2.trans (congrFun ((hf2.2.1 166 (by omega)).trans (hf1.2.1 166 (by omega))) 1).symm))⟩, ⟨by rw [show fI g2 102 4 = fI g 102 4 from (FRf hf1 hf2 (by omega) (by omega)), show arI g2 176 = arI g 176 from ((hf2.2.1 176 (by omega)).trans (hf1.2.1 176 (by omega)))]; exact hRl.2.1, fun m k hm hk => by rw [show arI g2 (113 + 1 * m) = arI g (113 + 1 * m) from (hf2.2.1 (113 + 1 * m) (by omega)).trans (hf1.2.1 (113 + 1 * m) (by omega)), show arI g2 177 = arI g 177 from ((hf2.2.1 177 (by omega)).trans (hf1.2.1 177 (by omega)))]; exact hRl.2.2 m k hm hk⟩⟩ hW hl

set_option maxRecDepth 100000 in
set_option maxHeartbeats 4000000 in
theorem lc_feed {K : KT} {cA : Nat → ClassId} {ad : Nat → Nat} {b L : Nat} {xs : Nat → Int32} {H : Heap} {locs : List Loc} {ls : Array Slot} {g : Nat → va_E} {i : Int32} (hM : MB K cA code 4 R_law) (hXB : XB K b L xs) (hL : L ≤ 3072) (hR : HasRoom K 2048 84000) (hC : Cells K 600000 7302250) (hP : PI ad cA g) (hRl : RT g) (hi0 : 0 ≤ i.toInt) (hi : i.toInt + 6 ≤ L) (hW : WB NN ad K g H locs) (hl : lv_has ls 4 [(3, .int i), (2, .ref (ad 129)), (1, .ref (ad 0)), (0, .ref b)]) (kk : ∀ (g : Nat → va_E) (H : Heap) (locs : List Loc) (ls : Array Slot), PI ad cA g → RT g → WB NN ad K g H locs → lv_has ls 4 [(3, .int i), (2, .ref (ad 129)), (1, .ref (ad 0)), (0, .ref b)] → XX K 600000 7302250 H locs 1457 ls []) : XX K 600000 7302250 H locs 358 ls [] := by
  have hLn : L < 1000000 := by omega
  obtain ⟨lw, lwn, hlc, h13, h14⟩ := id hP.2.2.1
  refine q_aload_n hM dL_law_358 (lv_at hl 2 rfl) ?_
  refine q_aload_n hM dL_law_359 (lv_at hl 3 rfl) ?_
  refine q_iload_n hM dL_law_360 (lv_at hl 0 rfl) ?_
  refine q_iconst (v := (1 : Int32)) hM dL_law_361 (by decide) ?_
  refine q_iadd hM dL_law_362 (fun z13906 hz13906 => ?_)
  have tz13906 := i_addT hz13906 (rfl : i.toInt = i.toInt) (kc_1 : (1 : Int32).toInt = 1) (by omega) (by omega)
  refine s_iald z13906.toInt.toNat hM hW hXB (by omega) (by omega) (by omega) dL_law_363 ?_
  refine q_top (fun a13907 ha13907 => ?_)
  refine q_aload_n hM dL_law_364 (lv_at hl 3 rfl) ?_
  refine q_iload_n hM dL_law_365 (lv_at hl 0 rfl) ?_
  refine q_iconst (v := (2 : Int32)) hM dL_law_366 (by decide) ?_
  refine q_iadd hM dL_law_367 (fun z13908 hz13908 => ?_)
  have tz13908 := i_addT hz13908 (rfl : i.toInt = i.toInt) (kc_2 : (2 : Int32).toInt = 2) (by omega) (by omega)
  refine s_iald z13908.toInt.toNat hM hW hXB (by omega) (by omega) (by omega) dL_law_368 ?_
  refine q_top (fun a13909 ha13909 => ?_)
  refine q_aload_n hM dL_law_369 (lv_at hl 3 rfl) ?_
  refine q_iload_n hM dL_law_370 (lv_at hl 0 rfl) ?_
  refine q_iconst (v := (3 : Int32)) hM dL_law_371 (by decide) ?_
  refine q_iadd hM dL_law_372 (fun z13910 hz13910 => ?_)
  have tz13910 := i_addT hz13910 (rfl : i.toInt = i.toInt) (kc_3 : (3 : Int32).toInt = 3) (by omega) (by omega)
  refine s_iald z13910.toInt.toNat hM hW hXB (by omega) (by omega) (by omega) dL_law_373 ?_
  refine q_top (fun a13911 ha13911 => ?_)
  refine q_aload_n hM dL_law_374 (lv_at hl 3 rfl) ?_
  refine q_iload_n hM dL_law_375 (lv_at hl 0 rfl) ?_
  refine q_iconst (v := (4 : Int32)) hM dL_law_376 (by decide) ?_
  refine q_iadd hM dL_law_377 (fun z13912 hz13912 => ?_)
  have tz13912 := i_addT hz13912 (rfl : i.toInt = i.toInt) (kc_4 : (4 : Int32).toInt = 4) (by omega) (by omega)
  refine s_iald z13912.toInt.toNat hM hW hXB (by omega) (by omega) (by omega) dL_law_378 ?_
  refine q_top (fun a13913 ha13913 => ?_)
  refine q_aload_n hM dL_law_379 (lv_at hl 3 rfl) ?_
  refine q_iload_n hM dL_law_380 (lv_at hl 0 rfl) ?_
  refine q_iconst (v := (5 : Int32)) hM dL_law_381 (by decide) ?_
  refine q_iadd hM dL_law_382 (fun z13914 hz13914 => ?_)
  have tz13914 := i_addT hz13914 (rfl : i.toInt = i.toInt) (kc_5 : (5 : Int32).toInt = 5) (by omega) (by omega)
  refine s_iald z13914.toInt.toNat hM hW hXB (by omega) (by omega) (by omega) dL_law_383 ?_
  refine q_top (fun a13915 ha13915 => ?_)
  refine q_callV (As := [.int a13907, .int a13909, .int a13911, .int a13913, .int a13915]) (rest := []) hM hW hR hC myX11_feed (kAW (v_1_11 (List.mem_of_getElem? (i := 7) rfl)) rfl) (rfl : vwCl[11]? = some (RX11, TX11, 16)) rfl lb_0.1 (shO hP.1 lb_0) (p_X11_feed _ _ cA ad g a13907 a13909 a13911 a13913 a13915  hP.1 hP.2.1) ⟨by decide, by decide⟩ rfl rfl hl.1 (Nat.le_of_ble_eq_true rfl) dL_law_384 (fun v g1 H locs hp hW => ?_)
  obtain ⟨r1, rfl, hs1, hG1, hf1⟩ := hp
  have hP0 := hP
  have hP : PI ad cA g1 := PI_fr hP0 hs1 hG1 hf1 (by omega) (by omega) (by omega) (by omega) (by omega) (by omega) (by omega) (by omega) (by omega)
  refine q_pop hM dL_law_387 rfl ?_
  refine q_aload_n hM dL_law_388 (lv_at hl 1 rfl) ?_
  refine q_aload_n hM dL_law_389 (lv_at hl 3 rfl) ?_
  refine q_iload_n hM dL_law_390 (lv_at hl 0 rfl) ?_
  refine q_iconst (v := (1 : Int32)) hM dL_law_391 (by decide) ?_
  refine q_iadd hM dL_law_392 (fun z13916 hz13916 => ?_)
  have tz13916 := i_addT hz13916 (rfl : i.toInt = i.toInt) (kc_1 : (1 : Int32).toInt = 1) (by omega) (by omega)
  refine s_iald z13916.toInt.toNat hM hW hXB (by omega) (by omega) (by omega) dL_law_393 ?_
  refine q_top (fun a13917 ha13917 => ?_)
  refine q_aload_n hM dL_law_394 (lv_at hl 3 rfl) ?_
  refine q_iload_n hM dL_law_395 (lv_at hl 0 rfl) ?_
  refine q_iconst (v := (2 : Int32)) hM dL_law_396 (by decide) ?_
  refine q_iadd hM dL_law_397 (fun z13918 hz13918 => ?_)
  have tz13918 := i_addT hz13918 (rfl : i.toInt = i.toInt) (kc_2 : (2 : Int32).toInt = 2) (by omega) (by omega)
  refine s_iald z13918.toInt.toNat hM hW hXB (by omega) (by omega) (by omega) dL_law_398 ?_
  refine q_top (fun a13919 ha13919 => ?_)
  refine q_aload_n hM dL_law_399 (lv_at hl 3 rfl) ?_
  refine q_iload_n hM dL_law_400 (lv_at hl 0 rfl) ?_
  refine q_iconst (v := (3 : Int32)) hM dL_law_401 (by decide) ?_
  refine q_iadd hM dL_law_402 (fun z13920 hz13920 => ?_)
  have tz13920 := i_addT hz13920 (rfl : i.toInt = i.toInt) (kc_3 : (3 : Int32).toInt = 3) (by omega) (by omega)
  refine s_iald z13920.toInt.toNat hM hW hXB (by omega) (by omega) (by omega) dL_law_403 ?_
  refine q_top (fun a13921 ha13921 => ?_)
  refine q_aload_n hM dL_law_404 (lv_at hl 3 rfl) ?_
  refine q_iload_n hM dL_law_405 (lv_at hl 0 rfl) ?_
  refine q_iconst (v := (4 : Int32)) hM dL_law_406 (by decide) ?_
  refine q_iadd hM dL_law_407 (fun z13922 hz13922 => ?_)
  have tz13922 := i_addT hz13922 (rfl : i.toInt = i.toInt) (kc_4 : (4 : Int32).toInt = 4) (by omega) (by omega)
  refine s_iald z13922.toInt.toNat hM hW hXB (by omega) (by omega) (by omega) dL_law_408 ?_
  refine q_top (fun a13923 ha13923 => ?_)
  refine q_aload_n hM dL_law_409 (lv_at hl 3 rfl) ?_
  refine q_iload_n hM dL_law_410 (lv_at hl 0 rfl) ?_
  refine q_iconst (v := (5 : Int32)) hM dL_law_411 (by decide) ?_
  refine q_iadd hM dL_law_412 (fun z13924 hz13924 => ?_)
  have tz13924 := i_addT hz13924 (rfl : i.toInt = i.toInt) (kc_5 : (5 : Int32).toInt = 5) (by omega) (by omega)
  refine s_iald z13924.toInt.toNat hM hW hXB (by omega) (by omega) (by omega) dL_law_413 ?_
  refine q_top (fun a13925 ha13925 => ?_)
  refine q_callV (As := [.int a13917, .int a13919, .int a13921, .int a13923, .int a13925]) (rest := []) hM hW hR hC myX12_feed (kAW (v_5_4 (List.mem_of_getElem? (i := 1) rfl)) rfl) (rfl : vwCl[12]? = some (RX12, TX12, 86)) rfl lb_129.1 (shO hP.1 lb_129) (p_X12_feed _ _ cA ad g1 a13917 a13919 a13921 a13923 a13925 hP.1 hP.2.1 hP.2.2.2.2) ⟨by decide, by decide⟩ rfl rfl hl.1 (Nat.le_of_ble_eq_true rfl) dL_law_414 (fun v g2 H locs hp hW => ?_)
  obtain ⟨r2, rfl, hs2, hG2, hf2, ha2⟩ := hp
  have hP1 := hP
  have hP : PI ad cA g2 := by
    obtain ⟨lw9, lwn9, c9, h139, h149⟩ := hP1.2.2.1
    exact ⟨hs2, hG2, ⟨lw9, lwn9, c9, (hf2.1 0 13 (by omega)).trans h139, (hf2.1 0 14 (by omega)).trans h149⟩, LWQ_fr hP1.2.2.2.1 hf2 (by omega) (by omega) (by omega) (by omega) (by omega) (by omega), ha2⟩
  have qa13917 : a13917 = a13907 := by rw [ha13917, ha13907]; congr 1; omega
  have qa13919 : a13919 = a13909 := by rw [ha13919, ha13909]; congr 1; omega
  have qa13921 : a13921 = a13911 := by rw [ha13921, ha13911]; congr 1; omega
  have qa13923 : a13923 = a13913 := by rw [ha13923, ha13913]; congr 1; omega
  have qa13925 : a13925 = a13915 := by rw [ha13925, ha13915]; congr 1; omega
  first | rw [qa13917] at ha2 | skip
  first | rw [qa13919] at ha2 | skip
  first | rw [qa13921] at ha2 | skip
  first | rw [qa13923] at ha2 | skip
  first | rw [qa13925] at ha2 | skip
  refine q_pop hM dL_law_417 rfl ?_
  refine q_goto (tgt := 1457) hM dL_law_418 (by decide) ?_
  exact kk _ _ _ _ hP ⟨⟨(by rw [show fI g2 3 2 = fI g 3 2 from (FRf hf1 hf2 (by omega) (by omega)), show arI g2 131 = arI g 131 from ((hf2.2.1 131 (by omega)).trans (hf1.2.1 131 (by omega)))]; exact hRl.1.1), (by rw [show fI g2 18 3 = fI g 18 3 from (FRf hf1 hf2 (by omega) (by omega)), show arI g2 158 = arI g 158 from ((hf2.2.1 158 (by omega)).trans (hf1.2.1 158 (by omega)))]; exact hRl.1.2.1), (by rw [show fI g2 30 3 = fI g 30 3 from (FRf hf1 hf2 (by omega) (by omega)), show arI g2 162 = arI g 162 from ((hf2.2.1 162 (by omega)).trans (hf1.2.1 162 (by omega)))]; exact hRl.1.2.2.1), (((FRf hf1 hf2 (by omega) (by omega))).trans (hRl.1.2.2.2.1.trans ((FRf hf1 hf2 (by omega) (by omega))).symm)), (((FRf hf1 hf2 (by omega) (by omega))).trans (hRl.1.2.2.2.2.1.trans ((FRf hf1 hf2 (by omega) (by omega))).symm)), (((FRf hf1 hf2 (by omega) (by omega))).trans (hRl.1.2.2.2.2.2.trans (congrFun ((hf2.2.1 166 (by omega)).trans (hf1.2.1 166 (by omega))) 1).symm))⟩, ⟨by rw [show fI g2 102 4 = fI g 102 4 from (FRf hf1 hf2 (by omega) (by omega)), show arI g2 176 = arI g 176 from ((hf2.2.1 176 (by omega)).trans (hf1.2.1 176 (by omega)))]; exact hRl.2.1, fun m k hm hk => by rw [show arI g2 (113 + 1 * m) = arI g (113 + 1 * m) from (hf2.2.1 (113 + 1 * m) (by omega)).trans (hf1.2.1 (113 + 1 * m) (by omega)), show arI g2 177 = arI g 177 from ((hf2.2.1 177 (by omega)).trans (hf1.2.1 177 (by omega)))]; exact hRl.2.2 m k hm hk⟩⟩ hW hl

set_option maxRecDepth 100000 in
set_option maxHeartbeats 4000000 in
theorem lc_art {K : KT} {cA : Nat → ClassId} {ad : Nat → Nat} {b L : Nat} {xs : Nat → Int32} {H : Heap} {locs : List Loc} {ls : Array Slot} {g : Nat → va_E} {i : Int32} (hM : MB K cA code 4 R_law) (hXB : XB K b L xs) (hL : L ≤ 3072) (hR : HasRoom K 2048 84000) (hC : Cells K 600000 7302250) (hP : PI ad cA g) (hRl : RT g) (hi0 : 0 ≤ i.toInt) (hi : i.toInt + 6 ≤ L) (hW : WB NN ad K g H locs) (hl : lv_has ls 4 [(3, .int i), (2, .ref (ad 129)), (1, .ref (ad 0)), (0, .ref b)]) (kk : ∀ (g : Nat → va_E) (H : Heap) (locs : List Loc) (ls : Array Slot), PI ad cA g → RT g → WB NN ad K g H locs → lv_has ls 4 [(3, .int i), (2, .ref (ad 129)), (1, .ref (ad 0)), (0, .ref b)] → XX K 600000 7302250 H locs 1457 ls []) : XX K 600000 7302250 H locs 421 ls [] := by
  have hLn : L < 1000000 := by omega
  obtain ⟨lw, lwn, hlc, h13, h14⟩ := id hP.2.2.1
  refine q_aload_n hM dL_law_421 (lv_at hl 2 rfl) ?_
  refine q_aload_n hM dL_law_422 (lv_at hl 3 rfl) ?_
  refine q_iload_n hM dL_law_423 (lv_at hl 0 rfl) ?_
  refine q_iconst (v := (1 : Int32)) hM dL_law_424 (by decide) ?_
  refine q_iadd hM dL_law_425 (fun z13926 hz13926 => ?_)
  have tz13926 := i_addT hz13926 (rfl : i.toInt = i.toInt) (kc_1 : (1 : Int32).toInt = 1) (by omega) (by omega)
  refine s_iald z13926.toInt.toNat hM hW hXB (by omega) (by omega) (by omega) dL_law_426 ?_
  refine q_top (fun a13927 ha13927 => ?_)
  refine q_aload_n hM dL_law_427 (lv_at hl 3 rfl) ?_
  refine q_iload_n hM dL_law_428 (lv_at hl 0 rfl) ?_
  refine q_iconst (v := (2 : Int32)) hM dL_law_429 (by decide) ?_
  refine q_iadd hM dL_law_430 (fun z13928 hz13928 => ?_)
  have tz13928 := i_addT hz13928 (rfl : i.toInt = i.toInt) (kc_2 : (2 : Int32).toInt = 2) (by omega) (by omega)
  refine s_iald z13928.toInt.toNat hM hW hXB (by omega) (by omega) (by omega) dL_law_431 ?_
  refine q_top (fun a13929 ha13929 => ?_)
  refine q_callV (As := [.int a13927, .int a13929]) (rest := []) hM hW hR hC myX11_art (kAW (v_1_11 (List.mem_of_getElem? (i := 15) rfl)) rfl) (rfl : vwCl[11]? = some (RX11, TX11, 16)) rfl lb_0.1 (shO hP.1 lb_0) (p_X11_art _ _ cA ad g a13927 a13929  hP.1 hP.2.1) ⟨by decide, by decide⟩ rfl rfl hl.1 (Nat.le_of_ble_eq_true rfl) dL_law_432 (fun v g1 H locs hp hW => ?_)
  obtain ⟨r1, rfl, hs1, hG1, hf1⟩ := hp
  have hP0 := hP
  have hP : PI ad cA g1 := PI_fr hP0 hs1 hG1 hf1 (by omega) (by omega) (by omega) (by omega) (by omega) (by omega) (by omega) (by omega) (by omega)
  refine q_pop hM dL_law_435 rfl ?_
  refine q_aload_n hM dL_law_436 (lv_at hl 1 rfl) ?_
  refine q_aload_n hM dL_law_437 (lv_at hl 3 rfl) ?_
  refine q_iload_n hM dL_law_438 (lv_at hl 0 rfl) ?_
  refine q_iconst (v := (1 : Int32)) hM dL_law_439 (by decide) ?_
  refine q_iadd hM dL_law_440 (fun z13930 hz13930 => ?_)
  have tz13930 := i_addT hz13930 (rfl : i.toInt = i.toInt) (kc_1 : (1 : Int32).toInt = 1) (by omega) (by omega)
  refine s_iald z13930.toInt.toNat hM hW hXB (by omega) (by omega) (by omega) dL_law_441 ?_
  refine q_top (fun a13931 ha13931 => ?_)
  refine q_aload_n hM dL_law_442 (lv_at hl 3 rfl) ?_
  refine q_iload_n hM dL_law_443 (lv_at hl 0 rfl) ?_
  refine q_iconst (v := (2 : Int32)) hM dL_law_444 (by decide) ?_
  refine q_iadd hM dL_law_445 (fun z13932 hz13932 => ?_)
  have tz13932 := i_addT hz13932 (rfl : i.toInt = i.toInt) (kc_2 : (2 : Int32).toInt = 2) (by omega) (by omega)
  refine s_iald z13932.toInt.toNat hM hW hXB (by omega) (by omega) (by omega) dL_law_446 ?_
  refine q_top (fun a13933 ha13933 => ?_)
  refine q_callV (As := [.int a13931, .int a13933]) (rest := []) hM hW hR hC myX12_art (kAW (v_5_8 (List.mem_of_getElem? (i := 1) rfl)) rfl) (rfl : vwCl[12]? = some (RX12, TX12, 86)) rfl lb_129.1 (shO hP.1 lb_129) (p_X12_art _ _ cA ad g1 a13931 a13933 hP.1 hP.2.1 hP.2.2.2.2) ⟨by decide, by decide⟩ rfl rfl hl.1 (Nat.le_of_ble_eq_true rfl) dL_law_447 (fun v g2 H locs hp hW => ?_)
  obtain ⟨r2, rfl, hs2, hG2, hf2⟩ := hp
  have hP1 := hP
  have hP : PI ad cA g2 := PI_fr hP1 hs2 hG2 hf2 (by omega) (by omega) (by omega) (by omega) (by omega) (by omega) (by omega) (by omega) (by omega)
  have qa13931 : a13931 = a13927 := by rw [ha13931, ha13927]; congr 1; omega
  have qa13933 : a13933 = a13929 := by rw [ha13933, ha13929]; congr 1; omega
  refine q_pop hM dL_law_450 rfl ?_
  refine q_goto (tgt := 1457) hM dL_law_451 (by decide) ?_
  exact kk _ _ _ _ hP ⟨⟨(by rw [show fI g2 3 2 = fI g 3 2 from (FRf hf1 hf2 (by omega) (by omega)), show arI g2 131 = arI g 131 from ((hf2.2.1 131 (by omega)).trans (hf1.2.1 131 (by omega)))]; exact hRl.1.1), (by rw [show fI g2 18 3 = fI g 18 3 from (FRf hf1 hf2 (by omega) (by omega)), show arI g2 158 = arI g 158 from ((hf2.2.1 158 (by omega)).trans (hf1.2.1 158 (by omega)))]; exact hRl.1.2.1), (by rw [show fI g2 30 3 = fI g 30 3 from (FRf hf1 hf2 (by omega) (by omega)), show arI g2 162 = arI g 162 from ((hf2.2.1 162 (by omega)).trans (hf1.2.1 162 (by omega)))]; exact hRl.1.2.2.1), (((FRf hf1 hf2 (by omega) (by omega))).trans (hRl.1.2.2.2.1.trans ((FRf hf1 hf2 (by omega) (by omega))).symm)), (((FRf hf1 hf2 (by omega) (by omega))).trans (hRl.1.2.2.2.2.1.trans ((FRf hf1 hf2 (by omega) (by omega))).symm)), (((FRf hf1 hf2 (by omega) (by omega))).trans (hRl.1.2.2.2.2.2.trans (congrFun ((hf2.2.1 166 (by omega)).trans (hf1.2.1 166 (by omega))) 1).symm))⟩, ⟨by rw [show fI g2 102 4 = fI g 102 4 from (FRf hf1 hf2 (by omega) (by omega)), show arI g2 176 = arI g 176 from ((hf2.2.1 176 (by omega)).trans (hf1.2.1 176 (by omega)))]; exact hRl.2.1, fun m k hm hk => by rw [show arI g2 (113 + 1 * m) = arI g (113 + 1 * m) from (hf2.2.1 (113 + 1 * m) (by omega)).trans (hf1.2.1 (113 + 1 * m) (by omega)), show arI g2 177 = arI g 177 from ((hf2.2.1 177 (by omega)).trans (hf1.2.1 177 (by omega)))]; exact hRl.2.2 m k hm hk⟩⟩ hW hl

set_option maxRecDepth 100000 in
set_option maxHeartbeats 4000000 in
theorem lc_law {K : KT} {cA : Nat → ClassId} {ad : Nat → Nat} {b L : Nat} {xs : Nat → Int32} {H : Heap} {locs : List Loc} {ls : Array Slot} {g : Nat → va_E} {i : Int32} (hM : MB K cA code 4 R_law) (hXB : XB K b L xs) (hL : L ≤ 3072) (hR : HasRoom K 2048 84000) (hC : Cells K 600000 7302250) (hP : PI ad cA g) (hRl : RT g) (hi0 : 0 ≤ i.toInt) (hi : i.toInt + 6 ≤ L) (hW : WB NN ad K g H locs) (hl : lv_has ls 4 [(3, .int i), (2, .ref (ad 129)), (1, .ref (ad 0)), (0, .ref b)]) (kk : ∀ (g : Nat → va_E) (H : Heap) (locs : List Loc) (ls : Array Slot), PI ad cA g → RT g → WB NN ad K g H locs → lv_has ls 4 [(3, .int i), (2, .ref (ad 129)), (1, .ref (ad 0)), (0, .ref b)] → XX K 600000 7302250 H locs 1457 ls []) : XX K 600000 7302250 H locs 454 ls [] := by
  have hLn : L < 1000000 := by omega
  obtain ⟨lw, lwn, hlc, h13, h14⟩ := id hP.2.2.1
  refine q_aload_n hM dL_law_454 (lv_at hl 2 rfl) ?_
  refine q_aload_n hM dL_law_455 (lv_at hl 3 rfl) ?_
  refine q_iload_n hM dL_law_456 (lv_at hl 0 rfl) ?_
  refine q_iconst (v := (1 : Int32)) hM dL_law_457 (by decide) ?_
  refine q_iadd hM dL_law_458 (fun z13934 hz13934 => ?_)
  have tz13934 := i_addT hz13934 (rfl : i.toInt = i.toInt) (kc_1 : (1 : Int32).toInt = 1) (by omega) (by omega)
  refine s_iald z13934.toInt.toNat hM hW hXB (by omega) (by omega) (by omega) dL_law_459 ?_
  refine q_top (fun a13935 ha13935 => ?_)
  refine q_callV (As := [.int a13935]) (rest := []) hM hW hR hC myX11_law (kAW (v_1_14 (List.mem_of_getElem? (i := 15) rfl)) rfl) (rfl : vwCl[11]? = some (RX11, TX11, 16)) rfl lb_0.1 (shO hP.1 lb_0) (p_X11_law _ _ cA ad g a13935 lw lwn hP.1 hP.2.1 (by unfold isLw; omega) (by unfold isLw; omega) h13 h14) ⟨by decide, by decide⟩ rfl rfl hl.1 (Nat.le_of_ble_eq_true rfl) dL_law_460 (fun v g1 H locs hp hW => ?_)
  obtain ⟨r1, rfl, hs1, hG1, hf1, ha1⟩ := hp
  have hP0 := hP
  have hP : PI ad cA g1 := ⟨hs1, hG1, by rcases ha1 with h9 | h9; exact ⟨lw, lwn, hlc, h9.1, h9.2⟩; exact ⟨lwn, lw, by omega, h9.1, h9.2⟩, LWQ_fr hP0.2.2.2.1 hf1 (by omega) (by omega) (by omega) (by omega) (by omega) (by omega), TB_fr hP0.2.2.2.2 hf1 (by omega)⟩
  refine q_pop hM dL_law_463 rfl ?_
  refine q_aload_n hM dL_law_464 (lv_at hl 1 rfl) ?_
  refine q_aload_n hM dL_law_465 (lv_at hl 3 rfl) ?_
  refine q_iload_n hM dL_law_466 (lv_at hl 0 rfl) ?_
  refine q_iconst (v := (1 : Int32)) hM dL_law_467 (by decide) ?_
  refine q_iadd hM dL_law_468 (fun z13936 hz13936 => ?_)
  have tz13936 := i_addT hz13936 (rfl : i.toInt = i.toInt) (kc_1 : (1 : Int32).toInt = 1) (by omega) (by omega)
  refine s_iald z13936.toInt.toNat hM hW hXB (by omega) (by omega) (by omega) dL_law_469 ?_
  refine q_top (fun a13937 ha13937 => ?_)
  refine q_callV (As := [.int a13937]) (rest := []) hM hW hR hC myX12_law (kAW (v_5_11 (List.mem_of_getElem? (i := 6) rfl)) rfl) (rfl : vwCl[12]? = some (RX12, TX12, 86)) rfl lb_129.1 (shO hP.1 lb_129) (p_X12_law _ _ cA ad g1 a13937 (fI g1 129 32) hP.1 hP.2.1 (shI hP.1 lb_129 (by decide) (by decide)) hP.2.2.2.1) ⟨by decide, by decide⟩ rfl rfl hl.1 (Nat.le_of_ble_eq_true rfl) dL_law_470 (fun v g2 H locs hp hW => ?_)
  obtain ⟨r2, rfl, hs2, hG2, hf2, ha2⟩ := hp
  have hP1 := hP
  have hP : PI ad cA g2 := by
    obtain ⟨lw9, lwn9, c9, h139, h149⟩ := hP1.2.2.1
    exact ⟨hs2, hG2, ⟨lw9, lwn9, c9, (hf2.1 0 13 (by omega)).trans h139, (hf2.1 0 14 (by omega)).trans h149⟩, ha2, TB_fr hP1.2.2.2.2 hf2 (by omega)⟩
  have qa13937 : a13937 = a13935 := by rw [ha13937, ha13935]; congr 1; omega
  first | rw [qa13937] at ha2 | skip
  refine q_pop hM dL_law_473 rfl ?_
  refine q_goto (tgt := 1457) hM dL_law_474 (by decide) ?_
  exact kk _ _ _ _ hP ⟨⟨(by rw [show fI g2 3 2 = fI g 3 2 from (FRf hf1 hf2 (by omega) (by omega)), show arI g2 131 = arI g 131 from ((hf2.2.1 131 (by omega)).trans (hf1.2.1 131 (by omega)))]; exact hRl.1.1), (by rw [show fI g2 18 3 = fI g 18 3 from (FRf hf1 hf2 (by omega) (by omega)), show arI g2 158 = arI g 158 from ((hf2.2.1 158 (by omega)).trans (hf1.2.1 158 (by omega)))]; exact hRl.1.2.1), (by rw [show fI g2 30 3 = fI g 30 3 from (FRf hf1 hf2 (by omega) (by omega)), show arI g2 162 = arI g 162 from ((hf2.2.1 162 (by omega)).trans (hf1.2.1 162 (by omega)))]; exact hRl.1.2.2.1), (((FRf hf1 hf2 (by omega) (by omega))).trans (hRl.1.2.2.2.1.trans ((FRf hf1 hf2 (by omega) (by omega))).symm)), (((FRf hf1 hf2 (by omega) (by omega))).trans (hRl.1.2.2.2.2.1.trans ((FRf hf1 hf2 (by omega) (by omega))).symm)), (((FRf hf1 hf2 (by omega) (by omega))).trans (hRl.1.2.2.2.2.2.trans (congrFun ((hf2.2.1 166 (by omega)).trans (hf1.2.1 166 (by omega))) 1).symm))⟩, ⟨by rw [show fI g2 102 4 = fI g 102 4 from (FRf hf1 hf2 (by omega) (by omega)), show arI g2 176 = arI g 176 from ((hf2.2.1 176 (by omega)).trans (hf1.2.1 176 (by omega)))]; exact hRl.2.1, fun m k hm hk => by rw [show arI g2 (113 + 1 * m) = arI g (113 + 1 * m) from (hf2.2.1 (113 + 1 * m) (by omega)).trans (hf1.2.1 (113 + 1 * m) (by omega)), show arI g2 177 = arI g 177 from ((hf2.2.1 177 (by omega)).trans (hf1.2.1 177 (by omega)))]; exact hRl.2.2 m k hm hk⟩⟩ hW hl

set_option maxRecDepth 100000 in
set_option maxHeartbeats 4000000 in
theorem lc_grade {K : KT} {cA : Nat → ClassId} {ad : Nat → Nat} {b L : Nat} {xs : Nat → Int32} {H : Heap} {locs : List Loc} {ls : Array Slot} {g : Nat → va_E} {i : Int32} (hM : MB K cA code 4 R_law) (hXB : XB K b L xs) (hL : L ≤ 3072) (hR : HasRoom K 2048 84000) (hC : Cells K 600000 7302250) (hP : PI ad cA g) (hRl : RT g) (hi0 : 0 ≤ i.toInt) (hi : i.toInt + 6 ≤ L) (hW : WB NN ad K g H locs) (hl : lv_has ls 4 [(3, .int i), (2, .ref (ad 129)), (1, .ref (ad 0)), (0, .ref b)]) (kk : ∀ (g : Nat → va_E) (H : Heap) (locs : List Loc) (ls : Array Slot), PI ad cA g → RT g → WB NN ad K g H locs → lv_has ls 4 [(3, .int i), (2, .ref (ad 129)), (1, .ref (ad 0)), (0, .ref b)] → XX K 600000 7302250 H locs 1457 ls []) : XX K 600000 7302250 H locs 477 ls [] := by
  have hLn : L < 1000000 := by omega
  obtain ⟨lw, lwn, hlc, h13, h14⟩ := id hP.2.2.1
  refine q_aload_n hM dL_law_477 (lv_at hl 2 rfl) ?_
  refine q_aload_n hM dL_law_478 (lv_at hl 3 rfl) ?_
  refine q_iload_n hM dL_law_479 (lv_at hl 0 rfl) ?_
  refine q_iconst (v := (1 : Int32)) hM dL_law_480 (by decide) ?_
  refine q_iadd hM dL_law_481 (fun z13938 hz13938 => ?_)
  have tz13938 := i_addT hz13938 (rfl : i.toInt = i.toInt) (kc_1 : (1 : Int32).toInt = 1) (by omega) (by omega)
  refine s_iald z13938.toInt.toNat hM hW hXB (by omega) (by omega) (by omega) dL_law_482 ?_
  refine q_top (fun a13939 ha13939 => ?_)
  refine q_aload_n hM dL_law_483 (lv_at hl 3 rfl) ?_
  refine q_iload_n hM dL_law_484 (lv_at hl 0 rfl) ?_
  refine q_iconst (v := (2 : Int32)) hM dL_law_485 (by decide) ?_
  refine q_iadd hM dL_law_486 (fun z13940 hz13940 => ?_)
  have tz13940 := i_addT hz13940 (rfl : i.toInt = i.toInt) (kc_2 : (2 : Int32).toInt = 2) (by omega) (by omega)
  refine s_iald z13940.toInt.toNat hM hW hXB (by omega) (by omega) (by omega) dL_law_487 ?_
  refine q_top (fun a13941 ha13941 => ?_)
  refine q_callV (As := [.int a13939, .int a13941]) (rest := []) hM hW hR hC myX11_grade (kAW (v_2_8 (List.mem_of_getElem? (i := 15) rfl)) rfl) (rfl : vwCl[11]? = some (RX11, TX11, 16)) rfl lb_0.1 (shO hP.1 lb_0) (p_X11_grade _ _ cA ad g a13939 a13941  hP.1 hP.2.1) ⟨by decide, by decide⟩ rfl rfl hl.1 (Nat.le_of_ble_eq_true rfl) dL_law_488 (fun v g1 H locs hp hW => ?_)
  obtain ⟨r1, rfl, hs1, hG1, hf1, ha1⟩ := hp
  have hP0 := hP
  have hP : PI ad cA g1 := PI_fr hP0 hs1 hG1 hf1 (by omega) (by omega) (by omega) (by omega) (by omega) (by omega) (by omega) (by omega) (by omega)
  refine q_pop hM dL_law_491 rfl ?_
  refine q_aload_n hM dL_law_492 (lv_at hl 1 rfl) ?_
  refine q_aload_n hM dL_law_493 (lv_at hl 3 rfl) ?_
  refine q_iload_n hM dL_law_494 (lv_at hl 0 rfl) ?_
  refine q_iconst (v := (1 : Int32)) hM dL_law_495 (by decide) ?_
  refine q_iadd hM dL_law_496 (fun z13942 hz13942 => ?_)
  have tz13942 := i_addT hz13942 (rfl : i.toInt = i.toInt) (kc_1 : (1 : Int32).toInt = 1) (by omega) (by omega)
  refine s_iald z13942.toInt.toNat hM hW hXB (by omega) (by omega) (by omega) dL_law_497 ?_
  refine q_top (fun a13943 ha13943 => ?_)
  refine q_aload_n hM dL_law_498 (lv_at hl 3 rfl) ?_
  refine q_iload_n hM dL_law_499 (lv_at hl 0 rfl) ?_
  refine q_iconst (v := (2 : Int32)) hM dL_law_500 (by decide) ?_
  refine q_iadd hM dL_law_501 (fun z13944 hz13944 => ?_)
  have tz13944 := i_addT hz13944 (rfl : i.toInt = i.toInt) (kc_2 : (2 : Int32).toInt = 2) (by omega) (by omega)
  refine s_iald z13944.toInt.toNat hM hW hXB (by omega) (by omega) (by omega) dL_law_502 ?_
  refine q_top (fun a13945 ha13945 => ?_)
  refine q_callV (As := [.int a13943, .int a13945]) (rest := []) hM hW hR hC myX12_grade (kAW (v_5_11 (List.mem_of_getElem? (i := 1) rfl)) rfl) (rfl : vwCl[12]? = some (RX12, TX12, 86)) rfl lb_129.1 (shO hP.1 lb_129) (p_X12_grade _ _ cA ad g1 a13943 a13945 hP.1 hP.2.1) ⟨by decide, by decide⟩ rfl rfl hl.1 (Nat.le_of_ble_eq_true rfl) dL_law_503 (fun v g2 H locs hp hW => ?_)
  obtain ⟨r2, rfl, hs2, hG2, hf2, ha2⟩ := hp
  have hP1 := hP
  have hP : PI ad cA g2 := PI_fr hP1 hs2 hG2 hf2 (by omega) (by omega) (by omega) (by omega) (by omega) (by omega) (by omega) (by omega) (by omega)
  have qa13943 : a13943 = a13939 := by rw [ha13943, ha13939]; congr 1; omega
  have qa13945 : a13945 = a13941 := by rw [ha13945, ha13941]; congr 1; omega
  first | rw [qa13943] at ha2 | skip
  first | rw [qa13945] at ha2 | skip
  refine q_pop hM dL_law_506 rfl ?_
  refine q_goto (tgt := 1457) hM dL_law_507 (by decide) ?_
  exact kk _ _ _ _ hP ⟨⟨(by rw [show fI g2 3 2 = fI g 3 2 from (FRf hf1 hf2 (by omega) (by omega)), show arI g2 131 = arI g 131 from ((hf2.2.1 131 (by omega)).trans (hf1.2.1 131 (by omega)))]; exact hRl.1.1), (by rw [show fI g2 18 3 = fI g 18 3 from (FRf hf1 hf2 (by omega) (by omega)), show arI g2 158 = arI g 158 from ((hf2.2.1 158 (by omega)).trans (hf1.2.1 158 (by omega)))]; exact hRl.1.2.1), (by rw [show fI g2 30 3 = fI g 30 3 from (FRf hf1 hf2 (by omega) (by omega)), show arI g2 162 = arI g 162 from ((hf2.2.1 162 (by omega)).trans (hf1.2.1 162 (by omega)))]; exact hRl.1.2.2.1), (((FRf hf1 hf2 (by omega) (by omega))).trans (hRl.1.2.2.2.1.trans ((FRf hf1 hf2 (by omega) (by omega))).symm)), (((FRf hf1 hf2 (by omega) (by omega))).trans (hRl.1.2.2.2.2.1.trans ((FRf hf1 hf2 (by omega) (by omega))).symm)), (((FRf hf1 hf2 (by omega) (by omega))).trans (hRl.1.2.2.2.2.2.trans (congrFun ((hf2.2.1 166 (by omega)).trans (hf1.2.1 166 (by omega))) 1).symm))⟩, ⟨by rw [show fI g2 102 4 = fI g 102 4 from (FRf hf1 hf2 (by omega) (by omega)), show arI g2 176 = arI g 176 from ((hf2.2.1 176 (by omega)).trans (hf1.2.1 176 (by omega)))]; exact hRl.2.1, fun m k hm hk => by rw [show arI g2 (113 + 1 * m) = arI g (113 + 1 * m) from (hf2.2.1 (113 + 1 * m) (by omega)).trans (hf1.2.1 (113 + 1 * m) (by omega)), show arI g2 177 = arI g 177 from ((hf2.2.1 177 (by omega)).trans (hf1.2.1 177 (by omega)))]; exact hRl.2.2 m k hm hk⟩⟩ hW hl

set_option maxRecDepth 100000 in
set_option maxHeartbeats 4000000 in
theorem lc_exam {K : KT} {cA : Nat → ClassId} {ad : Nat → Nat} {b L : Nat} {xs : Nat → Int32} {H : Heap} {locs : List Loc} {ls : Array Slot} {g : Nat → va_E} {i : Int32} (hM : MB K cA code 4 R_law) (hXB : XB K b L xs) (hL : L ≤ 3072) (hR : HasRoom K 2048 84000) (hC : Cells K 600000 7302250) (hP : PI ad cA g) (hRl : RT g) (hi0 : 0 ≤ i.toInt) (hi : i.toInt + 6 ≤ L) (hW : WB NN ad K g H locs) (hl : lv_has ls 4 [(3, .int i), (2, .ref (ad 129)), (1, .ref (ad 0)), (0, .ref b)]) (kk : ∀ (g : Nat → va_E) (H : Heap) (locs : List Loc) (ls : Array Slot), PI ad cA g → RT g → WB NN ad K g H locs → lv_has ls 4 [(3, .int i), (2, .ref (ad 129)), (1, .ref (ad 0)), (0, .ref b)] → XX K 600000 7302250 H locs 1457 ls []) : XX K 600000 7302250 H locs 510 ls [] := by
  have hLn : L < 1000000 := by omega
  obtain ⟨lw, lwn, hlc, h13, h14⟩ := id hP.2.2.1
  refine q_aload_n hM dL_law_510 (lv_at hl 2 rfl) ?_
  refine q_aload_n hM dL_law_511 (lv_at hl 3 rfl) ?_
  refine q_iload_n hM dL_law_512 (lv_at hl 0 rfl) ?_
  refine q_iconst (v := (1 : Int32)) hM dL_law_513 (by decide) ?_
  refine q_iadd hM dL_law_514 (fun z13946 hz13946 => ?_)
  have tz13946 := i_addT hz13946 (rfl : i.toInt = i.toInt) (kc_1 : (1 : Int32).toInt = 1) (by omega) (by omega)
  refine s_iald z13946.toInt.toNat hM hW hXB (by omega) (by omega) (by omega) dL_law_515 ?_
  refine q_top (fun a13947 ha13947 => ?_)
  refine q_aload_n hM dL_law_516 (lv_at hl 3 rfl) ?_
  refine q_iload_n hM dL_law_517 (lv_at hl 0 rfl) ?_
  refine q_iconst (v := (2 : Int32)) hM dL_law_518 (by decide) ?_
  refine q_iadd hM dL_law_519 (fun z13948 hz13948 => ?_)
  have tz13948 := i_addT hz13948 (rfl : i.toInt = i.toInt) (kc_2 : (2 : Int32).toInt = 2) (by omega) (by omega)
  refine s_iald z13948.toInt.toNat hM hW hXB (by omega) (by omega) (by omega) dL_law_520 ?_
  refine q_top (fun a13949 ha13949 => ?_)
  refine q_callV (As := [.int a13947, .int a13949]) (rest := []) hM hW hR hC myX11_exam (kAW (v_2_9 (List.mem_of_getElem? (i := 3) rfl)) rfl) (rfl : vwCl[11]? = some (RX11, TX11, 16)) rfl lb_0.1 (shO hP.1 lb_0) (p_X11_exam _ _ cA ad g a13947 a13949  hP.1 hP.2.1) ⟨by decide, by decide⟩ rfl rfl hl.1 (Nat.le_of_ble_eq_true rfl) dL_law_521 (fun v g1 H locs hp hW => ?_)
  obtain ⟨r1, rfl, hs1, hG1, hf1, ha1⟩ := hp
  have hP0 := hP
  have hP : PI ad cA g1 := PI_fr hP0 hs1 hG1 hf1 (by omega) (by omega) (by omega) (by omega) (by omega) (by omega) (by omega) (by omega) (by omega)
  refine q_pop hM dL_law_524 rfl ?_
  refine q_aload_n hM dL_law_525 (lv_at hl 1 rfl) ?_
  refine q_aload_n hM dL_law_526 (lv_at hl 3 rfl) ?_
  refine q_iload_n hM dL_law_527 (lv_at hl 0 rfl) ?_
  refine q_iconst (v := (1 : Int32)) hM dL_law_528 (by decide) ?_
  refine q_iadd hM dL_law_529 (fun z13950 hz13950 => ?_)
  have tz13950 := i_addT hz13950 (rfl : i.toInt = i.toInt) (kc_1 : (1 : Int32).toInt = 1) (by omega) (by omega)
  refine s_iald z13950.toInt.toNat hM hW hXB (by omega) (by omega) (by omega) dL_law_530 ?_
  refine q_top (fun a13951 ha13951 => ?_)
  refine q_aload_n hM dL_law_531 (lv_at hl 3 rfl) ?_
  refine q_iload_n hM dL_law_532 (lv_at hl 0 rfl) ?_
  refine q_iconst (v := (2 : Int32)) hM dL_law_533 (by decide) ?_
  refine q_iadd hM dL_law_534 (fun z13952 hz13952 => ?_)
  have tz13952 := i_addT hz13952 (rfl : i.toInt = i.toInt) (kc_2 : (2 : Int32).toInt = 2) (by omega) (by omega)
  refine s_iald z13952.toInt.toNat hM hW hXB (by omega) (by omega) (by omega) dL_law_535 ?_
  refine q_top (fun a13953 ha13953 => ?_)
  refine q_callV (As := [.int a13951, .int a13953]) (rest := []) hM hW hR hC myX12_exam (kAW (v_6_2 (List.mem_of_getElem? (i := 13) rfl)) rfl) (rfl : vwCl[12]? = some (RX12, TX12, 86)) rfl lb_129.1 (shO hP.1 lb_129) (p_X12_exam _ _ cA ad g1 a13951 a13953 hP.1 hP.2.1) ⟨by decide, by decide⟩ rfl rfl hl.1 (Nat.le_of_ble_eq_true rfl) dL_law_536 (fun v g2 H locs hp hW => ?_)
  obtain ⟨r2, rfl, hs2, hG2, hf2, ha2⟩ := hp
  have hP1 := hP
  have hP : PI ad cA g2 := PI_fr hP1 hs2 hG2 hf2 (by omega) (by omega) (by omega) (by omega) (by omega) (by omega) (by omega) (by omega) (by omega)
  have qa13951 : a13951 = a13947 := by rw [ha13951, ha13947]; congr 1; omega
  have qa13953 : a13953 = a13949 := by rw [ha13953, ha13949]; congr 1; omega
  first | rw [qa13951] at ha2 | skip
  first | rw [qa13953] at ha2 | skip
  refine q_pop hM dL_law_539 rfl ?_
  refine q_goto (tgt := 1457) hM dL_law_540 (by decide) ?_
  exact kk _ _ _ _ hP ⟨⟨(by rw [show fI g2 3 2 = fI g 3 2 from (FRf hf1 hf2 (by omega) (by omega)), show arI g2 131 = arI g 131 from ((hf2.2.1 131 (by omega)).trans (hf1.2.1 131 (by omega)))]; exact hRl.1.1), (by rw [show fI g2 18 3 = fI g 18 3 from (FRf hf1 hf2 (by omega) (by omega)), show arI g2 158 = arI g 158 from ((hf2.2.1 158 (by omega)).trans (hf1.2.1 158 (by omega)))]; exact hRl.1.2.1), (by rw [show fI g2 30 3 = fI g 30 3 from (FRf hf1 hf2 (by omega) (by omega)), show arI g2 162 = arI g 162 from ((hf2.2.1 162 (by omega)).trans (hf1.2.1 162 (by omega)))]; exact hRl.1.2.2.1), (((FRf hf1 hf2 (by omega) (by omega))).trans (hRl.1.2.2.2.1.trans ((FRf hf1 hf2 (by omega) (by omega))).symm)), (((FRf hf1 hf2 (by omega) (by omega))).trans (hRl.1.2.2.2.2.1.trans ((FRf hf1 hf2 (by omega) (by omega))).symm)), (((FRf hf1 hf2 (by omega) (by omega))).trans (hRl.1.2.2.2.2.2.trans (congrFun ((hf2.2.1 166 (by omega)).trans (hf1.2.1 166 (by omega))) 1).symm))⟩, ⟨by rw [show fI g2 102 4 = fI g 102 4 from (FRf hf1 hf2 (by omega) (by omega)), show arI g2 176 = arI g 176 from ((hf2.2.1 176 (by omega)).trans (hf1.2.1 176 (by omega)))]; exact hRl.2.1, fun m k hm hk => by rw [show arI g2 (113 + 1 * m) = arI g (113 + 1 * m) from (hf2.2.1 (113 + 1 * m) (by omega)).trans (hf1.2.1 (113 + 1 * m) (by omega)), show arI g2 177 = arI g 177 from ((hf2.2.1 177 (by omega)).trans (hf1.2.1 177 (by omega)))]; exact hRl.2.2 m k hm hk⟩⟩ hW hl

set_option maxRecDepth 100000 in
set_option maxHeartbeats 4000000 in
theorem lc_weeks {K : KT} {cA : Nat → ClassId} {ad : Nat → Nat} {b L : Nat} {xs : Nat → Int32} {H : Heap} {locs : List Loc} {ls : Array Slot} {g : Nat → va_E} {i : Int32} (hM : MB K cA code 4 R_law) (hXB : XB K b L xs) (hL : L ≤ 3072) (hR : HasRoom K 2048 84000) (hC : Cells K 600000 7302250) (hP : PI ad cA g) (hRl : RT g) (hi0 : 0 ≤ i.toInt) (hi : i.toInt + 6 ≤ L) (hW : WB NN ad K g H locs) (hl : lv_has ls 4 [(3, .int i), (2, .ref (ad 129)), (1, .ref (ad 0)), (0, .ref b)]) (kk : ∀ (g : Nat → va_E) (H : Heap) (locs : List Loc) (ls : Array Slot), PI ad cA g → RT g → WB NN ad K g H locs → lv_has ls 4 [(3, .int i), (2, .ref (ad 129)), (1, .ref (ad 0)), (0, .ref b)] → XX K 600000 7302250 H locs 1457 ls []) : XX K 600000 7302250 H locs 543 ls [] := by
  have hLn : L < 1000000 := by omega
  obtain ⟨lw, lwn, hlc, h13, h14⟩ := id hP.2.2.1
  refine q_aload_n hM dL_law_543 (lv_at hl 2 rfl) ?_
  refine q_aload_n hM dL_law_544 (lv_at hl 3 rfl) ?_
  refine q_iload_n hM dL_law_545 (lv_at hl 0 rfl) ?_
  refine q_iconst (v := (1 : Int32)) hM dL_law_546 (by decide) ?_
  refine q_iadd hM dL_law_547 (fun z13954 hz13954 => ?_)
  have tz13954 := i_addT hz13954 (rfl : i.toInt = i.toInt) (kc_1 : (1 : Int32).toInt = 1) (by omega) (by omega)
  refine s_iald z13954.toInt.toNat hM hW hXB (by omega) (by omega) (by omega) dL_law_548 ?_
  refine q_top (fun a13955 ha13955 => ?_)
  refine q_callV (As := [.int a13955]) (rest := []) hM hW hR hC myX11_weeks (kAW (v_2_9 (List.mem_of_getElem? (i := 7) rfl)) rfl) (rfl : vwCl[11]? = some (RX11, TX11, 16)) rfl lb_0.1 (shO hP.1 lb_0) (s_X11_weeks _ _ cA ad g a13955 (fI g 18 4) lw hP.1 hP.2.1 (by unfold isLw; omega) (shI hP.1 lb_18 (by decide) (by decide)) h13) ⟨by decide, by decide⟩ rfl rfl hl.1 (Nat.le_of_ble_eq_true rfl) dL_law_549 (fun v g1 H locs hp hW => ?_)
  obtain ⟨x0, r1, rfl, hs1, hG1, hf1, cx0, cx1⟩ := hp
  have hP0 := hP
  have hP : PI ad cA g1 := PI_fr hP0 hs1 hG1 hf1 (by omega) (by omega) (by omega) (by omega) (by omega) (by omega) (by omega) (by omega) (by omega)
  refine q_pop hM dL_law_552 rfl ?_
  refine q_aload_n hM dL_law_553 (lv_at hl 1 rfl) ?_
  refine q_aload_n hM dL_law_554 (lv_at hl 3 rfl) ?_
  refine q_iload_n hM dL_law_555 (lv_at hl 0 rfl) ?_
  refine q_iconst (v := (1 : Int32)) hM dL_law_556 (by decide) ?_
  refine q_iadd hM dL_law_557 (fun z13956 hz13956 => ?_)
  have tz13956 := i_addT hz13956 (rfl : i.toInt = i.toInt) (kc_1 : (1 : Int32).toInt = 1) (by omega) (by omega)
  refine s_iald z13956.toInt.toNat hM hW hXB (by omega) (by omega) (by omega) dL_law_558 ?_
  refine q_top (fun a13957 ha13957 => ?_)
  refine q_callV (As := [.int a13957]) (rest := []) hM hW hR hC myX12_weeks (kAW (v_6_7 (List.mem_of_getElem? (i := 9) rfl)) rfl) (rfl : vwCl[12]? = some (RX12, TX12, 86)) rfl lb_129.1 (shO hP.1 lb_129) (s_X12_weeks _ _ cA ad g1 a13957 (fI g1 129 56) hP.1 hP.2.1 (shI hP.1 lb_129 (by decide) (by decide)) hP.2.2.2.1.1) ⟨by decide, by decide⟩ rfl rfl hl.1 (Nat.le_of_ble_eq_true rfl) dL_law_559 (fun v g2 H locs hp hW => ?_)
  obtain ⟨m0, r2, rfl, hs2, hG2, hf2, cm0, cm1⟩ := hp
  have hP1 := hP
  have hP : PI ad cA g2 := PI_fr hP1 hs2 hG2 hf2 (by omega) (by omega) (by omega) (by omega) (by omega) (by omega) (by omega) (by omega) (by omega)
  have qa13957 : a13957 = a13955 := by rw [ha13957, ha13955]; congr 1; omega
  first | rw [qa13957] at cm0 | skip
  first | rw [qa13957] at cm1 | skip
  refine q_pop hM dL_law_562 rfl ?_
  refine q_goto (tgt := 1457) hM dL_law_563 (by decide) ?_
  exact kk _ _ _ _ hP ⟨⟨(by rw [show fI g2 3 2 = fI g 3 2 from (FRf hf1 hf2 (by omega) (by omega)), show arI g2 131 = arI g 131 from ((hf2.2.1 131 (by omega)).trans (hf1.2.1 131 (by omega)))]; exact hRl.1.1), (by rw [show fI g2 18 3 = fI g 18 3 from (FRf hf1 hf2 (by omega) (by omega)), show arI g2 158 = arI g 158 from ((hf2.2.1 158 (by omega)).trans (hf1.2.1 158 (by omega)))]; exact hRl.1.2.1), (by rw [show fI g2 30 3 = fI g 30 3 from (FRf hf1 hf2 (by omega) (by omega)), show arI g2 162 = arI g 162 from ((hf2.2.1 162 (by omega)).trans (hf1.2.1 162 (by omega)))]; exact hRl.1.2.2.1), (((FRf hf1 hf2 (by omega) (by omega))).trans (hRl.1.2.2.2.1.trans ((FRf hf1 hf2 (by omega) (by omega))).symm)), (by
    rw [show fI g2 18 4 = x0 from ((FR1f hf2 (by omega)).trans (fI_of cx0)), show fI g2 129 56 = m0 from fI_of cm0]
    have k5 : fI g1 129 56 = fI g 18 4 := (FR1f hf1 (by omega)).trans hRl.1.2.2.2.2.1.symm
    rw [k5] at cm1
    unfold WKr at cx1 cm1
    rcases cx1 with h1 | ⟨h1, e1⟩
    · rcases cm1 with h2 | ⟨h2, e2⟩
      · exact Int32.toInt_inj.mp (by omega)
      · exact absurd ⟨h1.1, h1.2.1⟩ h2
    · rcases cm1 with h2 | ⟨h2, e2⟩
      · exact absurd ⟨h2.1, h2.2.1⟩ h1
      · rw [e1, e2]), (((FRf hf1 hf2 (by omega) (by omega))).trans (hRl.1.2.2.2.2.2.trans (congrFun ((hf2.2.1 166 (by omega)).trans (hf1.2.1 166 (by omega))) 1).symm))⟩, ⟨by rw [show fI g2 102 4 = fI g 102 4 from (FRf hf1 hf2 (by omega) (by omega)), show arI g2 176 = arI g 176 from ((hf2.2.1 176 (by omega)).trans (hf1.2.1 176 (by omega)))]; exact hRl.2.1, fun m k hm hk => by rw [show arI g2 (113 + 1 * m) = arI g (113 + 1 * m) from (hf2.2.1 (113 + 1 * m) (by omega)).trans (hf1.2.1 (113 + 1 * m) (by omega)), show arI g2 177 = arI g 177 from ((hf2.2.1 177 (by omega)).trans (hf1.2.1 177 (by omega)))]; exact hRl.2.2 m k hm hk⟩⟩ hW hl
