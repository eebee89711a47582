set_option maxRecDepth 100000 in
set_option maxHeartbeats 4000000 in
theorem lc_cut {K : KT} {cA : Nat → ClassId} {ad : Nat → Nat} {b L : Nat} {xs : Nat → Int32} {H : Heap} {locs : List Loc} {ls : Array Slot} {g : Nat → va_E} {i : Int32} (hM : MB K cA code 4 R_law) (hXB : XB K b L xs) (hL : L ≤ 3072) (hR : HasRoom K 2048 84000) (hC : Cells K 600000 7302250) (hP : PI ad cA g) (hRl : RQ g) (hi0 : 0 ≤ i.toInt) (hi : i.toInt + 6 ≤ L) (hW : WB NN ad K g H locs) (hl : lv_has ls 4 [(3, .int i), (2, .ref (ad 129)), (1, .ref (ad 0)), (0, .ref b)]) (kk : ∀ (g : Nat → va_E) (H : Heap) (locs : List Loc) (ls : Array Slot), PI ad cA g → RQ g → WB NN ad K g H locs → lv_has ls 4 [(3, .int i), (2, .ref (ad 129)), (1, .ref (ad 0)), (0, .ref b)] → XX K 600000 7302250 H locs 1457 ls []) : XX K 600000 7302250 H locs 926 ls [] := by
  have hLn : L < 1000000 := by omega
  obtain ⟨lw, lwn, hlc, h13, h14⟩ := id hP.2.2.1
  refine q_aload_n hM dL_law_926 (lv_at hl 2 rfl) ?_
  refine q_aload_n hM dL_law_927 (lv_at hl 3 rfl) ?_
  refine q_iload_n hM dL_law_928 (lv_at hl 0 rfl) ?_
  refine q_iconst (v := (1 : Int32)) hM dL_law_929 (by decide) ?_
  refine q_iadd hM dL_law_930 (fun z13953 hz13953 => ?_)
  have tz13953 := i_addT hz13953 (rfl : i.toInt = i.toInt) (kc_1 : (1 : Int32).toInt = 1) (by omega) (by omega)
  refine s_iald z13953.toInt.toNat hM hW hXB (by omega) (by omega) (by omega) dL_law_931 ?_
  refine q_top (fun a13954 ha13954 => ?_)
  refine q_aload_n hM dL_law_932 (lv_at hl 3 rfl) ?_
  refine q_iload_n hM dL_law_933 (lv_at hl 0 rfl) ?_
  refine q_iconst (v := (2 : Int32)) hM dL_law_934 (by decide) ?_
  refine q_iadd hM dL_law_935 (fun z13955 hz13955 => ?_)
  have tz13955 := i_addT hz13955 (rfl : i.toInt = i.toInt) (kc_2 : (2 : Int32).toInt = 2) (by omega) (by omega)
  refine s_iald z13955.toInt.toNat hM hW hXB (by omega) (by omega) (by omega) dL_law_936 ?_
  refine q_top (fun a13956 ha13956 => ?_)
  refine q_aload_n hM dL_law_937 (lv_at hl 3 rfl) ?_
  refine q_iload_n hM dL_law_938 (lv_at hl 0 rfl) ?_
  refine q_iconst (v := (3 : Int32)) hM dL_law_939 (by decide) ?_
  refine q_iadd hM dL_law_940 (fun z13957 hz13957 => ?_)
  have tz13957 := i_addT hz13957 (rfl : i.toInt = i.toInt) (kc_3 : (3 : Int32).toInt = 3) (by omega) (by omega)
  refine s_iald z13957.toInt.toNat hM hW hXB (by omega) (by omega) (by omega) dL_law_941 ?_
  refine q_top (fun a13958 ha13958 => ?_)
  refine q_callV (As := [.int a13954, .int a13956, .int a13958]) (rest := []) hM hW hR hC myX11_cut (kAW (v_3_7 (List.mem_of_getElem? (i := 2) rfl)) rfl) (rfl : vwCl[11]? = some (RX11, TX11, 16)) rfl lb_0.1 (shO hP.1 lb_0) (s_X11_cut _ _ cA ad g a13954 a13956 a13958 (fI g 3 2)  hP.1 hP.2.1 (shI hP.1 lb_3 (by decide) (by decide))) ⟨by decide, by decide⟩ rfl rfl hl.1 (Nat.le_of_ble_eq_true rfl) dL_law_942 (fun v g1 H locs hp hW => ?_)
  obtain ⟨r1, rfl, hs1, hG1, hf1, ha1⟩ := hp
  have hP0 := hP
  have hP : PI ad cA g1 := PI_fr hP0 hs1 hG1 hf1 (fun h => h) (fun h => h) (fun h => h) (fun h => h) (fun h => h) (fun h => h) (fun h => h) (fun h => h) (fun h => h)
  refine q_aload_n hM dL_law_945 (lv_at hl 1 rfl) ?_
  refine q_aload_n hM dL_law_946 (lv_at hl 3 rfl) ?_
  refine q_iload_n hM dL_law_947 (lv_at hl 0 rfl) ?_
  refine q_iconst (v := (1 : Int32)) hM dL_law_948 (by decide) ?_
  refine q_iadd hM dL_law_949 (fun z13959 hz13959 => ?_)
  have tz13959 := i_addT hz13959 (rfl : i.toInt = i.toInt) (kc_1 : (1 : Int32).toInt = 1) (by omega) (by omega)
  refine s_iald z13959.toInt.toNat hM hW hXB (by omega) (by omega) (by omega) dL_law_950 ?_
  refine q_top (fun a13960 ha13960 => ?_)
  refine q_aload_n hM dL_law_951 (lv_at hl 3 rfl) ?_
  refine q_iload_n hM dL_law_952 (lv_at hl 0 rfl) ?_
  refine q_iconst (v := (2 : Int32)) hM dL_law_953 (by decide) ?_
  refine q_iadd hM dL_law_954 (fun z13961 hz13961 => ?_)
  have tz13961 := i_addT hz13961 (rfl : i.toInt = i.toInt) (kc_2 : (2 : Int32).toInt = 2) (by omega) (by omega)
  refine s_iald z13961.toInt.toNat hM hW hXB (by omega) (by omega) (by omega) dL_law_955 ?_
  refine q_top (fun a13962 ha13962 => ?_)
  refine q_aload_n hM dL_law_956 (lv_at hl 3 rfl) ?_
  refine q_iload_n hM dL_law_957 (lv_at hl 0 rfl) ?_
  refine q_iconst (v := (3 : Int32)) hM dL_law_958 (by decide) ?_
  refine q_iadd hM dL_law_959 (fun z13963 hz13963 => ?_)
  have tz13963 := i_addT hz13963 (rfl : i.toInt = i.toInt) (kc_3 : (3 : Int32).toInt = 3) (by omega) (by omega)
  refine s_iald z13963.toInt.toNat hM hW hXB (by omega) (by omega) (by omega) dL_law_960 ?_
  refine q_top (fun a13964 ha13964 => ?_)
  refine q_callV (As := [.int a13960, .int a13962, .int a13964]) (rest := [.int r1]) hM hW hR hC myX12_cut (kAW (v_5_7 (List.mem_of_getElem? (i := 9) rfl)) rfl) (rfl : vwCl[12]? = some (RX12, TX12, 86)) rfl lb_129.1 (shO hP.1 lb_129) (s_X12_cut _ _ cA ad g1 a13960 a13962 a13964 hP.1 hP.2.1) ⟨by decide, by decide⟩ rfl rfl hl.1 (Nat.le_of_ble_eq_true rfl) dL_law_961 (fun v g2 H locs hp hW => ?_)
  obtain ⟨r2, rfl, hs2, hG2, hf2, ha2⟩ := hp
  have hP1 := hP
  have hP : PI ad cA g2 := PI_fr hP1 hs2 hG2 hf2 (fun h => h) (fun h => h) (fun h => h) (fun h => h) (fun h => h) (fun h => h) (fun h => h) (fun h => h) (fun h => h)
  have qa13960 : a13960 = a13954 := by rw [ha13960, ha13954]; congr 1; omega
  have qa13962 : a13962 = a13956 := by rw [ha13962, ha13956]; congr 1; omega
  have qa13964 : a13964 = a13958 := by rw [ha13964, ha13958]; congr 1; omega
  first | rw [qa13960] at ha2 | skip
  first | rw [qa13962] at ha2 | skip
  first | rw [qa13964] at ha2 | skip
  have bk0 := (hP0.2.1).f (shI hP0.1 lb_3 (by decide) (by decide)) rF_3_2 (by decide)
  have sm0 : bi (fI g 3 2) a13954 = ti (arI g 131) 12 a13954 := SM_bi 12 hRl.1.1 (by omega) (by omega) (by decide) a13954
  have bk1 := (hP0.2.1).f (shI hP0.1 lb_3 (by decide) (by decide)) rF_3_2 (by decide)
  have sm1 : bi (fI g 3 2) a13956 = ti (arI g 131) 12 a13956 := SM_bi 12 hRl.1.1 (by omega) (by omega) (by decide) a13956
  rw [hf1.2.1 131 (fun h => h)] at ha2
  have lk5 : Lx g = Lm g1 := (LKr_eq hRl.2).trans (Lm_cg (hf1.2.1 133 (fun h => h))).symm
  rw [lk5] at ha1
  have hlk : ti (arI g 131) 12 a13954 = 1 → ti (arI g 131) 12 a13956 = 1 → (arI g (6 + 1 * a13954.toInt.toNat) a13956.toInt.toNat).toInt = (arI g1 133 (12 * a13954.toInt.toNat + a13956.toInt.toNat)).toInt := fun h8 h9 => by rw [hf1.2.1 133 (fun h => h), hRl.2 a13954.toInt.toNat a13956.toInt.toNat (by have := ti_in h8; omega) (by have := ti_in h9; omega)]
  have k5 : r1.toInt = r2.toInt := by
    rcases ha1 with ⟨a1, b1⟩ | ⟨a1, l1, b1⟩ | ⟨a1, l1, c1, b1⟩ | ⟨a1, l1, c1, b1⟩ <;> rcases ha2 with ⟨a2, b2⟩ | ⟨a2, l2, b2⟩ | ⟨a2, l2, c2, t9, ht9, b2⟩ | ⟨a2, l2, c2, t9, ht9, b2⟩ <;> first | omega | (exfalso; have e9 := hlk a2.1 a2.2.1; omega) | (rw [told_eq hRl.1.1 (by omega) (by omega) ht9] at b2; first | exact b1.trans b2.symm | exact congrArg Int32.toInt (b1.trans b2.symm))
  refine q_icmp_eq (tgt := 1457) hM dL_law_964 (by decide) (rfl : r1.toInt = r1.toInt) (rfl : r2.toInt = r2.toInt) (fun hq => ?_) (fun hq => by omega)
  exact kk _ _ _ _ hP ⟨⟨(by rw [show fI g2 3 2 = fI g 3 2 from (FRf hf1 hf2 (fun h => h) (fun h => h)), show arI g2 131 = arI g 131 from ((hf2.2.1 131 (fun h => h)).trans (hf1.2.1 131 (fun h => h)))]; exact hRl.1.1), (by rw [show fI g2 18 3 = fI g 18 3 from (FRf hf1 hf2 (fun h => h) (fun h => h)), show arI g2 158 = arI g 158 from ((hf2.2.1 158 (fun h => h)).trans (hf1.2.1 158 (fun h => h)))]; exact hRl.1.2.1), (by rw [show fI g2 30 3 = fI g 30 3 from (FRf hf1 hf2 (fun h => h) (fun h => h)), show arI g2 162 = arI g 162 from ((hf2.2.1 162 (fun h => h)).trans (hf1.2.1 162 (fun h => h)))]; exact hRl.1.2.2.1), (((FRf hf1 hf2 (fun h => h) (fun h => h))).trans (hRl.1.2.2.2.1.trans ((FRf hf1 hf2 (fun h => h) (fun h => h))).symm)), (((FRf hf1 hf2 (fun h => h) (fun h => h))).trans (hRl.1.2.2.2.2.1.trans ((FRf hf1 hf2 (fun h => h) (fun h => h))).symm)), (((FRf hf1 hf2 (fun h => h) (fun h => h))).trans (hRl.1.2.2.2.2.2.trans (congrFun ((hf2.2.1 166 (fun h => h)).trans (hf1.2.1 166 (fun h => h))) 1).symm))⟩, (fun k j hk hj => (congrFun ((hf2.2.1 (6 + 1 * k) (fun h => h)).trans (hf1.2.1 (6 + 1 * k) (fun h => h))) j).trans ((hRl.2 k j hk hj).trans (congrFun ((hf2.2.1 133 (fun h => h)).trans (hf1.2.1 133 (fun h => h))) _).symm))⟩ hW hl

set_option maxRecDepth 100000 in
set_option maxHeartbeats 4000000 in
theorem lc_recalls {K : KT} {cA : Nat → ClassId} {ad : Nat → Nat} {b L : Nat} {xs : Nat → Int32} {H : Heap} {locs : List Loc} {ls : Array Slot} {g : Nat → va_E} {i : Int32} (hM : MB K cA code 4 R_law) (hXB : XB K b L xs) (hL : L ≤ 3072) (hR : HasRoom K 2048 84000) (hC : Cells K 600000 7302250) (hP : PI ad cA g) (hRl : RQ g) (hi0 : 0 ≤ i.toInt) (hi : i.toInt + 6 ≤ L) (hW : WB NN ad K g H locs) (hl : lv_has ls 4 [(3, .int i), (2, .ref (ad 129)), (1, .ref (ad 0)), (0, .ref b)]) (kk : ∀ (g : Nat → va_E) (H : Heap) (locs : List Loc) (ls : Array Slot), PI ad cA g → RQ g → WB NN ad K g H locs → lv_has ls 4 [(3, .int i), (2, .ref (ad 129)), (1, .ref (ad 0)), (0, .ref b)] → XX K 600000 7302250 H locs 1457 ls []) : XX K 600000 7302250 H locs 969 ls [] := by
  have hLn : L < 1000000 := by omega
  obtain ⟨lw, lwn, hlc, h13, h14⟩ := id hP.2.2.1
  refine q_aload_n hM dL_law_969 (lv_at hl 2 rfl) ?_
  refine q_aload_n hM dL_law_970 (lv_at hl 3 rfl) ?_
  refine q_iload_n hM dL_law_971 (lv_at hl 0 rfl) ?_
  refine q_iconst (v := (1 : Int32)) hM dL_law_972 (by decide) ?_
  refine q_iadd hM dL_law_973 (fun z13965 hz13965 => ?_)
  have tz13965 := i_addT hz13965 (rfl : i.toInt = i.toInt) (kc_1 : (1 : Int32).toInt = 1) (by omega) (by omega)
  refine s_iald z13965.toInt.toNat hM hW hXB (by omega) (by omega) (by omega) dL_law_974 ?_
  refine q_top (fun a13966 ha13966 => ?_)
  refine q_callV (As := [.int a13966]) (rest := []) hM hW hR hC myX11_recalls (kAW (v_3_8 (List.mem_of_getElem? (i := 5) rfl)) rfl) (rfl : vwCl[11]? = some (RX11, TX11, 16)) rfl lb_0.1 (shO hP.1 lb_0) (p_X11_recalls _ _ cA ad g a13966  hP.1 hP.2.1) ⟨by decide, by decide⟩ rfl rfl hl.1 (Nat.le_of_ble_eq_true rfl) dL_law_975 (fun v g1 H locs hp hW => ?_)
  obtain ⟨r1, rfl, hs1, hG1, hf1⟩ := hp
  have hP0 := hP
  have hP : PI ad cA g1 := PI_fr hP0 hs1 hG1 hf1 (fun h => h) (fun h => h) (fun h => h) (fun h => h) (fun h => h) (fun h => h) (fun h => h) (fun h => h) (fun h => h)
  refine q_pop hM dL_law_978 rfl ?_
  refine q_aload_n hM dL_law_979 (lv_at hl 1 rfl) ?_
  refine q_aload_n hM dL_law_980 (lv_at hl 3 rfl) ?_
  refine q_iload_n hM dL_law_981 (lv_at hl 0 rfl) ?_
  refine q_iconst (v := (1 : Int32)) hM dL_law_982 (by decide) ?_
  refine q_iadd hM dL_law_983 (fun z13967 hz13967 => ?_)
  have tz13967 := i_addT hz13967 (rfl : i.toInt = i.toInt) (kc_1 : (1 : Int32).toInt = 1) (by omega) (by omega)
  refine s_iald z13967.toInt.toNat hM hW hXB (by omega) (by omega) (by omega) dL_law_984 ?_
  refine q_top (fun a13968 ha13968 => ?_)
  refine q_callV (As := [.int a13968]) (rest := []) hM hW hR hC myX12_recalls (kAW (v_5_5 (List.mem_of_getElem? (i := 11) rfl)) rfl) (rfl : vwCl[12]? = some (RX12, TX12, 86)) rfl lb_129.1 (shO hP.1 lb_129) (p_X12_recalls _ _ cA ad g1 a13968 hP.1 hP.2.1) ⟨by decide, by decide⟩ rfl rfl hl.1 (Nat.le_of_ble_eq_true rfl) dL_law_985 (fun v g2 H locs hp hW => ?_)
  obtain ⟨r2, rfl, hs2, hG2, hf2⟩ := hp
  have hP1 := hP
  have hP : PI ad cA g2 := PI_fr hP1 hs2 hG2 hf2 (fun h => h) (fun h => h) (fun h => h) (fun h => h) (fun h => h) (fun h => h) (fun h => h) (fun h => h) (fun h => h)
  have qa13968 : a13968 = a13966 := by rw [ha13968, ha13966]; congr 1; omega
  refine q_pop hM dL_law_988 rfl ?_
  refine q_goto (tgt := 1457) hM dL_law_989 (by decide) ?_
  exact kk _ _ _ _ hP ⟨⟨(by rw [show fI g2 3 2 = fI g 3 2 from (FRf hf1 hf2 (fun h => h) (fun h => h)), show arI g2 131 = arI g 131 from ((hf2.2.1 131 (fun h => h)).trans (hf1.2.1 131 (fun h => h)))]; exact hRl.1.1), (by rw [show fI g2 18 3 = fI g 18 3 from (FRf hf1 hf2 (fun h => h) (fun h => h)), show arI g2 158 = arI g 158 from ((hf2.2.1 158 (fun h => h)).trans (hf1.2.1 158 (fun h => h)))]; exact hRl.1.2.1), (by rw [show fI g2 30 3 = fI g 30 3 from (FRf hf1 hf2 (fun h => h) (fun h => h)), show arI g2 162 = arI g 162 from ((hf2.2.1 162 (fun h => h)).trans (hf1.2.1 162 (fun h => h)))]; exact hRl.1.2.2.1), (((FRf hf1 hf2 (fun h => h) (fun h => h))).trans (hRl.1.2.2.2.1.trans ((FRf hf1 hf2 (fun h => h) (fun h => h))).symm)), (((FRf hf1 hf2 (fun h => h) (fun h => h))).trans (hRl.1.2.2.2.2.1.trans ((FRf hf1 hf2 (fun h => h) (fun h => h))).symm)), (((FRf hf1 hf2 (fun h => h) (fun h => h))).trans (hRl.1.2.2.2.2.2.trans (congrFun ((hf2.2.1 166 (fun h => h)).trans (hf1.2.1 166 (fun h => h))) 1).symm))⟩, (fun k j hk hj => (congrFun ((hf2.2.1 (6 + 1 * k) (fun h => h)).trans (hf1.2.1 (6 + 1 * k) (fun h => h))) j).trans ((hRl.2 k j hk hj).trans (congrFun ((hf2.2.1 133 (fun h => h)).trans (hf1.2.1 133 (fun h => h))) _).symm))⟩ hW hl

set_option maxRecDepth 100000 in
set_option maxHeartbeats 4000000 in
theorem lc_root {K : KT} {cA : Nat → ClassId} {ad : Nat → Nat} {b L : Nat} {xs : Nat → Int32} {H : Heap} {locs : List Loc} {ls : Array Slot} {g : Nat → va_E} {i : Int32} (hM : MB K cA code 4 R_law) (hXB : XB K b L xs) (hL : L ≤ 3072) (hR : HasRoom K 2048 84000) (hC : Cells K 600000 7302250) (hP : PI ad cA g) (hRl : RQ g) (hi0 : 0 ≤ i.toInt) (hi : i.toInt + 6 ≤ L) (hW : WB NN ad K g H locs) (hl : lv_has ls 4 [(3, .int i), (2, .ref (ad 129)), (1, .ref (ad 0)), (0, .ref b)]) (kk : ∀ (g : Nat → va_E) (H : Heap) (locs : List Loc) (ls : Array Slot), PI ad cA g → RQ g → WB NN ad K g H locs → lv_has ls 4 [(3, .int i), (2, .ref (ad 129)), (1, .ref (ad 0)), (0, .ref b)] → XX K 600000 7302250 H locs 1457 ls []) : XX K 600000 7302250 H locs 992 ls [] := by
  have hLn : L < 1000000 := by omega
  obtain ⟨lw, lwn, hlc, h13, h14⟩ := id hP.2.2.1
  refine q_aload_n hM dL_law_992 (lv_at hl 2 rfl) ?_
  refine q_callV (As := []) (rest := []) hM hW hR hC myX11_root (kAW (v_3_8 (List.mem_of_getElem? (i := 10) rfl)) rfl) (rfl : vwCl[11]? = some (RX11, TX11, 16)) rfl lb_0.1 (shO hP.1 lb_0) (p_X11_root _ _ cA ad g   hP.1 hP.2.1) ⟨by decide, by decide⟩ rfl rfl hl.1 (Nat.le_of_ble_eq_true rfl) dL_law_993 (fun v g1 H locs hp hW => ?_)
  obtain ⟨r1, rfl, hs1, hG1, hf1⟩ := hp
  have hP0 := hP
  have hP : PI ad cA g1 := PI_fr hP0 hs1 hG1 hf1 (fun h => h) (fun h => h) (fun h => h) (fun h => h) (fun h => h) (fun h => h) (fun h => h) (fun h => h) (fun h => h)
  refine q_pop hM dL_law_996 rfl ?_
  refine q_aload_n hM dL_law_997 (lv_at hl 1 rfl) ?_
  refine q_callV (As := []) (rest := []) hM hW hR hC myX12_root (kAW (v_5_6 (List.mem_of_getElem? (i := 10) rfl)) rfl) (rfl : vwCl[12]? = some (RX12, TX12, 86)) rfl lb_129.1 (shO hP.1 lb_129) (p_X12_root _ _ cA ad g1  hP.1 hP.2.1) ⟨by decide, by decide⟩ rfl rfl hl.1 (Nat.le_of_ble_eq_true rfl) dL_law_998 (fun v g2 H locs hp hW => ?_)
  obtain ⟨r2, rfl, hs2, hG2, hf2⟩ := hp
  have hP1 := hP
  have hP : PI ad cA g2 := PI_fr hP1 hs2 hG2 hf2 (fun h => h) (fun h => h) (fun h => h) (fun h => h) (fun h => h) (fun h => h) (fun h => h) (fun h => h) (fun h => h)
  refine q_pop hM dL_law_1001 rfl ?_
  refine q_goto (tgt := 1457) hM dL_law_1002 (by decide) ?_
  exact kk _ _ _ _ hP ⟨⟨(by rw [show fI g2 3 2 = fI g 3 2 from (FRf hf1 hf2 (fun h => h) (fun h => h)), show arI g2 131 = arI g 131 from ((hf2.2.1 131 (fun h => h)).trans (hf1.2.1 131 (fun h => h)))]; exact hRl.1.1), (by rw [show fI g2 18 3 = fI g 18 3 from (FRf hf1 hf2 (fun h => h) (fun h => h)), show arI g2 158 = arI g 158 from ((hf2.2.1 158 (fun h => h)).trans (hf1.2.1 158 (fun h => h)))]; exact hRl.1.2.1), (by rw [show fI g2 30 3 = fI g 30 3 from (FRf hf1 hf2 (fun h => h) (fun h => h)), show arI g2 162 = arI g 162 from ((hf2.2.1 162 (fun h => h)).trans (hf1.2.1 162 (fun h => h)))]; exact hRl.1.2.2.1), (((FRf hf1 hf2 (fun h => h) (fun h => h))).trans (hRl.1.2.2.2.1.trans ((FRf hf1 hf2 (fun h => h) (fun h => h))).symm)), (((FRf hf1 hf2 (fun h => h) (fun h => h))).trans (hRl.1.2.2.2.2.1.trans ((FRf hf1 hf2 (fun h => h) (fun h => h))).symm)), (((FRf hf1 hf2 (fun h => h) (fun h => h))).trans (hRl.1.2.2.2.2.2.trans (congrFun ((hf2.2.1 166 (fun h => h)).trans (hf1.2.1 166 (fun h => h))) 1).symm))⟩, (fun k j hk hj => (congrFun ((hf2.2.1 (6 + 1 * k) (fun h => h)).trans (hf1.2.1 (6 + 1 * k) (fun h => h))) j).trans ((hRl.2 k j hk hj).trans (congrFun ((hf2.2.1 133 (fun h => h)).trans (hf1.2.1 133 (fun h => h))) _).symm))⟩ hW hl

set_option maxRecDepth 100000 in
set_option maxHeartbeats 4000000 in
theorem lc_kin {K : KT} {cA : Nat → ClassId} {ad : Nat → Nat} {b L : Nat} {xs : Nat → Int32} {H : Heap} {locs : List Loc} {ls : Array Slot} {g : Nat → va_E} {i : Int32} (hM : MB K cA code 4 R_law) (hXB : XB K b L xs) (hL : L ≤ 3072) (hR : HasRoom K 2048 84000) (hC : Cells K 600000 7302250) (hP : PI ad cA g) (hRl : RQ g) (hi0 : 0 ≤ i.toInt) (hi : i.toInt + 6 ≤ L) (hW : WB NN ad K g H locs) (hl : lv_has ls 4 [(3, .int i), (2, .ref (ad 129)), (1, .ref (ad 0)), (0, .ref b)]) (kk : ∀ (g : Nat → va_E) (H : Heap) (locs : List Loc) (ls : Array Slot), PI ad cA g → RQ g → WB NN ad K g H locs → lv_has ls 4 [(3, .int i), (2, .ref (ad 129)), (1, .ref (ad 0)), (0, .ref b)] → XX K 600000 7302250 H locs 1457 ls []) : XX K 600000 7302250 H locs 1005 ls [] := by
  have hLn : L < 1000000 := by omega
  obtain ⟨lw, lwn, hlc, h13, h14⟩ := id hP.2.2.1
  refine q_aload_n hM dL_law_1005 (lv_at hl 2 rfl) ?_
  refine q_aload_n hM dL_law_1006 (lv_at hl 3 rfl) ?_
  refine q_iload_n hM dL_law_1007 (lv_at hl 0 rfl) ?_
  refine q_iconst (v := (1 : Int32)) hM dL_law_1008 (by decide) ?_
  refine q_iadd hM dL_law_1009 (fun z13969 hz13969 => ?_)
  have tz13969 := i_addT hz13969 (rfl : i.toInt = i.toInt) (kc_1 : (1 : Int32).toInt = 1) (by omega) (by omega)
  refine s_iald z13969.toInt.toNat hM hW hXB (by omega) (by omega) (by omega) dL_law_1010 ?_
  refine q_top (fun a13970 ha13970 => ?_)
  refine q_callV (As := [.int a13970]) (rest := []) hM hW hR hC myX11_kin (kAW (v_3_8 (List.mem_of_getElem? (i := 14) rfl)) rfl) (rfl : vwCl[11]? = some (RX11, TX11, 16)) rfl lb_0.1 (shO hP.1 lb_0) (p_X11_kin _ _ cA ad g a13970  hP.1 hP.2.1) ⟨by decide, by decide⟩ rfl rfl hl.1 (Nat.le_of_ble_eq_true rfl) dL_law_1011 (fun v g1 H locs hp hW => ?_)
  obtain ⟨r1, rfl, hs1, hG1, hf1⟩ := hp
  have hP0 := hP
  have hP : PI ad cA g1 := PI_fr hP0 hs1 hG1 hf1 (fun h => h) (fun h => h) (fun h => h) (fun h => h) (fun h => h) (fun h => h) (fun h => h) (fun h => h) (fun h => h)
  refine q_pop hM dL_law_1014 rfl ?_
  refine q_aload_n hM dL_law_1015 (lv_at hl 1 rfl) ?_
  refine q_aload_n hM dL_law_1016 (lv_at hl 3 rfl) ?_
  refine q_iload_n hM dL_law_1017 (lv_at hl 0 rfl) ?_
  refine q_iconst (v := (1 : Int32)) hM dL_law_1018 (by decide) ?_
  refine q_iadd hM dL_law_1019 (fun z13971 hz13971 => ?_)
  have tz13971 := i_addT hz13971 (rfl : i.toInt = i.toInt) (kc_1 : (1 : Int32).toInt = 1) (by omega) (by omega)
  refine s_iald z13971.toInt.toNat hM hW hXB (by omega) (by omega) (by omega) dL_law_1020 ?_
  refine q_top (fun a13972 ha13972 => ?_)
  refine q_callV (As := [.int a13972]) (rest := []) hM hW hR hC myX12_kin (kAW (v_5_7 (List.mem_of_getElem? (i := 1) rfl)) rfl) (rfl : vwCl[12]? = some (RX12, TX12, 86)) rfl lb_129.1 (shO hP.1 lb_129) (p_X12_kin _ _ cA ad g1 a13972 hP.1 hP.2.1) ⟨by decide, by decide⟩ rfl rfl hl.1 (Nat.le_of_ble_eq_true rfl) dL_law_1021 (fun v g2 H locs hp hW => ?_)
  obtain ⟨r2, rfl, hs2, hG2, hf2⟩ := hp
  have hP1 := hP
  have hP : PI ad cA g2 := PI_fr hP1 hs2 hG2 hf2 (fun h => h) (fun h => h) (fun h => h) (fun h => h) (fun h => h) (fun h => h) (fun h => h) (fun h => h) (fun h => h)
  have qa13972 : a13972 = a13970 := by rw [ha13972, ha13970]; congr 1; omega
  refine q_pop hM dL_law_1024 rfl ?_
  refine q_goto (tgt := 1457) hM dL_law_1025 (by decide) ?_
  exact kk _ _ _ _ hP ⟨⟨(by rw [show fI g2 3 2 = fI g 3 2 from (FRf hf1 hf2 (fun h => h) (fun h => h)), show arI g2 131 = arI g 131 from ((hf2.2.1 131 (fun h => h)).trans (hf1.2.1 131 (fun h => h)))]; exact hRl.1.1), (by rw [show fI g2 18 3 = fI g 18 3 from (FRf hf1 hf2 (fun h => h) (fun h => h)), show arI g2 158 = arI g 158 from ((hf2.2.1 158 (fun h => h)).trans (hf1.2.1 158 (fun h => h)))]; exact hRl.1.2.1), (by rw [show fI g2 30 3 = fI g 30 3 from (FRf hf1 hf2 (fun h => h) (fun h => h)), show arI g2 162 = arI g 162 from ((hf2.2.1 162 (fun h => h)).trans (hf1.2.1 162 (fun h => h)))]; exact hRl.1.2.2.1), (((FRf hf1 hf2 (fun h => h) (fun h => h))).trans (hRl.1.2.2.2.1.trans ((FRf hf1 hf2 (fun h => h) (fun h => h))).symm)), (((FRf hf1 hf2 (fun h => h) (fun h => h))).trans (hRl.1.2.2.2.2.1.trans ((FRf hf1 hf2 (fun h => h) (fun h => h))).symm)), (((FRf hf1 hf2 (fun h => h) (fun h => h))).trans (hRl.1.2.2.2.2.2.trans (congrFun ((hf2.2.1 166 (fun h => h)).trans (hf1.2.1 166 (fun h => h))) 1).symm))⟩, (fun k j hk hj => (congrFun ((hf2.2.1 (6 + 1 * k) (fun h => h)).trans (hf1.2.1 (6 + 1 * k) (fun h => h))) j).trans ((hRl.2 k j hk hj).trans (congrFun ((hf2.2.1 133 (fun h => h)).trans (hf1.2.1 133 (fun h => h))) _).symm))⟩ hW hl

set_option maxRecDepth 100000 in
set_option maxHeartbeats 4000000 in
theorem lc_questions {K : KT} {cA : Nat → ClassId} {ad : Nat → Nat} {b L : Nat} {xs : Nat → Int32} {H : Heap} {locs : List Loc} {ls : Array Slot} {g : Nat → va_E} {i : Int32} (hM : MB K cA code 4 R_law) (hXB : XB K b L xs) (hL : L ≤ 3072) (hR : HasRoom K 2048 84000) (hC : Cells K 600000 7302250) (hP : PI ad cA g) (hRl : RQ g) (hi0 : 0 ≤ i.toInt) (hi : i.toInt + 6 ≤ L) (hW : WB NN ad K g H locs) (hl : lv_has ls 4 [(3, .int i), (2, .ref (ad 129)), (1, .ref (ad 0)), (0, .ref b)]) (kk : ∀ (g : Nat → va_E) (H : Heap) (locs : List Loc) (ls : Array Slot), PI ad cA g → RQ g → WB NN ad K g H locs → lv_has ls 4 [(3, .int i), (2, .ref (ad 129)), (1, .ref (ad 0)), (0, .ref b)] → XX K 600000 7302250 H locs 1457 ls []) : XX K 600000 7302250 H locs 1028 ls [] := by
  have hLn : L < 1000000 := by omega
  obtain ⟨lw, lwn, hlc, h13, h14⟩ := id hP.2.2.1
  refine q_aload_n hM dL_law_1028 (lv_at hl 2 rfl) ?_
  refine q_aload_n hM dL_law_1029 (lv_at hl 3 rfl) ?_
  refine q_iload_n hM dL_law_1030 (lv_at hl 0 rfl) ?_
  refine q_iconst (v := (1 : Int32)) hM dL_law_1031 (by decide) ?_
  refine q_iadd hM dL_law_1032 (fun z13973 hz13973 => ?_)
  have tz13973 := i_addT hz13973 (rfl : i.toInt = i.toInt) (kc_1 : (1 : Int32).toInt = 1) (by omega) (by omega)
  refine s_iald z13973.toInt.toNat hM hW hXB (by omega) (by omega) (by omega) dL_law_1033 ?_
  refine q_top (fun a13974 ha13974 => ?_)
  refine q_aload_n hM dL_law_1034 (lv_at hl 3 rfl) ?_
  refine q_iload_n hM dL_law_1035 (lv_at hl 0 rfl) ?_
  refine q_iconst (v := (2 : Int32)) hM dL_law_1036 (by decide) ?_
  refine q_iadd hM dL_law_1037 (fun z13975 hz13975 => ?_)
  have tz13975 := i_addT hz13975 (rfl : i.toInt = i.toInt) (kc_2 : (2 : Int32).toInt = 2) (by omega) (by omega)
  refine s_iald z13975.toInt.toNat hM hW hXB (by omega) (by omega) (by omega) dL_law_1038 ?_
  refine q_top (fun a13976 ha13976 => ?_)
  refine q_callV (As := [.int a13974, .int a13976]) (rest := []) hM hW hR hC myX11_questions (kAW (v_3_9 (List.mem_of_getElem? (i := 14) rfl)) rfl) (rfl : vwCl[11]? = some (RX11, TX11, 16)) rfl lb_0.1 (shO hP.1 lb_0) (p_X11_questions _ _ cA ad g a13974 a13976  hP.1 hP.2.1) ⟨by decide, by decide⟩ rfl rfl hl.1 (Nat.le_of_ble_eq_true rfl) dL_law_1039 (fun v g1 H locs hp hW => ?_)
  obtain ⟨r1, rfl, hs1, hG1, hf1⟩ := hp
  have hP0 := hP
  have hP : PI ad cA g1 := PI_fr hP0 hs1 hG1 hf1 (fun h => h) (fun h => h) (fun h => h) (fun h => h) (fun h => h) (fun h => h) (fun h => h) (fun h => h) (fun h => h)
  refine q_pop hM dL_law_1042 rfl ?_
  refine q_aload_n hM dL_law_1043 (lv_at hl 1 rfl) ?_
  refine q_aload_n hM dL_law_1044 (lv_at hl 3 rfl) ?_
  refine q_iload_n hM dL_law_1045 (lv_at hl 0 rfl) ?_
  refine q_iconst (v := (1 : Int32)) hM dL_law_1046 (by decide) ?_
  refine q_iadd hM dL_law_1047 (fun z13977 hz13977 => ?_)
  have tz13977 := i_addT hz13977 (rfl : i.toInt = i.toInt) (kc_1 : (1 : Int32).toInt = 1) (by omega) (by omega)
  refine s_iald z13977.toInt.toNat hM hW hXB (by omega) (by omega) (by omega) dL_law_1048 ?_
  refine q_top (fun a13978 ha13978 => ?_)
  refine q_aload_n hM dL_law_1049 (lv_at hl 3 rfl) ?_
  refine q_iload_n hM dL_law_1050 (lv_at hl 0 rfl) ?_
  refine q_iconst (v := (2 : Int32)) hM dL_law_1051 (by decide) ?_
  refine q_iadd hM dL_law_1052 (fun z13979 hz13979 => ?_)
  have tz13979 := i_addT hz13979 (rfl : i.toInt = i.toInt) (kc_2 : (2 : Int32).toInt = 2) (by omega) (by omega)
  refine s_iald z13979.toInt.toNat hM hW hXB (by omega) (by omega) (by omega) dL_law_1053 ?_
  refine q_top (fun a13980 ha13980 => ?_)
  refine q_callV (As := [.int a13978, .int a13980]) (rest := []) hM hW hR hC myX12_questions (kAW (v_7_0 (List.mem_of_getElem? (i := 6) rfl)) rfl) (rfl : vwCl[12]? = some (RX12, TX12, 86)) rfl lb_129.1 (shO hP.1 lb_129) (p_X12_questions _ _ cA ad g1 a13978 a13980 hP.1 hP.2.1) ⟨by decide, by decide⟩ rfl rfl hl.1 (Nat.le_of_ble_eq_true rfl) dL_law_1054 (fun v g2 H locs hp hW => ?_)
  obtain ⟨r2, rfl, hs2, hG2, hf2⟩ := hp
  have hP1 := hP
  have hP : PI ad cA g2 := PI_fr hP1 hs2 hG2 hf2 (fun h => h) (fun h => h) (fun h => h) (fun h => h) (fun h => h) (fun h => h) (fun h => h) (fun h => h) (fun h => h)
  have qa13978 : a13978 = a13974 := by rw [ha13978, ha13974]; congr 1; omega
  have qa13980 : a13980 = a13976 := by rw [ha13980, ha13976]; congr 1; omega
  refine q_pop hM dL_law_1057 rfl ?_
  refine q_goto (tgt := 1457) hM dL_law_1058 (by decide) ?_
  exact kk _ _ _ _ hP ⟨⟨(by rw [show fI g2 3 2 = fI g 3 2 from (FRf hf1 hf2 (fun h => h) (fun h => h)), show arI g2 131 = arI g 131 from ((hf2.2.1 131 (fun h => h)).trans (hf1.2.1 131 (fun h => h)))]; exact hRl.1.1), (by rw [show fI g2 18 3 = fI g 18 3 from (FRf hf1 hf2 (fun h => h) (fun h => h)), show arI g2 158 = arI g 158 from ((hf2.2.1 158 (fun h => h)).trans (hf1.2.1 158 (fun h => h)))]; exact hRl.1.2.1), (by rw [show fI g2 30 3 = fI g 30 3 from (FRf hf1 hf2 (fun h => h) (fun h => h)), show arI g2 162 = arI g 162 from ((hf2.2.1 162 (fun h => h)).trans (hf1.2.1 162 (fun h => h)))]; exact hRl.1.2.2.1), (((FRf hf1 hf2 (fun h => h) (fun h => h))).trans (hRl.1.2.2.2.1.trans ((FRf hf1 hf2 (fun h => h) (fun h => h))).symm)), (((FRf hf1 hf2 (fun h => h) (fun h => h))).trans (hRl.1.2.2.2.2.1.trans ((FRf hf1 hf2 (fun h => h) (fun h => h))).symm)), (((FRf hf1 hf2 (fun h => h) (fun h => h))).trans (hRl.1.2.2.2.2.2.trans (congrFun ((hf2.2.1 166 (fun h => h)).trans (hf1.2.1 166 (fun h => h))) 1).symm))⟩, (fun k j hk hj => (congrFun ((hf2.2.1 (6 + 1 * k) (fun h => h)).trans (hf1.2.1 (6 + 1 * k) (fun h => h))) j).trans ((hRl.2 k j hk hj).trans (congrFun ((hf2.2.1 133 (fun h => h)).trans (hf1.2.1 133 (fun h => h))) _).symm))⟩ hW hl

set_option maxRecDepth 100000 in
set_option maxHeartbeats 4000000 in
theorem lc_reminds {K : KT} {cA : Nat → ClassId} {ad : Nat → Nat} {b L : Nat} {xs : Nat → Int32} {H : Heap} {locs : List Loc} {ls : Array Slot} {g : Nat → va_E} {i : Int32} (hM : MB K cA code 4 R_law) (hXB : XB K b L xs) (hL : L ≤ 3072) (hR : HasRoom K 2048 84000) (hC : Cells K 600000 7302250) (hP : PI ad cA g) (hRl : RQ g) (hi0 : 0 ≤ i.toInt) (hi : i.toInt + 6 ≤ L) (hW : WB NN ad K g H locs) (hl : lv_has ls 4 [(3, .int i), (2, .ref (ad 129)), (1, .ref (ad 0)), (0, .ref b)]) (kk : ∀ (g : Nat → va_E) (H : Heap) (locs : List Loc) (ls : Array Slot), PI ad cA g → RQ g → WB NN ad K g H locs → lv_has ls 4 [(3, .int i), (2, .ref (ad 129)), (1, .ref (ad 0)), (0, .ref b)] → XX K 600000 7302250 H locs 1457 ls []) : XX K 600000 7302250 H locs 1061 ls [] := by
  have hLn : L < 1000000 := by omega
  obtain ⟨lw, lwn, hlc, h13, h14⟩ := id hP.2.2.1
  refine q_aload_n hM dL_law_1061 (lv_at hl 2 rfl) ?_
  refine q_aload_n hM dL_law_1062 (lv_at hl 3 rfl) ?_
  refine q_iload_n hM dL_law_1063 (lv_at hl 0 rfl) ?_
  refine q_iconst (v := (1 : Int32)) hM dL_law_1064 (by decide) ?_
  refine q_iadd hM dL_law_1065 (fun z13981 hz13981 => ?_)
  have tz13981 := i_addT hz13981 (rfl : i.toInt = i.toInt) (kc_1 : (1 : Int32).toInt = 1) (by omega) (by omega)
  refine s_iald z13981.toInt.toNat hM hW hXB (by omega) (by omega) (by omega) dL_law_1066 ?_
  refine q_top (fun a13982 ha13982 => ?_)
  refine q_aload_n hM dL_law_1067 (lv_at hl 3 rfl) ?_
  refine q_iload_n hM dL_law_1068 (lv_at hl 0 rfl) ?_
  refine q_iconst (v := (2 : Int32)) hM dL_law_1069 (by decide) ?_
  refine q_iadd hM dL_law_1070 (fun z13983 hz13983 => ?_)
  have tz13983 := i_addT hz13983 (rfl : i.toInt = i.toInt) (kc_2 : (2 : Int32).toInt = 2) (by omega) (by omega)
  refine s_iald z13983.toInt.toNat hM hW hXB (by omega) (by omega) (by omega) dL_law_1071 ?_
  refine q_top (fun a13984 ha13984 => ?_)
  refine q_aload_n hM dL_law_1072 (lv_at hl 3 rfl) ?_
  refine q_iload_n hM dL_law_1073 (lv_at hl 0 rfl) ?_
  refine q_iconst (v := (3 : Int32)) hM dL_law_1074 (by decide) ?_
  refine q_iadd hM dL_law_1075 (fun z13985 hz13985 => ?_)
  have tz13985 := i_addT hz13985 (rfl : i.toInt = i.toInt) (kc_3 : (3 : Int32).toInt = 3) (by omega) (by omega)
  refine s_iald z13985.toInt.toNat hM hW hXB (by omega) (by omega) (by omega) dL_law_1076 ?_
  refine q_top (fun a13986 ha13986 => ?_)
  refine q_callV (As := [.int a13982, .int a13984, .int a13986]) (rest := []) hM hW hR hC myX11_reminds (kAW (v_3_10 (List.mem_of_getElem? (i := 15) rfl)) rfl) (rfl : vwCl[11]? = some (RX11, TX11, 16)) rfl lb_0.1 (shO hP.1 lb_0) (p_X11_reminds _ _ cA ad g a13982 a13984 a13986  hP.1 hP.2.1) ⟨by decide, by decide⟩ rfl rfl hl.1 (Nat.le_of_ble_eq_true rfl) dL_law_1077 (fun v g1 H locs hp hW => ?_)
  obtain ⟨r1, rfl, hs1, hG1, hf1, ha1⟩ := hp
  have hP0 := hP
  have hP : PI ad cA g1 := PI_fr hP0 hs1 hG1 hf1 (by first | decide | omega) (by first | decide | omega) (by first | decide | omega) (by first | decide | omega) (by first | decide | omega) (by first | decide | omega) (by first | decide | omega) (by first | decide | omega) (by first | decide | omega)
  refine q_pop hM dL_law_1080 rfl ?_
  refine q_aload_n hM dL_law_1081 (lv_at hl 1 rfl) ?_
  refine q_aload_n hM dL_law_1082 (lv_at hl 3 rfl) ?_
  refine q_iload_n hM dL_law_1083 (lv_at hl 0 rfl) ?_
  refine q_iconst (v := (1 : Int32)) hM dL_law_1084 (by decide) ?_
  refine q_iadd hM dL_law_1085 (fun z13987 hz13987 => ?_)
  have tz13987 := i_addT hz13987 (rfl : i.toInt = i.toInt) (kc_1 : (1 : Int32).toInt = 1) (by omega) (by omega)
  refine s_iald z13987.toInt.toNat hM hW hXB (by omega) (by omega) (by omega) dL_law_1086 ?_
  refine q_top (fun a13988 ha13988 => ?_)
  refine q_aload_n hM dL_law_1087 (lv_at hl 3 rfl) ?_
  refine q_iload_n hM dL_law_1088 (lv_at hl 0 rfl) ?_
  refine q_iconst (v := (2 : Int32)) hM dL_law_1089 (by decide) ?_
  refine q_iadd hM dL_law_1090 (fun z13989 hz13989 => ?_)
  have tz13989 := i_addT hz13989 (rfl : i.toInt = i.toInt) (kc_2 : (2 : Int32).toInt = 2) (by omega) (by omega)
  refine s_iald z13989.toInt.toNat hM hW hXB (by omega) (by omega) (by omega) dL_law_1091 ?_
  refine q_top (fun a13990 ha13990 => ?_)
  refine q_aload_n hM dL_law_1092 (lv_at hl 3 rfl) ?_
  refine q_iload_n hM dL_law_1093 (lv_at hl 0 rfl) ?_
  refine q_iconst (v := (3 : Int32)) hM dL_law_1094 (by decide) ?_
  refine q_iadd hM dL_law_1095 (fun z13991 hz13991 => ?_)
  have tz13991 := i_addT hz13991 (rfl : i.toInt = i.toInt) (kc_3 : (3 : Int32).toInt = 3) (by omega) (by omega)
  refine s_iald z13991.toInt.toNat hM hW hXB (by omega) (by omega) (by omega) dL_law_1096 ?_
  refine q_top (fun a13992 ha13992 => ?_)
  refine q_callV (As := [.int a13988, .int a13990, .int a13992]) (rest := []) hM hW hR hC myX12_reminds (kAW (v_7_1 (List.mem_of_getElem? (i := 3) rfl)) rfl) (rfl : vwCl[12]? = some (RX12, TX12, 86)) rfl lb_129.1 (shO hP.1 lb_129) (p_X12_reminds _ _ cA ad g1 a13988 a13990 a13992 hP.1 hP.2.1) ⟨by decide, by decide⟩ rfl rfl hl.1 (Nat.le_of_ble_eq_true rfl) dL_law_1097 (fun v g2 H locs hp hW => ?_)
  obtain ⟨r2, rfl, hs2, hG2, hf2, ha2⟩ := hp
  have hP1 := hP
  have hP : PI ad cA g2 := PI_fr hP1 hs2 hG2 hf2 (by first | decide | omega) (by first | decide | omega) (by first | decide | omega) (by first | decide | omega) (by first | decide | omega) (by first | decide | omega) (by first | decide | omega) (by first | decide | omega) (by first | decide | omega)
  have qa13988 : a13988 = a13982 := by rw [ha13988, ha13982]; congr 1; omega
  have qa13990 : a13990 = a13984 := by rw [ha13990, ha13984]; congr 1; omega
  have qa13992 : a13992 = a13986 := by rw [ha13992, ha13986]; congr 1; omega
  first | rw [qa13988] at ha2 | skip
  first | rw [qa13990] at ha2 | skip
  first | rw [qa13992] at ha2 | skip
  refine q_pop hM dL_law_1100 rfl ?_
  refine q_goto (tgt := 1457) hM dL_law_1101 (by decide) ?_
  exact kk _ _ _ _ hP ⟨⟨(by rw [show fI g2 3 2 = fI g 3 2 from (FRf hf1 hf2 (by first | decide | omega) (by first | decide | omega)), show arI g2 131 = arI g 131 from ((hf2.2.1 131 (by first | decide | omega)).trans (hf1.2.1 131 (by first | decide | omega)))]; exact hRl.1.1), (by rw [show fI g2 18 3 = fI g 18 3 from (FRf hf1 hf2 (by first | decide | omega) (by first | decide | omega)), show arI g2 158 = arI g 158 from ((hf2.2.1 158 (by first | decide | omega)).trans (hf1.2.1 158 (by first | decide | omega)))]; exact hRl.1.2.1), (by rw [show fI g2 30 3 = fI g 30 3 from (FRf hf1 hf2 (by first | decide | omega) (by first | decide | omega)), show arI g2 162 = arI g 162 from ((hf2.2.1 162 (by first | decide | omega)).trans (hf1.2.1 162 (by first | decide | omega)))]; exact hRl.1.2.2.1), (((FRf hf1 hf2 (by first | decide | omega) (by first | decide | omega))).trans (hRl.1.2.2.2.1.trans ((FRf hf1 hf2 (by first | decide | omega) (by first | decide | omega))).symm)), (((FRf hf1 hf2 (by first | decide | omega) (by first | decide | omega))).trans (hRl.1.2.2.2.2.1.trans ((FRf hf1 hf2 (by first | decide | omega) (by first | decide | omega))).symm)), (((FRf hf1 hf2 (by first | decide | omega) (by first | decide | omega))).trans (hRl.1.2.2.2.2.2.trans (congrFun ((hf2.2.1 166 (by first | decide | omega)).trans (hf1.2.1 166 (by first | decide | omega))) 1).symm))⟩, (fun k j hk hj => (congrFun ((hf2.2.1 (6 + 1 * k) (by first | decide | omega)).trans (hf1.2.1 (6 + 1 * k) (by first | decide | omega))) j).trans ((hRl.2 k j hk hj).trans (congrFun ((hf2.2.1 133 (by first | decide | omega)).trans (hf1.2.1 133 (by first | decide | omega))) _).symm))⟩ hW hl

set_option maxRecDepth 100000 in
set_option maxHeartbeats 4000000 in
theorem lc_parted {K : KT} {cA : Nat → ClassId} {ad : Nat → Nat} {b L : Nat} {xs : Nat → Int32} {H : Heap} {locs : List Loc} {ls : Array Slot} {g : Nat → va_E} {i : Int32} (hM : MB K cA code 4 R_law) (hXB : XB K b L xs) (hL : L ≤ 3072) (hR : HasRoom K 2048 84000) (hC : Cells K 600000 7302250) (hP : PI ad cA g) (hRl : RQ g) (hi0 : 0 ≤ i.toInt) (hi : i.toInt + 6 ≤ L) (hW : WB NN ad K g H locs) (hl : lv_has ls 4 [(3, .int i), (2, .ref (ad 129)), (1, .ref (ad 0)), (0, .ref b)]) (kk : ∀ (g : Nat → va_E) (H : Heap) (locs : List Loc) (ls : Array Slot), PI ad cA g → RQ g → WB NN ad K g H locs → lv_has ls 4 [(3, .int i), (2, .ref (ad 129)), (1, .ref (ad 0)), (0, .ref b)] → XX K 600000 7302250 H locs 1457 ls []) : XX K 600000 7302250 H locs 1104 ls [] := by
  have hLn : L < 1000000 := by omega
  obtain ⟨lw, lwn, hlc, h13, h14⟩ := id hP.2.2.1
  refine q_aload_n hM dL_law_1104 (lv_at hl 2 rfl) ?_
  refine q_aload_n hM dL_law_1105 (lv_at hl 3 rfl) ?_
  refine q_iload_n hM dL_law_1106 (lv_at hl 0 rfl) ?_
  refine q_iconst (v := (1 : Int32)) hM dL_law_1107 (by decide) ?_
  refine q_iadd hM dL_law_1108 (fun z13993 hz13993 => ?_)
  have tz13993 := i_addT hz13993 (rfl : i.toInt = i.toInt) (kc_1 : (1 : Int32).toInt = 1) (by omega) (by omega)
  refine s_iald z13993.toInt.toNat hM hW hXB (by omega) (by omega) (by omega) dL_law_1109 ?_
  refine q_top (fun a13994 ha13994 => ?_)
  refine q_aload_n hM dL_law_1110 (lv_at hl 3 rfl) ?_
  refine q_iload_n hM dL_law_1111 (lv_at hl 0 rfl) ?_
  refine q_iconst (v := (2 : Int32)) hM dL_law_1112 (by decide) ?_
  refine q_iadd hM dL_law_1113 (fun z13995 hz13995 => ?_)
  have tz13995 := i_addT hz13995 (rfl : i.toInt = i.toInt) (kc_2 : (2 : Int32).toInt = 2) (by omega) (by omega)
  refine s_iald z13995.toInt.toNat hM hW hXB (by omega) (by omega) (by omega) dL_law_1114 ?_
  refine q_top (fun a13996 ha13996 => ?_)
  refine q_callV (As := [.int a13994, .int a13996]) (rest := []) hM hW hR hC myX11_parted (kAW (v_3_11 (List.mem_of_getElem? (i := 3) rfl)) rfl) (rfl : vwCl[11]? = some (RX11, TX11, 16)) rfl lb_0.1 (shO hP.1 lb_0) (p_X11_parted _ _ cA ad g a13994 a13996  hP.1 hP.2.1) ⟨by decide, by decide⟩ rfl rfl hl.1 (Nat.le_of_ble_eq_true rfl) dL_law_1115 (fun v g1 H locs hp hW => ?_)
  obtain ⟨r1, rfl, hs1, hG1, hf1⟩ := hp
  have hP0 := hP
  have hP : PI ad cA g1 := PI_fr hP0 hs1 hG1 hf1 (fun h => h) (fun h => h) (fun h => h) (fun h => h) (fun h => h) (fun h => h) (fun h => h) (fun h => h) (fun h => h)
  refine q_pop hM dL_law_1118 rfl ?_
  refine q_aload_n hM dL_law_1119 (lv_at hl 1 rfl) ?_
  refine q_aload_n hM dL_law_1120 (lv_at hl 3 rfl) ?_
  refine q_iload_n hM dL_law_1121 (lv_at hl 0 rfl) ?_
  refine q_iconst (v := (1 : Int32)) hM dL_law_1122 (by decide) ?_
  refine q_iadd hM dL_law_1123 (fun z13997 hz13997 => ?_)
  have tz13997 := i_addT hz13997 (rfl : i.toInt = i.toInt) (kc_1 : (1 : Int32).toInt = 1) (by omega) (by omega)
  refine s_iald z13997.toInt.toNat hM hW hXB (by omega) (by omega) (by omega) dL_law_1124 ?_
  refine q_top (fun a13998 ha13998 => ?_)
  refine q_aload_n hM dL_law_1125 (lv_at hl 3 rfl) ?_
  refine q_iload_n hM dL_law_1126 (lv_at hl 0 rfl) ?_
  refine q_iconst (v := (2 : Int32)) hM dL_law_1127 (by decide) ?_
  refine q_iadd hM dL_law_1128 (fun z13999 hz13999 => ?_)
  have tz13999 := i_addT hz13999 (rfl : i.toInt = i.toInt) (kc_2 : (2 : Int32).toInt = 2) (by omega) (by omega)
  refine s_iald z13999.toInt.toNat hM hW hXB (by omega) (by omega) (by omega) dL_law_1129 ?_
  refine q_top (fun a14000 ha14000 => ?_)
  refine q_callV (As := [.int a13998, .int a14000]) (rest := []) hM hW hR hC myX12_parted (kAW (v_7_1 (List.mem_of_getElem? (i := 7) rfl)) rfl) (rfl : vwCl[12]? = some (RX12, TX12, 86)) rfl lb_129.1 (shO hP.1 lb_129) (p_X12_parted _ _ cA ad g1 a13998 a14000 hP.1 hP.2.1) ⟨by decide, by decide⟩ rfl rfl hl.1 (Nat.le_of_ble_eq_true rfl) dL_law_1130 (fun v g2 H locs hp hW => ?_)
  obtain ⟨r2, rfl, hs2, hG2, hf2⟩ := hp
  have hP1 := hP
  have hP : PI ad cA g2 := PI_fr hP1 hs2 hG2 hf2 (fun h => h) (fun h => h) (fun h => h) (fun h => h) (fun h => h) (fun h => h) (fun h => h) (fun h => h) (fun h => h)
  have qa13998 : a13998 = a13994 := by rw [ha13998, ha13994]; congr 1; omega
  have qa14000 : a14000 = a13996 := by rw [ha14000, ha13996]; congr 1; omega
  refine q_pop hM dL_law_1133 rfl ?_
  refine q_goto (tgt := 1457) hM dL_law_1134 (by decide) ?_
  exact kk _ _ _ _ hP ⟨⟨(by rw [show fI g2 3 2 = fI g 3 2 from (FRf hf1 hf2 (fun h => h) (fun h => h)), show arI g2 131 = arI g 131 from ((hf2.2.1 131 (fun h => h)).trans (hf1.2.1 131 (fun h => h)))]; exact hRl.1.1), (by rw [show fI g2 18 3 = fI g 18 3 from (FRf hf1 hf2 (fun h => h) (fun h => h)), show arI g2 158 = arI g 158 from ((hf2.2.1 158 (fun h => h)).trans (hf1.2.1 158 (fun h => h)))]; exact hRl.1.2.1), (by rw [show fI g2 30 3 = fI g 30 3 from (FRf hf1 hf2 (fun h => h) (fun h => h)), show arI g2 162 = arI g 162 from ((hf2.2.1 162 (fun h => h)).trans (hf1.2.1 162 (fun h => h)))]; exact hRl.1.2.2.1), (((FRf hf1 hf2 (fun h => h) (fun h => h))).trans (hRl.1.2.2.2.1.trans ((FRf hf1 hf2 (fun h => h) (fun h => h))).symm)), (((FRf hf1 hf2 (fun h => h) (fun h => h))).trans (hRl.1.2.2.2.2.1.trans ((FRf hf1 hf2 (fun h => h) (fun h => h))).symm)), (((FRf hf1 hf2 (fun h => h) (fun h => h))).trans (hRl.1.2.2.2.2.2.trans (congrFun ((hf2.2.1 166 (fun h => h)).trans (hf1.2.1 166 (fun h => h))) 1).symm))⟩, (fun k j hk hj => (congrFun ((hf2.2.1 (6 + 1 * k) (fun h => h)).trans (hf1.2.1 (6 + 1 * k) (fun h => h))) j).trans ((hRl.2 k j hk hj).trans (congrFun ((hf2.2.1 133 (fun h => h)).trans (hf1.2.1 133 (fun h => h))) _).symm))⟩ hW hl

set_option maxRecDepth 100000 in
set_option maxHeartbeats 4000000 in
theorem lc_skill {K : KT} {cA : Nat → ClassId} {ad : Nat → Nat} {b L : Nat} {xs : Nat → Int32} {H : Heap} {locs : List Loc} {ls : Array Slot} {g : Nat → va_E} {i : Int32} (hM : MB K cA code 4 R_law) (hXB : XB K b L xs) (hL : L ≤ 3072) (hR : HasRoom K 2048 84000) (hC : Cells K 600000 7302250) (hP : PI ad cA g) (hRl : RQ g) (hi0 : 0 ≤ i.toInt) (hi : i.toInt + 6 ≤ L) (hW : WB NN ad K g H locs) (hl : lv_has ls 4 [(3, .int i), (2, .ref (ad 129)), (1, .ref (ad 0)), (0, .ref b)]) (kk : ∀ (g : Nat → va_E) (H : Heap) (locs : List Loc) (ls : Array Slot), PI ad cA g → RQ g → WB NN ad K g H locs → lv_has ls 4 [(3, .int i), (2, .ref (ad 129)), (1, .ref (ad 0)), (0, .ref b)] → XX K 600000 7302250 H locs 1457 ls []) : XX K 600000 7302250 H locs 1137 ls [] := by
  have hLn : L < 1000000 := by omega
  obtain ⟨lw, lwn, hlc, h13, h14⟩ := id hP.2.2.1
  refine q_aload_n hM dL_law_1137 (lv_at hl 2 rfl) ?_
  refine q_aload_n hM dL_law_1138 (lv_at hl 3 rfl) ?_
  refine q_iload_n hM dL_law_1139 (lv_at hl 0 rfl) ?_
  refine q_iconst (v := (1 : Int32)) hM dL_law_1140 (by decide) ?_
  refine q_iadd hM dL_law_1141 (fun z14001 hz14001 => ?_)
  have tz14001 := i_addT hz14001 (rfl : i.toInt = i.toInt) (kc_1 : (1 : Int32).toInt = 1) (by omega) (by omega)
  refine s_iald z14001.toInt.toNat hM hW hXB (by omega) (by omega) (by omega) dL_law_1142 ?_
  refine q_top (fun a14002 ha14002 => ?_)
  refine q_aload_n hM dL_law_1143 (lv_at hl 3 rfl) ?_
  refine q_iload_n hM dL_law_1144 (lv_at hl 0 rfl) ?_
  refine q_iconst (v := (2 : Int32)) hM dL_law_1145 (by decide) ?_
  refine q_iadd hM dL_law_1146 (fun z14003 hz14003 => ?_)
  have tz14003 := i_addT hz14003 (rfl : i.toInt = i.toInt) (kc_2 : (2 : Int32).toInt = 2) (by omega) (by omega)
  refine s_iald z14003.toInt.toNat hM hW hXB (by omega) (by omega) (by omega) dL_law_1147 ?_
  refine q_top (fun a14004 ha14004 => ?_)
  refine q_aload_n hM dL_law_1148 (lv_at hl 3 rfl) ?_
  refine q_iload_n hM dL_law_1149 (lv_at hl 0 rfl) ?_
  refine q_iconst (v := (3 : Int32)) hM dL_law_1150 (by decide) ?_
  refine q_iadd hM dL_law_1151 (fun z14005 hz14005 => ?_)
  have tz14005 := i_addT hz14005 (rfl : i.toInt = i.toInt) (kc_3 : (3 : Int32).toInt = 3) (by omega) (by omega)
  refine s_iald z14005.toInt.toNat hM hW hXB (by omega) (by omega) (by omega) dL_law_1152 ?_
  refine q_top (fun a14006 ha14006 => ?_)
  refine q_callV (As := [.int a14002, .int a14004, .int a14006]) (rest := []) hM hW hR hC myX11_skill (kAW (v_3_12 (List.mem_of_getElem? (i := 3) rfl)) rfl) (rfl : vwCl[11]? = some (RX11, TX11, 16)) rfl lb_0.1 (shO hP.1 lb_0) (p_X11_skill _ _ cA ad g a14002 a14004 a14006  hP.1 hP.2.1) ⟨by decide, by decide⟩ rfl rfl hl.1 (Nat.le_of_ble_eq_true rfl) dL_law_1153 (fun v g1 H locs hp hW => ?_)
  obtain ⟨r1, rfl, hs1, hG1, hf1, ha1⟩ := hp
  have hP0 := hP
  have hP : PI ad cA g1 := PI_fr hP0 hs1 hG1 hf1 (by first | decide | omega) (by first | decide | omega) (by first | decide | omega) (by first | decide | omega) (by first | decide | omega) (by first | decide | omega) (by first | decide | omega) (by first | decide | omega) (by first | decide | omega)
  refine q_pop hM dL_law_1156 rfl ?_
  refine q_aload_n hM dL_law_1157 (lv_at hl 1 rfl) ?_
  refine q_aload_n hM dL_law_1158 (lv_at hl 3 rfl) ?_
  refine q_iload_n hM dL_law_1159 (lv_at hl 0 rfl) ?_
  refine q_iconst (v := (1 : Int32)) hM dL_law_1160 (by decide) ?_
  refine q_iadd hM dL_law_1161 (fun z14007 hz14007 => ?_)
  have tz14007 := i_addT hz14007 (rfl : i.toInt = i.toInt) (kc_1 : (1 : Int32).toInt = 1) (by omega) (by omega)
  refine s_iald z14007.toInt.toNat hM hW hXB (by omega) (by omega) (by omega) dL_law_1162 ?_
  refine q_top (fun a14008 ha14008 => ?_)
  refine q_aload_n hM dL_law_1163 (lv_at hl 3 rfl) ?_
  refine q_iload_n hM dL_law_1164 (lv_at hl 0 rfl) ?_
  refine q_iconst (v := (2 : Int32)) hM dL_law_1165 (by decide) ?_
  refine q_iadd hM dL_law_1166 (fun z14009 hz14009 => ?_)
  have tz14009 := i_addT hz14009 (rfl : i.toInt = i.toInt) (kc_2 : (2 : Int32).toInt = 2) (by omega) (by omega)
  refine s_iald z14009.toInt.toNat hM hW hXB (by omega) (by omega) (by omega) dL_law_1167 ?_
  refine q_top (fun a14010 ha14010 => ?_)
  refine q_aload_n hM dL_law_1168 (lv_at hl 3 rfl) ?_
  refine q_iload_n hM dL_law_1169 (lv_at hl 0 rfl) ?_
  refine q_iconst (v := (3 : Int32)) hM dL_law_1170 (by decide) ?_
  refine q_iadd hM dL_law_1171 (fun z14011 hz14011 => ?_)
  have tz14011 := i_addT hz14011 (rfl : i.toInt = i.toInt) (kc_3 : (3 : Int32).toInt = 3) (by omega) (by omega)
  refine s_iald z14011.toInt.toNat hM hW hXB (by omega) (by omega) (by omega) dL_law_1172 ?_
  refine q_top (fun a14012 ha14012 => ?_)
  refine q_callV (As := [.int a14008, .int a14010, .int a14012]) (rest := []) hM hW hR hC myX12_skill (kAW (v_7_2 (List.mem_of_getElem? (i := 0) rfl)) rfl) (rfl : vwCl[12]? = some (RX12, TX12, 86)) rfl lb_129.1 (shO hP.1 lb_129) (p_X12_skill _ _ cA ad g1 a14008 a14010 a14012 hP.1 hP.2.1) ⟨by decide, by decide⟩ rfl rfl hl.1 (Nat.le_of_ble_eq_true rfl) dL_law_1173 (fun v g2 H locs hp hW => ?_)
  obtain ⟨r2, rfl, hs2, hG2, hf2, ha2⟩ := hp
  have hP1 := hP
  have hP : PI ad cA g2 := PI_fr hP1 hs2 hG2 hf2 (by first | decide | omega) (by first | decide | omega) (by first | decide | omega) (by first | decide | omega) (by first | decide | omega) (by first | decide | omega) (by first | decide | omega) (by first | decide | omega) (by first | decide | omega)
  have qa14008 : a14008 = a14002 := by rw [ha14008, ha14002]; congr 1; omega
  have qa14010 : a14010 = a14004 := by rw [ha14010, ha14004]; congr 1; omega
  have qa14012 : a14012 = a14006 := by rw [ha14012, ha14006]; congr 1; omega
  first | rw [qa14008] at ha2 | skip
  first | rw [qa14010] at ha2 | skip
  first | rw [qa14012] at ha2 | skip
  refine q_pop hM dL_law_1176 rfl ?_
  refine q_goto (tgt := 1457) hM dL_law_1177 (by decide) ?_
  exact kk _ _ _ _ hP ⟨⟨(by rw [show fI g2 3 2 = fI g 3 2 from (FRf hf1 hf2 (by first | decide | omega) (by first | decide | omega)), show arI g2 131 = arI g 131 from ((hf2.2.1 131 (by first | decide | omega)).trans (hf1.2.1 131 (by first | decide | omega)))]; exact hRl.1.1), (by rw [show fI g2 18 3 = fI g 18 3 from (FRf hf1 hf2 (by first | decide | omega) (by first | decide | omega)), show arI g2 158 = arI g 158 from ((hf2.2.1 158 (by first | decide | omega)).trans (hf1.2.1 158 (by first | decide | omega)))]; exact hRl.1.2.1), (by rw [show fI g2 30 3 = fI g 30 3 from (FRf hf1 hf2 (by first | decide | omega) (by first | decide | omega)), show arI g2 162 = arI g 162 from ((hf2.2.1 162 (by first | decide | omega)).trans (hf1.2.1 162 (by first | decide | omega)))]; exact hRl.1.2.2.1), (((FRf hf1 hf2 (by first | decide | omega) (by first | decide | omega))).trans (hRl.1.2.2.2.1.trans ((FRf hf1 hf2 (by first | decide | omega) (by first | decide | omega))).symm)), (((FRf hf1 hf2 (by first | decide | omega) (by first | decide | omega))).trans (hRl.1.2.2.2.2.1.trans ((FRf hf1 hf2 (by first | decide | omega) (by first | decide | omega))).symm)), (((FRf hf1 hf2 (by first | decide | omega) (by first | decide | omega))).trans (hRl.1.2.2.2.2.2.trans (congrFun ((hf2.2.1 166 (by first | decide | omega)).trans (hf1.2.1 166 (by first | decide | omega))) 1).symm))⟩, (fun k j hk hj => (congrFun ((hf2.2.1 (6 + 1 * k) (by first | decide | omega)).trans (hf1.2.1 (6 + 1 * k) (by first | decide | omega))) j).trans ((hRl.2 k j hk hj).trans (congrFun ((hf2.2.1 133 (by first | decide | omega)).trans (hf1.2.1 133 (by first | decide | omega))) _).symm))⟩ hW hl

set_option maxRecDepth 100000 in
set_option maxHeartbeats 4000000 in
theorem lc_taught {K : KT} {cA : Nat → ClassId} {ad : Nat → Nat} {b L : Nat} {xs : Nat → Int32} {H : Heap} {locs : List Loc} {ls : Array Slot} {g : Nat → va_E} {i : Int32} (hM : MB K cA code 4 R_law) (hXB : XB K b L xs) (hL : L ≤ 3072) (hR : HasRoom K 2048 84000) (hC : Cells K 600000 7302250) (hP : PI ad cA g) (hRl : RQ g) (hi0 : 0 ≤ i.toInt) (hi : i.toInt + 6 ≤ L) (hW : WB NN ad K g H locs) (hl : lv_has ls 4 [(3, .int i), (2, .ref (ad 129)), (1, .ref (ad 0)), (0, .ref b)]) (kk : ∀ (g : Nat → va_E) (H : Heap) (locs : List Loc) (ls : Array Slot), PI ad cA g → RQ g → WB NN ad K g H locs → lv_has ls 4 [(3, .int i), (2, .ref (ad 129)), (1, .ref (ad 0)), (0, .ref b)] → XX K 600000 7302250 H locs 1457 ls []) : XX K 600000 7302250 H locs 1180 ls [] := by
  have hLn : L < 1000000 := by omega
  obtain ⟨lw, lwn, hlc, h13, h14⟩ := id hP.2.2.1
  refine q_aload_n hM dL_law_1180 (lv_at hl 2 rfl) ?_
  refine q_aload_n hM dL_law_1181 (lv_at hl 3 rfl) ?_
  refine q_iload_n hM dL_law_1182 (lv_at hl 0 rfl) ?_
  refine q_iconst (v := (1 : Int32)) hM dL_law_1183 (by decide) ?_
  refine q_iadd hM dL_law_1184 (fun z14013 hz14013 => ?_)
  have tz14013 := i_addT hz14013 (rfl : i.toInt = i.toInt) (kc_1 : (1 : Int32).toInt = 1) (by omega) (by omega)
  refine s_iald z14013.toInt.toNat hM hW hXB (by omega) (by omega) (by omega) dL_law_1185 ?_
  refine q_top (fun a14014 ha14014 => ?_)
  refine q_aload_n hM dL_law_1186 (lv_at hl 3 rfl) ?_
  refine q_iload_n hM dL_law_1187 (lv_at hl 0 rfl) ?_
  refine q_iconst (v := (2 : Int32)) hM dL_law_1188 (by decide) ?_
  refine q_iadd hM dL_law_1189 (fun z14015 hz14015 => ?_)
  have tz14015 := i_addT hz14015 (rfl : i.toInt = i.toInt) (kc_2 : (2 : Int32).toInt = 2) (by omega) (by omega)
  refine s_iald z14015.toInt.toNat hM hW hXB (by omega) (by omega) (by omega) dL_law_1190 ?_
  refine q_top (fun a14016 ha14016 => ?_)
  refine q_aload_n hM dL_law_1191 (lv_at hl 3 rfl) ?_
  refine q_iload_n hM dL_law_1192 (lv_at hl 0 rfl) ?_
  refine q_iconst (v := (3 : Int32)) hM dL_law_1193 (by decide) ?_
  refine q_iadd hM dL_law_1194 (fun z14017 hz14017 => ?_)
  have tz14017 := i_addT hz14017 (rfl : i.toInt = i.toInt) (kc_3 : (3 : Int32).toInt = 3) (by omega) (by omega)
  refine s_iald z14017.toInt.toNat hM hW hXB (by omega) (by omega) (by omega) dL_law_1195 ?_
  refine q_top (fun a14018 ha14018 => ?_)
  refine q_callV (As := [.int a14014, .int a14016, .int a14018]) (rest := []) hM hW hR hC myX11_taught (kAW (v_3_12 (List.mem_of_getElem? (i := 7) rfl)) rfl) (rfl : vwCl[11]? = some (RX11, TX11, 16)) rfl lb_0.1 (shO hP.1 lb_0) (p_X11_taught _ _ cA ad g a14014 a14016 a14018  hP.1 hP.2.1) ⟨by decide, by decide⟩ rfl rfl hl.1 (Nat.le_of_ble_eq_true rfl) dL_law_1196 (fun v g1 H locs hp hW => ?_)
  obtain ⟨r1, rfl, hs1, hG1, hf1⟩ := hp
  have hP0 := hP
  have hP : PI ad cA g1 := PI_fr hP0 hs1 hG1 hf1 (by first | decide | omega) (by first | decide | omega) (by first | decide | omega) (by first | decide | omega) (by first | decide | omega) (by first | decide | omega) (by first | decide | omega) (by first | decide | omega) (by first | decide | omega)
  refine q_pop hM dL_law_1199 rfl ?_
  refine q_aload_n hM dL_law_1200 (lv_at hl 1 rfl) ?_
  refine q_aload_n hM dL_law_1201 (lv_at hl 3 rfl) ?_
  refine q_iload_n hM dL_law_1202 (lv_at hl 0 rfl) ?_
  refine q_iconst (v := (1 : Int32)) hM dL_law_1203 (by decide) ?_
  refine q_iadd hM dL_law_1204 (fun z14019 hz14019 => ?_)
  have tz14019 := i_addT hz14019 (rfl : i.toInt = i.toInt) (kc_1 : (1 : Int32).toInt = 1) (by omega) (by omega)
  refine s_iald z14019.toInt.toNat hM hW hXB (by omega) (by omega) (by omega) dL_law_1205 ?_
  refine q_top (fun a14020 ha14020 => ?_)
  refine q_aload_n hM dL_law_1206 (lv_at hl 3 rfl) ?_
  refine q_iload_n hM dL_law_1207 (lv_at hl 0 rfl) ?_
  refine q_iconst (v := (2 : Int32)) hM dL_law_1208 (by decide) ?_
  refine q_iadd hM dL_law_1209 (fun z14021 hz14021 => ?_)
  have tz14021 := i_addT hz14021 (rfl : i.toInt = i.toInt) (kc_2 : (2 : Int32).toInt = 2) (by omega) (by omega)
  refine s_iald z14021.toInt.toNat hM hW hXB (by omega) (by omega) (by omega) dL_law_1210 ?_
  refine q_top (fun a14022 ha14022 => ?_)
  refine q_aload_n hM dL_law_1211 (lv_at hl 3 rfl) ?_
  refine q_iload_n hM dL_law_1212 (lv_at hl 0 rfl) ?_
  refine q_iconst (v := (3 : Int32)) hM dL_law_1213 (by decide) ?_
  refine q_iadd hM dL_law_1214 (fun z14023 hz14023 => ?_)
  have tz14023 := i_addT hz14023 (rfl : i.toInt = i.toInt) (kc_3 : (3 : Int32).toInt = 3) (by omega) (by omega)
  refine s_iald z14023.toInt.toNat hM hW hXB (by omega) (by omega) (by omega) dL_law_1215 ?_
  refine q_top (fun a14024 ha14024 => ?_)
  refine q_callV (As := [.int a14020, .int a14022, .int a14024]) (rest := []) hM hW hR hC myX12_taught (kAW (v_7_2 (List.mem_of_getElem? (i := 5) rfl)) rfl) (rfl : vwCl[12]? = some (RX12, TX12, 86)) rfl lb_129.1 (shO hP.1 lb_129) (p_X12_taught _ _ cA ad g1 a14020 a14022 a14024 hP.1 hP.2.1) ⟨by decide, by decide⟩ rfl rfl hl.1 (Nat.le_of_ble_eq_true rfl) dL_law_1216 (fun v g2 H locs hp hW => ?_)
  obtain ⟨r2, rfl, hs2, hG2, hf2⟩ := hp
  have hP1 := hP
  have hP : PI ad cA g2 := PI_fr hP1 hs2 hG2 hf2 (by first | decide | omega) (by first | decide | omega) (by first | decide | omega) (by first | decide | omega) (by first | decide | omega) (by first | decide | omega) (by first | decide | omega) (by first | decide | omega) (by first | decide | omega)
  have qa14020 : a14020 = a14014 := by rw [ha14020, ha14014]; congr 1; omega
  have qa14022 : a14022 = a14016 := by rw [ha14022, ha14016]; congr 1; omega
  have qa14024 : a14024 = a14018 := by rw [ha14024, ha14018]; congr 1; omega
  refine q_pop hM dL_law_1219 rfl ?_
  refine q_goto (tgt := 1457) hM dL_law_1220 (by decide) ?_
  exact kk _ _ _ _ hP ⟨⟨(by rw [show fI g2 3 2 = fI g 3 2 from (FRf hf1 hf2 (by first | decide | omega) (by first | decide | omega)), show arI g2 131 = arI g 131 from ((hf2.2.1 131 (by first | decide | omega)).trans (hf1.2.1 131 (by first | decide | omega)))]; exact hRl.1.1), (by rw [show fI g2 18 3 = fI g 18 3 from (FRf hf1 hf2 (by first | decide | omega) (by first | decide | omega)), show arI g2 158 = arI g 158 from ((hf2.2.1 158 (by first | decide | omega)).trans (hf1.2.1 158 (by first | decide | omega)))]; exact hRl.1.2.1), (by rw [show fI g2 30 3 = fI g 30 3 from (FRf hf1 hf2 (by first | decide | omega) (by first | decide | omega)), show arI g2 162 = arI g 162 from ((hf2.2.1 162 (by first | decide | omega)).trans (hf1.2.1 162 (by first | decide | omega)))]; exact hRl.1.2.2.1), (((FRf hf1 hf2 (by first | decide | omega) (by first | decide | omega))).trans (hRl.1.2.2.2.1.trans ((FRf hf1 hf2 (by first | decide | omega) (by first | decide | omega))).symm)), (((FRf hf1 hf2 (by first | decide | omega) (by first | decide | omega))).trans (hRl.1.2.2.2.2.1.trans ((FRf hf1 hf2 (by first | decide | omega) (by first | decide | omega))).symm)), (((FRf hf1 hf2 (by first | decide | omega) (by first | decide | omega))).trans (hRl.1.2.2.2.2.2.trans (congrFun ((hf2.2.1 166 (by first | decide | omega)).trans (hf1.2.1 166 (by first | decide | omega))) 1).symm))⟩, (fun k j hk hj => (congrFun ((hf2.2.1 (6 + 1 * k) (by first | decide | omega)).trans (hf1.2.1 (6 + 1 * k) (by first | decide | omega))) j).trans ((hRl.2 k j hk hj).trans (congrFun ((hf2.2.1 133 (by first | decide | omega)).trans (hf1.2.1 133 (by first | decide | omega))) _).symm))⟩ hW hl

set_option maxRecDepth 100000 in
set_option maxHeartbeats 4000000 in
theorem lc_hummed {K : KT} {cA : Nat → ClassId} {ad : Nat → Nat} {b L : Nat} {xs : Nat → Int32} {H : Heap} {locs : List Loc} {ls : Array Slot} {g : Nat → va_E} {i : Int32} (hM : MB K cA code 4 R_law) (hXB : XB K b L xs) (hL : L ≤ 3072) (hR : HasRoom K 2048 84000) (hC : Cells K 600000 7302250) (hP : PI ad cA g) (hRl : RQ g) (hi0 : 0 ≤ i.toInt) (hi : i.toInt + 6 ≤ L) (hW : WB NN ad K g H locs) (hl : lv_has ls 4 [(3, .int i), (2, .ref (ad 129)), (1, .ref (ad 0)), (0, .ref b)]) (kk : ∀ (g : Nat → va_E) (H : Heap) (locs : List Loc) (ls : Array Slot), PI ad cA g → RQ g → WB NN ad K g H locs → lv_has ls 4 [(3, .int i), (2, .ref (ad 129)), (1, .ref (ad 0)), (0, .ref b)] → XX K 600000 7302250 H locs 1457 ls []) : XX K 600000 7302250 H locs 1223 ls [] := by
  have hLn : L < 1000000 := by omega
  obtain ⟨lw, lwn, hlc, h13, h14⟩ := id hP.2.2.1
  refine q_aload_n hM dL_law_1223 (lv_at hl 2 rfl) ?_
  refine q_aload_n hM dL_law_1224 (lv_at hl 3 rfl) ?_
  refine q_iload_n hM dL_law_1225 (lv_at hl 0 rfl) ?_
  refine q_iconst (v := (1 : Int32)) hM dL_law_1226 (by decide) ?_
  refine q_iadd hM dL_law_1227 (fun z14025 hz14025 => ?_)
  have tz14025 := i_addT hz14025 (rfl : i.toInt = i.toInt) (kc_1 : (1 : Int32).toInt = 1) (by omega) (by omega)
  refine s_iald z14025.toInt.toNat hM hW hXB (by omega) (by omega) (by omega) dL_law_1228 ?_
  refine q_top (fun a14026 ha14026 => ?_)
  refine q_aload_n hM dL_law_1229 (lv_at hl 3 rfl) ?_
  refine q_iload_n hM dL_law_1230 (lv_at hl 0 rfl) ?_
  refine q_iconst (v := (2 : Int32)) hM dL_law_1231 (by decide) ?_
  refine q_iadd hM dL_law_1232 (fun z14027 hz14027 => ?_)
  have tz14027 := i_addT hz14027 (rfl : i.toInt = i.toInt) (kc_2 : (2 : Int32).toInt = 2) (by omega) (by omega)
  refine s_iald z14027.toInt.toNat hM hW hXB (by omega) (by omega) (by omega) dL_law_1233 ?_
  refine q_top (fun a14028 ha14028 => ?_)
  refine q_aload_n hM dL_law_1234 (lv_at hl 3 rfl) ?_
  refine q_iload_n hM dL_law_1235 (lv_at hl 0 rfl) ?_
  refine q_iconst (v := (3 : Int32)) hM dL_law_1236 (by decide) ?_
  refine q_iadd hM dL_law_1237 (fun z14029 hz14029 => ?_)
  have tz14029 := i_addT hz14029 (rfl : i.toInt = i.toInt) (kc_3 : (3 : Int32).toInt = 3) (by omega) (by omega)
  refine s_iald z14029.toInt.toNat hM hW hXB (by omega) (by omega) (by omega) dL_law_1238 ?_
  refine q_top (fun a14030 ha14030 => ?_)
  refine q_callV (As := [.int a14026, .int a14028, .int a14030]) (rest := []) hM hW hR hC myX11_hummed (kAW (v_3_13 (List.mem_of_getElem? (i := 8) rfl)) rfl) (rfl : vwCl[11]? = some (RX11, TX11, 16)) rfl lb_0.1 (shO hP.1 lb_0) (p_X11_hummed _ _ cA ad g a14026 a14028 a14030  hP.1 hP.2.1) ⟨by decide, by decide⟩ rfl rfl hl.1 (Nat.le_of_ble_eq_true rfl) dL_law_1239 (fun v g1 H locs hp hW => ?_)
  obtain ⟨r1, rfl, hs1, hG1, hf1⟩ := hp
  have hP0 := hP
  have hP : PI ad cA g1 := PI_fr hP0 hs1 hG1 hf1 (by first | decide | omega) (by first | decide | omega) (by first | decide | omega) (by first | decide | omega) (by first | decide | omega) (by first | decide | omega) (by first | decide | omega) (by first | decide | omega) (by first | decide | omega)
  refine q_pop hM dL_law_1242 rfl ?_
  refine q_aload_n hM dL_law_1243 (lv_at hl 1 rfl) ?_
  refine q_aload_n hM dL_law_1244 (lv_at hl 3 rfl) ?_
  refine q_iload_n hM dL_law_1245 (lv_at hl 0 rfl) ?_
  refine q_iconst (v := (1 : Int32)) hM dL_law_1246 (by decide) ?_
  refine q_iadd hM dL_law_1247 (fun z14031 hz14031 => ?_)
  have tz14031 := i_addT hz14031 (rfl : i.toInt = i.toInt) (kc_1 : (1 : Int32).toInt = 1) (by omega) (by omega)
  refine s_iald z14031.toInt.toNat hM hW hXB (by omega) (by omega) (by omega) dL_law_1248 ?_
  refine q_top (fun a14032 ha14032 => ?_)
  refine q_aload_n hM dL_law_1249 (lv_at hl 3 rfl) ?_
  refine q_iload_n hM dL_law_1250 (lv_at hl 0 rfl) ?_
  refine q_iconst (v := (2 : Int32)) hM dL_law_1251 (by decide) ?_
  refine q_iadd hM dL_law_1252 (fun z14033 hz14033 => ?_)
  have tz14033 := i_addT hz14033 (rfl : i.toInt = i.toInt) (kc_2 : (2 : Int32).toInt = 2) (by omega) (by omega)
  refine s_iald z14033.toInt.toNat hM hW hXB (by omega) (by omega) (by omega) dL_law_1253 ?_
  refine q_top (fun a14034 ha14034 => ?_)
  refine q_aload_n hM dL_law_1254 (lv_at hl 3 rfl) ?_
  refine q_iload_n hM dL_law_1255 (lv_at hl 0 rfl) ?_
  refine q_iconst (v := (3 : Int32)) hM dL_law_1256 (by decide) ?_
  refine q_iadd hM dL_law_1257 (fun z14035 hz14035 => ?_)
  have tz14035 := i_addT hz14035 (rfl : i.toInt = i.toInt) (kc_3 : (3 : Int32).toInt = 3) (by omega) (by omega)
  refine s_iald z14035.toInt.toNat hM hW hXB (by omega) (by omega) (by omega) dL_law_1258 ?_
  refine q_top (fun a14036 ha14036 => ?_)
  refine q_callV (As := [.int a14032, .int a14034, .int a14036]) (rest := []) hM hW hR hC myX12_hummed (kAW (v_7_3 (List.mem_of_getElem? (i := 2) rfl)) rfl) (rfl : vwCl[12]? = some (RX12, TX12, 86)) rfl lb_129.1 (shO hP.1 lb_129) (p_X12_hummed _ _ cA ad g1 a14032 a14034 a14036 hP.1 hP.2.1) ⟨by decide, by decide⟩ rfl rfl hl.1 (Nat.le_of_ble_eq_true rfl) dL_law_1259 (fun v g2 H locs hp hW => ?_)
  obtain ⟨r2, rfl, hs2, hG2, hf2⟩ := hp
  have hP1 := hP
  have hP : PI ad cA g2 := PI_fr hP1 hs2 hG2 hf2 (by first | decide | omega) (by first | decide | omega) (by first | decide | omega) (by first | decide | omega) (by first | decide | omega) (by first | decide | omega) (by first | decide | omega) (by first | decide | omega) (by first | decide | omega)
  have qa14032 : a14032 = a14026 := by rw [ha14032, ha14026]; congr 1; omega
  have qa14034 : a14034 = a14028 := by rw [ha14034, ha14028]; congr 1; omega
  have qa14036 : a14036 = a14030 := by rw [ha14036, ha14030]; congr 1; omega
  refine q_pop hM dL_law_1262 rfl ?_
  refine q_goto (tgt := 1457) hM dL_law_1263 (by decide) ?_
  exact kk _ _ _ _ hP ⟨⟨(by rw [show fI g2 3 2 = fI g 3 2 from (FRf hf1 hf2 (by first | decide | omega) (by first | decide | omega)), show arI g2 131 = arI g 131 from ((hf2.2.1 131 (by first | decide | omega)).trans (hf1.2.1 131 (by first | decide | omega)))]; exact hRl.1.1), (by rw [show fI g2 18 3 = fI g 18 3 from (FRf hf1 hf2 (by first | decide | omega) (by first | decide | omega)), show arI g2 158 = arI g 158 from ((hf2.2.1 158 (by first | decide | omega)).trans (hf1.2.1 158 (by first | decide | omega)))]; exact hRl.1.2.1), (by rw [show fI g2 30 3 = fI g 30 3 from (FRf hf1 hf2 (by first | decide | omega) (by first | decide | omega)), show arI g2 162 = arI g 162 from ((hf2.2.1 162 (by first | decide | omega)).trans (hf1.2.1 162 (by first | decide | omega)))]; exact hRl.1.2.2.1), (((FRf hf1 hf2 (by first | decide | omega) (by first | decide | omega))).trans (hRl.1.2.2.2.1.trans ((FRf hf1 hf2 (by first | decide | omega) (by first | decide | omega))).symm)), (((FRf hf1 hf2 (by first | decide | omega) (by first | decide | omega))).trans (hRl.1.2.2.2.2.1.trans ((FRf hf1 hf2 (by first | decide | omega) (by first | decide | omega))).symm)), (((FRf hf1 hf2 (by first | decide | omega) (by first | decide | omega))).trans (hRl.1.2.2.2.2.2.trans (congrFun ((hf2.2.1 166 (by first | decide | omega)).trans (hf1.2.1 166 (by first | decide | omega))) 1).symm))⟩, (fun k j hk hj => (congrFun ((hf2.2.1 (6 + 1 * k) (by first | decide | omega)).trans (hf1.2.1 (6 + 1 * k) (by first | decide | omega))) j).trans ((hRl.2 k j hk hj).trans (congrFun ((hf2.2.1 133 (by first | decide | omega)).trans (hf1.2.1 133 (by first | decide | omega))) _).symm))⟩ hW hl
