theorem dX2_change_0 : decode cX2_change 0 = .ok (.aload_n 0, 1) := by decide +kernel
theorem dX2_change_1 : decode cX2_change 1 = .ok (.getfield 19, 3) := by decide +kernel
theorem dX2_change_4 : decode cX2_change 4 = .ok (.getfield 86, 3) := by decide +kernel
theorem dX2_change_7 : decode cX2_change 7 = .ok (.iload_n 1, 1) := by decide +kernel
theorem dX2_change_8 : decode cX2_change 8 = .ok (.aaload, 1) := by decide +kernel
theorem dX2_change_9 : decode cX2_change 9 = .ok (.astore 4, 2) := by decide +kernel
theorem dX2_change_11 : decode cX2_change 11 = .ok (.aload_n 0, 1) := by decide +kernel
theorem dX2_change_12 : decode cX2_change 12 = .ok (.iload_n 1, 1) := by decide +kernel
theorem dX2_change_13 : decode cX2_change 13 = .ok (.iload_n 2, 1) := by decide +kernel
theorem dX2_change_14 : decode cX2_change 14 = .ok (.invokevirtual 90, 3) := by decide +kernel
theorem dX2_change_17 : decode cX2_change 17 = .ok (.astore 5, 2) := by decide +kernel
theorem dX2_change_19 : decode cX2_change 19 = .ok (.iload_n 3, 1) := by decide +kernel
theorem dX2_change_20 : decode cX2_change 20 = .ok (.iconst 3, 1) := by decide +kernel
theorem dX2_change_21 : decode cX2_change 21 = .ok (.if_icmp .ne 31, 3) := by decide +kernel
theorem dX2_change_24 : decode cX2_change 24 = .ok (.aload 4, 2) := by decide +kernel
theorem dX2_change_26 : decode cX2_change 26 = .ok (.iload_n 2, 1) := by decide +kernel
theorem dX2_change_27 : decode cX2_change 27 = .ok (.bipush 99, 2) := by decide +kernel
theorem dX2_change_29 : decode cX2_change 29 = .ok (.aload 4, 2) := by decide +kernel
theorem dX2_change_31 : decode cX2_change 31 = .ok (.iload_n 2, 1) := by decide +kernel
theorem dX2_change_32 : decode cX2_change 32 = .ok (.iaload, 1) := by decide +kernel
theorem dX2_change_33 : decode cX2_change 33 = .ok (.aload_n 0, 1) := by decide +kernel
theorem dX2_change_34 : decode cX2_change 34 = .ok (.getfield 15, 3) := by decide +kernel
theorem dX2_change_37 : decode cX2_change 37 = .ok (.bipush 115, 2) := by decide +kernel
theorem dX2_change_39 : decode cX2_change 39 = .ok (.bipush 99, 2) := by decide +kernel
theorem dX2_change_41 : decode cX2_change 41 = .ok (.aload 5, 2) := by decide +kernel
theorem dX2_change_43 : decode cX2_change 43 = .ok (.invokevirtual 94, 3) := by decide +kernel
theorem dX2_change_46 : decode cX2_change 46 = .ok (.iadd, 1) := by decide +kernel
theorem dX2_change_47 : decode cX2_change 47 = .ok (.invokestatic 100, 3) := by decide +kernel
theorem dX2_change_50 : decode cX2_change 50 = .ok (.iastore, 1) := by decide +kernel
theorem dX2_change_51 : decode cX2_change 51 = .ok (.return_, 1) := by decide +kernel
theorem dX2_change_52 : decode cX2_change 52 = .ok (.aload 4, 2) := by decide +kernel
theorem dX2_change_54 : decode cX2_change 54 = .ok (.iload_n 2, 1) := by decide +kernel
theorem dX2_change_55 : decode cX2_change 55 = .ok (.iaload, 1) := by decide +kernel
theorem dX2_change_56 : decode cX2_change 56 = .ok (.ifCond .eq 15, 3) := by decide +kernel
theorem dX2_change_59 : decode cX2_change 59 = .ok (.aload_n 0, 1) := by decide +kernel
theorem dX2_change_60 : decode cX2_change 60 = .ok (.getfield 15, 3) := by decide +kernel
theorem dX2_change_63 : decode cX2_change 63 = .ok (.aload 5, 2) := by decide +kernel
theorem dX2_change_65 : decode cX2_change 65 = .ok (.invokevirtual 129, 3) := by decide +kernel
theorem dX2_change_68 : decode cX2_change 68 = .ok (.ifCond .eq 4, 3) := by decide +kernel
theorem dX2_change_71 : decode cX2_change 71 = .ok (.return_, 1) := by decide +kernel
theorem dX2_change_72 : decode cX2_change 72 = .ok (.iload_n 3, 1) := by decide +kernel
theorem dX2_change_73 : decode cX2_change 73 = .ok (.ifCond .ne 32, 3) := by decide +kernel
theorem dX2_change_76 : decode cX2_change 76 = .ok (.aload 4, 2) := by decide +kernel
theorem dX2_change_78 : decode cX2_change 78 = .ok (.iload_n 2, 1) := by decide +kernel
theorem dX2_change_79 : decode cX2_change 79 = .ok (.iconst 0, 1) := by decide +kernel
theorem dX2_change_80 : decode cX2_change 80 = .ok (.aload 4, 2) := by decide +kernel
theorem dX2_change_82 : decode cX2_change 82 = .ok (.iload_n 2, 1) := by decide +kernel
theorem dX2_change_83 : decode cX2_change 83 = .ok (.iaload, 1) := by decide +kernel
theorem dX2_change_84 : decode cX2_change 84 = .ok (.aload_n 0, 1) := by decide +kernel
theorem dX2_change_85 : decode cX2_change 85 = .ok (.getfield 15, 3) := by decide +kernel
theorem dX2_change_88 : decode cX2_change 88 = .ok (.bipush 119, 2) := by decide +kernel
theorem dX2_change_90 : decode cX2_change 90 = .ok (.bipush 99, 2) := by decide +kernel
theorem dX2_change_92 : decode cX2_change 92 = .ok (.aload 5, 2) := by decide +kernel
theorem dX2_change_94 : decode cX2_change 94 = .ok (.invokevirtual 94, 3) := by decide +kernel
theorem dX2_change_97 : decode cX2_change 97 = .ok (.isub, 1) := by decide +kernel
theorem dX2_change_98 : decode cX2_change 98 = .ok (.invokestatic 133, 3) := by decide +kernel
theorem dX2_change_101 : decode cX2_change 101 = .ok (.iastore, 1) := by decide +kernel
theorem dX2_change_102 : decode cX2_change 102 = .ok (.goto 27, 3) := by decide +kernel
theorem dX2_change_105 : decode cX2_change 105 = .ok (.aload 4, 2) := by decide +kernel
theorem dX2_change_107 : decode cX2_change 107 = .ok (.iload_n 2, 1) := by decide +kernel
theorem dX2_change_108 : decode cX2_change 108 = .ok (.iload_n 3, 1) := by decide +kernel
theorem dX2_change_109 : decode cX2_change 109 = .ok (.iconst 1, 1) := by decide +kernel
theorem dX2_change_110 : decode cX2_change 110 = .ok (.if_icmp .ne 12, 3) := by decide +kernel
theorem dX2_change_113 : decode cX2_change 113 = .ok (.aload 4, 2) := by decide +kernel
theorem dX2_change_115 : decode cX2_change 115 = .ok (.iload_n 2, 1) := by decide +kernel
theorem dX2_change_116 : decode cX2_change 116 = .ok (.iaload, 1) := by decide +kernel
theorem dX2_change_117 : decode cX2_change 117 = .ok (.iconst 2, 1) := by decide +kernel
theorem dX2_change_118 : decode cX2_change 118 = .ok (.idiv, 1) := by decide +kernel
theorem dX2_change_119 : decode cX2_change 119 = .ok (.goto 9, 3) := by decide +kernel
theorem dX2_change_122 : decode cX2_change 122 = .ok (.aload 4, 2) := by decide +kernel
theorem dX2_change_124 : decode cX2_change 124 = .ok (.iload_n 2, 1) := by decide +kernel
theorem dX2_change_125 : decode cX2_change 125 = .ok (.iaload, 1) := by decide +kernel
theorem dX2_change_126 : decode cX2_change 126 = .ok (.iconst 1, 1) := by decide +kernel
theorem dX2_change_127 : decode cX2_change 127 = .ok (.isub, 1) := by decide +kernel
theorem dX2_change_128 : decode cX2_change 128 = .ok (.iastore, 1) := by decide +kernel
theorem dX2_change_129 : decode cX2_change 129 = .ok (.return_, 1) := by decide +kernel
theorem myX2_about : MI yX2_about cX2_about 3 (some (FieldType.array FieldType.int)) 2 := ⟨kAW (v_2_10 (List.mem_of_getElem? (i := 15) rfl)) rfl, kAW (v_0_0 (List.mem_of_getElem? (i := 9) rfl)) rfl, kAW (v_2_10 (List.mem_of_getElem? (i := 14) rfl)) rfl, kAW (tp_t1 (List.mem_of_getElem? (i := 1) rfl)) rfl, by decide, by decide, by decide +kernel⟩
theorem FG_X2_15 : FG RX2 15 2 11 9 := ⟨RX2, TX2, rfl, wX2, by decide, kAW (v_1_0 (List.mem_of_getElem? (i := 4) rfl)) rfl, rfl⟩
theorem myX3_keeps : MI yX3_keeps cX3_keeps 3 (some FieldType.boolean) 1 := ⟨kAW (v_2_13 (List.mem_of_getElem? (i := 7) rfl)) rfl, kAW (v_0_0 (List.mem_of_getElem? (i := 5) rfl)) rfl, kAW (v_2_13 (List.mem_of_getElem? (i := 5) rfl)) rfl, kAW (v_2_13 (List.mem_of_getElem? (i := 6) rfl)) rfl, by decide, by decide, by decide +kernel⟩
theorem myX3_amount : MI yX3_amount cX3_amount 5 (some FieldType.int) 3 := ⟨kAW (v_2_11 (List.mem_of_getElem? (i := 13) rfl)) rfl, kAW (v_0_0 (List.mem_of_getElem? (i := 5) rfl)) rfl, kAW (v_2_11 (List.mem_of_getElem? (i := 11) rfl)) rfl, kAW (v_2_11 (List.mem_of_getElem? (i := 12) rfl)) rfl, by decide, by decide, by decide +kernel⟩
set_option maxRecDepth 100000 in
set_option maxHeartbeats 4000000 in
theorem a_X2_change_18 (l : Launch) (D : va_G) (cA : Nat → ClassId) (ad : Nat → Nat) (g0 : Nat → va_E) (p : Int32) (i : Int32) (wy : Int32)  (lw : Nat) (hSh : Shp ad cA g0) (hG : Rng g0) (hlw : isLw lw) (h_r9 : fld g0 80 9 = .ref (ad lw)) (h_r10 : fld g0 80 10 = .ref (ad 18)) (p0 : 0 ≤ p.toInt) (p7 : p.toInt < 8) (i0 : 0 ≤ i.toInt) (i12 : i.toInt < 12) : CT l NN ad cA D yX2_change cX2_change 6 none (3, 72) [.ref (ad 80), .int p, .int i, .int wy] g0 (fun v g' => v = none ∧ Shp ad cA g' ∧ Rng g' ∧ FR (fun i k => (22 ≤ i ∧ i < 30) ∨ i = 83 ∨ i = (lw + 6)) g0 g') := by
  refine q_enterV (by decide) (Nat.le_of_ble_eq_true rfl) (fun K H locs ls _ _ hM hW0 hR hC hE hl => ?_)
  have hl : lv_has ls 6 [(0, .ref (ad 80)), (1, .int p), (2, .int i), (3, .int wy)] := hl
  have hW : WS ad cA (fun i k => (22 ≤ i ∧ i < 30) ∨ i = 83 ∨ i = (lw + 6)) g0 K g0 H locs := ⟨hW0, hSh, FR.rf⟩
  have ulw := hlw
  unfold isLw at ulw
  refine q_aload_n hM dX2_change_0 (lv_at hl 0 rfl) ?_
  refine w_get (v := .ref (ad 18)) hM hW FG_X2_19 lb_80 ((hW.2.2.1 80 10 (by omega)).trans h_r10) dX2_change_1 ?_
  refine w_get (v := .ref (ad 21)) hM hW FG_X2_86 lb_18 (rf_18_2 hW.2.1) dX2_change_4 ?_
  refine q_iload_n hM dX2_change_7 (lv_at hl 1 rfl) ?_
  refine w_aald hM hW lb_21 (Or.inl rfl) (i_in (by omega) (by omega)) (aq (aq_21 hW.2.1) (by omega) (by omega)) dX2_change_8 ?_
  refine q_astore (lv9 := [(4, .ref (ad (22 + 1 * p.toInt.toNat))), (0, .ref (ad 80)), (1, .int p), (2, .int i), (3, .int wy)]) hM dX2_change_9 hl (by decide) rfl (fun ls hl => ?_)
  refine q_aload_n hM dX2_change_11 (lv_at hl 1 rfl) ?_
  refine q_iload_n hM dX2_change_12 (lv_at hl 2 rfl) ?_
  refine q_iload_n hM dX2_change_13 (lv_at hl 3 rfl) ?_
  refine q_callV (As := [.int p, .int i]) (rest := []) hM hW.1 hR hC myX2_about (kAW (v_2_10 (List.mem_of_getElem? (i := 12) rfl)) rfl) (rfl : vwCl[2]? = some (RX2, TX2, 11)) rfl lb_80.1 (shO hW.2.1 lb_80) (a_X2_about_18 _ _ cA ad g0 p i hW.2.1 hG ((hW.2.2.1 80 10 (by omega)).trans h_r10) (by  omega) (by  omega) (by  omega) (by  omega)) ⟨by decide, by decide⟩ rfl rfl hl.1 (Nat.le_of_ble_eq_true rfl) dX2_change_14 (fun v g1147 H locs hp hW1 => ?_)
  obtain ⟨rfl, hs1, hG, hf1⟩ := hp
  have hW : WS ad cA (fun i k => (22 ≤ i ∧ i < 30) ∨ i = 83 ∨ i = (lw + 6)) g0 K g1147 H locs := ⟨hW1, hs1, hW.2.2.tr hf1 (fun i k h => (Or.inr (Or.inl h)))⟩
  refine q_astore (lv9 := [(5, .ref (ad 83)), (4, .ref (ad (22 + 1 * p.toInt.toNat))), (0, .ref (ad 80)), (1, .int p), (2, .int i), (3, .int wy)]) hM dX2_change_17 hl (by decide) rfl (fun ls hl => ?_)
  refine q_iload_n hM dX2_change_19 (lv_at hl 5 rfl) ?_
  refine q_iconst (v := (3 : Int32)) hM dX2_change_20 (by decide) ?_
  refine q_icmp_ne (tgt := 52) hM dX2_change_21 (by decide) (rfl : wy.toInt = wy.toInt) (kc_3 : (3 : Int32).toInt = 3) (fun h21 => ?_) (fun h21 => ?_)
  · refine q_aload hM dX2_change_52 (lv_at hl 1 rfl) ?_
    refine q_iload_n hM dX2_change_54 (lv_at hl 4 rfl) ?_
    refine w_iald hM hW (lr_22 (by omega)) (i_in (by omega) (by omega)) dX2_change_55 ?_
    refine q_top (fun y1149 hy1149 => ?_)
    refine q_if_eq (tgt := 71) hM dX2_change_56 (by decide) (rfl : y1149.toInt = y1149.toInt) (fun h56 => ?_) (fun h56 => ?_)
    · exact hE _ _ _ _ _ hW.1 ⟨rfl, hW.2.1, hG, hW.2.2⟩ dX2_change_71
    · refine q_aload_n hM dX2_change_59 (lv_at hl 2 rfl) ?_
      refine w_get (v := .ref (ad lw)) hM hW FG_X2_15 lb_80 ((hW.2.2.1 80 9 (by omega)).trans h_r9) dX2_change_60 ?_
      refine q_aload hM dX2_change_63 (lv_at hl 0 rfl) ?_
      refine q_callV (As := [.ref (ad 83)]) (rest := []) hM hW.1 hR hC myX3_keeps (kAW (v_2_13 (List.mem_of_getElem? (i := 4) rfl)) rfl) (rfl : vwCl[3]? = some (RX3, TX3, 8)) rfl (lo_Lw hlw).1 (shO hW.2.1 (lo_Lw hlw)) (a_X3_keeps _ _ cA ad g1147 lw hW.2.1 hG hlw) ⟨by decide, by decide⟩ rfl rfl hl.1 (Nat.le_of_ble_eq_true rfl) dX2_change_65 (fun v g1153 H locs hp hW1 => ?_)
      obtain ⟨r1152, rfl, hs1, hG, hf1, hr1152⟩ := hp
      have hW : WS ad cA (fun i k => (22 ≤ i ∧ i < 30) ∨ i = 83 ∨ i = (lw + 6)) g0 K g1153 H locs := ⟨hW1, hs1, hW.2.2.tr hf1 (fun i k h => (Or.inr (Or.inr h)))⟩
      refine q_if_eq (tgt := 72) hM dX2_change_68 (by decide) (rfl : r1152.toInt = r1152.toInt) (fun h68 => ?_) (fun h68 => ?_)
      · refine q_iload_n hM dX2_change_72 (lv_at hl 5 rfl) ?_
        refine q_if_ne (tgt := 105) hM dX2_change_73 (by decide) (rfl : wy.toInt = wy.toInt) (fun h73 => ?_) (fun h73 => ?_)
        · refine q_aload hM dX2_change_105 (lv_at hl 1 rfl) ?_
          refine q_iload_n hM dX2_change_107 (lv_at hl 4 rfl) ?_
          refine q_iload_n hM dX2_change_108 (lv_at hl 5 rfl) ?_
          refine q_iconst (v := (1 : Int32)) hM dX2_change_109 (by decide) ?_
          refine q_icmp_ne (tgt := 122) hM dX2_change_110 (by decide) (rfl : wy.toInt = wy.toInt) (kc_1 : (1 : Int32).toInt = 1) (fun h110 => ?_) (fun h110 => ?_)
          · refine q_aload hM dX2_change_122 (lv_at hl 1 rfl) ?_
            refine q_iload_n hM dX2_change_124 (lv_at hl 4 rfl) ?_
            refine w_iald hM hW (lr_22 (by omega)) (i_in (by omega) (by omega)) dX2_change_125 ?_
            refine q_top (fun y1157 hy1157 => ?_)
            refine q_iconst (v := (1 : Int32)) hM dX2_change_126 (by decide) ?_
            refine q_isub hM dX2_change_127 (fun z1158 hz1158 => ?_)
            first | have tz1158 := i_subT hz1158 (rfl : y1157.toInt = y1157.toInt) (kc_1 : (1 : Int32).toInt = 1) (by omega) (by omega) | skip
            refine w_iast hM hW (lr_22 (by omega)) (by omega) (i_in (by omega) (by omega)) dX2_change_128 (fun g1159 H locs hW e1 e2 => ?_)
            have hG := hG.st e1 e2 (rA_row_22 (by omega)) (by have := i_rng z1158; omega) (by have := i_rng z1158; omega)
            exact hE _ _ _ _ _ hW.1 ⟨rfl, hW.2.1, hG, hW.2.2⟩ dX2_change_129
          · refine q_aload hM dX2_change_113 (lv_at hl 1 rfl) ?_
            refine q_iload_n hM dX2_change_115 (lv_at hl 4 rfl) ?_
            refine w_iald hM hW (lr_22 (by omega)) (i_in (by omega) (by omega)) dX2_change_116 ?_
            refine q_top (fun y1161 hy1161 => ?_)
            refine q_iconst (v := (2 : Int32)) hM dX2_change_117 (by decide) ?_
            refine q_idiv hM (by decide) dX2_change_118 (fun z1162 hz1162 => ?_)
            first | have tz1162 := i_divT hz1162 (rfl : y1161.toInt = y1161.toInt) (kc_2 : (2 : Int32).toInt = 2) (by omega) (by omega) | skip
            refine q_goto (tgt := 128) hM dX2_change_119 (by decide) ?_
            refine w_iast hM hW (lr_22 (by omega)) (by omega) (i_in (by omega) (by omega)) dX2_change_128 (fun g1163 H locs hW e1 e2 => ?_)
            have hG := hG.st e1 e2 (rA_row_22 (by omega)) (by have := i_rng z1162; omega) (by have := i_rng z1162; omega)
            exact hE _ _ _ _ _ hW.1 ⟨rfl, hW.2.1, hG, hW.2.2⟩ dX2_change_129
        · refine q_aload hM dX2_change_76 (lv_at hl 1 rfl) ?_
          refine q_iload_n hM dX2_change_78 (lv_at hl 4 rfl) ?_
          refine q_iconst (v := (0 : Int32)) hM dX2_change_79 (by decide) ?_
          refine q_aload hM dX2_change_80 (lv_at hl 1 rfl) ?_
          refine q_iload_n hM dX2_change_82 (lv_at hl 4 rfl) ?_
          refine w_iald hM hW (lr_22 (by omega)) (i_in (by omega) (by omega)) dX2_change_83 ?_
          refine q_top (fun y1165 hy1165 => ?_)
          refine q_aload_n hM dX2_change_84 (lv_at hl 2 rfl) ?_
          refine w_get (v := .ref (ad lw)) hM hW FG_X2_15 lb_80 ((hW.2.2.1 80 9 (by omega)).trans h_r9) dX2_change_85 ?_
          refine q_bipush (v := (119 : Int32)) hM dX2_change_88 (by decide) ?_
          refine q_bipush (v := (99 : Int32)) hM dX2_change_90 (by decide) ?_
          refine q_aload hM dX2_change_92 (lv_at hl 0 rfl) ?_
          refine q_callV (As := [.int (119 : Int32), .int (99 : Int32), .ref (ad 83)]) (rest := [.int y1165, .int (0 : Int32), .int i, .ref (ad (22 + 1 * p.toInt.toNat))]) hM hW.1 hR hC myX3_amount (kAW (v_2_11 (List.mem_of_getElem? (i := 10) rfl)) rfl) (rfl : vwCl[3]? = some (RX3, TX3, 8)) rfl (lo_Lw hlw).1 (shO hW.2.1 (lo_Lw hlw)) (a_X3_amount _ _ cA ad g1153 lw (119 : Int32) (99 : Int32) hW.2.1 hG hlw) ⟨by decide, by decide⟩ rfl rfl hl.1 (Nat.le_of_ble_eq_true rfl) dX2_change_94 (fun v g1167 H locs hp hW1 => ?_)
          obtain ⟨r1166, rfl, hs1, hG, hf1⟩ := hp
          have hW : WS ad cA (fun i k => (22 ≤ i ∧ i < 30) ∨ i = 83 ∨ i = (lw + 6)) g0 K g1167 H locs := ⟨hW1, hs1, hW.2.2.tr hf1 (fun i k h => (Or.inr (Or.inr h)))⟩
          refine q_isub hM dX2_change_97 (fun z1168 hz1168 => ?_)
          first | have tz1168 := i_subT hz1168 (rfl : y1165.toInt = y1165.toInt) (rfl : r1166.toInt = r1166.toInt) (by omega) (by omega) | skip
          refine q_mmax hM hR hC (kAW (v_2_13 (List.mem_of_getElem? (i := 8) rfl)) rfl) hl.1 (by decide) (Nat.le_of_ble_eq_true rfl) dX2_change_98 (fun r1169 hr1169 => ?_)
          have := kc_0
          refine w_iast hM hW (lr_22 (by omega)) (by omega) (i_in (by omega) (by omega)) dX2_change_101 (fun g1170 H locs hW e1 e2 => ?_)
          have hG := hG.st e1 e2 (rA_row_22 (by omega)) (by have := i_rng r1169; omega) (by have := i_rng r1169; omega)
          refine q_goto (tgt := 129) hM dX2_change_102 (by decide) ?_
          exact hE _ _ _ _ _ hW.1 ⟨rfl, hW.2.1, hG, hW.2.2⟩ dX2_change_129
      · exact hE _ _ _ _ _ hW.1 ⟨rfl, hW.2.1, hG, hW.2.2⟩ dX2_change_71
  · refine q_aload hM dX2_change_24 (lv_at hl 1 rfl) ?_
    refine q_iload_n hM dX2_change_26 (lv_at hl 4 rfl) ?_
    refine q_bipush (v := (99 : Int32)) hM dX2_change_27 (by decide) ?_
    refine q_aload hM dX2_change_29 (lv_at hl 1 rfl) ?_
    refine q_iload_n hM dX2_change_31 (lv_at hl 4 rfl) ?_
    refine w_iald hM hW (lr_22 (by omega)) (i_in (by omega) (by omega)) dX2_change_32 ?_
    refine q_top (fun y1173 hy1173 => ?_)
    refine q_aload_n hM dX2_change_33 (lv_at hl 2 rfl) ?_
    refine w_get (v := .ref (ad lw)) hM hW FG_X2_15 lb_80 ((hW.2.2.1 80 9 (by omega)).trans h_r9) dX2_change_34 ?_
    refine q_bipush (v := (115 : Int32)) hM dX2_change_37 (by decide) ?_
    refine q_bipush (v := (99 : Int32)) hM dX2_change_39 (by decide) ?_
    refine q_aload hM dX2_change_41 (lv_at hl 0 rfl) ?_
    refine q_callV (As := [.int (115 : Int32), .int (99 : Int32), .ref (ad 83)]) (rest := [.int y1173, .int (99 : Int32), .int i, .ref (ad (22 + 1 * p.toInt.toNat))]) hM hW.1 hR hC myX3_amount (kAW (v_2_11 (List.mem_of_getElem? (i := 10) rfl)) rfl) (rfl : vwCl[3]? = some (RX3, TX3, 8)) rfl (lo_Lw hlw).1 (shO hW.2.1 (lo_Lw hlw)) (a_X3_amount _ _ cA ad g1147 lw (115 : Int32) (99 : Int32) hW.2.1 hG hlw) ⟨by decide, by decide⟩ rfl rfl hl.1 (Nat.le_of_ble_eq_true rfl) dX2_change_43 (fun v g1175 H locs hp hW1 => ?_)
    obtain ⟨r1174, rfl, hs1, hG, hf1⟩ := hp
    have hW : WS ad cA (fun i k => (22 ≤ i ∧ i < 30) ∨ i = 83 ∨ i = (lw + 6)) g0 K g1175 H locs := ⟨hW1, hs1, hW.2.2.tr hf1 (fun i k h => (Or.inr (Or.inr h)))⟩
    refine q_iadd hM dX2_change_46 (fun z1176 hz1176 => ?_)
    first | have tz1176 := i_addT hz1176 (rfl : y1173.toInt = y1173.toInt) (rfl : r1174.toInt = r1174.toInt) (by omega) (by omega) | skip
    refine q_mmin hM hR hC (kAW (v_2_12 (List.mem_of_getElem? (i := 7) rfl)) rfl) hl.1 (by decide) (Nat.le_of_ble_eq_true rfl) dX2_change_47 (fun r1177 hr1177 => ?_)
    have := kc_99
    refine w_iast hM hW (lr_22 (by omega)) (by omega) (i_in (by omega) (by omega)) dX2_change_50 (fun g1178 H locs hW e1 e2 => ?_)
    have hG := hG.st e1 e2 (rA_row_22 (by omega)) (by have := i_rng r1177; omega) (by have := i_rng r1177; omega)
    exact hE _ _ _ _ _ hW.1 ⟨rfl, hW.2.1, hG, hW.2.2⟩ dX2_change_51

theorem dX2_doArt_0 : decode cX2_doArt 0 = .ok (.iconst 0, 1) := by decide +kernel
theorem dX2_doArt_1 : decode cX2_doArt 1 = .ok (.istore_n 3, 1) := by decide +kernel
theorem dX2_doArt_2 : decode cX2_doArt 2 = .ok (.iload_n 3, 1) := by decide +kernel
theorem dX2_doArt_3 : decode cX2_doArt 3 = .ok (.aload_n 2, 1) := by decide +kernel
theorem dX2_doArt_4 : decode cX2_doArt 4 = .ok (.getfield 106, 3) := by decide +kernel
theorem dX2_doArt_7 : decode cX2_doArt 7 = .ok (.if_icmp .ge 65, 3) := by decide +kernel
theorem dX2_doArt_10 : decode cX2_doArt 10 = .ok (.iload_n 3, 1) := by decide +kernel
theorem dX2_doArt_11 : decode cX2_doArt 11 = .ok (.bipush 48, 2) := by decide +kernel
theorem dX2_doArt_13 : decode cX2_doArt 13 = .ok (.if_icmp .ge 59, 3) := by decide +kernel
theorem dX2_doArt_16 : decode cX2_doArt 16 = .ok (.iconst 0, 1) := by decide +kernel
theorem dX2_doArt_17 : decode cX2_doArt 17 = .ok (.istore 4, 2) := by decide +kernel
theorem dX2_doArt_19 : decode cX2_doArt 19 = .ok (.iload 4, 2) := by decide +kernel
theorem dX2_doArt_21 : decode cX2_doArt 21 = .ok (.bipush 12, 2) := by decide +kernel
theorem dX2_doArt_23 : decode cX2_doArt 23 = .ok (.if_icmp .ge 43, 3) := by decide +kernel
theorem dX2_doArt_26 : decode cX2_doArt 26 = .ok (.aload_n 0, 1) := by decide +kernel
theorem dX2_doArt_27 : decode cX2_doArt 27 = .ok (.aload_n 2, 1) := by decide +kernel
theorem dX2_doArt_28 : decode cX2_doArt 28 = .ok (.getfield 109, 3) := by decide +kernel
theorem dX2_doArt_31 : decode cX2_doArt 31 = .ok (.iload_n 3, 1) := by decide +kernel
theorem dX2_doArt_32 : decode cX2_doArt 32 = .ok (.iaload, 1) := by decide +kernel
theorem dX2_doArt_33 : decode cX2_doArt 33 = .ok (.aload_n 2, 1) := by decide +kernel
theorem dX2_doArt_34 : decode cX2_doArt 34 = .ok (.getfield 112, 3) := by decide +kernel
theorem dX2_doArt_37 : decode cX2_doArt 37 = .ok (.iload_n 3, 1) := by decide +kernel
theorem dX2_doArt_38 : decode cX2_doArt 38 = .ok (.iaload, 1) := by decide +kernel
theorem dX2_doArt_39 : decode cX2_doArt 39 = .ok (.iload 4, 2) := by decide +kernel
theorem dX2_doArt_41 : decode cX2_doArt 41 = .ok (.invokevirtual 115, 3) := by decide +kernel
theorem dX2_doArt_44 : decode cX2_doArt 44 = .ok (.ifCond .eq 16, 3) := by decide +kernel
theorem dX2_doArt_47 : decode cX2_doArt 47 = .ok (.aload_n 0, 1) := by decide +kernel
theorem dX2_doArt_48 : decode cX2_doArt 48 = .ok (.iload_n 1, 1) := by decide +kernel
theorem dX2_doArt_49 : decode cX2_doArt 49 = .ok (.iload 4, 2) := by decide +kernel
theorem dX2_doArt_51 : decode cX2_doArt 51 = .ok (.aload_n 2, 1) := by decide +kernel
theorem dX2_doArt_52 : decode cX2_doArt 52 = .ok (.getfield 109, 3) := by decide +kernel
theorem dX2_doArt_55 : decode cX2_doArt 55 = .ok (.iload_n 3, 1) := by decide +kernel
theorem dX2_doArt_56 : decode cX2_doArt 56 = .ok (.iaload, 1) := by decide +kernel
theorem dX2_doArt_57 : decode cX2_doArt 57 = .ok (.invokevirtual 119, 3) := by decide +kernel
theorem dX2_doArt_60 : decode cX2_doArt 60 = .ok (.iinc 4 1, 3) := by decide +kernel
theorem dX2_doArt_63 : decode cX2_doArt 63 = .ok (.goto (-44), 3) := by decide +kernel
theorem dX2_doArt_66 : decode cX2_doArt 66 = .ok (.iinc 3 1, 3) := by decide +kernel
theorem dX2_doArt_69 : decode cX2_doArt 69 = .ok (.goto (-67), 3) := by decide +kernel
theorem dX2_doArt_72 : decode cX2_doArt 72 = .ok (.return_, 1) := by decide +kernel
theorem FG_X2_106 : FG RX2 106 0 3 2 := ⟨RX0, TX0, rfl, wX0, by decide, kAW (v_0_10 (List.mem_of_getElem? (i := 5) rfl)) rfl, rfl⟩
theorem FG_X2_109 : FG RX2 109 0 3 0 := ⟨RX0, TX0, rfl, wX0, by decide, kAW (v_0_10 (List.mem_of_getElem? (i := 0) rfl)) rfl, rfl⟩
theorem FG_X2_112 : FG RX2 112 0 3 1 := ⟨RX0, TX0, rfl, wX0, by decide, kAW (v_0_10 (List.mem_of_getElem? (i := 2) rfl)) rfl, rfl⟩
theorem myX2_concerns : MI yX2_concerns cX2_concerns 4 (some FieldType.boolean) 3 := ⟨kAW (v_2_12 (List.mem_of_getElem? (i := 15) rfl)) rfl, kAW (v_0_0 (List.mem_of_getElem? (i := 9) rfl)) rfl, kAW (v_2_12 (List.mem_of_getElem? (i := 14) rfl)) rfl, kAW (tp_t1 (List.mem_of_getElem? (i := 3) rfl)) rfl, by decide, by decide, by decide +kernel⟩
theorem myX2_change : MI yX2_change cX2_change 6 none 3 := ⟨kAW (v_2_13 (List.mem_of_getElem? (i := 3) rfl)) rfl, kAW (v_0_0 (List.mem_of_getElem? (i := 9) rfl)) rfl, kAW (v_2_13 (List.mem_of_getElem? (i := 2) rfl)) rfl, kAW (tp_t1 (List.mem_of_getElem? (i := 4) rfl)) rfl, by decide, by decide, by decide +kernel⟩
set_option maxRecDepth 100000 in
set_option maxHeartbeats 4000000 in
theorem a_X2_doArt_18 (l : Launch) (D : va_G) (cA : Nat → ClassId) (ad : Nat → Nat) (g0 : Nat → va_E) (p : Int32) (ar : Nat)  (lw : Nat) (hSh : Shp ad cA g0) (hG : Rng g0) (har : isAt ar) (hlw : isLw lw) (h_r9 : fld g0 80 9 = .ref (ad lw)) (h_r10 : fld g0 80 10 = .ref (ad 18)) (p0 : 0 ≤ p.toInt) (p7 : p.toInt < 8) : CT l NN ad cA D yX2_doArt cX2_doArt 5 none (4, 97) [.ref (ad 80), .int p, .ref (ad ar)] g0 (fun v g' => v = none ∧ Shp ad cA g' ∧ Rng g' ∧ FR (fun i k => (22 ≤ i ∧ i < 30) ∨ i = 83 ∨ i = (lw + 6)) g0 g') := by
  refine q_enterV (by decide) (Nat.le_of_ble_eq_true rfl) (fun K H locs ls _ _ hM hW0 hR hC hE hl => ?_)
  have hl : lv_has ls 5 [(0, .ref (ad 80)), (1, .int p), (2, .ref (ad ar))] := hl
  have hW : WS ad cA (fun i k => (22 ≤ i ∧ i < 30) ∨ i = 83 ∨ i = (lw + 6)) g0 K g0 H locs := ⟨hW0, hSh, FR.rf⟩
  have uar := har
  unfold isAt at uar
  have ulw := hlw
  unfold isLw at ulw
  refine q_iconst (v := (0 : Int32)) hM dX2_doArt_0 (by decide) ?_
  refine q_istore_n (lv9 := [(3, .int (0 : Int32)), (0, .ref (ad 80)), (1, .int p), (2, .ref (ad ar))]) hM dX2_doArt_1 hl (by decide) rfl (fun ls hl => ?_)
  have L2 : ∀ (fu2 : Nat) (w2_3 : Int32) (g9 : Nat → va_E) (H : Heap) (locs : List Loc) (ls : Array Slot), (48 - w2_3.toInt).toNat < fu2 → (Rng g9) → (0 ≤ w2_3.toInt) → (w2_3.toInt ≤ 48) → lv_has ls 5 [(0, .ref (ad 80)), (1, .int p), (2, .ref (ad ar)), (3, .int w2_3)] → WS ad cA (fun i k => (22 ≤ i ∧ i < 30) ∨ i = 83 ∨ i = (lw + 6)) g0 K g9 H locs → XX K 0 0 H locs 2 ls [] := by
    intro fu2
    induction fu2 with
    | zero => intro w2_3 g9 H locs ls h0; omega
    | succ fu2 ih2 =>
      intro w2_3 g9 H locs ls hm2 i2_0 i2_1 i2_2 hl hW
      have hG := i2_0
      refine q_iload_n hM dX2_doArt_2 (lv_at hl 3 rfl) ?_
      refine q_aload_n hM dX2_doArt_3 (lv_at hl 2 rfl) ?_
      refine w_getI hM hW FG_X2_106 (lo_At har) (by decide) (by decide) dX2_doArt_4 (fun x1180 fx1180 => ?_)
      have bx1180 := hG.f fx1180 (rF_At_2 har) (by decide)
      refine q_icmp_ge (tgt := 72) hM dX2_doArt_7 (by decide) (rfl : w2_3.toInt = w2_3.toInt) (rfl : x1180.toInt = x1180.toInt) (fun h7 => ?_) (fun h7 => ?_)
      · exact hE _ _ _ _ _ hW.1 ⟨rfl, hW.2.1, hG, hW.2.2⟩ dX2_doArt_72
      · refine q_iload_n hM dX2_doArt_10 (lv_at hl 3 rfl) ?_
        refine q_bipush (v := (48 : Int32)) hM dX2_doArt_11 (by decide) ?_
        refine q_icmp_ge (tgt := 72) hM dX2_doArt_13 (by decide) (rfl : w2_3.toInt = w2_3.toInt) (kc_48 : (48 : Int32).toInt = 48) (fun h13 => ?_) (fun h13 => ?_)
        · exact hE _ _ _ _ _ hW.1 ⟨rfl, hW.2.1, hG, hW.2.2⟩ dX2_doArt_72
        · refine q_iconst (v := (0 : Int32)) hM dX2_doArt_16 (by decide) ?_
          refine q_istore (lv9 := [(4, .int (0 : Int32)), (0, .ref (ad 80)), (1, .int p), (2, .ref (ad ar)), (3, .int w2_3)]) hM dX2_doArt_17 hl (by decide) rfl (fun ls hl => ?_)
          have L19 : ∀ (fu19 : Nat) (w19_4 : Int32) (g9 : Nat → va_E) (H : Heap) (locs : List Loc) (ls : Array Slot), (12 - w19_4.toInt).toNat < fu19 → (Rng g9) → (0 ≤ w19_4.toInt) → (w19_4.toInt ≤ 12) → lv_has ls 5 [(0, .ref (ad 80)), (1, .int p), (2, .ref (ad ar)), (3, .int w2_3), (4, .int w19_4)] → WS ad cA (fun i k => (22 ≤ i ∧ i < 30) ∨ i = 83 ∨ i = (lw + 6)) g0 K g9 H locs → XX K 0 0 H locs 19 ls [] := by
            intro fu19
            induction fu19 with
            | zero => intro w19_4 g9 H locs ls h0; omega
            | succ fu19 ih19 =>
              intro w19_4 g9 H locs ls hm19 i19_0 i19_1 i19_2 hl hW
              have hG := i19_0
              refine q_iload hM dX2_doArt_19 (lv_at hl 4 rfl) ?_
              refine q_bipush (v := (12 : Int32)) hM dX2_doArt_21 (by decide) ?_
              refine q_icmp_ge (tgt := 66) hM dX2_doArt_23 (by decide) (rfl : w19_4.toInt = w19_4.toInt) (kc_12 : (12 : Int32).toInt = 12) (fun h23 => ?_) (fun h23 => ?_)
              · refine q_iinc (lv9 := fun z1187 => [(3, .int z1187), (0, .ref (ad 80)), (1, .int p), (2, .ref (ad ar)), (4, .int w19_4)]) hM dX2_doArt_66 hl (kq := 3) rfl (by decide) (fun _ => rfl) (fun z1187 ls hz1187 hl => ?_)
                first | have tz1187 := i_addT hz1187 (rfl : w2_3.toInt = w2_3.toInt) (kc_1 : (Int32.ofInt 1).toInt = 1) (by omega) (by omega) | skip
                refine q_goto (tgt := 2) hM dX2_doArt_69 (by decide) ?_
                exact ih2 z1187 _ _ _ _ (by omega) hG (by omega) (by omega) (lv_sub hl [1, 2, 3, 0] rfl) hW
              · refine q_aload_n hM dX2_doArt_26 (lv_at hl 0 rfl) ?_
                refine q_aload_n hM dX2_doArt_27 (lv_at hl 2 rfl) ?_
                refine w_get (v := .ref (ad (ar + 1))) hM hW FG_X2_109 (lo_At har) (rf_At_0 har hW.2.1) dX2_doArt_28 ?_
                refine q_iload_n hM dX2_doArt_31 (lv_at hl 3 rfl) ?_
                refine w_iald hM hW (la_At_0 har) (i_in (by omega) (by omega)) dX2_doArt_32 ?_
                refine q_top (fun y1189 hy1189 => ?_)
                refine q_aload_n hM dX2_doArt_33 (lv_at hl 2 rfl) ?_
                refine w_get (v := .ref (ad (ar + 2))) hM hW FG_X2_112 (lo_At har) (rf_At_1 har hW.2.1) dX2_doArt_34 ?_
                refine q_iload_n hM dX2_doArt_37 (lv_at hl 3 rfl) ?_
                refine w_iald hM hW (la_At_1 har) (i_in (by omega) (by omega)) dX2_doArt_38 ?_
                refine q_top (fun y1190 hy1190 => ?_)
                refine q_iload hM dX2_doArt_39 (lv_at hl 4 rfl) ?_
                refine q_callV (As := [.int y1189, .int y1190, .int w19_4]) (rest := []) hM hW.1 hR hC myX2_concerns (kAW (v_2_12 (List.mem_of_getElem? (i := 12) rfl)) rfl) (rfl : vwCl[2]? = some (RX2, TX2, 11)) rfl lb_80.1 (shO hW.2.1 lb_80) (a_X2_concerns _ _ cA ad g9 y1189 y1190 w19_4 hW.2.1 hG (by  omega) (by  omega)) ⟨by decide, by decide⟩ rfl rfl hl.1 (Nat.le_of_ble_eq_true rfl) dX2_doArt_41 (fun v g1192 H locs hp hW1 => ?_)
                obtain ⟨r1191, rfl, hr1191, rfl⟩ := hp
                have hW : WS ad cA (fun i k => (22 ≤ i ∧ i < 30) ∨ i = 83 ∨ i = (lw + 6)) g0 K g9 H locs := ⟨hW1, hW.2.1, hW.2.2⟩
                refine q_if_eq (tgt := 60) hM dX2_doArt_44 (by decide) (rfl : r1191.toInt = r1191.toInt) (fun h44 => ?_) (fun h44 => ?_)
                · refine q_iinc (lv9 := fun z1194 => [(4, .int z1194), (0, .ref (ad 80)), (1, .int p), (2, .ref (ad ar)), (3, .int w2_3)]) hM dX2_doArt_60 hl (kq := 4) rfl (by decide) (fun _ => rfl) (fun z1194 ls hz1194 hl => ?_)
                  first | have tz1194 := i_addT hz1194 (rfl : w19_4.toInt = w19_4.toInt) (kc_1 : (Int32.ofInt 1).toInt = 1) (by omega) (by omega) | skip
                  refine q_goto (tgt := 19) hM dX2_doArt_63 (by decide) ?_
                  exact ih19 z1194 _ _ _ _ (by omega) hG (by omega) (by omega) (lv_sub hl [1, 2, 3, 4, 0] rfl) hW
                · refine q_aload_n hM dX2_doArt_47 (lv_at hl 0 rfl) ?_
                  refine q_iload_n hM dX2_doArt_48 (lv_at hl 1 rfl) ?_
                  refine q_iload hM dX2_doArt_49 (lv_at hl 4 rfl) ?_
                  refine q_aload_n hM dX2_doArt_51 (lv_at hl 2 rfl) ?_
                  refine w_get (v := .ref (ad (ar + 1))) hM hW FG_X2_109 (lo_At har) (rf_At_0 har hW.2.1) dX2_doArt_52 ?_
                  refine q_iload_n hM dX2_doArt_55 (lv_at hl 3 rfl) ?_
                  refine w_iald hM hW (la_At_0 har) (i_in (by omega) (by omega)) dX2_doArt_56 ?_
                  refine q_top (fun y1196 hy1196 => ?_)
                  refine q_callV (As := [.int p, .int w19_4, .int y1196]) (rest := []) hM hW.1 hR hC myX2_change (kAW (v_2_13 (List.mem_of_getElem? (i := 0) rfl)) rfl) (rfl : vwCl[2]? = some (RX2, TX2, 11)) rfl lb_80.1 (shO hW.2.1 lb_80) (a_X2_change_18 _ _ cA ad g9 p w19_4 y1196 lw hW.2.1 hG hlw ((hW.2.2.1 80 9 (by omega)).trans h_r9) ((hW.2.2.1 80 10 (by omega)).trans h_r10) (by  omega) (by  omega) (by  omega) (by  omega)) ⟨by decide, by decide⟩ rfl rfl hl.1 (Nat.le_of_ble_eq_true rfl) dX2_doArt_57 (fun v g1197 H locs hp hW1 => ?_)
                  obtain ⟨rfl, hs1, hG, hf1⟩ := hp
                  have hW : WS ad cA (fun i k => (22 ≤ i ∧ i < 30) ∨ i = 83 ∨ i = (lw + 6)) g0 K g1197 H locs := ⟨hW1, hs1, hW.2.2.tr hf1 (fun i k h => h.elim (fun h => (Or.inl h)) (fun h => h.elim (fun h => (Or.inr (Or.inl h))) (fun h => (Or.inr (Or.inr h)))))⟩
                  refine q_iinc (lv9 := fun z1198 => [(4, .int z1198), (0, .ref (ad 80)), (1, .int p), (2, .ref (ad ar)), (3, .int w2_3)]) hM dX2_doArt_60 hl (kq := 4) rfl (by decide) (fun _ => rfl) (fun z1198 ls hz1198 hl => ?_)
                  first | have tz1198 := i_addT hz1198 (rfl : w19_4.toInt = w19_4.toInt) (kc_1 : (Int32.ofInt 1).toInt = 1) (by omega) (by omega) | skip
                  refine q_goto (tgt := 19) hM dX2_doArt_63 (by decide) ?_
                  exact ih19 z1198 _ _ _ _ (by omega) hG (by omega) (by omega) (lv_sub hl [1, 2, 3, 4, 0] rfl) hW
          have := kc_0
          exact L19 _ (0 : Int32) _ _ _ _ (Nat.lt_succ_self _) hG (by omega) (by omega) (lv_sub hl [1, 2, 3, 4, 0] rfl) hW
  have := kc_0
  exact L2 _ (0 : Int32) _ _ _ _ (Nat.lt_succ_self _) hG (by omega) (by omega) (lv_sub hl [1, 2, 3, 0] rfl) hW

theorem dX2_rest_0 : decode cX2_rest 0 = .ok (.aload_n 0, 1) := by decide +kernel
theorem dX2_rest_1 : decode cX2_rest 1 = .ok (.getfield 19, 3) := by decide +kernel
theorem dX2_rest_4 : decode cX2_rest 4 = .ok (.getfield 86, 3) := by decide +kernel
theorem dX2_rest_7 : decode cX2_rest 7 = .ok (.iload_n 1, 1) := by decide +kernel
theorem dX2_rest_8 : decode cX2_rest 8 = .ok (.aaload, 1) := by decide +kernel
theorem dX2_rest_9 : decode cX2_rest 9 = .ok (.astore_n 2, 1) := by decide +kernel
theorem dX2_rest_10 : decode cX2_rest 10 = .ok (.iconst 0, 1) := by decide +kernel
theorem dX2_rest_11 : decode cX2_rest 11 = .ok (.istore_n 3, 1) := by decide +kernel
theorem dX2_rest_12 : decode cX2_rest 12 = .ok (.iload_n 3, 1) := by decide +kernel
theorem dX2_rest_13 : decode cX2_rest 13 = .ok (.bipush 12, 2) := by decide +kernel
theorem dX2_rest_15 : decode cX2_rest 15 = .ok (.if_icmp .ge 44, 3) := by decide +kernel
theorem dX2_rest_18 : decode cX2_rest 18 = .ok (.aload_n 2, 1) := by decide +kernel
theorem dX2_rest_19 : decode cX2_rest 19 = .ok (.iload_n 3, 1) := by decide +kernel
theorem dX2_rest_20 : decode cX2_rest 20 = .ok (.iaload, 1) := by decide +kernel
theorem dX2_rest_21 : decode cX2_rest 21 = .ok (.ifCond .le 32, 3) := by decide +kernel
theorem dX2_rest_24 : decode cX2_rest 24 = .ok (.aload_n 2, 1) := by decide +kernel
theorem dX2_rest_25 : decode cX2_rest 25 = .ok (.iload_n 3, 1) := by decide +kernel
theorem dX2_rest_26 : decode cX2_rest 26 = .ok (.bipush 99, 2) := by decide +kernel
theorem dX2_rest_28 : decode cX2_rest 28 = .ok (.aload_n 2, 1) := by decide +kernel
theorem dX2_rest_29 : decode cX2_rest 29 = .ok (.iload_n 3, 1) := by decide +kernel
theorem dX2_rest_30 : decode cX2_rest 30 = .ok (.iaload, 1) := by decide +kernel
theorem dX2_rest_31 : decode cX2_rest 31 = .ok (.aload_n 0, 1) := by decide +kernel
theorem dX2_rest_32 : decode cX2_rest 32 = .ok (.getfield 15, 3) := by decide +kernel
theorem dX2_rest_35 : decode cX2_rest 35 = .ok (.bipush 114, 2) := by decide +kernel
theorem dX2_rest_37 : decode cX2_rest 37 = .ok (.bipush 20, 2) := by decide +kernel
theorem dX2_rest_39 : decode cX2_rest 39 = .ok (.aload_n 0, 1) := by decide +kernel
theorem dX2_rest_40 : decode cX2_rest 40 = .ok (.iload_n 1, 1) := by decide +kernel
theorem dX2_rest_41 : decode cX2_rest 41 = .ok (.iload_n 3, 1) := by decide +kernel
theorem dX2_rest_42 : decode cX2_rest 42 = .ok (.invokevirtual 90, 3) := by decide +kernel
theorem dX2_rest_45 : decode cX2_rest 45 = .ok (.invokevirtual 94, 3) := by decide +kernel
theorem dX2_rest_48 : decode cX2_rest 48 = .ok (.iadd, 1) := by decide +kernel
theorem dX2_rest_49 : decode cX2_rest 49 = .ok (.invokestatic 100, 3) := by decide +kernel
theorem dX2_rest_52 : decode cX2_rest 52 = .ok (.iastore, 1) := by decide +kernel
theorem dX2_rest_53 : decode cX2_rest 53 = .ok (.iinc 3 1, 3) := by decide +kernel
theorem dX2_rest_56 : decode cX2_rest 56 = .ok (.goto (-44), 3) := by decide +kernel
theorem dX2_rest_59 : decode cX2_rest 59 = .ok (.return_, 1) := by decide +kernel
set_option maxRecDepth 100000 in
set_option maxHeartbeats 4000000 in
theorem a_X2_rest_18 (l : Launch) (D : va_G) (cA : Nat → ClassId) (ad : Nat → Nat) (g0 : Nat → va_E) (p : Int32)  (lw : Nat) (hSh : Shp ad cA g0) (hG : Rng g0) (hlw : isLw lw) (h_r9 : fld g0 80 9 = .ref (ad lw)) (h_r10 : fld g0 80 10 = .ref (ad 18)) (p0 : 0 ≤ p.toInt) (p7 : p.toInt < 8) : CT l NN ad cA D yX2_rest cX2_rest 4 none (3, 72) [.ref (ad 80), .int p] g0 (fun v g' => v = none ∧ Shp ad cA g' ∧ Rng g' ∧ FR (fun i k => (22 ≤ i ∧ i < 30) ∨ i = 83 ∨ i = (lw + 6)) g0 g') := by
  refine q_enterV (by decide) (Nat.le_of_ble_eq_true rfl) (fun K H locs ls _ _ hM hW0 hR hC hE hl => ?_)
  have hl : lv_has ls 4 [(0, .ref (ad 80)), (1, .int p)] := hl
  have hW : WS ad cA (fun i k => (22 ≤ i ∧ i < 30) ∨ i = 83 ∨ i = (lw + 6)) g0 K g0 H locs := ⟨hW0, hSh, FR.rf⟩
  have ulw := hlw
  unfold isLw at ulw
  refine q_aload_n hM dX2_rest_0 (lv_at hl 0 rfl) ?_
  refine w_get (v := .ref (ad 18)) hM hW FG_X2_19 lb_80 ((hW.2.2.1 80 10 (by omega)).trans h_r10) dX2_rest_1 ?_
  refine w_get (v := .ref (ad 21)) hM hW FG_X2_86 lb_18 (rf_18_2 hW.2.1) dX2_rest_4 ?_
  refine q_iload_n hM dX2_rest_7 (lv_at hl 1 rfl) ?_
  refine w_aald hM hW lb_21 (Or.inl rfl) (i_in (by omega) (by omega)) (aq (aq_21 hW.2.1) (by omega) (by omega)) dX2_rest_8 ?_
  refine q_astore_n (lv9 := [(2, .ref (ad (22 + 1 * p.toInt.toNat))), (0, .ref (ad 80)), (1, .int p)]) hM dX2_rest_9 hl (by decide) rfl (fun ls hl => ?_)
  refine q_iconst (v := (0 : Int32)) hM dX2_rest_10 (by decide) ?_
  refine q_istore_n (lv9 := [(3, .int (0 : Int32)), (2, .ref (ad (22 + 1 * p.toInt.toNat))), (0, .ref (ad 80)), (1, .int p)]) hM dX2_rest_11 hl (by decide) rfl (fun ls hl => ?_)
  have L12 : ∀ (fu12 : Nat) (w12_3 : Int32) (g9 : Nat → va_E) (H : Heap) (locs : List Loc) (ls : Array Slot), (12 - w12_3.toInt).toNat < fu12 → (Rng g9) → (0 ≤ w12_3.toInt) → (w12_3.toInt ≤ 12) → lv_has ls 4 [(0, .ref (ad 80)), (1, .int p), (2, .ref (ad (22 + 1 * p.toInt.toNat))), (3, .int w12_3)] → WS ad cA (fun i k => (22 ≤ i ∧ i < 30) ∨ i = 83 ∨ i = (lw + 6)) g0 K g9 H locs → XX K 0 0 H locs 12 ls [] := by
    intro fu12
    induction fu12 with
    | zero => intro w12_3 g9 H locs ls h0; omega
    | succ fu12 ih12 =>
      intro w12_3 g9 H locs ls hm12 i12_0 i12_1 i12_2 hl hW
      have hG := i12_0
      refine q_iload_n hM dX2_rest_12 (lv_at hl 3 rfl) ?_
      refine q_bipush (v := (12 : Int32)) hM dX2_rest_13 (by decide) ?_
      refine q_icmp_ge (tgt := 59) hM dX2_rest_15 (by decide) (rfl : w12_3.toInt = w12_3.toInt) (kc_12 : (12 : Int32).toInt = 12) (fun h15 => ?_) (fun h15 => ?_)
      · exact hE _ _ _ _ _ hW.1 ⟨rfl, hW.2.1, hG, hW.2.2⟩ dX2_rest_59
      · refine q_aload_n hM dX2_rest_18 (lv_at hl 2 rfl) ?_
        refine q_iload_n hM dX2_rest_19 (lv_at hl 3 rfl) ?_
        refine w_iald hM hW (lr_22 (by omega)) (i_in (by omega) (by omega)) dX2_rest_20 ?_
        refine q_top (fun y1202 hy1202 => ?_)
        refine q_if_le (tgt := 53) hM dX2_rest_21 (by decide) (rfl : y1202.toInt = y1202.toInt) (fun h21 => ?_) (fun h21 => ?_)
        · refine q_iinc (lv9 := fun z1204 => [(3, .int z1204), (0, .ref (ad 80)), (1, .int p), (2, .ref (ad (22 + 1 * p.toInt.toNat)))]) hM dX2_rest_53 hl (kq := 3) rfl (by decide) (fun _ => rfl) (fun z1204 ls hz1204 hl => ?_)
          first | have tz1204 := i_addT hz1204 (rfl : w12_3.toInt = w12_3.toInt) (kc_1 : (Int32.ofInt 1).toInt = 1) (by omega) (by omega) | skip
          refine q_goto (tgt := 12) hM dX2_rest_56 (by decide) ?_
          exact ih12 z1204 _ _ _ _ (by omega) hG (by omega) (by omega) (lv_sub hl [1, 2, 3, 0] rfl) hW
        · refine q_aload_n hM dX2_rest_24 (lv_at hl 2 rfl) ?_
          refine q_iload_n hM dX2_rest_25 (lv_at hl 3 rfl) ?_
          refine q_bipush (v := (99 : Int32)) hM dX2_rest_26 (by decide) ?_
          refine q_aload_n hM dX2_rest_28 (lv_at hl 2 rfl) ?_
          refine q_iload_n hM dX2_rest_29 (lv_at hl 3 rfl) ?_
          refine w_iald hM hW (lr_22 (by omega)) (i_in (by omega) (by omega)) dX2_rest_30 ?_
          refine q_top (fun y1206 hy1206 => ?_)
          refine q_aload_n hM dX2_rest_31 (lv_at hl 0 rfl) ?_
          refine w_get (v := .ref (ad lw)) hM hW FG_X2_15 lb_80 ((hW.2.2.1 80 9 (by omega)).trans h_r9) dX2_rest_32 ?_
          refine q_bipush (v := (114 : Int32)) hM dX2_rest_35 (by decide) ?_
          refine q_bipush (v := (20 : Int32)) hM dX2_rest_37 (by decide) ?_
          refine q_aload_n hM dX2_rest_39 (lv_at hl 0 rfl) ?_
          refine q_iload_n hM dX2_rest_40 (lv_at hl 1 rfl) ?_
          refine q_iload_n hM dX2_rest_41 (lv_at hl 3 rfl) ?_
          refine q_callV (As := [.int p, .int w12_3]) (rest := [.int (20 : Int32), .int (114 : Int32), .ref (ad lw), .int y1206, .int (99 : Int32), .int w12_3, .ref (ad (22 + 1 * p.toInt.toNat))]) hM hW.1 hR hC myX2_about (kAW (v_2_10 (List.mem_of_getElem? (i := 12) rfl)) rfl) (rfl : vwCl[2]? = some (RX2, TX2, 11)) rfl lb_80.1 (shO hW.2.1 lb_80) (a_X2_about_18 _ _ cA ad g9 p w12_3 hW.2.1 hG ((hW.2.2.1 80 10 (by omega)).trans h_r10) (by  omega) (by  omega) (by  omega) (by  omega)) ⟨by decide, by decide⟩ rfl rfl hl.1 (Nat.le_of_ble_eq_true rfl) dX2_rest_42 (fun v g1207 H locs hp hW1 => ?_)
          obtain ⟨rfl, hs1, hG, hf1⟩ := hp
          have hW : WS ad cA (fun i k => (22 ≤ i ∧ i < 30) ∨ i = 83 ∨ i = (lw + 6)) g0 K g1207 H locs := ⟨hW1, hs1, hW.2.2.tr hf1 (fun i k h => (Or.inr (Or.inl h)))⟩
          refine q_callV (As := [.int (114 : Int32), .int (20 : Int32), .ref (ad 83)]) (rest := [.int y1206, .int (99 : Int32), .int w12_3, .ref (ad (22 + 1 * p.toInt.toNat))]) hM hW.1 hR hC myX3_amount (kAW (v_2_11 (List.mem_of_getElem? (i := 10) rfl)) rfl) (rfl : vwCl[3]? = some (RX3, TX3, 8)) rfl (lo_Lw hlw).1 (shO hW.2.1 (lo_Lw hlw)) (a_X3_amount _ _ cA ad g1207 lw (114 : Int32) (20 : Int32) hW.2.1 hG hlw) ⟨by decide, by decide⟩ rfl rfl hl.1 (Nat.le_of_ble_eq_true rfl) dX2_rest_45 (fun v g1209 H locs hp hW1 => ?_)
          obtain ⟨r1208, rfl, hs1, hG, hf1⟩ := hp
          have hW : WS ad cA (fun i k => (22 ≤ i ∧ i < 30) ∨ i = 83 ∨ i = (lw + 6)) g0 K g1209 H locs := ⟨hW1, hs1, hW.2.2.tr hf1 (fun i k h => (Or.inr (Or.inr h)))⟩
          refine q_iadd hM dX2_rest_48 (fun z1210 hz1210 => ?_)
          first | have tz1210 := i_addT hz1210 (rfl : y1206.toInt = y1206.toInt) (rfl : r1208.toInt = r1208.toInt) (by omega) (by omega) | skip
          refine q_mmin hM hR hC (kAW (v_2_12 (List.mem_of_getElem? (i := 7) rfl)) rfl) hl.1 (by decide) (Nat.le_of_ble_eq_true rfl) dX2_rest_49 (fun r1211 hr1211 => ?_)
          have := kc_99
          refine w_iast hM hW (lr_22 (by omega)) (by omega) (i_in (by omega) (by omega)) dX2_rest_52 (fun g1212 H locs hW e1 e2 => ?_)
          have hG := hG.st e1 e2 (rA_row_22 (by omega)) (by have := i_rng r1211; omega) (by have := i_rng r1211; omega)
          refine q_iinc (lv9 := fun z1213 => [(3, .int z1213), (0, .ref (ad 80)), (1, .int p), (2, .ref (ad (22 + 1 * p.toInt.toNat)))]) hM dX2_rest_53 hl (kq := 3) rfl (by decide) (fun _ => rfl) (fun z1213 ls hz1213 hl => ?_)
          first | have tz1213 := i_addT hz1213 (rfl : w12_3.toInt = w12_3.toInt) (kc_1 : (Int32.ofInt 1).toInt = 1) (by omega) (by omega) | skip
          refine q_goto (tgt := 12) hM dX2_rest_56 (by decide) ?_
          exact ih12 z1213 _ _ _ _ (by omega) hG (by omega) (by omega) (lv_sub hl [1, 2, 3, 0] rfl) hW
  have := kc_0
  exact L12 _ (0 : Int32) _ _ _ _ (Nat.lt_succ_self _) hG (by omega) (by omega) (lv_sub hl [2, 3, 1, 0] rfl) hW

theorem dX2_recall_0 : decode cX2_recall 0 = .ok (.aload_n 0, 1) := by decide +kernel
theorem dX2_recall_1 : decode cX2_recall 1 = .ok (.getfield 19, 3) := by decide +kernel
theorem dX2_recall_4 : decode cX2_recall 4 = .ok (.getfield 86, 3) := by decide +kernel
theorem dX2_recall_7 : decode cX2_recall 7 = .ok (.iload_n 1, 1) := by decide +kernel
theorem dX2_recall_8 : decode cX2_recall 8 = .ok (.aaload, 1) := by decide +kernel
theorem dX2_recall_9 : decode cX2_recall 9 = .ok (.astore_n 2, 1) := by decide +kernel
theorem dX2_recall_10 : decode cX2_recall 10 = .ok (.iconst 0, 1) := by decide +kernel
theorem dX2_recall_11 : decode cX2_recall 11 = .ok (.istore_n 3, 1) := by decide +kernel
theorem dX2_recall_12 : decode cX2_recall 12 = .ok (.iconst 0, 1) := by decide +kernel
theorem dX2_recall_13 : decode cX2_recall 13 = .ok (.istore 4, 2) := by decide +kernel
theorem dX2_recall_15 : decode cX2_recall 15 = .ok (.iload 4, 2) := by decide +kernel
theorem dX2_recall_17 : decode cX2_recall 17 = .ok (.bipush 12, 2) := by decide +kernel
theorem dX2_recall_19 : decode cX2_recall 19 = .ok (.if_icmp .ge 82, 3) := by decide +kernel
theorem dX2_recall_22 : decode cX2_recall 22 = .ok (.aload_n 0, 1) := by decide +kernel
theorem dX2_recall_23 : decode cX2_recall 23 = .ok (.getfield 9, 3) := by decide +kernel
theorem dX2_recall_26 : decode cX2_recall 26 = .ok (.getfield 123, 3) := by decide +kernel
theorem dX2_recall_29 : decode cX2_recall 29 = .ok (.iload 4, 2) := by decide +kernel
theorem dX2_recall_31 : decode cX2_recall 31 = .ok (.invokestatic 61, 3) := by decide +kernel
theorem dX2_recall_34 : decode cX2_recall 34 = .ok (.ifCond .eq 61, 3) := by decide +kernel
theorem dX2_recall_37 : decode cX2_recall 37 = .ok (.aload_n 2, 1) := by decide +kernel
theorem dX2_recall_38 : decode cX2_recall 38 = .ok (.iload 4, 2) := by decide +kernel
theorem dX2_recall_40 : decode cX2_recall 40 = .ok (.iaload, 1) := by decide +kernel
theorem dX2_recall_41 : decode cX2_recall 41 = .ok (.ifCond .ne 54, 3) := by decide +kernel
theorem dX2_recall_44 : decode cX2_recall 44 = .ok (.aload_n 0, 1) := by decide +kernel
theorem dX2_recall_45 : decode cX2_recall 45 = .ok (.getfield 9, 3) := by decide +kernel
theorem dX2_recall_48 : decode cX2_recall 48 = .ok (.aload_n 2, 1) := by decide +kernel
theorem dX2_recall_49 : decode cX2_recall 49 = .ok (.iload 4, 2) := by decide +kernel
theorem dX2_recall_51 : decode cX2_recall 51 = .ok (.invokevirtual 136, 3) := by decide +kernel
theorem dX2_recall_54 : decode cX2_recall 54 = .ok (.aload_n 0, 1) := by decide +kernel
theorem dX2_recall_55 : decode cX2_recall 55 = .ok (.getfield 15, 3) := by decide +kernel
theorem dX2_recall_58 : decode cX2_recall 58 = .ok (.bipush 104, 2) := by decide +kernel
theorem dX2_recall_60 : decode cX2_recall 60 = .ok (.sipush 999, 3) := by decide +kernel
theorem dX2_recall_63 : decode cX2_recall 63 = .ok (.aload_n 0, 1) := by decide +kernel
theorem dX2_recall_64 : decode cX2_recall 64 = .ok (.iload_n 1, 1) := by decide +kernel
theorem dX2_recall_65 : decode cX2_recall 65 = .ok (.iload 4, 2) := by decide +kernel
theorem dX2_recall_67 : decode cX2_recall 67 = .ok (.invokevirtual 90, 3) := by decide +kernel
theorem dX2_recall_70 : decode cX2_recall 70 = .ok (.invokevirtual 94, 3) := by decide +kernel
theorem dX2_recall_73 : decode cX2_recall 73 = .ok (.isub, 1) := by decide +kernel
theorem dX2_recall_74 : decode cX2_recall 74 = .ok (.istore 5, 2) := by decide +kernel
theorem dX2_recall_76 : decode cX2_recall 76 = .ok (.iload 5, 2) := by decide +kernel
theorem dX2_recall_78 : decode cX2_recall 78 = .ok (.ifCond .le 17, 3) := by decide +kernel
theorem dX2_recall_81 : decode cX2_recall 81 = .ok (.aload_n 2, 1) := by decide +kernel
theorem dX2_recall_82 : decode cX2_recall 82 = .ok (.iload 4, 2) := by decide +kernel
theorem dX2_recall_84 : decode cX2_recall 84 = .ok (.bipush 99, 2) := by decide +kernel
theorem dX2_recall_86 : decode cX2_recall 86 = .ok (.iload 5, 2) := by decide +kernel
theorem dX2_recall_88 : decode cX2_recall 88 = .ok (.invokestatic 100, 3) := by decide +kernel
theorem dX2_recall_91 : decode cX2_recall 91 = .ok (.iastore, 1) := by decide +kernel
theorem dX2_recall_92 : decode cX2_recall 92 = .ok (.iinc 3 1, 3) := by decide +kernel
theorem dX2_recall_95 : decode cX2_recall 95 = .ok (.iinc 4 1, 3) := by decide +kernel
theorem dX2_recall_98 : decode cX2_recall 98 = .ok (.goto (-83), 3) := by decide +kernel
theorem dX2_recall_101 : decode cX2_recall 101 = .ok (.aload_n 0, 1) := by decide +kernel
theorem dX2_recall_102 : decode cX2_recall 102 = .ok (.getfield 19, 3) := by decide +kernel
theorem dX2_recall_105 : decode cX2_recall 105 = .ok (.dup, 1) := by decide +kernel
theorem dX2_recall_106 : decode cX2_recall 106 = .ok (.getfield 140, 3) := by decide +kernel
theorem dX2_recall_109 : decode cX2_recall 109 = .ok (.iload_n 3, 1) := by decide +kernel
theorem dX2_recall_110 : decode cX2_recall 110 = .ok (.iadd, 1) := by decide +kernel
theorem dX2_recall_111 : decode cX2_recall 111 = .ok (.putfield 140, 3) := by decide +kernel
theorem dX2_recall_114 : decode cX2_recall 114 = .ok (.iload_n 3, 1) := by decide +kernel
theorem dX2_recall_115 : decode cX2_recall 115 = .ok (.ireturn, 1) := by decide +kernel
theorem FG_X2_140 : FG RX2 140 7 8 6 := ⟨RX7, TX7, rfl, wX7, by decide, kAW (v_0_5 (List.mem_of_getElem? (i := 15) rfl)) rfl, rfl⟩
theorem FP_X2_140 : FPX RX2 140 7 8 6 .int := ⟨⟨RX7, TX7, tyX7, rfl, wX7, by decide, kAW (v_0_5 (List.mem_of_getElem? (i := 15) rfl)) rfl, rfl, tyX7_ok, nmX7, by decide +kernel, rfl⟩, by decide +kernel⟩
theorem myX5_sound : MI yX5_sound cX5_sound 5 (some FieldType.int) 2 := ⟨kAW (v_2_14 (List.mem_of_getElem? (i := 0) rfl)) rfl, kAW (v_0_0 (List.mem_of_getElem? (i := 3) rfl)) rfl, kAW (v_2_13 (List.mem_of_getElem? (i := 14) rfl)) rfl, kAW (v_2_13 (List.mem_of_getElem? (i := 15) rfl)) rfl, by decide, by decide, by decide +kernel⟩
set_option maxRecDepth 100000 in
set_option maxHeartbeats 4000000 in
theorem a_X2_recall_18 (l : Launch) (D : va_G) (cA : Nat → ClassId) (ad : Nat → Nat) (g0 : Nat → va_E) (p : Int32)  (lw : Nat) (hSh : Shp ad cA g0) (hG : Rng g0) (hlw : isLw lw) (h_r9 : fld g0 80 9 = .ref (ad lw)) (h_r10 : fld g0 80 10 = .ref (ad 18)) (p0 : 0 ≤ p.toInt) (p7 : p.toInt < 8) : CT l NN ad cA D yX2_recall cX2_recall 6 (some FieldType.int) (3, 72) [.ref (ad 80), .int p] g0 (fun v g' => ∃ (r : Int32), v = some (.int r) ∧ Shp ad cA g' ∧ Rng g' ∧ FR (fun i k => (22 ≤ i ∧ i < 30) ∨ i = 83 ∨ i = (lw + 6) ∨ (i = 18 ∧ (k = 6))) g0 g') := by
  refine q_enterI (by decide) (Nat.le_of_ble_eq_true rfl) rfl (fun K H locs ls _ _ hM hW0 hR hC hE hl => ?_)
  have hl : lv_has ls 6 [(0, .ref (ad 80)), (1, .int p)] := hl
  have hW : WS ad cA (fun i k => (22 ≤ i ∧ i < 30) ∨ i = 83 ∨ i = (lw + 6) ∨ (i = 18 ∧ (k = 6))) g0 K g0 H locs := ⟨hW0, hSh, FR.rf⟩
  have ulw := hlw
  unfold isLw at ulw
  refine q_aload_n hM dX2_recall_0 (lv_at hl 0 rfl) ?_
  refine w_get (v := .ref (ad 18)) hM hW FG_X2_19 lb_80 ((hW.2.2.1 80 10 (by omega)).trans h_r10) dX2_recall_1 ?_
  refine w_get (v := .ref (ad 21)) hM hW FG_X2_86 lb_18 (rf_18_2 hW.2.1) dX2_recall_4 ?_
  refine q_iload_n hM dX2_recall_7 (lv_at hl 1 rfl) ?_
  refine w_aald hM hW lb_21 (Or.inl rfl) (i_in (by omega) (by omega)) (aq (aq_21 hW.2.1) (by omega) (by omega)) dX2_recall_8 ?_
  refine q_astore_n (lv9 := [(2, .ref (ad (22 + 1 * p.toInt.toNat))), (0, .ref (ad 80)), (1, .int p)]) hM dX2_recall_9 hl (by decide) rfl (fun ls hl => ?_)
  refine q_iconst (v := (0 : Int32)) hM dX2_recall_10 (by decide) ?_
  refine q_istore_n (lv9 := [(3, .int (0 : Int32)), (2, .ref (ad (22 + 1 * p.toInt.toNat))), (0, .ref (ad 80)), (1, .int p)]) hM dX2_recall_11 hl (by decide) rfl (fun ls hl => ?_)
  refine q_iconst (v := (0 : Int32)) hM dX2_recall_12 (by decide) ?_
  refine q_istore (lv9 := [(4, .int (0 : Int32)), (3, .int (0 : Int32)), (2, .ref (ad (22 + 1 * p.toInt.toNat))), (0, .ref (ad 80)), (1, .int p)]) hM dX2_recall_13 hl (by decide) rfl (fun ls hl => ?_)
  have L15 : ∀ (fu15 : Nat) (w15_3 : Int32) (w15_4 : Int32) (g9 : Nat → va_E) (H : Heap) (locs : List Loc) (ls : Array Slot), (12 - w15_4.toInt).toNat < fu15 → (Rng g9) → (0 ≤ w15_4.toInt) → (w15_4.toInt ≤ 12) → lv_has ls 6 [(0, .ref (ad 80)), (1, .int p), (2, .ref (ad (22 + 1 * p.toInt.toNat))), (3, .int w15_3), (4, .int w15_4)] → WS ad cA (fun i k => (22 ≤ i ∧ i < 30) ∨ i = 83 ∨ i = (lw + 6) ∨ (i = 18 ∧ (k = 6))) g0 K g9 H locs → XX K 0 0 H locs 15 ls [] := by
    intro fu15
    induction fu15 with
    | zero => intro w15_3 w15_4 g9 H locs ls h0; omega
    | succ fu15 ih15 =>
      intro w15_3 w15_4 g9 H locs ls hm15 i15_0 i15_1 i15_2 hl hW
      have hG := i15_0
      refine q_iload hM dX2_recall_15 (lv_at hl 4 rfl) ?_
      refine q_bipush (v := (12 : Int32)) hM dX2_recall_17 (by decide) ?_
      refine q_icmp_ge (tgt := 101) hM dX2_recall_19 (by decide) (rfl : w15_4.toInt = w15_4.toInt) (kc_12 : (12 : Int32).toInt = 12) (fun h19 => ?_) (fun h19 => ?_)
      · refine q_aload_n hM dX2_recall_101 (lv_at hl 0 rfl) ?_
        refine w_get (v := .ref (ad 18)) hM hW FG_X2_19 lb_80 ((hW.2.2.1 80 10 (by omega)).trans h_r10) dX2_recall_102 ?_
        refine q_dup hM dX2_recall_105 rfl ?_
        refine w_getI hM hW FG_X2_140 lb_18 (by decide) (by decide) dX2_recall_106 (fun x1216 fx1216 => ?_)
        refine q_iload_n hM dX2_recall_109 (lv_at hl 3 rfl) ?_
        refine q_iadd hM dX2_recall_110 (fun z1217 hz1217 => ?_)
        first | have tz1217 := i_addT hz1217 (rfl : x1216.toInt = x1216.toInt) (rfl : w15_3.toInt = w15_3.toInt) (by omega) (by omega) | skip
        refine w_put hM hW FP_X2_140 lb_18 (by omega) (Or.inl ⟨_, rfl⟩) rfl rfl dX2_recall_111 (fun g1218 H locs hW e1 e2 => ?_)
        have f1219 : fld g1218 18 6 = .int z1217 := e1
        have hG := hG.put e1 e2 (rfl : rF 18 6 = (-2147483648, 2147483647)) (by decide) (by have := i_rng z1217; omega) (by have := i_rng z1217; omega)
        refine q_iload_n hM dX2_recall_114 (lv_at hl 3 rfl) ?_
        exact hE _ _ _ _ _ _ hW.1 ⟨_, rfl, hW.2.1, hG, hW.2.2⟩ dX2_recall_115
      · refine q_aload_n hM dX2_recall_22 (lv_at hl 0 rfl) ?_
        refine w_get (v := .ref (ad 3)) hM hW FG_X2_9 lb_80 (rf_80_0 hW.2.1) dX2_recall_23 ?_
        refine w_getI hM hW FG_X2_123 lb_3 (by decide) (by decide) dX2_recall_26 (fun x1221 fx1221 => ?_)
        have bx1221 := hG.f fx1221 rF_3_2 (by decide)
        refine q_iload hM dX2_recall_29 (lv_at hl 4 rfl) ?_
        refine q_callN (host := "ForgetSchool") (As := [.int x1221, .int w15_4]) (rest := []) hM hW.1 hR hC myX11_has (List.mem_of_getElem? (i := 3) rfl) (c_X11_has _ _ cA ad g9 x1221 w15_4 hW.2.1) ⟨by decide, by decide⟩ rfl rfl hl.1 (Nat.le_of_ble_eq_true rfl) dX2_recall_31 (fun v g1223 H locs hp hW1 => ?_)
        obtain ⟨r1222, rfl, hr1222, rfl⟩ := hp
        have hW : WS ad cA (fun i k => (22 ≤ i ∧ i < 30) ∨ i = 83 ∨ i = (lw + 6) ∨ (i = 18 ∧ (k = 6))) g0 K g9 H locs := ⟨hW1, hW.2.1, hW.2.2⟩
        first | have ltr1222 := has_lt 5 hr1222 (by omega) (by omega) | have ltr1222 := has_lt 6 hr1222 (by omega) (by omega) | have ltr1222 := has_lt 8 hr1222 (by omega) (by omega) | have ltr1222 := has_lt 12 hr1222 (by omega) (by omega) | skip
        refine q_if_eq (tgt := 95) hM dX2_recall_34 (by decide) (rfl : r1222.toInt = r1222.toInt) (fun h34 => ?_) (fun h34 => ?_)
        · refine q_iinc (lv9 := fun z1225 => [(4, .int z1225), (0, .ref (ad 80)), (1, .int p), (2, .ref (ad (22 + 1 * p.toInt.toNat))), (3, .int w15_3)]) hM dX2_recall_95 hl (kq := 4) rfl (by decide) (fun _ => rfl) (fun z1225 ls hz1225 hl => ?_)
          first | have tz1225 := i_addT hz1225 (rfl : w15_4.toInt = w15_4.toInt) (kc_1 : (Int32.ofInt 1).toInt = 1) (by omega) (by omega) | skip
          refine q_goto (tgt := 15) hM dX2_recall_98 (by decide) ?_
          exact ih15 w15_3 z1225 _ _ _ _ (by omega) hG (by omega) (by omega) (lv_sub hl [1, 2, 3, 4, 0] rfl) hW
        · refine q_aload_n hM dX2_recall_37 (lv_at hl 2 rfl) ?_
          refine q_iload hM dX2_recall_38 (lv_at hl 4 rfl) ?_
          refine w_iald hM hW (lr_22 (by omega)) (i_in (by omega) (by omega)) dX2_recall_40 ?_
          refine q_top (fun y1227 hy1227 => ?_)
          refine q_if_ne (tgt := 95) hM dX2_recall_41 (by decide) (rfl : y1227.toInt = y1227.toInt) (fun h41 => ?_) (fun h41 => ?_)
          · refine q_iinc (lv9 := fun z1229 => [(4, .int z1229), (0, .ref (ad 80)), (1, .int p), (2, .ref (ad (22 + 1 * p.toInt.toNat))), (3, .int w15_3)]) hM dX2_recall_95 hl (kq := 4) rfl (by decide) (fun _ => rfl) (fun z1229 ls hz1229 hl => ?_)
            first | have tz1229 := i_addT hz1229 (rfl : w15_4.toInt = w15_4.toInt) (kc_1 : (Int32.ofInt 1).toInt = 1) (by omega) (by omega) | skip
            refine q_goto (tgt := 15) hM dX2_recall_98 (by decide) ?_
            exact ih15 w15_3 z1229 _ _ _ _ (by omega) hG (by omega) (by omega) (lv_sub hl [1, 2, 3, 4, 0] rfl) hW
          · refine q_aload_n hM dX2_recall_44 (lv_at hl 0 rfl) ?_
            refine w_get (v := .ref (ad 3)) hM hW FG_X2_9 lb_80 (rf_80_0 hW.2.1) dX2_recall_45 ?_
            refine q_aload_n hM dX2_recall_48 (lv_at hl 2 rfl) ?_
            refine q_iload hM dX2_recall_49 (lv_at hl 4 rfl) ?_
            refine q_callV (As := [.ref (ad (22 + 1 * p.toInt.toNat)), .int w15_4]) (rest := []) hM hW.1 hR hC myX5_sound (kAW (v_2_13 (List.mem_of_getElem? (i := 13) rfl)) rfl) (rfl : vwCl[5]? = some (RX5, TX5, 3)) rfl lb_3.1 (shO hW.2.1 lb_3) (a_X5_sound _ _ cA ad g9 (22 + 1 * p.toInt.toNat) w15_4 hW.2.1 hG (by unfold isSr; omega : isSr (22 + 1 * p.toInt.toNat)) (by  omega) (by  omega)) ⟨by decide, by decide⟩ rfl rfl hl.1 (Nat.le_of_ble_eq_true rfl) dX2_recall_51 (fun v g1232 H locs hp hW1 => ?_)
            obtain ⟨r1231, rfl, hr1231, rfl⟩ := hp
            have hW : WS ad cA (fun i k => (22 ≤ i ∧ i < 30) ∨ i = 83 ∨ i = (lw + 6) ∨ (i = 18 ∧ (k = 6))) g0 K g9 H locs := ⟨hW1, hW.2.1, hW.2.2⟩
            refine q_aload_n hM dX2_recall_54 (lv_at hl 0 rfl) ?_
            refine w_get (v := .ref (ad lw)) hM hW FG_X2_15 lb_80 ((hW.2.2.1 80 9 (by omega)).trans h_r9) dX2_recall_55 ?_
            refine q_bipush (v := (104 : Int32)) hM dX2_recall_58 (by decide) ?_
            refine q_sipush (v := (999 : Int32)) hM dX2_recall_60 (by decide) ?_
            refine q_aload_n hM dX2_recall_63 (lv_at hl 0 rfl) ?_
            refine q_iload_n hM dX2_recall_64 (lv_at hl 1 rfl) ?_
            refine q_iload hM dX2_recall_65 (lv_at hl 4 rfl) ?_
            refine q_callV (As := [.int p, .int w15_4]) (rest := [.int (999 : Int32), .int (104 : Int32), .ref (ad lw), .int r1231]) hM hW.1 hR hC myX2_about (kAW (v_2_10 (List.mem_of_getElem? (i := 12) rfl)) rfl) (rfl : vwCl[2]? = some (RX2, TX2, 11)) rfl lb_80.1 (shO hW.2.1 lb_80) (a_X2_about_18 _ _ cA ad g9 p w15_4 hW.2.1 hG ((hW.2.2.1 80 10 (by omega)).trans h_r10) (by  omega) (by  omega) (by  omega) (by  omega)) ⟨by decide, by decide⟩ rfl rfl hl.1 (Nat.le_of_ble_eq_true rfl) dX2_recall_67 (fun v g1233 H locs hp hW1 => ?_)
            obtain ⟨rfl, hs1, hG, hf1⟩ := hp
            have f1234 : fld g1233 3 2 = .int x1221 := (hf1.1 3 2 (by omega)).trans fx1221
            have hW : WS ad cA (fun i k => (22 ≤ i ∧ i < 30) ∨ i = 83 ∨ i = (lw + 6) ∨ (i = 18 ∧ (k = 6))) g0 K g1233 H locs := ⟨hW1, hs1, hW.2.2.tr hf1 (fun i k h => (Or.inr (Or.inl h)))⟩
            refine q_callV (As := [.int (104 : Int32), .int (999 : Int32), .ref (ad 83)]) (rest := [.int r1231]) hM hW.1 hR hC myX3_amount (kAW (v_2_11 (List.mem_of_getElem? (i := 10) rfl)) rfl) (rfl : vwCl[3]? = some (RX3, TX3, 8)) rfl (lo_Lw hlw).1 (shO hW.2.1 (lo_Lw hlw)) (a_X3_amount _ _ cA ad g1233 lw (104 : Int32) (999 : Int32) hW.2.1 hG hlw) ⟨by decide, by decide⟩ rfl rfl hl.1 (Nat.le_of_ble_eq_true rfl) dX2_recall_70 (fun v g1236 H locs hp hW1 => ?_)
            obtain ⟨r1235, rfl, hs1, hG, hf1⟩ := hp
            have f1237 : fld g1236 3 2 = .int x1221 := (hf1.1 3 2 (by omega)).trans f1234
            have hW : WS ad cA (fun i k => (22 ≤ i ∧ i < 30) ∨ i = 83 ∨ i = (lw + 6) ∨ (i = 18 ∧ (k = 6))) g0 K g1236 H locs := ⟨hW1, hs1, hW.2.2.tr hf1 (fun i k h => (Or.inr (Or.inr (Or.inl h))))⟩
            refine q_isub hM dX2_recall_73 (fun z1238 hz1238 => ?_)
            first | have tz1238 := i_subT hz1238 (rfl : r1231.toInt = r1231.toInt) (rfl : r1235.toInt = r1235.toInt) (by omega) (by omega) | skip
            refine q_istore (lv9 := [(5, .int z1238), (0, .ref (ad 80)), (1, .int p), (2, .ref (ad (22 + 1 * p.toInt.toNat))), (3, .int w15_3), (4, .int w15_4)]) hM dX2_recall_74 hl (by decide) rfl (fun ls hl => ?_)
            refine q_iload hM dX2_recall_76 (lv_at hl 0 rfl) ?_
            refine q_if_le (tgt := 95) hM dX2_recall_78 (by decide) (rfl : z1238.toInt = z1238.toInt) (fun h78 => ?_) (fun h78 => ?_)
            · refine q_iinc (lv9 := fun z1240 => [(4, .int z1240), (5, .int z1238), (0, .ref (ad 80)), (1, .int p), (2, .ref (ad (22 + 1 * p.toInt.toNat))), (3, .int w15_3)]) hM dX2_recall_95 hl (kq := 5) rfl (by decide) (fun _ => rfl) (fun z1240 ls hz1240 hl => ?_)
              first | have tz1240 := i_addT hz1240 (rfl : w15_4.toInt = w15_4.toInt) (kc_1 : (Int32.ofInt 1).toInt = 1) (by omega) (by omega) | skip
              refine q_goto (tgt := 15) hM dX2_recall_98 (by decide) ?_
              exact ih15 w15_3 z1240 _ _ _ _ (by omega) hG (by omega) (by omega) (lv_sub hl [2, 3, 4, 5, 0] rfl) hW
            · refine q_aload_n hM dX2_recall_81 (lv_at hl 3 rfl) ?_
              refine q_iload hM dX2_recall_82 (lv_at hl 5 rfl) ?_
              refine q_bipush (v := (99 : Int32)) hM dX2_recall_84 (by decide) ?_
              refine q_iload hM dX2_recall_86 (lv_at hl 0 rfl) ?_
              refine q_mmin hM hR hC (kAW (v_2_12 (List.mem_of_getElem? (i := 7) rfl)) rfl) hl.1 (by decide) (Nat.le_of_ble_eq_true rfl) dX2_recall_88 (fun r1242 hr1242 => ?_)
              have := kc_99
              refine w_iast hM hW (lr_22 (by omega)) (by omega) (i_in (by omega) (by omega)) dX2_recall_91 (fun g1243 H locs hW e1 e2 => ?_)
              have f1244 : fld g1243 3 2 = .int x1221 := (e2.1 3 2 (by unfold Only; omega)).trans f1237
              have hG := hG.st e1 e2 (rA_row_22 (by omega)) (by have := i_rng r1242; omega) (by have := i_rng r1242; omega)
              refine q_iinc (lv9 := fun z1245 => [(3, .int z1245), (5, .int z1238), (0, .ref (ad 80)), (1, .int p), (2, .ref (ad (22 + 1 * p.toInt.toNat))), (4, .int w15_4)]) hM dX2_recall_92 hl (kq := 4) rfl (by decide) (fun _ => rfl) (fun z1245 ls hz1245 hl => ?_)
              first | have tz1245 := i_addT hz1245 (rfl : w15_3.toInt = w15_3.toInt) (kc_1 : (Int32.ofInt 1).toInt = 1) (by omega) (by omega) | skip
              refine q_iinc (lv9 := fun z1246 => [(4, .int z1246), (3, .int z1245), (5, .int z1238), (0, .ref (ad 80)), (1, .int p), (2, .ref (ad (22 + 1 * p.toInt.toNat)))]) hM dX2_recall_95 hl (kq := 5) rfl (by decide) (fun _ => rfl) (fun z1246 ls hz1246 hl => ?_)
              first | have tz1246 := i_addT hz1246 (rfl : w15_4.toInt = w15_4.toInt) (kc_1 : (Int32.ofInt 1).toInt = 1) (by omega) (by omega) | skip
              refine q_goto (tgt := 15) hM dX2_recall_98 (by decide) ?_
              exact ih15 z1245 z1246 _ _ _ _ (by omega) hG (by omega) (by omega) (lv_sub hl [3, 4, 5, 1, 0] rfl) hW
  have := kc_0
  have := kc_0
  exact L15 _ (0 : Int32) (0 : Int32) _ _ _ _ (Nat.lt_succ_self _) hG (by omega) (by omega) (lv_sub hl [3, 4, 2, 1, 0] rfl) hW

theorem dX2_turn_0 : decode cX2_turn 0 = .ok (.aload_n 0, 1) := by decide +kernel
theorem dX2_turn_1 : decode cX2_turn 1 = .ok (.iload_n 1, 1) := by decide +kernel
theorem dX2_turn_2 : decode cX2_turn 2 = .ok (.aload_n 2, 1) := by decide +kernel
theorem dX2_turn_3 : decode cX2_turn 3 = .ok (.invokevirtual 75, 3) := by decide +kernel
theorem dX2_turn_6 : decode cX2_turn 6 = .ok (.aload_n 0, 1) := by decide +kernel
theorem dX2_turn_7 : decode cX2_turn 7 = .ok (.iload_n 1, 1) := by decide +kernel
theorem dX2_turn_8 : decode cX2_turn 8 = .ok (.invokevirtual 79, 3) := by decide +kernel
theorem dX2_turn_11 : decode cX2_turn 11 = .ok (.pop, 1) := by decide +kernel
theorem dX2_turn_12 : decode cX2_turn 12 = .ok (.return_, 1) := by decide +kernel
theorem myX2_doArt : MI yX2_doArt cX2_doArt 5 none 2 := ⟨kAW (v_2_12 (List.mem_of_getElem? (i := 11) rfl)) rfl, kAW (v_0_0 (List.mem_of_getElem? (i := 9) rfl)) rfl, kAW (v_2_12 (List.mem_of_getElem? (i := 9) rfl)) rfl, kAW (v_2_12 (List.mem_of_getElem? (i := 10) rfl)) rfl, by decide, by decide, by decide +kernel⟩
theorem myX2_recall : MI yX2_recall cX2_recall 6 (some FieldType.int) 1 := ⟨kAW (v_2_13 (List.mem_of_getElem? (i := 12) rfl)) rfl, kAW (v_0_0 (List.mem_of_getElem? (i := 9) rfl)) rfl, kAW (v_2_13 (List.mem_of_getElem? (i := 10) rfl)) rfl, kAW (v_2_13 (List.mem_of_getElem? (i := 11) rfl)) rfl, by decide, by decide, by decide +kernel⟩
set_option maxRecDepth 100000 in
set_option maxHeartbeats 4000000 in
theorem a_X2_turn_18 (l : Launch) (D : va_G) (cA : Nat → ClassId) (ad : Nat → Nat) (g0 : Nat → va_E) (p : Int32) (ar : Nat)  (lw : Nat) (hSh : Shp ad cA g0) (hG : Rng g0) (har : isAt ar) (hlw : isLw lw) (h_r9 : fld g0 80 9 = .ref (ad lw)) (h_r10 : fld g0 80 10 = .ref (ad 18)) (p0 : 0 ≤ p.toInt) (p7 : p.toInt < 8) : CT l NN ad cA D yX2_turn cX2_turn 3 none (5, 121) [.ref (ad 80), .int p, .ref (ad ar)] g0 (fun v g' => v = none ∧ Shp ad cA g' ∧ Rng g' ∧ FR (fun i k => (22 ≤ i ∧ i < 30) ∨ i = 83 ∨ i = (lw + 6) ∨ (i = 18 ∧ (k = 6))) g0 g') := by
  refine q_enterV (by decide) (Nat.le_of_ble_eq_true rfl) (fun K H locs ls _ _ hM hW0 hR hC hE hl => ?_)
  have hl : lv_has ls 3 [(0, .ref (ad 80)), (1, .int p), (2, .ref (ad ar))] := hl
  have hW : WS ad cA (fun i k => (22 ≤ i ∧ i < 30) ∨ i = 83 ∨ i = (lw + 6) ∨ (i = 18 ∧ (k = 6))) g0 K g0 H locs := ⟨hW0, hSh, FR.rf⟩
  have uar := har
  unfold isAt at uar
  have ulw := hlw
  unfold isLw at ulw
  refine q_aload_n hM dX2_turn_0 (lv_at hl 0 rfl) ?_
  refine q_iload_n hM dX2_turn_1 (lv_at hl 1 rfl) ?_
  refine q_aload_n hM dX2_turn_2 (lv_at hl 2 rfl) ?_
  refine q_callV (As := [.int p, .ref (ad ar)]) (rest := []) hM hW.1 hR hC myX2_doArt (kAW (v_2_12 (List.mem_of_getElem? (i := 8) rfl)) rfl) (rfl : vwCl[2]? = some (RX2, TX2, 11)) rfl lb_80.1 (shO hW.2.1 lb_80) (a_X2_doArt_18 _ _ cA ad g0 p ar lw hW.2.1 hG har hlw ((hW.2.2.1 80 9 (by omega)).trans h_r9) ((hW.2.2.1 80 10 (by omega)).trans h_r10) (by  omega) (by  omega)) ⟨by decide, by decide⟩ rfl rfl hl.1 (Nat.le_of_ble_eq_true rfl) dX2_turn_3 (fun v g1247 H locs hp hW1 => ?_)
  obtain ⟨rfl, hs1, hG, hf1⟩ := hp
  have hW : WS ad cA (fun i k => (22 ≤ i ∧ i < 30) ∨ i = 83 ∨ i = (lw + 6) ∨ (i = 18 ∧ (k = 6))) g0 K g1247 H locs := ⟨hW1, hs1, hW.2.2.tr hf1 (fun i k h => h.elim (fun h => (Or.inl h)) (fun h => h.elim (fun h => (Or.inr (Or.inl h))) (fun h => (Or.inr (Or.inr (Or.inl h))))))⟩
  refine q_aload_n hM dX2_turn_6 (lv_at hl 0 rfl) ?_
  refine q_iload_n hM dX2_turn_7 (lv_at hl 1 rfl) ?_
  refine q_callV (As := [.int p]) (rest := []) hM hW.1 hR hC myX2_recall (kAW (v_2_13 (List.mem_of_getElem? (i := 9) rfl)) rfl) (rfl : vwCl[2]? = some (RX2, TX2, 11)) rfl lb_80.1 (shO hW.2.1 lb_80) (a_X2_recall_18 _ _ cA ad g1247 p lw hW.2.1 hG hlw ((hW.2.2.1 80 9 (by omega)).trans h_r9) ((hW.2.2.1 80 10 (by omega)).trans h_r10) (by  omega) (by  omega)) ⟨by decide, by decide⟩ rfl rfl hl.1 (Nat.le_of_ble_eq_true rfl) dX2_turn_8 (fun v g1249 H locs hp hW1 => ?_)
  obtain ⟨r1248, rfl, hs1, hG, hf1⟩ := hp
  have hW : WS ad cA (fun i k => (22 ≤ i ∧ i < 30) ∨ i = 83 ∨ i = (lw + 6) ∨ (i = 18 ∧ (k = 6))) g0 K g1249 H locs := ⟨hW1, hs1, hW.2.2.tr hf1 (fun i k h => h.elim (fun h => (Or.inl h)) (fun h => h.elim (fun h => (Or.inr (Or.inl h))) (fun h => h.elim (fun h => (Or.inr (Or.inr (Or.inl h)))) (fun h => (Or.inr (Or.inr (Or.inr h)))))))⟩
  refine q_pop hM dX2_turn_11 rfl ?_
  exact hE _ _ _ _ _ hW.1 ⟨rfl, hW.2.1, hG, hW.2.2⟩ dX2_turn_12

theorem dX2_examine_0 : decode cX2_examine 0 = .ok (.iconst 0, 1) := by decide +kernel
theorem dX2_examine_1 : decode cX2_examine 1 = .ok (.istore_n 2, 1) := by decide +kernel
theorem dX2_examine_2 : decode cX2_examine 2 = .ok (.iconst 0, 1) := by decide +kernel
theorem dX2_examine_3 : decode cX2_examine 3 = .ok (.istore_n 3, 1) := by decide +kernel
theorem dX2_examine_4 : decode cX2_examine 4 = .ok (.iload_n 3, 1) := by decide +kernel
theorem dX2_examine_5 : decode cX2_examine 5 = .ok (.bipush 12, 2) := by decide +kernel
theorem dX2_examine_7 : decode cX2_examine 7 = .ok (.if_icmp .ge 55, 3) := by decide +kernel
theorem dX2_examine_10 : decode cX2_examine 10 = .ok (.aload_n 0, 1) := by decide +kernel
theorem dX2_examine_11 : decode cX2_examine 11 = .ok (.getfield 9, 3) := by decide +kernel
theorem dX2_examine_14 : decode cX2_examine 14 = .ok (.getfield 123, 3) := by decide +kernel
theorem dX2_examine_17 : decode cX2_examine 17 = .ok (.aload_n 0, 1) := by decide +kernel
theorem dX2_examine_18 : decode cX2_examine 18 = .ok (.getfield 41, 3) := by decide +kernel
theorem dX2_examine_21 : decode cX2_examine 21 = .ok (.iand, 1) := by decide +kernel
theorem dX2_examine_22 : decode cX2_examine 22 = .ok (.iload_n 3, 1) := by decide +kernel
theorem dX2_examine_23 : decode cX2_examine 23 = .ok (.invokestatic 61, 3) := by decide +kernel
theorem dX2_examine_26 : decode cX2_examine 26 = .ok (.ifCond .eq 30, 3) := by decide +kernel
theorem dX2_examine_29 : decode cX2_examine 29 = .ok (.aload_n 0, 1) := by decide +kernel
theorem dX2_examine_30 : decode cX2_examine 30 = .ok (.getfield 19, 3) := by decide +kernel
theorem dX2_examine_33 : decode cX2_examine 33 = .ok (.invokevirtual 143, 3) := by decide +kernel
theorem dX2_examine_36 : decode cX2_examine 36 = .ok (.aload_n 0, 1) := by decide +kernel
theorem dX2_examine_37 : decode cX2_examine 37 = .ok (.getfield 19, 3) := by decide +kernel
theorem dX2_examine_40 : decode cX2_examine 40 = .ok (.getfield 86, 3) := by decide +kernel
theorem dX2_examine_43 : decode cX2_examine 43 = .ok (.iload_n 1, 1) := by decide +kernel
theorem dX2_examine_44 : decode cX2_examine 44 = .ok (.aaload, 1) := by decide +kernel
theorem dX2_examine_45 : decode cX2_examine 45 = .ok (.iload_n 3, 1) := by decide +kernel
theorem dX2_examine_46 : decode cX2_examine 46 = .ok (.iaload, 1) := by decide +kernel
theorem dX2_examine_47 : decode cX2_examine 47 = .ok (.invokestatic 147, 3) := by decide +kernel
theorem dX2_examine_50 : decode cX2_examine 50 = .ok (.if_icmp .ge 6, 3) := by decide +kernel
theorem dX2_examine_53 : decode cX2_examine 53 = .ok (.iinc 2 1, 3) := by decide +kernel
theorem dX2_examine_56 : decode cX2_examine 56 = .ok (.iinc 3 1, 3) := by decide +kernel
theorem dX2_examine_59 : decode cX2_examine 59 = .ok (.goto (-55), 3) := by decide +kernel
theorem dX2_examine_62 : decode cX2_examine 62 = .ok (.aload_n 0, 1) := by decide +kernel
theorem dX2_examine_63 : decode cX2_examine 63 = .ok (.dup, 1) := by decide +kernel
theorem dX2_examine_64 : decode cX2_examine 64 = .ok (.getfield 50, 3) := by decide +kernel
theorem dX2_examine_67 : decode cX2_examine 67 = .ok (.iload_n 2, 1) := by decide +kernel
theorem dX2_examine_68 : decode cX2_examine 68 = .ok (.iadd, 1) := by decide +kernel
theorem dX2_examine_69 : decode cX2_examine 69 = .ok (.putfield 50, 3) := by decide +kernel
theorem dX2_examine_72 : decode cX2_examine 72 = .ok (.iload_n 2, 1) := by decide +kernel
theorem dX2_examine_73 : decode cX2_examine 73 = .ok (.aload_n 0, 1) := by decide +kernel
theorem dX2_examine_74 : decode cX2_examine 74 = .ok (.getfield 44, 3) := by decide +kernel
theorem dX2_examine_77 : decode cX2_examine 77 = .ok (.if_icmp .le 4, 3) := by decide +kernel
theorem dX2_examine_80 : decode cX2_examine 80 = .ok (.return_, 1) := by decide +kernel
theorem dX2_examine_81 : decode cX2_examine 81 = .ok (.aload_n 0, 1) := by decide +kernel
theorem dX2_examine_82 : decode cX2_examine 82 = .ok (.getfield 19, 3) := by decide +kernel
theorem dX2_examine_85 : decode cX2_examine 85 = .ok (.dup, 1) := by decide +kernel
theorem dX2_examine_86 : decode cX2_examine 86 = .ok (.getfield 150, 3) := by decide +kernel
theorem dX2_examine_89 : decode cX2_examine 89 = .ok (.iconst 1, 1) := by decide +kernel
theorem dX2_examine_90 : decode cX2_examine 90 = .ok (.iadd, 1) := by decide +kernel
theorem dX2_examine_91 : decode cX2_examine 91 = .ok (.putfield 150, 3) := by decide +kernel
theorem dX2_examine_94 : decode cX2_examine 94 = .ok (.aload_n 0, 1) := by decide +kernel
theorem dX2_examine_95 : decode cX2_examine 95 = .ok (.getfield 19, 3) := by decide +kernel
theorem dX2_examine_98 : decode cX2_examine 98 = .ok (.getfield 65, 3) := by decide +kernel
theorem dX2_examine_101 : decode cX2_examine 101 = .ok (.iload_n 1, 1) := by decide +kernel
theorem dX2_examine_102 : decode cX2_examine 102 = .ok (.dup2, 1) := by decide +kernel
theorem dX2_examine_103 : decode cX2_examine 103 = .ok (.iaload, 1) := by decide +kernel
theorem dX2_examine_104 : decode cX2_examine 104 = .ok (.iconst 1, 1) := by decide +kernel
theorem dX2_examine_105 : decode cX2_examine 105 = .ok (.iadd, 1) := by decide +kernel
theorem dX2_examine_106 : decode cX2_examine 106 = .ok (.iastore, 1) := by decide +kernel
theorem dX2_examine_107 : decode cX2_examine 107 = .ok (.aload_n 0, 1) := by decide +kernel
theorem dX2_examine_108 : decode cX2_examine 108 = .ok (.getfield 19, 3) := by decide +kernel
theorem dX2_examine_111 : decode cX2_examine 111 = .ok (.getfield 65, 3) := by decide +kernel
theorem dX2_examine_114 : decode cX2_examine 114 = .ok (.iload_n 1, 1) := by decide +kernel
theorem dX2_examine_115 : decode cX2_examine 115 = .ok (.iaload, 1) := by decide +kernel
theorem dX2_examine_116 : decode cX2_examine 116 = .ok (.bipush 10, 2) := by decide +kernel
theorem dX2_examine_118 : decode cX2_examine 118 = .ok (.if_icmp .ne 13, 3) := by decide +kernel
theorem dX2_examine_121 : decode cX2_examine 121 = .ok (.aload_n 0, 1) := by decide +kernel
theorem dX2_examine_122 : decode cX2_examine 122 = .ok (.dup, 1) := by decide +kernel
theorem dX2_examine_123 : decode cX2_examine 123 = .ok (.getfield 47, 3) := by decide +kernel
theorem dX2_examine_126 : decode cX2_examine 126 = .ok (.iconst 1, 1) := by decide +kernel
theorem dX2_examine_127 : decode cX2_examine 127 = .ok (.iadd, 1) := by decide +kernel
theorem dX2_examine_128 : decode cX2_examine 128 = .ok (.putfield 47, 3) := by decide +kernel
theorem dX2_examine_131 : decode cX2_examine 131 = .ok (.return_, 1) := by decide +kernel
theorem FG_X2_50 : FG RX2 50 2 11 8 := ⟨RX2, TX2, rfl, wX2, by decide, kAW (v_1_0 (List.mem_of_getElem? (i := 2) rfl)) rfl, rfl⟩
theorem FG_X2_44 : FG RX2 44 2 11 6 := ⟨RX2, TX2, rfl, wX2, by decide, kAW (v_0_14 (List.mem_of_getElem? (i := 14) rfl)) rfl, rfl⟩
theorem FG_X2_150 : FG RX2 150 7 8 5 := ⟨RX7, TX7, rfl, wX7, by decide, kAW (v_0_5 (List.mem_of_getElem? (i := 12) rfl)) rfl, rfl⟩
theorem FP_X2_150 : FPX RX2 150 7 8 5 .int := ⟨⟨RX7, TX7, tyX7, rfl, wX7, by decide, kAW (v_0_5 (List.mem_of_getElem? (i := 12) rfl)) rfl, rfl, tyX7_ok, nmX7, by decide +kernel, rfl⟩, by decide +kernel⟩
theorem FG_X2_47 : FG RX2 47 2 11 7 := ⟨RX2, TX2, rfl, wX2, by decide, kAW (v_1_0 (List.mem_of_getElem? (i := 0) rfl)) rfl, rfl⟩
theorem FG_X2_41 : FG RX2 41 2 11 5 := ⟨RX2, TX2, rfl, wX2, by decide, kAW (v_0_14 (List.mem_of_getElem? (i := 12) rfl)) rfl, rfl⟩
theorem myX7_draw : MI yX7_draw cX7_draw 1 (some FieldType.int) 0 := ⟨kAW (v_2_14 (List.mem_of_getElem? (i := 8) rfl)) rfl, kAW (v_0_0 (List.mem_of_getElem? (i := 4) rfl)) rfl, kAW (v_2_14 (List.mem_of_getElem? (i := 6) rfl)) rfl, kAW (v_2_14 (List.mem_of_getElem? (i := 7) rfl)) rfl, by decide, by decide, by decide +kernel⟩
theorem myX11_tenths : MS yX11_tenths cX11_tenths 1 (some FieldType.int) 1 := ⟨kAW (v_2_14 (List.mem_of_getElem? (i := 12) rfl)) rfl, kAW (v_0_0 (List.mem_of_getElem? (i := 1) rfl)) rfl, kAW (v_2_14 (List.mem_of_getElem? (i := 11) rfl)) rfl, by decide, by decide, by decide +kernel⟩
set_option maxRecDepth 100000 in
set_option maxHeartbeats 4000000 in
theorem a_X2_examine_18 (l : Launch) (D : va_G) (cA : Nat → ClassId) (ad : Nat → Nat) (g0 : Nat → va_E) (p : Int32)   (hSh : Shp ad cA g0) (hG : Rng g0) (h_r10 : fld g0 80 10 = .ref (ad 18)) (p0 : 0 ≤ p.toInt) (p7 : p.toInt < 8) (gr9 : (arI g0 19 p.toNatClampNeg).toInt ≤ 9) : CT l NN ad cA D yX2_examine cX2_examine 4 none (1, 21) [.ref (ad 80), .int p] g0 (fun v g' => v = none ∧ Shp ad cA g' ∧ Rng g' ∧ FR (fun i k => (i = 80 ∧ (k = 7 ∨ k = 8)) ∨ (i = 18 ∧ (k = 5 ∨ k = 7)) ∨ i = 19) g0 g') := by
  refine q_enterV (by decide) (Nat.le_of_ble_eq_true rfl) (fun K H locs ls _ _ hM hW0 hR hC hE hl => ?_)
  have hl : lv_has ls 4 [(0, .ref (ad 80)), (1, .int p)] := hl
  have hW : WS ad cA (fun i k => (i = 80 ∧ (k = 7 ∨ k = 8)) ∨ (i = 18 ∧ (k = 5 ∨ k = 7)) ∨ i = 19) g0 K g0 H locs := ⟨hW0, hSh, FR.rf⟩
  refine q_iconst (v := (0 : Int32)) hM dX2_examine_0 (by decide) ?_
  refine q_istore_n (lv9 := [(2, .int (0 : Int32)), (0, .ref (ad 80)), (1, .int p)]) hM dX2_examine_1 hl (by decide) rfl (fun ls hl => ?_)
  refine q_iconst (v := (0 : Int32)) hM dX2_examine_2 (by decide) ?_
  refine q_istore_n (lv9 := [(3, .int (0 : Int32)), (2, .int (0 : Int32)), (0, .ref (ad 80)), (1, .int p)]) hM dX2_examine_3 hl (by decide) rfl (fun ls hl => ?_)
  have L4 : ∀ (fu4 : Nat) (w4_2 : Int32) (w4_3 : Int32) (g9 : Nat → va_E) (H : Heap) (locs : List Loc) (ls : Array Slot), (12 - w4_3.toInt).toNat < fu4 → (Rng g9) → (0 ≤ w4_3.toInt) → (w4_3.toInt ≤ 12) → (arI g9 19 = arI g0 19) → lv_has ls 4 [(0, .ref (ad 80)), (1, .int p), (2, .int w4_2), (3, .int w4_3)] → WS ad cA (fun i k => (i = 80 ∧ (k = 7 ∨ k = 8)) ∨ (i = 18 ∧ (k = 5 ∨ k = 7)) ∨ i = 19) g0 K g9 H locs → XX K 0 0 H locs 4 ls [] := by
    intro fu4
    induction fu4 with
    | zero => intro w4_2 w4_3 g9 H locs ls h0; omega
    | succ fu4 ih4 =>
      intro w4_2 w4_3 g9 H locs ls hm4 i4_0 i4_1 i4_2 d4_19 hl hW
      have hG := i4_0
      refine q_iload_n hM dX2_examine_4 (lv_at hl 3 rfl) ?_
      refine q_bipush (v := (12 : Int32)) hM dX2_examine_5 (by decide) ?_
      refine q_icmp_ge (tgt := 62) hM dX2_examine_7 (by decide) (rfl : w4_3.toInt = w4_3.toInt) (kc_12 : (12 : Int32).toInt = 12) (fun h7 => ?_) (fun h7 => ?_)
      · refine q_aload_n hM dX2_examine_62 (lv_at hl 0 rfl) ?_
        refine q_dup hM dX2_examine_63 rfl ?_
        refine w_getI hM hW FG_X2_50 lb_80 (by decide) (by decide) dX2_examine_64 (fun x1252 fx1252 => ?_)
        refine q_iload_n hM dX2_examine_67 (lv_at hl 2 rfl) ?_
        refine q_iadd hM dX2_examine_68 (fun z1253 hz1253 => ?_)
        first | have tz1253 := i_addT hz1253 (rfl : x1252.toInt = x1252.toInt) (rfl : w4_2.toInt = w4_2.toInt) (by omega) (by omega) | skip
        refine w_put hM hW FP_X2_50 lb_80 (by omega) (Or.inl ⟨_, rfl⟩) rfl rfl dX2_examine_69 (fun g1254 H locs hW e1 e2 => ?_)
        have f1255 : arI g1254 19 = arI g0 19 := (e2.2.1 19 (by unfold Only; omega)).trans d4_19
        have f1256 : fld g1254 80 8 = .int z1253 := e1
        have hG := hG.put e1 e2 (rfl : rF 80 8 = (-2147483648, 2147483647)) (by decide) (by have := i_rng z1253; omega) (by have := i_rng z1253; omega)
        refine q_iload_n hM dX2_examine_72 (lv_at hl 2 rfl) ?_
        refine q_aload_n hM dX2_examine_73 (lv_at hl 0 rfl) ?_
        refine w_getI hM hW FG_X2_44 lb_80 (by decide) (by decide) dX2_examine_74 (fun x1257 fx1257 => ?_)
        refine q_icmp_le (tgt := 81) hM dX2_examine_77 (by decide) (rfl : w4_2.toInt = w4_2.toInt) (rfl : x1257.toInt = x1257.toInt) (fun h77 => ?_) (fun h77 => ?_)
        · refine q_aload_n hM dX2_examine_81 (lv_at hl 0 rfl) ?_
          refine w_get (v := .ref (ad 18)) hM hW FG_X2_19 lb_80 ((hW.2.2.1 80 10 (by omega)).trans h_r10) dX2_examine_82 ?_
          refine q_dup hM dX2_examine_85 rfl ?_
          refine w_getI hM hW FG_X2_150 lb_18 (by decide) (by decide) dX2_examine_86 (fun x1259 fx1259 => ?_)
          refine q_iconst (v := (1 : Int32)) hM dX2_examine_89 (by decide) ?_
          refine q_iadd hM dX2_examine_90 (fun z1260 hz1260 => ?_)
          first | have tz1260 := i_addT hz1260 (rfl : x1259.toInt = x1259.toInt) (kc_1 : (1 : Int32).toInt = 1) (by omega) (by omega) | skip
          refine w_put hM hW FP_X2_150 lb_18 (by omega) (Or.inl ⟨_, rfl⟩) rfl rfl dX2_examine_91 (fun g1261 H locs hW e1 e2 => ?_)
          have f1262 : arI g1261 19 = arI g0 19 := (e2.2.1 19 (by unfold Only; omega)).trans f1255
          have f1263 : fld g1261 80 8 = .int z1253 := (e2.1 80 8 (by unfold Only; omega)).trans f1256
          have f1264 : fld g1261 80 6 = .int x1257 := (e2.1 80 6 (by unfold Only; omega)).trans fx1257
          have f1265 : fld g1261 18 5 = .int z1260 := e1
          have hG := hG.put e1 e2 (rfl : rF 18 5 = (-2147483648, 2147483647)) (by decide) (by have := i_rng z1260; omega) (by have := i_rng z1260; omega)
          refine q_aload_n hM dX2_examine_94 (lv_at hl 0 rfl) ?_
          refine w_get (v := .ref (ad 18)) hM hW FG_X2_19 lb_80 ((hW.2.2.1 80 10 (by omega)).trans h_r10) dX2_examine_95 ?_
          refine w_get (v := .ref (ad 19)) hM hW FG_X2_65 lb_18 (rf_18_0 hW.2.1) dX2_examine_98 ?_
          refine q_iload_n hM dX2_examine_101 (lv_at hl 1 rfl) ?_
          refine q_dup2 hM dX2_examine_102 rfl rfl ?_
          refine w_iald hM hW lb_19 (i_in (by omega) (by omega)) dX2_examine_103 ?_
          refine q_top (fun y1266 hy1266 => ?_)
          have ky1266 : y1266.toInt ≤ 9 := by rw [hy1266, f1262]; exact gr9
          have by1266 := hG.a hy1266 rA_19
          refine q_iconst (v := (1 : Int32)) hM dX2_examine_104 (by decide) ?_
          refine q_iadd hM dX2_examine_105 (fun z1267 hz1267 => ?_)
          first | have tz1267 := i_addT hz1267 (rfl : y1266.toInt = y1266.toInt) (kc_1 : (1 : Int32).toInt = 1) (by omega) (by omega) | skip
          refine w_iast hM hW lb_19 (by omega) (i_in (by omega) (by omega)) dX2_examine_106 (fun g1268 H locs hW e1 e2 => ?_)
          have f1269 : fld g1268 80 8 = .int z1253 := (e2.1 80 8 (by unfold Only; omega)).trans f1263
          have f1270 : fld g1268 80 6 = .int x1257 := (e2.1 80 6 (by unfold Only; omega)).trans f1264
          have f1271 : fld g1268 18 5 = .int z1260 := (e2.1 18 5 (by unfold Only; omega)).trans f1265
          have hG := hG.st e1 e2 rA_19 (by have := i_rng z1267; omega) (by have := i_rng z1267; omega)
          refine q_aload_n hM dX2_examine_107 (lv_at hl 0 rfl) ?_
          refine w_get (v := .ref (ad 18)) hM hW FG_X2_19 lb_80 ((hW.2.2.1 80 10 (by omega)).trans h_r10) dX2_examine_108 ?_
          refine w_get (v := .ref (ad 19)) hM hW FG_X2_65 lb_18 (rf_18_0 hW.2.1) dX2_examine_111 ?_
          refine q_iload_n hM dX2_examine_114 (lv_at hl 1 rfl) ?_
          refine w_iald hM hW lb_19 (i_in (by omega) (by omega)) dX2_examine_115 ?_
          refine q_top (fun y1272 hy1272 => ?_)
          have by1272 := hG.a hy1272 rA_19
          refine q_bipush (v := (10 : Int32)) hM dX2_examine_116 (by decide) ?_
          refine q_icmp_ne (tgt := 131) hM dX2_examine_118 (by decide) (rfl : y1272.toInt = y1272.toInt) (kc_10 : (10 : Int32).toInt = 10) (fun h118 => ?_) (fun h118 => ?_)
          · exact hE _ _ _ _ _ hW.1 ⟨rfl, hW.2.1, hG, hW.2.2⟩ dX2_examine_131
          · refine q_aload_n hM dX2_examine_121 (lv_at hl 0 rfl) ?_
            refine q_dup hM dX2_examine_122 rfl ?_
            refine w_getI hM hW FG_X2_47 lb_80 (by decide) (by decide) dX2_examine_123 (fun x1275 fx1275 => ?_)
            refine q_iconst (v := (1 : Int32)) hM dX2_examine_126 (by decide) ?_
            refine q_iadd hM dX2_examine_127 (fun z1276 hz1276 => ?_)
            first | have tz1276 := i_addT hz1276 (rfl : x1275.toInt = x1275.toInt) (kc_1 : (1 : Int32).toInt = 1) (by omega) (by omega) | skip
            refine w_put hM hW FP_X2_47 lb_80 (by omega) (Or.inl ⟨_, rfl⟩) rfl rfl dX2_examine_128 (fun g1277 H locs hW e1 e2 => ?_)
            have f1278 : fld g1277 80 8 = .int z1253 := (e2.1 80 8 (by unfold Only; omega)).trans f1269
            have f1279 : fld g1277 80 6 = .int x1257 := (e2.1 80 6 (by unfold Only; omega)).trans f1270
            have f1280 : fld g1277 18 5 = .int z1260 := (e2.1 18 5 (by unfold Only; omega)).trans f1271
            have f1281 : fld g1277 80 7 = .int z1276 := e1
            have hG := hG.put e1 e2 (rfl : rF 80 7 = (-2147483648, 2147483647)) (by decide) (by have := i_rng z1276; omega) (by have := i_rng z1276; omega)
            exact hE _ _ _ _ _ hW.1 ⟨rfl, hW.2.1, hG, hW.2.2⟩ dX2_examine_131
        · exact hE _ _ _ _ _ hW.1 ⟨rfl, hW.2.1, hG, hW.2.2⟩ dX2_examine_80
      · refine q_aload_n hM dX2_examine_10 (lv_at hl 0 rfl) ?_
        refine w_get (v := .ref (ad 3)) hM hW FG_X2_9 lb_80 (rf_80_0 hW.2.1) dX2_examine_11 ?_
        refine w_getI hM hW FG_X2_123 lb_3 (by decide) (by decide) dX2_examine_14 (fun x1284 fx1284 => ?_)
        have bx1284 := hG.f fx1284 rF_3_2 (by decide)
        refine q_aload_n hM dX2_examine_17 (lv_at hl 0 rfl) ?_
        refine w_getI hM hW FG_X2_41 lb_80 (by decide) (by decide) dX2_examine_18 (fun x1285 fx1285 => ?_)
        refine q_iand hM dX2_examine_21 (fun z1286 hz1286 => ?_)
        refine q_iload_n hM dX2_examine_22 (lv_at hl 3 rfl) ?_
        refine q_callN (host := "ForgetSchool") (As := [.int z1286, .int w4_3]) (rest := []) hM hW.1 hR hC myX11_has (List.mem_of_getElem? (i := 3) rfl) (c_X11_has _ _ cA ad g9 z1286 w4_3 hW.2.1) ⟨by decide, by decide⟩ rfl rfl hl.1 (Nat.le_of_ble_eq_true rfl) dX2_examine_23 (fun v g1288 H locs hp hW1 => ?_)
        obtain ⟨r1287, rfl, hr1287, rfl⟩ := hp
        have hW : WS ad cA (fun i k => (i = 80 ∧ (k = 7 ∨ k = 8)) ∨ (i = 18 ∧ (k = 5 ∨ k = 7)) ∨ i = 19) g0 K g9 H locs := ⟨hW1, hW.2.1, hW.2.2⟩
        first | have ltr1287 := has_lt 5 hr1287 (by omega) (by omega) | have ltr1287 := has_lt 6 hr1287 (by omega) (by omega) | have ltr1287 := has_lt 8 hr1287 (by omega) (by omega) | have ltr1287 := has_lt 12 hr1287 (by omega) (by omega) | skip
        refine q_if_eq (tgt := 56) hM dX2_examine_26 (by decide) (rfl : r1287.toInt = r1287.toInt) (fun h26 => ?_) (fun h26 => ?_)
        · refine q_iinc (lv9 := fun z1290 => [(3, .int z1290), (0, .ref (ad 80)), (1, .int p), (2, .int w4_2)]) hM dX2_examine_56 hl (kq := 3) rfl (by decide) (fun _ => rfl) (fun z1290 ls hz1290 hl => ?_)
          first | have tz1290 := i_addT hz1290 (rfl : w4_3.toInt = w4_3.toInt) (kc_1 : (Int32.ofInt 1).toInt = 1) (by omega) (by omega) | skip
          refine q_goto (tgt := 4) hM dX2_examine_59 (by decide) ?_
          exact ih4 w4_2 z1290 _ _ _ _ (by omega) hG (by omega) (by omega) d4_19 (lv_sub hl [1, 2, 3, 0] rfl) hW
        · refine q_aload_n hM dX2_examine_29 (lv_at hl 0 rfl) ?_
          refine w_get (v := .ref (ad 18)) hM hW FG_X2_19 lb_80 ((hW.2.2.1 80 10 (by omega)).trans h_r10) dX2_examine_30 ?_
          refine q_callV (As := []) (rest := []) hM hW.1 hR hC myX7_draw (kAW (v_2_14 (List.mem_of_getElem? (i := 5) rfl)) rfl) (rfl : vwCl[7]? = some (RX7, TX7, 8)) rfl lb_18.1 (shO hW.2.1 lb_18) (a_X7_draw_18 _ _ cA ad g9  hW.2.1 hG) ⟨by decide, by decide⟩ rfl rfl hl.1 (Nat.le_of_ble_eq_true rfl) dX2_examine_33 (fun v g1293 H locs hp hW1 => ?_)
          obtain ⟨r1292, rfl, hs1, hG, hf1⟩ := hp
          have f1294 : arI g1293 19 = arI g0 19 := (hf1.2.1 19 (by omega)).trans d4_19
          have f1295 : fld g1293 3 2 = .int x1284 := (hf1.1 3 2 (by omega)).trans fx1284
          have f1296 : fld g1293 80 5 = .int x1285 := (hf1.1 80 5 (by omega)).trans fx1285
          have hW : WS ad cA (fun i k => (i = 80 ∧ (k = 7 ∨ k = 8)) ∨ (i = 18 ∧ (k = 5 ∨ k = 7)) ∨ i = 19) g0 K g1293 H locs := ⟨hW1, hs1, hW.2.2.tr hf1 (fun i k h => (Or.inr (Or.inl (by omega))))⟩
          refine q_aload_n hM dX2_examine_36 (lv_at hl 0 rfl) ?_
          refine w_get (v := .ref (ad 18)) hM hW FG_X2_19 lb_80 ((hW.2.2.1 80 10 (by omega)).trans h_r10) dX2_examine_37 ?_
          refine w_get (v := .ref (ad 21)) hM hW FG_X2_86 lb_18 (rf_18_2 hW.2.1) dX2_examine_40 ?_
          refine q_iload_n hM dX2_examine_43 (lv_at hl 1 rfl) ?_
          refine w_aald hM hW lb_21 (Or.inl rfl) (i_in (by omega) (by omega)) (aq (aq_21 hW.2.1) (by omega) (by omega)) dX2_examine_44 ?_
          refine q_iload_n hM dX2_examine_45 (lv_at hl 3 rfl) ?_
          refine w_iald hM hW (lr_22 (by omega)) (i_in (by omega) (by omega)) dX2_examine_46 ?_
          refine q_top (fun y1297 hy1297 => ?_)
          refine q_callN (host := "ForgetSchool") (As := [.int y1297]) (rest := [.int r1292]) hM hW.1 hR hC myX11_tenths (List.mem_of_getElem? (i := 4) rfl) (a_X11_tenths _ _ cA ad g1293 y1297 hW.2.1 hG) ⟨by decide, by decide⟩ rfl rfl hl.1 (Nat.le_of_ble_eq_true rfl) dX2_examine_47 (fun v g1299 H locs hp hW1 => ?_)
          obtain ⟨r1298, rfl, hr1298, rfl⟩ := hp
          have hW : WS ad cA (fun i k => (i = 80 ∧ (k = 7 ∨ k = 8)) ∨ (i = 18 ∧ (k = 5 ∨ k = 7)) ∨ i = 19) g0 K g1293 H locs := ⟨hW1, hW.2.1, hW.2.2⟩
          refine q_icmp_ge (tgt := 56) hM dX2_examine_50 (by decide) (rfl : r1292.toInt = r1292.toInt) (rfl : r1298.toInt = r1298.toInt) (fun h50 => ?_) (fun h50 => ?_)
          · refine q_iinc (lv9 := fun z1301 => [(3, .int z1301), (0, .ref (ad 80)), (1, .int p), (2, .int w4_2)]) hM dX2_examine_56 hl (kq := 3) rfl (by decide) (fun _ => rfl) (fun z1301 ls hz1301 hl => ?_)
            first | have tz1301 := i_addT hz1301 (rfl : w4_3.toInt = w4_3.toInt) (kc_1 : (Int32.ofInt 1).toInt = 1) (by omega) (by omega) | skip
            refine q_goto (tgt := 4) hM dX2_examine_59 (by decide) ?_
            exact ih4 w4_2 z1301 _ _ _ _ (by omega) hG (by omega) (by omega) f1294 (lv_sub hl [1, 2, 3, 0] rfl) hW
          · refine q_iinc (lv9 := fun z1303 => [(2, .int z1303), (0, .ref (ad 80)), (1, .int p), (3, .int w4_3)]) hM dX2_examine_53 hl (kq := 2) rfl (by decide) (fun _ => rfl) (fun z1303 ls hz1303 hl => ?_)
            first | have tz1303 := i_addT hz1303 (rfl : w4_2.toInt = w4_2.toInt) (kc_1 : (Int32.ofInt 1).toInt = 1) (by omega) (by omega) | skip
            refine q_iinc (lv9 := fun z1304 => [(3, .int z1304), (2, .int z1303), (0, .ref (ad 80)), (1, .int p)]) hM dX2_examine_56 hl (kq := 3) rfl (by decide) (fun _ => rfl) (fun z1304 ls hz1304 hl => ?_)
            first | have tz1304 := i_addT hz1304 (rfl : w4_3.toInt = w4_3.toInt) (kc_1 : (Int32.ofInt 1).toInt = 1) (by omega) (by omega) | skip
            refine q_goto (tgt := 4) hM dX2_examine_59 (by decide) ?_
            exact ih4 z1303 z1304 _ _ _ _ (by omega) hG (by omega) (by omega) f1294 (lv_sub hl [2, 3, 1, 0] rfl) hW
  have := kc_0
  have := kc_0
  exact L4 _ (0 : Int32) (0 : Int32) _ _ _ _ (Nat.lt_succ_self _) hG (by omega) (by omega) (rfl : arI g0 19 = arI g0 19) (lv_sub hl [2, 3, 1, 0] rfl) hW

theorem dX2_goThrough_0 : decode cX2_goThrough 0 = .ok (.aload_n 0, 1) := by decide +kernel
theorem dX2_goThrough_1 : decode cX2_goThrough 1 = .ok (.getfield 19, 3) := by decide +kernel
theorem dX2_goThrough_4 : decode cX2_goThrough 4 = .ok (.getfield 53, 3) := by decide +kernel
theorem dX2_goThrough_7 : decode cX2_goThrough 7 = .ok (.bipush 12, 2) := by decide +kernel
theorem dX2_goThrough_9 : decode cX2_goThrough 9 = .ok (.irem, 1) := by decide +kernel
theorem dX2_goThrough_10 : decode cX2_goThrough 10 = .ok (.istore_n 2, 1) := by decide +kernel
theorem dX2_goThrough_11 : decode cX2_goThrough 11 = .ok (.iload_n 2, 1) := by decide +kernel
theorem dX2_goThrough_12 : decode cX2_goThrough 12 = .ok (.bipush 10, 2) := by decide +kernel
theorem dX2_goThrough_14 : decode cX2_goThrough 14 = .ok (.if_icmp .lt 11, 3) := by decide +kernel
theorem dX2_goThrough_17 : decode cX2_goThrough 17 = .ok (.aload_n 0, 1) := by decide +kernel
theorem dX2_goThrough_18 : decode cX2_goThrough 18 = .ok (.iload_n 1, 1) := by decide +kernel
theorem dX2_goThrough_19 : decode cX2_goThrough 19 = .ok (.invokevirtual 72, 3) := by decide +kernel
theorem dX2_goThrough_22 : decode cX2_goThrough 22 = .ok (.goto 40, 3) := by decide +kernel
theorem dX2_goThrough_25 : decode cX2_goThrough 25 = .ok (.aload_n 0, 1) := by decide +kernel
theorem dX2_goThrough_26 : decode cX2_goThrough 26 = .ok (.getfield 30, 3) := by decide +kernel
theorem dX2_goThrough_29 : decode cX2_goThrough 29 = .ok (.aload_n 0, 1) := by decide +kernel
theorem dX2_goThrough_30 : decode cX2_goThrough 30 = .ok (.getfield 19, 3) := by decide +kernel
theorem dX2_goThrough_33 : decode cX2_goThrough 33 = .ok (.getfield 65, 3) := by decide +kernel
theorem dX2_goThrough_36 : decode cX2_goThrough 36 = .ok (.iload_n 1, 1) := by decide +kernel
theorem dX2_goThrough_37 : decode cX2_goThrough 37 = .ok (.iaload, 1) := by decide +kernel
theorem dX2_goThrough_38 : decode cX2_goThrough 38 = .ok (.iaload, 1) := by decide +kernel
theorem dX2_goThrough_39 : decode cX2_goThrough 39 = .ok (.istore_n 3, 1) := by decide +kernel
theorem dX2_goThrough_40 : decode cX2_goThrough 40 = .ok (.aload_n 0, 1) := by decide +kernel
theorem dX2_goThrough_41 : decode cX2_goThrough 41 = .ok (.getfield 37, 3) := by decide +kernel
theorem dX2_goThrough_44 : decode cX2_goThrough 44 = .ok (.iload_n 3, 1) := by decide +kernel
theorem dX2_goThrough_45 : decode cX2_goThrough 45 = .ok (.invokestatic 61, 3) := by decide +kernel
theorem dX2_goThrough_48 : decode cX2_goThrough 48 = .ok (.ifCond .eq 14, 3) := by decide +kernel
theorem dX2_goThrough_51 : decode cX2_goThrough 51 = .ok (.aload_n 0, 1) := by decide +kernel
theorem dX2_goThrough_52 : decode cX2_goThrough 52 = .ok (.iload_n 1, 1) := by decide +kernel
theorem dX2_goThrough_53 : decode cX2_goThrough 53 = .ok (.aload_n 0, 1) := by decide +kernel
theorem dX2_goThrough_54 : decode cX2_goThrough 54 = .ok (.getfield 25, 3) := by decide +kernel
theorem dX2_goThrough_57 : decode cX2_goThrough 57 = .ok (.iload_n 3, 1) := by decide +kernel
theorem dX2_goThrough_58 : decode cX2_goThrough 58 = .ok (.aaload, 1) := by decide +kernel
theorem dX2_goThrough_59 : decode cX2_goThrough 59 = .ok (.invokevirtual 75, 3) := by decide +kernel
theorem dX2_goThrough_62 : decode cX2_goThrough 62 = .ok (.aload_n 0, 1) := by decide +kernel
theorem dX2_goThrough_63 : decode cX2_goThrough 63 = .ok (.iload_n 1, 1) := by decide +kernel
theorem dX2_goThrough_64 : decode cX2_goThrough 64 = .ok (.invokevirtual 79, 3) := by decide +kernel
theorem dX2_goThrough_67 : decode cX2_goThrough 67 = .ok (.pop, 1) := by decide +kernel
theorem dX2_goThrough_68 : decode cX2_goThrough 68 = .ok (.aload_n 0, 1) := by decide +kernel
theorem dX2_goThrough_69 : decode cX2_goThrough 69 = .ok (.getfield 41, 3) := by decide +kernel
theorem dX2_goThrough_72 : decode cX2_goThrough 72 = .ok (.ifCond .eq 15, 3) := by decide +kernel
theorem dX2_goThrough_75 : decode cX2_goThrough 75 = .ok (.iload_n 2, 1) := by decide +kernel
theorem dX2_goThrough_76 : decode cX2_goThrough 76 = .ok (.iconst 4, 1) := by decide +kernel
theorem dX2_goThrough_77 : decode cX2_goThrough 77 = .ok (.irem, 1) := by decide +kernel
theorem dX2_goThrough_78 : decode cX2_goThrough 78 = .ok (.iconst 3, 1) := by decide +kernel
theorem dX2_goThrough_79 : decode cX2_goThrough 79 = .ok (.if_icmp .ne 8, 3) := by decide +kernel
theorem dX2_goThrough_82 : decode cX2_goThrough 82 = .ok (.aload_n 0, 1) := by decide +kernel
theorem dX2_goThrough_83 : decode cX2_goThrough 83 = .ok (.iload_n 1, 1) := by decide +kernel
theorem dX2_goThrough_84 : decode cX2_goThrough 84 = .ok (.invokevirtual 83, 3) := by decide +kernel
theorem dX2_goThrough_87 : decode cX2_goThrough 87 = .ok (.return_, 1) := by decide +kernel
theorem FG_X2_30 : FG RX2 30 2 11 2 := ⟨RX2, TX2, rfl, wX2, by decide, kAW (v_0_14 (List.mem_of_getElem? (i := 7) rfl)) rfl, rfl⟩
theorem FG_X2_37 : FG RX2 37 2 11 4 := ⟨RX2, TX2, rfl, wX2, by decide, kAW (v_0_14 (List.mem_of_getElem? (i := 10) rfl)) rfl, rfl⟩
theorem myX2_examine : MI yX2_examine cX2_examine 4 none 1 := ⟨kAW (v_2_14 (List.mem_of_getElem? (i := 4) rfl)) rfl, kAW (v_0_0 (List.mem_of_getElem? (i := 9) rfl)) rfl, kAW (v_2_14 (List.mem_of_getElem? (i := 3) rfl)) rfl, kAW (tp_t1 (List.mem_of_getElem? (i := 5) rfl)) rfl, by decide, by decide, by decide +kernel⟩
theorem FG_X2_25 : FG RX2 25 2 11 1 := ⟨RX2, TX2, rfl, wX2, by decide, kAW (v_0_14 (List.mem_of_getElem? (i := 4) rfl)) rfl, rfl⟩
theorem myX2_rest : MI yX2_rest cX2_rest 4 none 1 := ⟨kAW (v_2_10 (List.mem_of_getElem? (i := 11) rfl)) rfl, kAW (v_0_0 (List.mem_of_getElem? (i := 9) rfl)) rfl, kAW (v_2_10 (List.mem_of_getElem? (i := 10) rfl)) rfl, kAW (tp_t1 (List.mem_of_getElem? (i := 0) rfl)) rfl, by decide, by decide, by decide +kernel⟩
set_option maxRecDepth 100000 in
set_option maxHeartbeats 4000000 in
theorem a_X2_goThrough_18 (l : Launch) (D : va_G) (cA : Nat → ClassId) (ad : Nat → Nat) (g0 : Nat → va_E) (p : Int32)  (lw : Nat) (hSh : Shp ad cA g0) (hG : Rng g0) (hlw : isLw lw) (h_r9 : fld g0 80 9 = .ref (ad lw)) (h_r10 : fld g0 80 10 = .ref (ad 18)) (p0 : 0 ≤ p.toInt) (p7 : p.toInt < 8) (gr9 : (arI g0 19 p.toNatClampNeg).toInt ≤ 9) : CT l NN ad cA D yX2_goThrough cX2_goThrough 4 none (5, 121) [.ref (ad 80), .int p] g0 (fun v g' => v = none ∧ Shp ad cA g' ∧ Rng g' ∧ FR (fun i k => (22 ≤ i ∧ i < 30) ∨ i = 83 ∨ i = (lw + 6) ∨ (i = 18 ∧ (k = 5 ∨ k = 6 ∨ k = 7)) ∨ (i = 80 ∧ (k = 7 ∨ k = 8)) ∨ i = 19) g0 g') := by
  refine q_enterV (by decide) (Nat.le_of_ble_eq_true rfl) (fun K H locs ls _ _ hM hW0 hR hC hE hl => ?_)
  have hl : lv_has ls 4 [(0, .ref (ad 80)), (1, .int p)] := hl
  have hW : WS ad cA (fun i k => (22 ≤ i ∧ i < 30) ∨ i = 83 ∨ i = (lw + 6) ∨ (i = 18 ∧ (k = 5 ∨ k = 6 ∨ k = 7)) ∨ (i = 80 ∧ (k = 7 ∨ k = 8)) ∨ i = 19) g0 K g0 H locs := ⟨hW0, hSh, FR.rf⟩
  have ulw := hlw
  unfold isLw at ulw
  refine q_aload_n hM dX2_goThrough_0 (lv_at hl 0 rfl) ?_
  refine w_get (v := .ref (ad 18)) hM hW FG_X2_19 lb_80 ((hW.2.2.1 80 10 (by omega)).trans h_r10) dX2_goThrough_1 ?_
  refine w_getI hM hW FG_X2_53 lb_18 (by decide) (by decide) dX2_goThrough_4 (fun x1305 fx1305 => ?_)
  refine q_bipush (v := (12 : Int32)) hM dX2_goThrough_7 (by decide) ?_
  refine q_irem hM (by decide) dX2_goThrough_9 (fun z1306 hz1306 => ?_)
  first | have tz1306 := i_remT hz1306 (rfl : x1305.toInt = x1305.toInt) (kc_12 : (12 : Int32).toInt = 12) (by omega) (by omega) | skip
  refine q_istore_n (lv9 := [(2, .int z1306), (0, .ref (ad 80)), (1, .int p)]) hM dX2_goThrough_10 hl (by decide) rfl (fun ls hl => ?_)
  refine q_iload_n hM dX2_goThrough_11 (lv_at hl 0 rfl) ?_
  refine q_bipush (v := (10 : Int32)) hM dX2_goThrough_12 (by decide) ?_
  refine q_icmp_lt (tgt := 25) hM dX2_goThrough_14 (by decide) (rfl : z1306.toInt = z1306.toInt) (kc_10 : (10 : Int32).toInt = 10) (fun h14 => ?_) (fun h14 => ?_)
  · refine q_aload_n hM dX2_goThrough_25 (lv_at hl 1 rfl) ?_
    refine w_get (v := .ref (ad 82)) hM hW FG_X2_30 lb_80 (rf_80_2 hW.2.1) dX2_goThrough_26 ?_
    refine q_aload_n hM dX2_goThrough_29 (lv_at hl 1 rfl) ?_
    refine w_get (v := .ref (ad 18)) hM hW FG_X2_19 lb_80 ((hW.2.2.1 80 10 (by omega)).trans h_r10) dX2_goThrough_30 ?_
    refine w_get (v := .ref (ad 19)) hM hW FG_X2_65 lb_18 (rf_18_0 hW.2.1) dX2_goThrough_33 ?_
    refine q_iload_n hM dX2_goThrough_36 (lv_at hl 2 rfl) ?_
    refine w_iald hM hW lb_19 (i_in (by omega) (by omega)) dX2_goThrough_37 ?_
    refine q_top (fun y1308 hy1308 => ?_)
    have ky1308 : y1308.toInt ≤ 9 := by rw [hy1308, (rfl : arI g0 19 = arI g0 19)]; exact gr9
    have by1308 := hG.a hy1308 rA_19
    refine w_iald hM hW lb_82 (i_in (by omega) (by omega)) dX2_goThrough_38 ?_
    refine q_top (fun y1309 hy1309 => ?_)
    refine q_istore_n (lv9 := [(3, .int y1309), (2, .int z1306), (0, .ref (ad 80)), (1, .int p)]) hM dX2_goThrough_39 hl (by decide) rfl (fun ls hl => ?_)
    refine q_aload_n hM dX2_goThrough_40 (lv_at hl 2 rfl) ?_
    refine w_getI hM hW FG_X2_37 lb_80 (by decide) (by decide) dX2_goThrough_41 (fun x1310 fx1310 => ?_)
    have bx1310 := hG.f fx1310 rF_80_4 (by decide)
    refine q_iload_n hM dX2_goThrough_44 (lv_at hl 0 rfl) ?_
    refine q_callN (host := "ForgetSchool") (As := [.int x1310, .int y1309]) (rest := []) hM hW.1 hR hC myX11_has (List.mem_of_getElem? (i := 3) rfl) (c_X11_has _ _ cA ad g0 x1310 y1309 hW.2.1) ⟨by decide, by decide⟩ rfl rfl hl.1 (Nat.le_of_ble_eq_true rfl) dX2_goThrough_45 (fun v g1312 H locs hp hW1 => ?_)
    obtain ⟨r1311, rfl, hr1311, rfl⟩ := hp
    have hW : WS ad cA (fun i k => (22 ≤ i ∧ i < 30) ∨ i = 83 ∨ i = (lw + 6) ∨ (i = 18 ∧ (k = 5 ∨ k = 6 ∨ k = 7)) ∨ (i = 80 ∧ (k = 7 ∨ k = 8)) ∨ i = 19) g0 K g0 H locs := ⟨hW1, hW.2.1, hW.2.2⟩
    first | have ltr1311 := has_lt 5 hr1311 (by omega) (by omega) | have ltr1311 := has_lt 6 hr1311 (by omega) (by omega) | have ltr1311 := has_lt 8 hr1311 (by omega) (by omega) | have ltr1311 := has_lt 12 hr1311 (by omega) (by omega) | skip
    refine q_if_eq (tgt := 62) hM dX2_goThrough_48 (by decide) (rfl : r1311.toInt = r1311.toInt) (fun h48 => ?_) (fun h48 => ?_)
    · refine q_aload_n hM dX2_goThrough_62 (lv_at hl 2 rfl) ?_
      refine q_iload_n hM dX2_goThrough_63 (lv_at hl 3 rfl) ?_
      refine q_callV (As := [.int p]) (rest := []) hM hW.1 hR hC myX2_recall (kAW (v_2_13 (List.mem_of_getElem? (i := 9) rfl)) rfl) (rfl : vwCl[2]? = some (RX2, TX2, 11)) rfl lb_80.1 (shO hW.2.1 lb_80) (a_X2_recall_18 _ _ cA ad g0 p lw hW.2.1 hG hlw ((hW.2.2.1 80 9 (by omega)).trans h_r9) ((hW.2.2.1 80 10 (by omega)).trans h_r10) (by  omega) (by  omega)) ⟨by decide, by decide⟩ rfl rfl hl.1 (Nat.le_of_ble_eq_true rfl) dX2_goThrough_64 (fun v g1315 H locs hp hW1 => ?_)
      obtain ⟨r1314, rfl, hs1, hG, hf1⟩ := hp
      have f1316 : arI g1315 19 = arI g0 19 := (hf1.2.1 19 (by omega)).trans (rfl : arI g0 19 = arI g0 19)
      have f1317 : fld g1315 18 4 = .int x1305 := (hf1.1 18 4 (by omega)).trans fx1305
      have f1318 : fld g1315 80 4 = .int x1310 := (hf1.1 80 4 (by omega)).trans fx1310
      have hW : WS ad cA (fun i k => (22 ≤ i ∧ i < 30) ∨ i = 83 ∨ i = (lw + 6) ∨ (i = 18 ∧ (k = 5 ∨ k = 6 ∨ k = 7)) ∨ (i = 80 ∧ (k = 7 ∨ k = 8)) ∨ i = 19) g0 K g1315 H locs := ⟨hW1, hs1, hW.2.2.tr hf1 (fun i k h => h.elim (fun h => (Or.inl h)) (fun h => h.elim (fun h => (Or.inr (Or.inl h))) (fun h => h.elim (fun h => (Or.inr (Or.inr (Or.inl h)))) (fun h => (Or.inr (Or.inr (Or.inr (Or.inl (by omega)))))))))⟩
      refine q_pop hM dX2_goThrough_67 rfl ?_
      refine q_aload_n hM dX2_goThrough_68 (lv_at hl 2 rfl) ?_
      refine w_getI hM hW FG_X2_41 lb_80 (by decide) (by decide) dX2_goThrough_69 (fun x1319 fx1319 => ?_)
      refine q_if_eq (tgt := 87) hM dX2_goThrough_72 (by decide) (rfl : x1319.toInt = x1319.toInt) (fun h72 => ?_) (fun h72 => ?_)
      · exact hE _ _ _ _ _ hW.1 ⟨rfl, hW.2.1, hG, hW.2.2⟩ dX2_goThrough_87
      · refine q_iload_n hM dX2_goThrough_75 (lv_at hl 1 rfl) ?_
        refine q_iconst (v := (4 : Int32)) hM dX2_goThrough_76 (by decide) ?_
        refine q_irem hM (by decide) dX2_goThrough_77 (fun z1322 hz1322 => ?_)
        first | have tz1322 := i_remT hz1322 (rfl : z1306.toInt = z1306.toInt) (kc_4 : (4 : Int32).toInt = 4) (by omega) (by omega) | skip
        refine q_iconst (v := (3 : Int32)) hM dX2_goThrough_78 (by decide) ?_
        refine q_icmp_ne (tgt := 87) hM dX2_goThrough_79 (by decide) (rfl : z1322.toInt = z1322.toInt) (kc_3 : (3 : Int32).toInt = 3) (fun h79 => ?_) (fun h79 => ?_)
        · exact hE _ _ _ _ _ hW.1 ⟨rfl, hW.2.1, hG, hW.2.2⟩ dX2_goThrough_87
        · refine q_aload_n hM dX2_goThrough_82 (lv_at hl 2 rfl) ?_
          refine q_iload_n hM dX2_goThrough_83 (lv_at hl 3 rfl) ?_
          refine q_callV (As := [.int p]) (rest := []) hM hW.1 hR hC myX2_examine (kAW (v_2_14 (List.mem_of_getElem? (i := 1) rfl)) rfl) (rfl : vwCl[2]? = some (RX2, TX2, 11)) rfl lb_80.1 (shO hW.2.1 lb_80) (a_X2_examine_18 _ _ cA ad g1315 p hW.2.1 hG ((hW.2.2.1 80 10 (by omega)).trans h_r10) (by  omega) (by  omega) (by rw [f1316]; exact gr9)) ⟨by decide, by decide⟩ rfl rfl hl.1 (Nat.le_of_ble_eq_true rfl) dX2_goThrough_84 (fun v g1325 H locs hp hW1 => ?_)
          obtain ⟨rfl, hs1, hG, hf1⟩ := hp
          have f1326 : fld g1325 18 4 = .int x1305 := (hf1.1 18 4 (by omega)).trans f1317
          have f1327 : fld g1325 80 4 = .int x1310 := (hf1.1 80 4 (by omega)).trans f1318
          have f1328 : fld g1325 80 5 = .int x1319 := (hf1.1 80 5 (by omega)).trans fx1319
          have hW : WS ad cA (fun i k => (22 ≤ i ∧ i < 30) ∨ i = 83 ∨ i = (lw + 6) ∨ (i = 18 ∧ (k = 5 ∨ k = 6 ∨ k = 7)) ∨ (i = 80 ∧ (k = 7 ∨ k = 8)) ∨ i = 19) g0 K g1325 H locs := ⟨hW1, hs1, hW.2.2.tr hf1 (fun i k h => h.elim (fun h => (Or.inr (Or.inr (Or.inr (Or.inr (Or.inl h)))))) (fun h => h.elim (fun h => (Or.inr (Or.inr (Or.inr (Or.inl (by omega)))))) (fun h => (Or.inr (Or.inr (Or.inr (Or.inr (Or.inr h))))))))⟩
          exact hE _ _ _ _ _ hW.1 ⟨rfl, hW.2.1, hG, hW.2.2⟩ dX2_goThrough_87
    · refine q_aload_n hM dX2_goThrough_51 (lv_at hl 2 rfl) ?_
      refine q_iload_n hM dX2_goThrough_52 (lv_at hl 3 rfl) ?_
      refine q_aload_n hM dX2_goThrough_53 (lv_at hl 2 rfl) ?_
      refine w_get (v := .ref (ad 81)) hM hW FG_X2_25 lb_80 (rf_80_1 hW.2.1) dX2_goThrough_54 ?_
      refine q_iload_n hM dX2_goThrough_57 (lv_at hl 0 rfl) ?_
      refine w_aald hM hW lb_81 (Or.inr rfl) (i_in (by omega) (by omega)) (aq (aq_81 hW.2.1) (by omega) (by omega)) dX2_goThrough_58 ?_
      refine q_callV (As := [.int p, .ref (ad (84 + 3 * y1309.toInt.toNat))]) (rest := []) hM hW.1 hR hC myX2_doArt (kAW (v_2_12 (List.mem_of_getElem? (i := 8) rfl)) rfl) (rfl : vwCl[2]? = some (RX2, TX2, 11)) rfl lb_80.1 (shO hW.2.1 lb_80) (a_X2_doArt_18 _ _ cA ad g0 p (84 + 3 * y1309.toInt.toNat) lw hW.2.1 hG (isAt_art (by omega) : isAt (84 + 3 * y1309.toInt.toNat)) hlw ((hW.2.2.1 80 9 (by omega)).trans h_r9) ((hW.2.2.1 80 10 (by omega)).trans h_r10) (by  omega) (by  omega)) ⟨by decide, by decide⟩ rfl rfl hl.1 (Nat.le_of_ble_eq_true rfl) dX2_goThrough_59 (fun v g1330 H locs hp hW1 => ?_)
      obtain ⟨rfl, hs1, hG, hf1⟩ := hp
      have f1331 : arI g1330 19 = arI g0 19 := (hf1.2.1 19 (by omega)).trans (rfl : arI g0 19 = arI g0 19)
      have f1332 : fld g1330 18 4 = .int x1305 := (hf1.1 18 4 (by omega)).trans fx1305
      have f1333 : fld g1330 80 4 = .int x1310 := (hf1.1 80 4 (by omega)).trans fx1310
      have hW : WS ad cA (fun i k => (22 ≤ i ∧ i < 30) ∨ i = 83 ∨ i = (lw + 6) ∨ (i = 18 ∧ (k = 5 ∨ k = 6 ∨ k = 7)) ∨ (i = 80 ∧ (k = 7 ∨ k = 8)) ∨ i = 19) g0 K g1330 H locs := ⟨hW1, hs1, hW.2.2.tr hf1 (fun i k h => h.elim (fun h => (Or.inl h)) (fun h => h.elim (fun h => (Or.inr (Or.inl h))) (fun h => (Or.inr (Or.inr (Or.inl h))))))⟩
      refine q_aload_n hM dX2_goThrough_62 (lv_at hl 2 rfl) ?_
      refine q_iload_n hM dX2_goThrough_63 (lv_at hl 3 rfl) ?_
      refine q_callV (As := [.int p]) (rest := []) hM hW.1 hR hC myX2_recall (kAW (v_2_13 (List.mem_of_getElem? (i := 9) rfl)) rfl) (rfl : vwCl[2]? = some (RX2, TX2, 11)) rfl lb_80.1 (shO hW.2.1 lb_80) (a_X2_recall_18 _ _ cA ad g1330 p lw hW.2.1 hG hlw ((hW.2.2.1 80 9 (by omega)).trans h_r9) ((hW.2.2.1 80 10 (by omega)).trans h_r10) (by  omega) (by  omega)) ⟨by decide, by decide⟩ rfl rfl hl.1 (Nat.le_of_ble_eq_true rfl) dX2_goThrough_64 (fun v g1335 H locs hp hW1 => ?_)
      obtain ⟨r1334, rfl, hs1, hG, hf1⟩ := hp
      have f1336 : arI g1335 19 = arI g0 19 := (hf1.2.1 19 (by omega)).trans f1331
      have f1337 : fld g1335 18 4 = .int x1305 := (hf1.1 18 4 (by omega)).trans f1332
      have f1338 : fld g1335 80 4 = .int x1310 := (hf1.1 80 4 (by omega)).trans f1333
      have hW : WS ad cA (fun i k => (22 ≤ i ∧ i < 30) ∨ i = 83 ∨ i = (lw + 6) ∨ (i = 18 ∧ (k = 5 ∨ k = 6 ∨ k = 7)) ∨ (i = 80 ∧ (k = 7 ∨ k = 8)) ∨ i = 19) g0 K g1335 H locs := ⟨hW1, hs1, hW.2.2.tr hf1 (fun i k h => h.elim (fun h => (Or.inl h)) (fun h => h.elim (fun h => (Or.inr (Or.inl h))) (fun h => h.elim (fun h => (Or.inr (Or.inr (Or.inl h)))) (fun h => (Or.inr (Or.inr (Or.inr (Or.inl (by omega)))))))))⟩
      refine q_pop hM dX2_goThrough_67 rfl ?_
      refine q_aload_n hM dX2_goThrough_68 (lv_at hl 2 rfl) ?_
      refine w_getI hM hW FG_X2_41 lb_80 (by decide) (by decide) dX2_goThrough_69 (fun x1339 fx1339 => ?_)
      refine q_if_eq (tgt := 87) hM dX2_goThrough_72 (by decide) (rfl : x1339.toInt = x1339.toInt) (fun h72 => ?_) (fun h72 => ?_)
      · exact hE _ _ _ _ _ hW.1 ⟨rfl, hW.2.1, hG, hW.2.2⟩ dX2_goThrough_87
      · refine q_iload_n hM dX2_goThrough_75 (lv_at hl 1 rfl) ?_
        refine q_iconst (v := (4 : Int32)) hM dX2_goThrough_76 (by decide) ?_
        refine q_irem hM (by decide) dX2_goThrough_77 (fun z1342 hz1342 => ?_)
        first | have tz1342 := i_remT hz1342 (rfl : z1306.toInt = z1306.toInt) (kc_4 : (4 : Int32).toInt = 4) (by omega) (by omega) | skip
        refine q_iconst (v := (3 : Int32)) hM dX2_goThrough_78 (by decide) ?_
        refine q_icmp_ne (tgt := 87) hM dX2_goThrough_79 (by decide) (rfl : z1342.toInt = z1342.toInt) (kc_3 : (3 : Int32).toInt = 3) (fun h79 => ?_) (fun h79 => ?_)
        · exact hE _ _ _ _ _ hW.1 ⟨rfl, hW.2.1, hG, hW.2.2⟩ dX2_goThrough_87
        · refine q_aload_n hM dX2_goThrough_82 (lv_at hl 2 rfl) ?_
          refine q_iload_n hM dX2_goThrough_83 (lv_at hl 3 rfl) ?_
          refine q_callV (As := [.int p]) (rest := []) hM hW.1 hR hC myX2_examine (kAW (v_2_14 (List.mem_of_getElem? (i := 1) rfl)) rfl) (rfl : vwCl[2]? = some (RX2, TX2, 11)) rfl lb_80.1 (shO hW.2.1 lb_80) (a_X2_examine_18 _ _ cA ad g1335 p hW.2.1 hG ((hW.2.2.1 80 10 (by omega)).trans h_r10) (by  omega) (by  omega) (by rw [f1336]; exact gr9)) ⟨by decide, by decide⟩ rfl rfl hl.1 (Nat.le_of_ble_eq_true rfl) dX2_goThrough_84 (fun v g1345 H locs hp hW1 => ?_)
          obtain ⟨rfl, hs1, hG, hf1⟩ := hp
          have f1346 : fld g1345 18 4 = .int x1305 := (hf1.1 18 4 (by omega)).trans f1337
          have f1347 : fld g1345 80 4 = .int x1310 := (hf1.1 80 4 (by omega)).trans f1338
          have f1348 : fld g1345 80 5 = .int x1339 := (hf1.1 80 5 (by omega)).trans fx1339
          have hW : WS ad cA (fun i k => (22 ≤ i ∧ i < 30) ∨ i = 83 ∨ i = (lw + 6) ∨ (i = 18 ∧ (k = 5 ∨ k = 6 ∨ k = 7)) ∨ (i = 80 ∧ (k = 7 ∨ k = 8)) ∨ i = 19) g0 K g1345 H locs := ⟨hW1, hs1, hW.2.2.tr hf1 (fun i k h => h.elim (fun h => (Or.inr (Or.inr (Or.inr (Or.inr (Or.inl h)))))) (fun h => h.elim (fun h => (Or.inr (Or.inr (Or.inr (Or.inl (by omega)))))) (fun h => (Or.inr (Or.inr (Or.inr (Or.inr (Or.inr h))))))))⟩
          exact hE _ _ _ _ _ hW.1 ⟨rfl, hW.2.1, hG, hW.2.2⟩ dX2_goThrough_87
  · refine q_aload_n hM dX2_goThrough_17 (lv_at hl 1 rfl) ?_
    refine q_iload_n hM dX2_goThrough_18 (lv_at hl 2 rfl) ?_
    refine q_callV (As := [.int p]) (rest := []) hM hW.1 hR hC myX2_rest (kAW (v_2_10 (List.mem_of_getElem? (i := 8) rfl)) rfl) (rfl : vwCl[2]? = some (RX2, TX2, 11)) rfl lb_80.1 (shO hW.2.1 lb_80) (a_X2_rest_18 _ _ cA ad g0 p lw hW.2.1 hG hlw ((hW.2.2.1 80 9 (by omega)).trans h_r9) ((hW.2.2.1 80 10 (by omega)).trans h_r10) (by  omega) (by  omega)) ⟨by decide, by decide⟩ rfl rfl hl.1 (Nat.le_of_ble_eq_true rfl) dX2_goThrough_19 (fun v g1350 H locs hp hW1 => ?_)
    obtain ⟨rfl, hs1, hG, hf1⟩ := hp
    have f1351 : arI g1350 19 = arI g0 19 := (hf1.2.1 19 (by omega)).trans (rfl : arI g0 19 = arI g0 19)
    have f1352 : fld g1350 18 4 = .int x1305 := (hf1.1 18 4 (by omega)).trans fx1305
    have hW : WS ad cA (fun i k => (22 ≤ i ∧ i < 30) ∨ i = 83 ∨ i = (lw + 6) ∨ (i = 18 ∧ (k = 5 ∨ k = 6 ∨ k = 7)) ∨ (i = 80 ∧ (k = 7 ∨ k = 8)) ∨ i = 19) g0 K g1350 H locs := ⟨hW1, hs1, hW.2.2.tr hf1 (fun i k h => h.elim (fun h => (Or.inl h)) (fun h => h.elim (fun h => (Or.inr (Or.inl h))) (fun h => (Or.inr (Or.inr (Or.inl h))))))⟩
    refine q_goto (tgt := 62) hM dX2_goThrough_22 (by decide) ?_
    refine q_aload_n hM dX2_goThrough_62 (lv_at hl 1 rfl) ?_
    refine q_iload_n hM dX2_goThrough_63 (lv_at hl 2 rfl) ?_
    refine q_callV (As := [.int p]) (rest := []) hM hW.1 hR hC myX2_recall (kAW (v_2_13 (List.mem_of_getElem? (i := 9) rfl)) rfl) (rfl : vwCl[2]? = some (RX2, TX2, 11)) rfl lb_80.1 (shO hW.2.1 lb_80) (a_X2_recall_18 _ _ cA ad g1350 p lw hW.2.1 hG hlw ((hW.2.2.1 80 9 (by omega)).trans h_r9) ((hW.2.2.1 80 10 (by omega)).trans h_r10) (by  omega) (by  omega)) ⟨by decide, by decide⟩ rfl rfl hl.1 (Nat.le_of_ble_eq_true rfl) dX2_goThrough_64 (fun v g1354 H locs hp hW1 => ?_)
    obtain ⟨r1353, rfl, hs1, hG, hf1⟩ := hp
    have f1355 : arI g1354 19 = arI g0 19 := (hf1.2.1 19 (by omega)).trans f1351
    have f1356 : fld g1354 18 4 = .int x1305 := (hf1.1 18 4 (by omega)).trans f1352
    have hW : WS ad cA (fun i k => (22 ≤ i ∧ i < 30) ∨ i = 83 ∨ i = (lw + 6) ∨ (i = 18 ∧ (k = 5 ∨ k = 6 ∨ k = 7)) ∨ (i = 80 ∧ (k = 7 ∨ k = 8)) ∨ i = 19) g0 K g1354 H locs := ⟨hW1, hs1, hW.2.2.tr hf1 (fun i k h => h.elim (fun h => (Or.inl h)) (fun h => h.elim (fun h => (Or.inr (Or.inl h))) (fun h => h.elim (fun h => (Or.inr (Or.inr (Or.inl h)))) (fun h => (Or.inr (Or.inr (Or.inr (Or.inl (by omega)))))))))⟩
    refine q_pop hM dX2_goThrough_67 rfl ?_
    refine q_aload_n hM dX2_goThrough_68 (lv_at hl 1 rfl) ?_
    refine w_getI hM hW FG_X2_41 lb_80 (by decide) (by decide) dX2_goThrough_69 (fun x1357 fx1357 => ?_)
    refine q_if_eq (tgt := 87) hM dX2_goThrough_72 (by decide) (rfl : x1357.toInt = x1357.toInt) (fun h72 => ?_) (fun h72 => ?_)
    · exact hE _ _ _ _ _ hW.1 ⟨rfl, hW.2.1, hG, hW.2.2⟩ dX2_goThrough_87
    · refine q_iload_n hM dX2_goThrough_75 (lv_at hl 0 rfl) ?_
      refine q_iconst (v := (4 : Int32)) hM dX2_goThrough_76 (by decide) ?_
      refine q_irem hM (by decide) dX2_goThrough_77 (fun z1360 hz1360 => ?_)
      first | have tz1360 := i_remT hz1360 (rfl : z1306.toInt = z1306.toInt) (kc_4 : (4 : Int32).toInt = 4) (by omega) (by omega) | skip
      refine q_iconst (v := (3 : Int32)) hM dX2_goThrough_78 (by decide) ?_
      refine q_icmp_ne (tgt := 87) hM dX2_goThrough_79 (by decide) (rfl : z1360.toInt = z1360.toInt) (kc_3 : (3 : Int32).toInt = 3) (fun h79 => ?_) (fun h79 => ?_)
      · exact hE _ _ _ _ _ hW.1 ⟨rfl, hW.2.1, hG, hW.2.2⟩ dX2_goThrough_87
      · refine q_aload_n hM dX2_goThrough_82 (lv_at hl 1 rfl) ?_
        refine q_iload_n hM dX2_goThrough_83 (lv_at hl 2 rfl) ?_
        refine q_callV (As := [.int p]) (rest := []) hM hW.1 hR hC myX2_examine (kAW (v_2_14 (List.mem_of_getElem? (i := 1) rfl)) rfl) (rfl : vwCl[2]? = some (RX2, TX2, 11)) rfl lb_80.1 (shO hW.2.1 lb_80) (a_X2_examine_18 _ _ cA ad g1354 p hW.2.1 hG ((hW.2.2.1 80 10 (by omega)).trans h_r10) (by  omega) (by  omega) (by rw [f1355]; exact gr9)) ⟨by decide, by decide⟩ rfl rfl hl.1 (Nat.le_of_ble_eq_true rfl) dX2_goThrough_84 (fun v g1363 H locs hp hW1 => ?_)
        obtain ⟨rfl, hs1, hG, hf1⟩ := hp
        have f1364 : fld g1363 18 4 = .int x1305 := (hf1.1 18 4 (by omega)).trans f1356
        have f1365 : fld g1363 80 5 = .int x1357 := (hf1.1 80 5 (by omega)).trans fx1357
        have hW : WS ad cA (fun i k => (22 ≤ i ∧ i < 30) ∨ i = 83 ∨ i = (lw + 6) ∨ (i = 18 ∧ (k = 5 ∨ k = 6 ∨ k = 7)) ∨ (i = 80 ∧ (k = 7 ∨ k = 8)) ∨ i = 19) g0 K g1363 H locs := ⟨hW1, hs1, hW.2.2.tr hf1 (fun i k h => h.elim (fun h => (Or.inr (Or.inr (Or.inr (Or.inr (Or.inl h)))))) (fun h => h.elim (fun h => (Or.inr (Or.inr (Or.inr (Or.inl (by omega)))))) (fun h => (Or.inr (Or.inr (Or.inr (Or.inr (Or.inr h))))))))⟩
        exact hE _ _ _ _ _ hW.1 ⟨rfl, hW.2.1, hG, hW.2.2⟩ dX2_goThrough_87

theorem dX2_go_0 : decode cX2_go 0 = .ok (.iconst 0, 1) := by decide +kernel
theorem dX2_go_1 : decode cX2_go 1 = .ok (.istore_n 2, 1) := by decide +kernel
theorem dX2_go_2 : decode cX2_go 2 = .ok (.iload_n 2, 1) := by decide +kernel
theorem dX2_go_3 : decode cX2_go 3 = .ok (.iload_n 1, 1) := by decide +kernel
theorem dX2_go_4 : decode cX2_go 4 = .ok (.if_icmp .ge 82, 3) := by decide +kernel
theorem dX2_go_7 : decode cX2_go 7 = .ok (.aload_n 0, 1) := by decide +kernel
theorem dX2_go_8 : decode cX2_go 8 = .ok (.getfield 19, 3) := by decide +kernel
theorem dX2_go_11 : decode cX2_go 11 = .ok (.getfield 53, 3) := by decide +kernel
theorem dX2_go_14 : decode cX2_go 14 = .ok (.sipush 9999, 3) := by decide +kernel
theorem dX2_go_17 : decode cX2_go 17 = .ok (.if_icmp .ge 69, 3) := by decide +kernel
theorem dX2_go_20 : decode cX2_go 20 = .ok (.iconst 0, 1) := by decide +kernel
theorem dX2_go_21 : decode cX2_go 21 = .ok (.istore_n 3, 1) := by decide +kernel
theorem dX2_go_22 : decode cX2_go 22 = .ok (.iload_n 3, 1) := by decide +kernel
theorem dX2_go_23 : decode cX2_go 23 = .ok (.bipush 8, 2) := by decide +kernel
theorem dX2_go_25 : decode cX2_go 25 = .ok (.if_icmp .ge 42, 3) := by decide +kernel
theorem dX2_go_28 : decode cX2_go 28 = .ok (.aload_n 0, 1) := by decide +kernel
theorem dX2_go_29 : decode cX2_go 29 = .ok (.getfield 19, 3) := by decide +kernel
theorem dX2_go_32 : decode cX2_go 32 = .ok (.getfield 58, 3) := by decide +kernel
theorem dX2_go_35 : decode cX2_go 35 = .ok (.iload_n 3, 1) := by decide +kernel
theorem dX2_go_36 : decode cX2_go 36 = .ok (.invokestatic 61, 3) := by decide +kernel
theorem dX2_go_39 : decode cX2_go 39 = .ok (.ifCond .eq 22, 3) := by decide +kernel
theorem dX2_go_42 : decode cX2_go 42 = .ok (.aload_n 0, 1) := by decide +kernel
theorem dX2_go_43 : decode cX2_go 43 = .ok (.getfield 19, 3) := by decide +kernel
theorem dX2_go_46 : decode cX2_go 46 = .ok (.getfield 65, 3) := by decide +kernel
theorem dX2_go_49 : decode cX2_go 49 = .ok (.iload_n 3, 1) := by decide +kernel
theorem dX2_go_50 : decode cX2_go 50 = .ok (.iaload, 1) := by decide +kernel
theorem dX2_go_51 : decode cX2_go 51 = .ok (.bipush 9, 2) := by decide +kernel
theorem dX2_go_53 : decode cX2_go 53 = .ok (.if_icmp .gt 8, 3) := by decide +kernel
theorem dX2_go_56 : decode cX2_go 56 = .ok (.aload_n 0, 1) := by decide +kernel
theorem dX2_go_57 : decode cX2_go 57 = .ok (.iload_n 3, 1) := by decide +kernel
theorem dX2_go_58 : decode cX2_go 58 = .ok (.invokevirtual 68, 3) := by decide +kernel
theorem dX2_go_61 : decode cX2_go 61 = .ok (.iinc 3 1, 3) := by decide +kernel
theorem dX2_go_64 : decode cX2_go 64 = .ok (.goto (-42), 3) := by decide +kernel
theorem dX2_go_67 : decode cX2_go 67 = .ok (.aload_n 0, 1) := by decide +kernel
theorem dX2_go_68 : decode cX2_go 68 = .ok (.getfield 19, 3) := by decide +kernel
theorem dX2_go_71 : decode cX2_go 71 = .ok (.dup, 1) := by decide +kernel
theorem dX2_go_72 : decode cX2_go 72 = .ok (.getfield 53, 3) := by decide +kernel
theorem dX2_go_75 : decode cX2_go 75 = .ok (.iconst 1, 1) := by decide +kernel
theorem dX2_go_76 : decode cX2_go 76 = .ok (.iadd, 1) := by decide +kernel
theorem dX2_go_77 : decode cX2_go 77 = .ok (.putfield 53, 3) := by decide +kernel
theorem dX2_go_80 : decode cX2_go 80 = .ok (.iinc 2 1, 3) := by decide +kernel
theorem dX2_go_83 : decode cX2_go 83 = .ok (.goto (-81), 3) := by decide +kernel
theorem dX2_go_86 : decode cX2_go 86 = .ok (.return_, 1) := by decide +kernel
theorem FP_X2_53 : FPX RX2 53 7 8 4 .int := ⟨⟨RX7, TX7, tyX7, rfl, wX7, by decide, kAW (v_0_5 (List.mem_of_getElem? (i := 9) rfl)) rfl, rfl, tyX7_ok, nmX7, by decide +kernel, rfl⟩, by decide +kernel⟩
theorem FG_X2_58 : FG RX2 58 7 8 3 := ⟨RX7, TX7, rfl, wX7, by decide, kAW (v_0_5 (List.mem_of_getElem? (i := 6) rfl)) rfl, rfl⟩
theorem myX2_goThrough : MI yX2_goThrough cX2_goThrough 4 none 1 := ⟨kAW (v_2_10 (List.mem_of_getElem? (i := 7) rfl)) rfl, kAW (v_0_0 (List.mem_of_getElem? (i := 9) rfl)) rfl, kAW (v_2_10 (List.mem_of_getElem? (i := 6) rfl)) rfl, kAW (tp_t0 (List.mem_of_getElem? (i := 15) rfl)) rfl, by decide, by decide, by decide +kernel⟩
set_option maxRecDepth 100000 in
set_option maxHeartbeats 4000000 in
theorem a_X2_go_18 (l : Launch) (D : va_G) (cA : Nat → ClassId) (ad : Nat → Nat) (g0 : Nat → va_E) (n : Int32)  (lw : Nat) (hSh : Shp ad cA g0) (hG : Rng g0) (hlw : isLw lw) (h_r9 : fld g0 80 9 = .ref (ad lw)) (h_r10 : fld g0 80 10 = .ref (ad 18)) : CT l NN ad cA D yX2_go cX2_go 4 none (6, 144) [.ref (ad 80), .int n] g0 (fun v g' => v = none ∧ Shp ad cA g' ∧ Rng g' ∧ FR (fun i k => (22 ≤ i ∧ i < 30) ∨ i = 83 ∨ i = (lw + 6) ∨ (i = 18 ∧ (k = 5 ∨ k = 6 ∨ k = 7)) ∨ (i = 80 ∧ (k = 7 ∨ k = 8)) ∨ i = 19 ∨ (i = 18 ∧ (k = 4))) g0 g') := by
  refine q_enterV (by decide) (Nat.le_of_ble_eq_true rfl) (fun K H locs ls _ _ hM hW0 hR hC hE hl => ?_)
  have hl : lv_has ls 4 [(0, .ref (ad 80)), (1, .int n)] := hl
  have hW : WS ad cA (fun i k => (22 ≤ i ∧ i < 30) ∨ i = 83 ∨ i = (lw + 6) ∨ (i = 18 ∧ (k = 5 ∨ k = 6 ∨ k = 7)) ∨ (i = 80 ∧ (k = 7 ∨ k = 8)) ∨ i = 19 ∨ (i = 18 ∧ (k = 4))) g0 K g0 H locs := ⟨hW0, hSh, FR.rf⟩
  have ulw := hlw
  unfold isLw at ulw
  have := i_rng n
  refine q_iconst (v := (0 : Int32)) hM dX2_go_0 (by decide) ?_
  refine q_istore_n (lv9 := [(2, .int (0 : Int32)), (0, .ref (ad 80)), (1, .int n)]) hM dX2_go_1 hl (by decide) rfl (fun ls hl => ?_)
  have L2 : ∀ (fu2 : Nat) (w2_2 : Int32) (g9 : Nat → va_E) (H : Heap) (locs : List Loc) (ls : Array Slot), (n.toInt - w2_2.toInt + 1).toNat < fu2 → (Rng g9) → (0 ≤ w2_2.toInt) → lv_has ls 4 [(0, .ref (ad 80)), (1, .int n), (2, .int w2_2)] → WS ad cA (fun i k => (22 ≤ i ∧ i < 30) ∨ i = 83 ∨ i = (lw + 6) ∨ (i = 18 ∧ (k = 5 ∨ k = 6 ∨ k = 7)) ∨ (i = 80 ∧ (k = 7 ∨ k = 8)) ∨ i = 19 ∨ (i = 18 ∧ (k = 4))) g0 K g9 H locs → XX K 0 0 H locs 2 ls [] := by
    intro fu2
    induction fu2 with
    | zero => intro w2_2 g9 H locs ls h0; omega
    | succ fu2 ih2 =>
      intro w2_2 g9 H locs ls hm2 i2_0 i2_1 hl hW
      have hG := i2_0
      have := i_rng n
      refine q_iload_n hM dX2_go_2 (lv_at hl 2 rfl) ?_
      refine q_iload_n hM dX2_go_3 (lv_at hl 1 rfl) ?_
      refine q_icmp_ge (tgt := 86) hM dX2_go_4 (by decide) (rfl : w2_2.toInt = w2_2.toInt) (rfl : n.toInt = n.toInt) (fun h4 => ?_) (fun h4 => ?_)
      · exact hE _ _ _ _ _ hW.1 ⟨rfl, hW.2.1, hG, hW.2.2⟩ dX2_go_86
      · refine q_aload_n hM dX2_go_7 (lv_at hl 0 rfl) ?_
        refine w_get (v := .ref (ad 18)) hM hW FG_X2_19 lb_80 ((hW.2.2.1 80 10 (by omega)).trans h_r10) dX2_go_8 ?_
        refine w_getI hM hW FG_X2_53 lb_18 (by decide) (by decide) dX2_go_11 (fun x1369 fx1369 => ?_)
        refine q_sipush (v := (9999 : Int32)) hM dX2_go_14 (by decide) ?_
        refine q_icmp_ge (tgt := 86) hM dX2_go_17 (by decide) (rfl : x1369.toInt = x1369.toInt) (kc_9999 : (9999 : Int32).toInt = 9999) (fun h17 => ?_) (fun h17 => ?_)
        · exact hE _ _ _ _ _ hW.1 ⟨rfl, hW.2.1, hG, hW.2.2⟩ dX2_go_86
        · refine q_iconst (v := (0 : Int32)) hM dX2_go_20 (by decide) ?_
          refine q_istore_n (lv9 := [(3, .int (0 : Int32)), (0, .ref (ad 80)), (1, .int n), (2, .int w2_2)]) hM dX2_go_21 hl (by decide) rfl (fun ls hl => ?_)
          have L22 : ∀ (fu22 : Nat) (w22_3 : Int32) (g9 : Nat → va_E) (H : Heap) (locs : List Loc) (ls : Array Slot), (8 - w22_3.toInt).toNat < fu22 → (Rng g9) → (0 ≤ w22_3.toInt) → (w22_3.toInt ≤ 8) → lv_has ls 4 [(0, .ref (ad 80)), (1, .int n), (2, .int w2_2), (3, .int w22_3)] → WS ad cA (fun i k => (22 ≤ i ∧ i < 30) ∨ i = 83 ∨ i = (lw + 6) ∨ (i = 18 ∧ (k = 5 ∨ k = 6 ∨ k = 7)) ∨ (i = 80 ∧ (k = 7 ∨ k = 8)) ∨ i = 19 ∨ (i = 18 ∧ (k = 4))) g0 K g9 H locs → XX K 0 0 H locs 22 ls [] := by
            intro fu22
            induction fu22 with
            | zero => intro w22_3 g9 H locs ls h0; omega
            | succ fu22 ih22 =>
              intro w22_3 g9 H locs ls hm22 i22_0 i22_1 i22_2 hl hW
              have hG := i22_0
              refine q_iload_n hM dX2_go_22 (lv_at hl 3 rfl) ?_
              refine q_bipush (v := (8 : Int32)) hM dX2_go_23 (by decide) ?_
              refine q_icmp_ge (tgt := 67) hM dX2_go_25 (by decide) (rfl : w22_3.toInt = w22_3.toInt) (kc_8 : (8 : Int32).toInt = 8) (fun h25 => ?_) (fun h25 => ?_)
              · refine q_aload_n hM dX2_go_67 (lv_at hl 0 rfl) ?_
                refine w_get (v := .ref (ad 18)) hM hW FG_X2_19 lb_80 ((hW.2.2.1 80 10 (by omega)).trans h_r10) dX2_go_68 ?_
                refine q_dup hM dX2_go_71 rfl ?_
                refine w_getI hM hW FG_X2_53 lb_18 (by decide) (by decide) dX2_go_72 (fun x1374 fx1374 => ?_)
                refine q_iconst (v := (1 : Int32)) hM dX2_go_75 (by decide) ?_
                refine q_iadd hM dX2_go_76 (fun z1375 hz1375 => ?_)
                first | have tz1375 := i_addT hz1375 (rfl : x1374.toInt = x1374.toInt) (kc_1 : (1 : Int32).toInt = 1) (by omega) (by omega) | skip
                refine w_put hM hW FP_X2_53 lb_18 (by omega) (Or.inl ⟨_, rfl⟩) rfl rfl dX2_go_77 (fun g1376 H locs hW e1 e2 => ?_)
                have f1377 : fld g1376 18 4 = .int z1375 := e1
                have hG := hG.put e1 e2 (rfl : rF 18 4 = (-2147483648, 2147483647)) (by decide) (by have := i_rng z1375; omega) (by have := i_rng z1375; omega)
                refine q_iinc (lv9 := fun z1378 => [(2, .int z1378), (0, .ref (ad 80)), (1, .int n), (3, .int w22_3)]) hM dX2_go_80 hl (kq := 2) rfl (by decide) (fun _ => rfl) (fun z1378 ls hz1378 hl => ?_)
                first | have tz1378 := i_addT hz1378 (rfl : w2_2.toInt = w2_2.toInt) (kc_1 : (Int32.ofInt 1).toInt = 1) (by omega) (by omega) | skip
                refine q_goto (tgt := 2) hM dX2_go_83 (by decide) ?_
                exact ih2 z1378 _ _ _ _ (by omega) hG (by omega) (lv_sub hl [1, 2, 0] rfl) hW
              · refine q_aload_n hM dX2_go_28 (lv_at hl 0 rfl) ?_
                refine w_get (v := .ref (ad 18)) hM hW FG_X2_19 lb_80 ((hW.2.2.1 80 10 (by omega)).trans h_r10) dX2_go_29 ?_
                refine w_getI hM hW FG_X2_58 lb_18 (by decide) (by decide) dX2_go_32 (fun x1380 fx1380 => ?_)
                have bx1380 := hG.f fx1380 rF_18_3 (by decide)
                refine q_iload_n hM dX2_go_35 (lv_at hl 3 rfl) ?_
                refine q_callN (host := "ForgetSchool") (As := [.int x1380, .int w22_3]) (rest := []) hM hW.1 hR hC myX11_has (List.mem_of_getElem? (i := 3) rfl) (c_X11_has _ _ cA ad g9 x1380 w22_3 hW.2.1) ⟨by decide, by decide⟩ rfl rfl hl.1 (Nat.le_of_ble_eq_true rfl) dX2_go_36 (fun v g1382 H locs hp hW1 => ?_)
                obtain ⟨r1381, rfl, hr1381, rfl⟩ := hp
                have hW : WS ad cA (fun i k => (22 ≤ i ∧ i < 30) ∨ i = 83 ∨ i = (lw + 6) ∨ (i = 18 ∧ (k = 5 ∨ k = 6 ∨ k = 7)) ∨ (i = 80 ∧ (k = 7 ∨ k = 8)) ∨ i = 19 ∨ (i = 18 ∧ (k = 4))) g0 K g9 H locs := ⟨hW1, hW.2.1, hW.2.2⟩
                first | have ltr1381 := has_lt 5 hr1381 (by omega) (by omega) | have ltr1381 := has_lt 6 hr1381 (by omega) (by omega) | have ltr1381 := has_lt 8 hr1381 (by omega) (by omega) | have ltr1381 := has_lt 12 hr1381 (by omega) (by omega) | skip
                refine q_if_eq (tgt := 61) hM dX2_go_39 (by decide) (rfl : r1381.toInt = r1381.toInt) (fun h39 => ?_) (fun h39 => ?_)
                · refine q_iinc (lv9 := fun z1384 => [(3, .int z1384), (0, .ref (ad 80)), (1, .int n), (2, .int w2_2)]) hM dX2_go_61 hl (kq := 3) rfl (by decide) (fun _ => rfl) (fun z1384 ls hz1384 hl => ?_)
                  first | have tz1384 := i_addT hz1384 (rfl : w22_3.toInt = w22_3.toInt) (kc_1 : (Int32.ofInt 1).toInt = 1) (by omega) (by omega) | skip
                  refine q_goto (tgt := 22) hM dX2_go_64 (by decide) ?_
                  exact ih22 z1384 _ _ _ _ (by omega) hG (by omega) (by omega) (lv_sub hl [1, 2, 3, 0] rfl) hW
                · refine q_aload_n hM dX2_go_42 (lv_at hl 0 rfl) ?_
                  refine w_get (v := .ref (ad 18)) hM hW FG_X2_19 lb_80 ((hW.2.2.1 80 10 (by omega)).trans h_r10) dX2_go_43 ?_
                  refine w_get (v := .ref (ad 19)) hM hW FG_X2_65 lb_18 (rf_18_0 hW.2.1) dX2_go_46 ?_
                  refine q_iload_n hM dX2_go_49 (lv_at hl 3 rfl) ?_
                  refine w_iald hM hW lb_19 (i_in (by omega) (by omega)) dX2_go_50 ?_
                  refine q_top (fun y1386 hy1386 => ?_)
                  have by1386 := hG.a hy1386 rA_19
                  refine q_bipush (v := (9 : Int32)) hM dX2_go_51 (by decide) ?_
                  refine q_icmp_gt (tgt := 61) hM dX2_go_53 (by decide) (rfl : y1386.toInt = y1386.toInt) (kc_9 : (9 : Int32).toInt = 9) (fun h53 => ?_) (fun h53 => ?_)
                  · refine q_iinc (lv9 := fun z1388 => [(3, .int z1388), (0, .ref (ad 80)), (1, .int n), (2, .int w2_2)]) hM dX2_go_61 hl (kq := 3) rfl (by decide) (fun _ => rfl) (fun z1388 ls hz1388 hl => ?_)
                    first | have tz1388 := i_addT hz1388 (rfl : w22_3.toInt = w22_3.toInt) (kc_1 : (Int32.ofInt 1).toInt = 1) (by omega) (by omega) | skip
                    refine q_goto (tgt := 22) hM dX2_go_64 (by decide) ?_
                    exact ih22 z1388 _ _ _ _ (by omega) hG (by omega) (by omega) (lv_sub hl [1, 2, 3, 0] rfl) hW
                  · refine q_aload_n hM dX2_go_56 (lv_at hl 0 rfl) ?_
                    refine q_iload_n hM dX2_go_57 (lv_at hl 3 rfl) ?_
                    refine q_callV (As := [.int w22_3]) (rest := []) hM hW.1 hR hC myX2_goThrough (kAW (v_2_10 (List.mem_of_getElem? (i := 4) rfl)) rfl) (rfl : vwCl[2]? = some (RX2, TX2, 11)) rfl lb_80.1 (shO hW.2.1 lb_80) (a_X2_goThrough_18 _ _ cA ad g9 w22_3 lw hW.2.1 hG hlw ((hW.2.2.1 80 9 (by omega)).trans h_r9) ((hW.2.2.1 80 10 (by omega)).trans h_r10) (by  omega) (by  omega) (by rw [← hy1386]; omega)) ⟨by decide, by decide⟩ rfl rfl hl.1 (Nat.le_of_ble_eq_true rfl) dX2_go_58 (fun v g1390 H locs hp hW1 => ?_)
                    obtain ⟨rfl, hs1, hG, hf1⟩ := hp
                    have f1391 : fld g1390 18 3 = .int x1380 := (hf1.1 18 3 (by omega)).trans fx1380
                    have hW : WS ad cA (fun i k => (22 ≤ i ∧ i < 30) ∨ i = 83 ∨ i = (lw + 6) ∨ (i = 18 ∧ (k = 5 ∨ k = 6 ∨ k = 7)) ∨ (i = 80 ∧ (k = 7 ∨ k = 8)) ∨ i = 19 ∨ (i = 18 ∧ (k = 4))) g0 K g1390 H locs := ⟨hW1, hs1, hW.2.2.tr hf1 (fun i k h => h.elim (fun h => (Or.inl h)) (fun h => h.elim (fun h => (Or.inr (Or.inl h))) (fun h => h.elim (fun h => (Or.inr (Or.inr (Or.inl h)))) (fun h => h.elim (fun h => (Or.inr (Or.inr (Or.inr (Or.inl h))))) (fun h => h.elim (fun h => (Or.inr (Or.inr (Or.inr (Or.inr (Or.inl h)))))) (fun h => (Or.inr (Or.inr (Or.inr (Or.inr (Or.inr (Or.inl h))))))))))))⟩
                    refine q_iinc (lv9 := fun z1392 => [(3, .int z1392), (0, .ref (ad 80)), (1, .int n), (2, .int w2_2)]) hM dX2_go_61 hl (kq := 3) rfl (by decide) (fun _ => rfl) (fun z1392 ls hz1392 hl => ?_)
                    first | have tz1392 := i_addT hz1392 (rfl : w22_3.toInt = w22_3.toInt) (kc_1 : (Int32.ofInt 1).toInt = 1) (by omega) (by omega) | skip
                    refine q_goto (tgt := 22) hM dX2_go_64 (by decide) ?_
                    exact ih22 z1392 _ _ _ _ (by omega) hG (by omega) (by omega) (lv_sub hl [1, 2, 3, 0] rfl) hW
          have := kc_0
          exact L22 _ (0 : Int32) _ _ _ _ (Nat.lt_succ_self _) hG (by omega) (by omega) (lv_sub hl [1, 2, 3, 0] rfl) hW
  have := kc_0
  exact L2 _ (0 : Int32) _ _ _ _ (Nat.lt_succ_self _) hG (by omega) (lv_sub hl [1, 2, 0] rfl) hW


set_option maxRecDepth 100000 in
set_option maxHeartbeats 4000000 in
theorem a_X2_change_42 (l : Launch) (D : va_G) (cA : Nat → ClassId) (ad : Nat → Nat) (g0 : Nat → va_E) (p : Int32) (i : Int32) (wy : Int32)  (lw : Nat) (hSh : Shp ad cA g0) (hG : Rng g0) (hlw : isLw lw) (h_r9 : fld g0 80 9 = .ref (ad lw)) (h_r10 : fld g0 80 10 = .ref (ad 42)) (p0 : 0 ≤ p.toInt) (p7 : p.toInt < 8) (i0 : 0 ≤ i.toInt) (i12 : i.toInt < 12) : CT l NN ad cA D yX2_change cX2_change 6 none (3, 72) [.ref (ad 80), .int p, .int i, .int wy] g0 (fun v g' => v = none ∧ Shp ad cA g' ∧ Rng g' ∧ FR (fun i k => (46 ≤ i ∧ i < 54) ∨ i = 83 ∨ i = (lw + 6)) g0 g') := by
  refine q_enterV (by decide) (Nat.le_of_ble_eq_true rfl) (fun K H locs ls _ _ hM hW0 hR hC hE hl => ?_)
  have hl : lv_has ls 6 [(0, .ref (ad 80)), (1, .int p), (2, .int i), (3, .int wy)] := hl
  have hW : WS ad cA (fun i k => (46 ≤ i ∧ i < 54) ∨ i = 83 ∨ i = (lw + 6)) g0 K g0 H locs := ⟨hW0, hSh, FR.rf⟩
  have ulw := hlw
  unfold isLw at ulw
  refine q_aload_n hM dX2_change_0 (lv_at hl 0 rfl) ?_
  refine w_get (v := .ref (ad 42)) hM hW FG_X2_19 lb_80 ((hW.2.2.1 80 10 (by omega)).trans h_r10) dX2_change_1 ?_
  refine w_get (v := .ref (ad 45)) hM hW FG_X2_86 lb_42 (rf_42_2 hW.2.1) dX2_change_4 ?_
  refine q_iload_n hM dX2_change_7 (lv_at hl 1 rfl) ?_
  refine w_aald hM hW lb_45 (Or.inl rfl) (i_in (by omega) (by omega)) (aq (aq_45 hW.2.1) (by omega) (by omega)) dX2_change_8 ?_
  refine q_astore (lv9 := [(4, .ref (ad (46 + 1 * p.toInt.toNat))), (0, .ref (ad 80)), (1, .int p), (2, .int i), (3, .int wy)]) hM dX2_change_9 hl (by decide) rfl (fun ls hl => ?_)
  refine q_aload_n hM dX2_change_11 (lv_at hl 1 rfl) ?_
  refine q_iload_n hM dX2_change_12 (lv_at hl 2 rfl) ?_
  refine q_iload_n hM dX2_change_13 (lv_at hl 3 rfl) ?_
  refine q_callV (As := [.int p, .int i]) (rest := []) hM hW.1 hR hC myX2_about (kAW (v_2_10 (List.mem_of_getElem? (i := 12) rfl)) rfl) (rfl : vwCl[2]? = some (RX2, TX2, 11)) rfl lb_80.1 (shO hW.2.1 lb_80) (a_X2_about_42 _ _ cA ad g0 p i hW.2.1 hG ((hW.2.2.1 80 10 (by omega)).trans h_r10) (by  omega) (by  omega) (by  omega) (by  omega)) ⟨by decide, by decide⟩ rfl rfl hl.1 (Nat.le_of_ble_eq_true rfl) dX2_change_14 (fun v g1393 H locs hp hW1 => ?_)
  obtain ⟨rfl, hs1, hG, hf1⟩ := hp
  have hW : WS ad cA (fun i k => (46 ≤ i ∧ i < 54) ∨ i = 83 ∨ i = (lw + 6)) g0 K g1393 H locs := ⟨hW1, hs1, hW.2.2.tr hf1 (fun i k h => (Or.inr (Or.inl h)))⟩
  refine q_astore (lv9 := [(5, .ref (ad 83)), (4, .ref (ad (46 + 1 * p.toInt.toNat))), (0, .ref (ad 80)), (1, .int p), (2, .int i), (3, .int wy)]) hM dX2_change_17 hl (by decide) rfl (fun ls hl => ?_)
  refine q_iload_n hM dX2_change_19 (lv_at hl 5 rfl) ?_
  refine q_iconst (v := (3 : Int32)) hM dX2_change_20 (by decide) ?_
  refine q_icmp_ne (tgt := 52) hM dX2_change_21 (by decide) (rfl : wy.toInt = wy.toInt) (kc_3 : (3 : Int32).toInt = 3) (fun h21 => ?_) (fun h21 => ?_)
  · refine q_aload hM dX2_change_52 (lv_at hl 1 rfl) ?_
    refine q_iload_n hM dX2_change_54 (lv_at hl 4 rfl) ?_
    refine w_iald hM hW (lr_46 (by omega)) (i_in (by omega) (by omega)) dX2_change_55 ?_
    refine q_top (fun y1395 hy1395 => ?_)
    refine q_if_eq (tgt := 71) hM dX2_change_56 (by decide) (rfl : y1395.toInt = y1395.toInt) (fun h56 => ?_) (fun h56 => ?_)
    · exact hE _ _ _ _ _ hW.1 ⟨rfl, hW.2.1, hG, hW.2.2⟩ dX2_change_71
    · refine q_aload_n hM dX2_change_59 (lv_at hl 2 rfl) ?_
      refine w_get (v := .ref (ad lw)) hM hW FG_X2_15 lb_80 ((hW.2.2.1 80 9 (by omega)).trans h_r9) dX2_change_60 ?_
      refine q_aload hM dX2_change_63 (lv_at hl 0 rfl) ?_
      refine q_callV (As := [.ref (ad 83)]) (rest := []) hM hW.1 hR hC myX3_keeps (kAW (v_2_13 (List.mem_of_getElem? (i := 4) rfl)) rfl) (rfl : vwCl[3]? = some (RX3, TX3, 8)) rfl (lo_Lw hlw).1 (shO hW.2.1 (lo_Lw hlw)) (a_X3_keeps _ _ cA ad g1393 lw hW.2.1 hG hlw) ⟨by decide, by decide⟩ rfl rfl hl.1 (Nat.le_of_ble_eq_true rfl) dX2_change_65 (fun v g1399 H locs hp hW1 => ?_)
      obtain ⟨r1398, rfl, hs1, hG, hf1, hr1398⟩ := hp
      have hW : WS ad cA (fun i k => (46 ≤ i ∧ i < 54) ∨ i = 83 ∨ i = (lw + 6)) g0 K g1399 H locs := ⟨hW1, hs1, hW.2.2.tr hf1 (fun i k h => (Or.inr (Or.inr h)))⟩
      refine q_if_eq (tgt := 72) hM dX2_change_68 (by decide) (rfl : r1398.toInt = r1398.toInt) (fun h68 => ?_) (fun h68 => ?_)
      · refine q_iload_n hM dX2_change_72 (lv_at hl 5 rfl) ?_
        refine q_if_ne (tgt := 105) hM dX2_change_73 (by decide) (rfl : wy.toInt = wy.toInt) (fun h73 => ?_) (fun h73 => ?_)
        · refine q_aload hM dX2_change_105 (lv_at hl 1 rfl) ?_
          refine q_iload_n hM dX2_change_107 (lv_at hl 4 rfl) ?_
          refine q_iload_n hM dX2_change_108 (lv_at hl 5 rfl) ?_
          refine q_iconst (v := (1 : Int32)) hM dX2_change_109 (by decide) ?_
          refine q_icmp_ne (tgt := 122) hM dX2_change_110 (by decide) (rfl : wy.toInt = wy.toInt) (kc_1 : (1 : Int32).toInt = 1) (fun h110 => ?_) (fun h110 => ?_)
          · refine q_aload hM dX2_change_122 (lv_at hl 1 rfl) ?_
            refine q_iload_n hM dX2_change_124 (lv_at hl 4 rfl) ?_
            refine w_iald hM hW (lr_46 (by omega)) (i_in (by omega) (by omega)) dX2_change_125 ?_
            refine q_top (fun y1403 hy1403 => ?_)
            refine q_iconst (v := (1 : Int32)) hM dX2_change_126 (by decide) ?_
            refine q_isub hM dX2_change_127 (fun z1404 hz1404 => ?_)
            first | have tz1404 := i_subT hz1404 (rfl : y1403.toInt = y1403.toInt) (kc_1 : (1 : Int32).toInt = 1) (by omega) (by omega) | skip
            refine w_iast hM hW (lr_46 (by omega)) (by omega) (i_in (by omega) (by omega)) dX2_change_128 (fun g1405 H locs hW e1 e2 => ?_)
            have hG := hG.st e1 e2 (rA_row_46 (by omega)) (by have := i_rng z1404; omega) (by have := i_rng z1404; omega)
            exact hE _ _ _ _ _ hW.1 ⟨rfl, hW.2.1, hG, hW.2.2⟩ dX2_change_129
          · refine q_aload hM dX2_change_113 (lv_at hl 1 rfl) ?_
            refine q_iload_n hM dX2_change_115 (lv_at hl 4 rfl) ?_
            refine w_iald hM hW (lr_46 (by omega)) (i_in (by omega) (by omega)) dX2_change_116 ?_
            refine q_top (fun y1407 hy1407 => ?_)
            refine q_iconst (v := (2 : Int32)) hM dX2_change_117 (by decide) ?_
            refine q_idiv hM (by decide) dX2_change_118 (fun z1408 hz1408 => ?_)
            first | have tz1408 := i_divT hz1408 (rfl : y1407.toInt = y1407.toInt) (kc_2 : (2 : Int32).toInt = 2) (by omega) (by omega) | skip
            refine q_goto (tgt := 128) hM dX2_change_119 (by decide) ?_
            refine w_iast hM hW (lr_46 (by omega)) (by omega) (i_in (by omega) (by omega)) dX2_change_128 (fun g1409 H locs hW e1 e2 => ?_)
            have hG := hG.st e1 e2 (rA_row_46 (by omega)) (by have := i_rng z1408; omega) (by have := i_rng z1408; omega)
            exact hE _ _ _ _ _ hW.1 ⟨rfl, hW.2.1, hG, hW.2.2⟩ dX2_change_129
        · refine q_aload hM dX2_change_76 (lv_at hl 1 rfl) ?_
          refine q_iload_n hM dX2_change_78 (lv_at hl 4 rfl) ?_
          refine q_iconst (v := (0 : Int32)) hM dX2_change_79 (by decide) ?_
          refine q_aload hM dX2_change_80 (lv_at hl 1 rfl) ?_
          refine q_iload_n hM dX2_change_82 (lv_at hl 4 rfl) ?_
          refine w_iald hM hW (lr_46 (by omega)) (i_in (by omega) (by omega)) dX2_change_83 ?_
          refine q_top (fun y1411 hy1411 => ?_)
          refine q_aload_n hM dX2_change_84 (lv_at hl 2 rfl) ?_
          refine w_get (v := .ref (ad lw)) hM hW FG_X2_15 lb_80 ((hW.2.2.1 80 9 (by omega)).trans h_r9) dX2_change_85 ?_
          refine q_bipush (v := (119 : Int32)) hM dX2_change_88 (by decide) ?_
          refine q_bipush (v := (99 : Int32)) hM dX2_change_90 (by decide) ?_
          refine q_aload hM dX2_change_92 (lv_at hl 0 rfl) ?_
          refine q_callV (As := [.int (119 : Int32), .int (99 : Int32), .ref (ad 83)]) (rest := [.int y1411, .int (0 : Int32), .int i, .ref (ad (46 + 1 * p.toInt.toNat))]) hM hW.1 hR hC myX3_amount (kAW (v_2_11 (List.mem_of_getElem? (i := 10) rfl)) rfl) (rfl : vwCl[3]? = some (RX3, TX3, 8)) rfl (lo_Lw hlw).1 (shO hW.2.1 (lo_Lw hlw)) (a_X3_amount _ _ cA ad g1399 lw (119 : Int32) (99 : Int32) hW.2.1 hG hlw) ⟨by decide, by decide⟩ rfl rfl hl.1 (Nat.le_of_ble_eq_true rfl) dX2_change_94 (fun v g1413 H locs hp hW1 => ?_)
          obtain ⟨r1412, rfl, hs1, hG, hf1⟩ := hp
          have hW : WS ad cA (fun i k => (46 ≤ i ∧ i < 54) ∨ i = 83 ∨ i = (lw + 6)) g0 K g1413 H locs := ⟨hW1, hs1, hW.2.2.tr hf1 (fun i k h => (Or.inr (Or.inr h)))⟩
          refine q_isub hM dX2_change_97 (fun z1414 hz1414 => ?_)
          first | have tz1414 := i_subT hz1414 (rfl : y1411.toInt = y1411.toInt) (rfl : r1412.toInt = r1412.toInt) (by omega) (by omega) | skip
          refine q_mmax hM hR hC (kAW (v_2_13 (List.mem_of_getElem? (i := 8) rfl)) rfl) hl.1 (by decide) (Nat.le_of_ble_eq_true rfl) dX2_change_98 (fun r1415 hr1415 => ?_)
          have := kc_0
          refine w_iast hM hW (lr_46 (by omega)) (by omega) (i_in (by omega) (by omega)) dX2_change_101 (fun g1416 H locs hW e1 e2 => ?_)
          have hG := hG.st e1 e2 (rA_row_46 (by omega)) (by have := i_rng r1415; omega) (by have := i_rng r1415; omega)
          refine q_goto (tgt := 129) hM dX2_change_102 (by decide) ?_
          exact hE _ _ _ _ _ hW.1 ⟨rfl, hW.2.1, hG, hW.2.2⟩ dX2_change_129
      · exact hE _ _ _ _ _ hW.1 ⟨rfl, hW.2.1, hG, hW.2.2⟩ dX2_change_71
  · refine q_aload hM dX2_change_24 (lv_at hl 1 rfl) ?_
    refine q_iload_n hM dX2_change_26 (lv_at hl 4 rfl) ?_
    refine q_bipush (v := (99 : Int32)) hM dX2_change_27 (by decide) ?_
    refine q_aload hM dX2_change_29 (lv_at hl 1 rfl) ?_
    refine q_iload_n hM dX2_change_31 (lv_at hl 4 rfl) ?_
    refine w_iald hM hW (lr_46 (by omega)) (i_in (by omega) (by omega)) dX2_change_32 ?_
    refine q_top (fun y1419 hy1419 => ?_)
    refine q_aload_n hM dX2_change_33 (lv_at hl 2 rfl) ?_
    refine w_get (v := .ref (ad lw)) hM hW FG_X2_15 lb_80 ((hW.2.2.1 80 9 (by omega)).trans h_r9) dX2_change_34 ?_
    refine q_bipush (v := (115 : Int32)) hM dX2_change_37 (by decide) ?_
    refine q_bipush (v := (99 : Int32)) hM dX2_change_39 (by decide) ?_
    refine q_aload hM dX2_change_41 (lv_at hl 0 rfl) ?_
    refine q_callV (As := [.int (115 : Int32), .int (99 : Int32), .ref (ad 83)]) (rest := [.int y1419, .int (99 : Int32), .int i, .ref (ad (46 + 1 * p.toInt.toNat))]) hM hW.1 hR hC myX3_amount (kAW (v_2_11 (List.mem_of_getElem? (i := 10) rfl)) rfl) (rfl : vwCl[3]? = some (RX3, TX3, 8)) rfl (lo_Lw hlw).1 (shO hW.2.1 (lo_Lw hlw)) (a_X3_amount _ _ cA ad g1393 lw (115 : Int32) (99 : Int32) hW.2.1 hG hlw) ⟨by decide, by decide⟩ rfl rfl hl.1 (Nat.le_of_ble_eq_true rfl) dX2_change_43 (fun v g1421 H locs hp hW1 => ?_)
    obtain ⟨r1420, rfl, hs1, hG, hf1⟩ := hp
    have hW : WS ad cA (fun i k => (46 ≤ i ∧ i < 54) ∨ i = 83 ∨ i = (lw + 6)) g0 K g1421 H locs := ⟨hW1, hs1, hW.2.2.tr hf1 (fun i k h => (Or.inr (Or.inr h)))⟩
    refine q_iadd hM dX2_change_46 (fun z1422 hz1422 => ?_)
    first | have tz1422 := i_addT hz1422 (rfl : y1419.toInt = y1419.toInt) (rfl : r1420.toInt = r1420.toInt) (by omega) (by omega) | skip
    refine q_mmin hM hR hC (kAW (v_2_12 (List.mem_of_getElem? (i := 7) rfl)) rfl) hl.1 (by decide) (Nat.le_of_ble_eq_true rfl) dX2_change_47 (fun r1423 hr1423 => ?_)
    have := kc_99
    refine w_iast hM hW (lr_46 (by omega)) (by omega) (i_in (by omega) (by omega)) dX2_change_50 (fun g1424 H locs hW e1 e2 => ?_)
    have hG := hG.st e1 e2 (rA_row_46 (by omega)) (by have := i_rng r1423; omega) (by have := i_rng r1423; omega)
    exact hE _ _ _ _ _ hW.1 ⟨rfl, hW.2.1, hG, hW.2.2⟩ dX2_change_51


set_option maxRecDepth 100000 in
set_option maxHeartbeats 4000000 in
theorem a_X2_doArt_42 (l : Launch) (D : va_G) (cA : Nat → ClassId) (ad : Nat → Nat) (g0 : Nat → va_E) (p : Int32) (ar : Nat)  (lw : Nat) (hSh : Shp ad cA g0) (hG : Rng g0) (har : isAt ar) (hlw : isLw lw) (h_r9 : fld g0 80 9 = .ref (ad lw)) (h_r10 : fld g0 80 10 = .ref (ad 42)) (p0 : 0 ≤ p.toInt) (p7 : p.toInt < 8) : CT l NN ad cA D yX2_doArt cX2_doArt 5 none (4, 97) [.ref (ad 80), .int p, .ref (ad ar)] g0 (fun v g' => v = none ∧ Shp ad cA g' ∧ Rng g' ∧ FR (fun i k => (46 ≤ i ∧ i < 54) ∨ i = 83 ∨ i = (lw + 6)) g0 g') := by
  refine q_enterV (by decide) (Nat.le_of_ble_eq_true rfl) (fun K H locs ls _ _ hM hW0 hR hC hE hl => ?_)
  have hl : lv_has ls 5 [(0, .ref (ad 80)), (1, .int p), (2, .ref (ad ar))] := hl
  have hW : WS ad cA (fun i k => (46 ≤ i ∧ i < 54) ∨ i = 83 ∨ i = (lw + 6)) g0 K g0 H locs := ⟨hW0, hSh, FR.rf⟩
  have uar := har
  unfold isAt at uar
  have ulw := hlw
  unfold isLw at ulw
  refine q_iconst (v := (0 : Int32)) hM dX2_doArt_0 (by decide) ?_
  refine q_istore_n (lv9 := [(3, .int (0 : Int32)), (0, .ref (ad 80)), (1, .int p), (2, .ref (ad ar))]) hM dX2_doArt_1 hl (by decide) rfl (fun ls hl => ?_)
  have L2 : ∀ (fu2 : Nat) (w2_3 : Int32) (g9 : Nat → va_E) (H : Heap) (locs : List Loc) (ls : Array Slot), (48 - w2_3.toInt).toNat < fu2 → (Rng g9) → (0 ≤ w2_3.toInt) → (w2_3.toInt ≤ 48) → lv_has ls 5 [(0, .ref (ad 80)), (1, .int p), (2, .ref (ad ar)), (3, .int w2_3)] → WS ad cA (fun i k => (46 ≤ i ∧ i < 54) ∨ i = 83 ∨ i = (lw + 6)) g0 K g9 H locs → XX K 0 0 H locs 2 ls [] := by
    intro fu2
    induction fu2 with
    | zero => intro w2_3 g9 H locs ls h0; omega
    | succ fu2 ih2 =>
      intro w2_3 g9 H locs ls hm2 i2_0 i2_1 i2_2 hl hW
      have hG := i2_0
      refine q_iload_n hM dX2_doArt_2 (lv_at hl 3 rfl) ?_
      refine q_aload_n hM dX2_doArt_3 (lv_at hl 2 rfl) ?_
      refine w_getI hM hW FG_X2_106 (lo_At har) (by decide) (by decide) dX2_doArt_4 (fun x1426 fx1426 => ?_)
      have bx1426 := hG.f fx1426 (rF_At_2 har) (by decide)
      refine q_icmp_ge (tgt := 72) hM dX2_doArt_7 (by decide) (rfl : w2_3.toInt = w2_3.toInt) (rfl : x1426.toInt = x1426.toInt) (fun h7 => ?_) (fun h7 => ?_)
      · exact hE _ _ _ _ _ hW.1 ⟨rfl, hW.2.1, hG, hW.2.2⟩ dX2_doArt_72
      · refine q_iload_n hM dX2_doArt_10 (lv_at hl 3 rfl) ?_
        refine q_bipush (v := (48 : Int32)) hM dX2_doArt_11 (by decide) ?_
        refine q_icmp_ge (tgt := 72) hM dX2_doArt_13 (by decide) (rfl : w2_3.toInt = w2_3.toInt) (kc_48 : (48 : Int32).toInt = 48) (fun h13 => ?_) (fun h13 => ?_)
        · exact hE _ _ _ _ _ hW.1 ⟨rfl, hW.2.1, hG, hW.2.2⟩ dX2_doArt_72
        · refine q_iconst (v := (0 : Int32)) hM dX2_doArt_16 (by decide) ?_
          refine q_istore (lv9 := [(4, .int (0 : Int32)), (0, .ref (ad 80)), (1, .int p), (2, .ref (ad ar)), (3, .int w2_3)]) hM dX2_doArt_17 hl (by decide) rfl (fun ls hl => ?_)
          have L19 : ∀ (fu19 : Nat) (w19_4 : Int32) (g9 : Nat → va_E) (H : Heap) (locs : List Loc) (ls : Array Slot), (12 - w19_4.toInt).toNat < fu19 → (Rng g9) → (0 ≤ w19_4.toInt) → (w19_4.toInt ≤ 12) → lv_has ls 5 [(0, .ref (ad 80)), (1, .int p), (2, .ref (ad ar)), (3, .int w2_3), (4, .int w19_4)] → WS ad cA (fun i k => (46 ≤ i ∧ i < 54) ∨ i = 83 ∨ i = (lw + 6)) g0 K g9 H locs → XX K 0 0 H locs 19 ls [] := by
            intro fu19
            induction fu19 with
            | zero => intro w19_4 g9 H locs ls h0; omega
            | succ fu19 ih19 =>
              intro w19_4 g9 H locs ls hm19 i19_0 i19_1 i19_2 hl hW
              have hG := i19_0
              refine q_iload hM dX2_doArt_19 (lv_at hl 4 rfl) ?_
              refine q_bipush (v := (12 : Int32)) hM dX2_doArt_21 (by decide) ?_
              refine q_icmp_ge (tgt := 66) hM dX2_doArt_23 (by decide) (rfl : w19_4.toInt = w19_4.toInt) (kc_12 : (12 : Int32).toInt = 12) (fun h23 => ?_) (fun h23 => ?_)
              · refine q_iinc (lv9 := fun z1433 => [(3, .int z1433), (0, .ref (ad 80)), (1, .int p), (2, .ref (ad ar)), (4, .int w19_4)]) hM dX2_doArt_66 hl (kq := 3) rfl (by decide) (fun _ => rfl) (fun z1433 ls hz1433 hl => ?_)
                first | have tz1433 := i_addT hz1433 (rfl : w2_3.toInt = w2_3.toInt) (kc_1 : (Int32.ofInt 1).toInt = 1) (by omega) (by omega) | skip
                refine q_goto (tgt := 2) hM dX2_doArt_69 (by decide) ?_
                exact ih2 z1433 _ _ _ _ (by omega) hG (by omega) (by omega) (lv_sub hl [1, 2, 3, 0] rfl) hW
              · refine q_aload_n hM dX2_doArt_26 (lv_at hl 0 rfl) ?_
                refine q_aload_n hM dX2_doArt_27 (lv_at hl 2 rfl) ?_
                refine w_get (v := .ref (ad (ar + 1))) hM hW FG_X2_109 (lo_At har) (rf_At_0 har hW.2.1) dX2_doArt_28 ?_
                refine q_iload_n hM dX2_doArt_31 (lv_at hl 3 rfl) ?_
                refine w_iald hM hW (la_At_0 har) (i_in (by omega) (by omega)) dX2_doArt_32 ?_
                refine q_top (fun y1435 hy1435 => ?_)
                refine q_aload_n hM dX2_doArt_33 (lv_at hl 2 rfl) ?_
                refine w_get (v := .ref (ad (ar + 2))) hM hW FG_X2_112 (lo_At har) (rf_At_1 har hW.2.1) dX2_doArt_34 ?_
                refine q_iload_n hM dX2_doArt_37 (lv_at hl 3 rfl) ?_
                refine w_iald hM hW (la_At_1 har) (i_in (by omega) (by omega)) dX2_doArt_38 ?_
                refine q_top (fun y1436 hy1436 => ?_)
                refine q_iload hM dX2_doArt_39 (lv_at hl 4 rfl) ?_
                refine q_callV (As := [.int y1435, .int y1436, .int w19_4]) (rest := []) hM hW.1 hR hC myX2_concerns (kAW (v_2_12 (List.mem_of_getElem? (i := 12) rfl)) rfl) (rfl : vwCl[2]? = some (RX2, TX2, 11)) rfl lb_80.1 (shO hW.2.1 lb_80) (a_X2_concerns _ _ cA ad g9 y1435 y1436 w19_4 hW.2.1 hG (by  omega) (by  omega)) ⟨by decide, by decide⟩ rfl rfl hl.1 (Nat.le_of_ble_eq_true rfl) dX2_doArt_41 (fun v g1438 H locs hp hW1 => ?_)
                obtain ⟨r1437, rfl, hr1437, rfl⟩ := hp
                have hW : WS ad cA (fun i k => (46 ≤ i ∧ i < 54) ∨ i = 83 ∨ i = (lw + 6)) g0 K g9 H locs := ⟨hW1, hW.2.1, hW.2.2⟩
                refine q_if_eq (tgt := 60) hM dX2_doArt_44 (by decide) (rfl : r1437.toInt = r1437.toInt) (fun h44 => ?_) (fun h44 => ?_)
                · refine q_iinc (lv9 := fun z1440 => [(4, .int z1440), (0, .ref (ad 80)), (1, .int p), (2, .ref (ad ar)), (3, .int w2_3)]) hM dX2_doArt_60 hl (kq := 4) rfl (by decide) (fun _ => rfl) (fun z1440 ls hz1440 hl => ?_)
                  first | have tz1440 := i_addT hz1440 (rfl : w19_4.toInt = w19_4.toInt) (kc_1 : (Int32.ofInt 1).toInt = 1) (by omega) (by omega) | skip
                  refine q_goto (tgt := 19) hM dX2_doArt_63 (by decide) ?_
                  exact ih19 z1440 _ _ _ _ (by omega) hG (by omega) (by omega) (lv_sub hl [1, 2, 3, 4, 0] rfl) hW
                · refine q_aload_n hM dX2_doArt_47 (lv_at hl 0 rfl) ?_
                  refine q_iload_n hM dX2_doArt_48 (lv_at hl 1 rfl) ?_
                  refine q_iload hM dX2_doArt_49 (lv_at hl 4 rfl) ?_
                  refine q_aload_n hM dX2_doArt_51 (lv_at hl 2 rfl) ?_
                  refine w_get (v := .ref (ad (ar + 1))) hM hW FG_X2_109 (lo_At har) (rf_At_0 har hW.2.1) dX2_doArt_52 ?_
                  refine q_iload_n hM dX2_doArt_55 (lv_at hl 3 rfl) ?_
                  refine w_iald hM hW (la_At_0 har) (i_in (by omega) (by omega)) dX2_doArt_56 ?_
                  refine q_top (fun y1442 hy1442 => ?_)
                  refine q_callV (As := [.int p, .int w19_4, .int y1442]) (rest := []) hM hW.1 hR hC myX2_change (kAW (v_2_13 (List.mem_of_getElem? (i := 0) rfl)) rfl) (rfl : vwCl[2]? = some (RX2, TX2, 11)) rfl lb_80.1 (shO hW.2.1 lb_80) (a_X2_change_42 _ _ cA ad g9 p w19_4 y1442 lw hW.2.1 hG hlw ((hW.2.2.1 80 9 (by omega)).trans h_r9) ((hW.2.2.1 80 10 (by omega)).trans h_r10) (by  omega) (by  omega) (by  omega) (by  omega)) ⟨by decide, by decide⟩ rfl rfl hl.1 (Nat.le_of_ble_eq_true rfl) dX2_doArt_57 (fun v g1443 H locs hp hW1 => ?_)
                  obtain ⟨rfl, hs1, hG, hf1⟩ := hp
                  have hW : WS ad cA (fun i k => (46 ≤ i ∧ i < 54) ∨ i = 83 ∨ i = (lw + 6)) g0 K g1443 H locs := ⟨hW1, hs1, hW.2.2.tr hf1 (fun i k h => h.elim (fun h => (Or.inl h)) (fun h => h.elim (fun h => (Or.inr (Or.inl h))) (fun h => (Or.inr (Or.inr h)))))⟩
                  refine q_iinc (lv9 := fun z1444 => [(4, .int z1444), (0, .ref (ad 80)), (1, .int p), (2, .ref (ad ar)), (3, .int w2_3)]) hM dX2_doArt_60 hl (kq := 4) rfl (by decide) (fun _ => rfl) (fun z1444 ls hz1444 hl => ?_)
                  first | have tz1444 := i_addT hz1444 (rfl : w19_4.toInt = w19_4.toInt) (kc_1 : (Int32.ofInt 1).toInt = 1) (by omega) (by omega) | skip
                  refine q_goto (tgt := 19) hM dX2_doArt_63 (by decide) ?_
                  exact ih19 z1444 _ _ _ _ (by omega) hG (by omega) (by omega) (lv_sub hl [1, 2, 3, 4, 0] rfl) hW
          have := kc_0
          exact L19 _ (0 : Int32) _ _ _ _ (Nat.lt_succ_self _) hG (by omega) (by omega) (lv_sub hl [1, 2, 3, 4, 0] rfl) hW
  have := kc_0
  exact L2 _ (0 : Int32) _ _ _ _ (Nat.lt_succ_self _) hG (by omega) (by omega) (lv_sub hl [1, 2, 3, 0] rfl) hW


set_option maxRecDepth 100000 in
set_option maxHeartbeats 4000000 in
theorem a_X2_rest_42 (l : Launch) (D : va_G) (cA : Nat → ClassId) (ad : Nat → Nat) (g0 : Nat → va_E) (p : Int32)  (lw : Nat) (hSh : Shp ad cA g0) (hG : Rng g0) (hlw : isLw lw) (h_r9 : fld g0 80 9 = .ref (ad lw)) (h_r10 : fld g0 80 10 = .ref (ad 42)) (p0 : 0 ≤ p.toInt) (p7 : p.toInt < 8) : CT l NN ad cA D yX2_rest cX2_rest 4 none (3, 72) [.ref (ad 80), .int p] g0 (fun v g' => v = none ∧ Shp ad cA g' ∧ Rng g' ∧ FR (fun i k => (46 ≤ i ∧ i < 54) ∨ i = 83 ∨ i = (lw + 6)) g0 g') := by
  refine q_enterV (by decide) (Nat.le_of_ble_eq_true rfl) (fun K H locs ls _ _ hM hW0 hR hC hE hl => ?_)
  have hl : lv_has ls 4 [(0, .ref (ad 80)), (1, .int p)] := hl
  have hW : WS ad cA (fun i k => (46 ≤ i ∧ i < 54) ∨ i = 83 ∨ i = (lw + 6)) g0 K g0 H locs := ⟨hW0, hSh, FR.rf⟩
  have ulw := hlw
  unfold isLw at ulw
  refine q_aload_n hM dX2_rest_0 (lv_at hl 0 rfl) ?_
  refine w_get (v := .ref (ad 42)) hM hW FG_X2_19 lb_80 ((hW.2.2.1 80 10 (by omega)).trans h_r10) dX2_rest_1 ?_
  refine w_get (v := .ref (ad 45)) hM hW FG_X2_86 lb_42 (rf_42_2 hW.2.1) dX2_rest_4 ?_
  refine q_iload_n hM dX2_rest_7 (lv_at hl 1 rfl) ?_
  refine w_aald hM hW lb_45 (Or.inl rfl) (i_in (by omega) (by omega)) (aq (aq_45 hW.2.1) (by omega) (by omega)) dX2_rest_8 ?_
  refine q_astore_n (lv9 := [(2, .ref (ad (46 + 1 * p.toInt.toNat))), (0, .ref (ad 80)), (1, .int p)]) hM dX2_rest_9 hl (by decide) rfl (fun ls hl => ?_)
  refine q_iconst (v := (0 : Int32)) hM dX2_rest_10 (by decide) ?_
  refine q_istore_n (lv9 := [(3, .int (0 : Int32)), (2, .ref (ad (46 + 1 * p.toInt.toNat))), (0, .ref (ad 80)), (1, .int p)]) hM dX2_rest_11 hl (by decide) rfl (fun ls hl => ?_)
  have L12 : ∀ (fu12 : Nat) (w12_3 : Int32) (g9 : Nat → va_E) (H : Heap) (locs : List Loc) (ls : Array Slot), (12 - w12_3.toInt).toNat < fu12 → (Rng g9) → (0 ≤ w12_3.toInt) → (w12_3.toInt ≤ 12) → lv_has ls 4 [(0, .ref (ad 80)), (1, .int p), (2, .ref (ad (46 + 1 * p.toInt.toNat))), (3, .int w12_3)] → WS ad cA (fun i k => (46 ≤ i ∧ i < 54) ∨ i = 83 ∨ i = (lw + 6)) g0 K g9 H locs → XX K 0 0 H locs 12 ls [] := by
    intro fu12
    induction fu12 with
    | zero => intro w12_3 g9 H locs ls h0; omega
    | succ fu12 ih12 =>
      intro w12_3 g9 H locs ls hm12 i12_0 i12_1 i12_2 hl hW
      have hG := i12_0
      refine q_iload_n hM dX2_rest_12 (lv_at hl 3 rfl) ?_
      refine q_bipush (v := (12 : Int32)) hM dX2_rest_13 (by decide) ?_
      refine q_icmp_ge (tgt := 59) hM dX2_rest_15 (by decide) (rfl : w12_3.toInt = w12_3.toInt) (kc_12 : (12 : Int32).toInt = 12) (fun h15 => ?_) (fun h15 => ?_)
      · exact hE _ _ _ _ _ hW.1 ⟨rfl, hW.2.1, hG, hW.2.2⟩ dX2_rest_59
      · refine q_aload_n hM dX2_rest_18 (lv_at hl 2 rfl) ?_
        refine q_iload_n hM dX2_rest_19 (lv_at hl 3 rfl) ?_
        refine w_iald hM hW (lr_46 (by omega)) (i_in (by omega) (by omega)) dX2_rest_20 ?_
        refine q_top (fun y1448 hy1448 => ?_)
        refine q_if_le (tgt := 53) hM dX2_rest_21 (by decide) (rfl : y1448.toInt = y1448.toInt) (fun h21 => ?_) (fun h21 => ?_)
        · refine q_iinc (lv9 := fun z1450 => [(3, .int z1450), (0, .ref (ad 80)), (1, .int p), (2, .ref (ad (46 + 1 * p.toInt.toNat)))]) hM dX2_rest_53 hl (kq := 3) rfl (by decide) (fun _ => rfl) (fun z1450 ls hz1450 hl => ?_)
          first | have tz1450 := i_addT hz1450 (rfl : w12_3.toInt = w12_3.toInt) (kc_1 : (Int32.ofInt 1).toInt = 1) (by omega) (by omega) | skip
          refine q_goto (tgt := 12) hM dX2_rest_56 (by decide) ?_
          exact ih12 z1450 _ _ _ _ (by omega) hG (by omega) (by omega) (lv_sub hl [1, 2, 3, 0] rfl) hW
        · refine q_aload_n hM dX2_rest_24 (lv_at hl 2 rfl) ?_
          refine q_iload_n hM dX2_rest_25 (lv_at hl 3 rfl) ?_
          refine q_bipush (v := (99 : Int32)) hM dX2_rest_26 (by decide) ?_
          refine q_aload_n hM dX2_rest_28 (lv_at hl 2 rfl) ?_
          refine q_iload_n hM dX2_rest_29 (lv_at hl 3 rfl) ?_
          refine w_iald hM hW (lr_46 (by omega)) (i_in (by omega) (by omega)) dX2_rest_30 ?_
          refine q_top (fun y1452 hy1452 => ?_)
          refine q_aload_n hM dX2_rest_31 (lv_at hl 0 rfl) ?_
          refine w_get (v := .ref (ad lw)) hM hW FG_X2_15 lb_80 ((hW.2.2.1 80 9 (by omega)).trans h_r9) dX2_rest_32 ?_
          refine q_bipush (v := (114 : Int32)) hM dX2_rest_35 (by decide) ?_
          refine q_bipush (v := (20 : Int32)) hM dX2_rest_37 (by decide) ?_
          refine q_aload_n hM dX2_rest_39 (lv_at hl 0 rfl) ?_
          refine q_iload_n hM dX2_rest_40 (lv_at hl 1 rfl) ?_
          refine q_iload_n hM dX2_rest_41 (lv_at hl 3 rfl) ?_
          refine q_callV (As := [.int p, .int w12_3]) (rest := [.int (20 : Int32), .int (114 : Int32), .ref (ad lw), .int y1452, .int (99 : Int32), .int w12_3, .ref (ad (46 + 1 * p.toInt.toNat))]) hM hW.1 hR hC myX2_about (kAW (v_2_10 (List.mem_of_getElem? (i := 12) rfl)) rfl) (rfl : vwCl[2]? = some (RX2, TX2, 11)) rfl lb_80.1 (shO hW.2.1 lb_80) (a_X2_about_42 _ _ cA ad g9 p w12_3 hW.2.1 hG ((hW.2.2.1 80 10 (by omega)).trans h_r10) (by  omega) (by  omega) (by  omega) (by  omega)) ⟨by decide, by decide⟩ rfl rfl hl.1 (Nat.le_of_ble_eq_true rfl) dX2_rest_42 (fun v g1453 H locs hp hW1 => ?_)
          obtain ⟨rfl, hs1, hG, hf1⟩ := hp
          have hW : WS ad cA (fun i k => (46 ≤ i ∧ i < 54) ∨ i = 83 ∨ i = (lw + 6)) g0 K g1453 H locs := ⟨hW1, hs1, hW.2.2.tr hf1 (fun i k h => (Or.inr (Or.inl h)))⟩
          refine q_callV (As := [.int (114 : Int32), .int (20 : Int32), .ref (ad 83)]) (rest := [.int y1452, .int (99 : Int32), .int w12_3, .ref (ad (46 + 1 * p.toInt.toNat))]) hM hW.1 hR hC myX3_amount (kAW (v_2_11 (List.mem_of_getElem? (i := 10) rfl)) rfl) (rfl : vwCl[3]? = some (RX3, TX3, 8)) rfl (lo_Lw hlw).1 (shO hW.2.1 (lo_Lw hlw)) (a_X3_amount _ _ cA ad g1453 lw (114 : Int32) (20 : Int32) hW.2.1 hG hlw) ⟨by decide, by decide⟩ rfl rfl hl.1 (Nat.le_of_ble_eq_true rfl) dX2_rest_45 (fun v g1455 H locs hp hW1 => ?_)
          obtain ⟨r1454, rfl, hs1, hG, hf1⟩ := hp
          have hW : WS ad cA (fun i k => (46 ≤ i ∧ i < 54) ∨ i = 83 ∨ i = (lw + 6)) g0 K g1455 H locs := ⟨hW1, hs1, hW.2.2.tr hf1 (fun i k h => (Or.inr (Or.inr h)))⟩
          refine q_iadd hM dX2_rest_48 (fun z1456 hz1456 => ?_)
          first | have tz1456 := i_addT hz1456 (rfl : y1452.toInt = y1452.toInt) (rfl : r1454.toInt = r1454.toInt) (by omega) (by omega) | skip
          refine q_mmin hM hR hC (kAW (v_2_12 (List.mem_of_getElem? (i := 7) rfl)) rfl) hl.1 (by decide) (Nat.le_of_ble_eq_true rfl) dX2_rest_49 (fun r1457 hr1457 => ?_)
          have := kc_99
          refine w_iast hM hW (lr_46 (by omega)) (by omega) (i_in (by omega) (by omega)) dX2_rest_52 (fun g1458 H locs hW e1 e2 => ?_)
          have hG := hG.st e1 e2 (rA_row_46 (by omega)) (by have := i_rng r1457; omega) (by have := i_rng r1457; omega)
          refine q_iinc (lv9 := fun z1459 => [(3, .int z1459), (0, .ref (ad 80)), (1, .int p), (2, .ref (ad (46 + 1 * p.toInt.toNat)))]) hM dX2_rest_53 hl (kq := 3) rfl (by decide) (fun _ => rfl) (fun z1459 ls hz1459 hl => ?_)
          first | have tz1459 := i_addT hz1459 (rfl : w12_3.toInt = w12_3.toInt) (kc_1 : (Int32.ofInt 1).toInt = 1) (by omega) (by omega) | skip
          refine q_goto (tgt := 12) hM dX2_rest_56 (by decide) ?_
          exact ih12 z1459 _ _ _ _ (by omega) hG (by omega) (by omega) (lv_sub hl [1, 2, 3, 0] rfl) hW
  have := kc_0
  exact L12 _ (0 : Int32) _ _ _ _ (Nat.lt_succ_self _) hG (by omega) (by omega) (lv_sub hl [2, 3, 1, 0] rfl) hW


set_option maxRecDepth 100000 in
set_option maxHeartbeats 4000000 in
theorem a_X2_recall_42 (l : Launch) (D : va_G) (cA : Nat → ClassId) (ad : Nat → Nat) (g0 : Nat → va_E) (p : Int32)  (lw : Nat) (hSh : Shp ad cA g0) (hG : Rng g0) (hlw : isLw lw) (h_r9 : fld g0 80 9 = .ref (ad lw)) (h_r10 : fld g0 80 10 = .ref (ad 42)) (p0 : 0 ≤ p.toInt) (p7 : p.toInt < 8) : CT l NN ad cA D yX2_recall cX2_recall 6 (some FieldType.int) (3, 72) [.ref (ad 80), .int p] g0 (fun v g' => ∃ (r : Int32), v = some (.int r) ∧ Shp ad cA g' ∧ Rng g' ∧ FR (fun i k => (46 ≤ i ∧ i < 54) ∨ i = 83 ∨ i = (lw + 6) ∨ (i = 42 ∧ (k = 6))) g0 g') := by
  refine q_enterI (by decide) (Nat.le_of_ble_eq_true rfl) rfl (fun K H locs ls _ _ hM hW0 hR hC hE hl => ?_)
  have hl : lv_has ls 6 [(0, .ref (ad 80)), (1, .int p)] := hl
  have hW : WS ad cA (fun i k => (46 ≤ i ∧ i < 54) ∨ i = 83 ∨ i = (lw + 6) ∨ (i = 42 ∧ (k = 6))) g0 K g0 H locs := ⟨hW0, hSh, FR.rf⟩
  have ulw := hlw
  unfold isLw at ulw
  refine q_aload_n hM dX2_recall_0 (lv_at hl 0 rfl) ?_
  refine w_get (v := .ref (ad 42)) hM hW FG_X2_19 lb_80 ((hW.2.2.1 80 10 (by omega)).trans h_r10) dX2_recall_1 ?_
  refine w_get (v := .ref (ad 45)) hM hW FG_X2_86 lb_42 (rf_42_2 hW.2.1) dX2_recall_4 ?_
  refine q_iload_n hM dX2_recall_7 (lv_at hl 1 rfl) ?_
  refine w_aald hM hW lb_45 (Or.inl rfl) (i_in (by omega) (by omega)) (aq (aq_45 hW.2.1) (by omega) (by omega)) dX2_recall_8 ?_
  refine q_astore_n (lv9 := [(2, .ref (ad (46 + 1 * p.toInt.toNat))), (0, .ref (ad 80)), (1, .int p)]) hM dX2_recall_9 hl (by decide) rfl (fun ls hl => ?_)
  refine q_iconst (v := (0 : Int32)) hM dX2_recall_10 (by decide) ?_
  refine q_istore_n (lv9 := [(3, .int (0 : Int32)), (2, .ref (ad (46 + 1 * p.toInt.toNat))), (0, .ref (ad 80)), (1, .int p)]) hM dX2_recall_11 hl (by decide) rfl (fun ls hl => ?_)
  refine q_iconst (v := (0 : Int32)) hM dX2_recall_12 (by decide) ?_
  refine q_istore (lv9 := [(4, .int (0 : Int32)), (3, .int (0 : Int32)), (2, .ref (ad (46 + 1 * p.toInt.toNat))), (0, .ref (ad 80)), (1, .int p)]) hM dX2_recall_13 hl (by decide) rfl (fun ls hl => ?_)
  have L15 : ∀ (fu15 : Nat) (w15_3 : Int32) (w15_4 : Int32) (g9 : Nat → va_E) (H : Heap) (locs : List Loc) (ls : Array Slot), (12 - w15_4.toInt).toNat < fu15 → (Rng g9) → (0 ≤ w15_4.toInt) → (w15_4.toInt ≤ 12) → lv_has ls 6 [(0, .ref (ad 80)), (1, .int p), (2, .ref (ad (46 + 1 * p.toInt.toNat))), (3, .int w15_3), (4, .int w15_4)] → WS ad cA (fun i k => (46 ≤ i ∧ i < 54) ∨ i = 83 ∨ i = (lw + 6) ∨ (i = 42 ∧ (k = 6))) g0 K g9 H locs → XX K 0 0 H locs 15 ls [] := by
    intro fu15
    induction fu15 with
    | zero => intro w15_3 w15_4 g9 H locs ls h0; omega
    | succ fu15 ih15 =>
      intro w15_3 w15_4 g9 H locs ls hm15 i15_0 i15_1 i15_2 hl hW
      have hG := i15_0
      refine q_iload hM dX2_recall_15 (lv_at hl 4 rfl) ?_
      refine q_bipush (v := (12 : Int32)) hM dX2_recall_17 (by decide) ?_
      refine q_icmp_ge (tgt := 101) hM dX2_recall_19 (by decide) (rfl : w15_4.toInt = w15_4.toInt) (kc_12 : (12 : Int32).toInt = 12) (fun h19 => ?_) (fun h19 => ?_)
      · refine q_aload_n hM dX2_recall_101 (lv_at hl 0 rfl) ?_
        refine w_get (v := .ref (ad 42)) hM hW FG_X2_19 lb_80 ((hW.2.2.1 80 10 (by omega)).trans h_r10) dX2_recall_102 ?_
        refine q_dup hM dX2_recall_105 rfl ?_
        refine w_getI hM hW FG_X2_140 lb_42 (by decide) (by decide) dX2_recall_106 (fun x1462 fx1462 => ?_)
        refine q_iload_n hM dX2_recall_109 (lv_at hl 3 rfl) ?_
        refine q_iadd hM dX2_recall_110 (fun z1463 hz1463 => ?_)
        first | have tz1463 := i_addT hz1463 (rfl : x1462.toInt = x1462.toInt) (rfl : w15_3.toInt = w15_3.toInt) (by omega) (by omega) | skip
        refine w_put hM hW FP_X2_140 lb_42 (by omega) (Or.inl ⟨_, rfl⟩) rfl rfl dX2_recall_111 (fun g1464 H locs hW e1 e2 => ?_)
        have f1465 : fld g1464 42 6 = .int z1463 := e1
        have hG := hG.put e1 e2 (rfl : rF 42 6 = (-2147483648, 2147483647)) (by decide) (by have := i_rng z1463; omega) (by have := i_rng z1463; omega)
        refine q_iload_n hM dX2_recall_114 (lv_at hl 3 rfl) ?_
        exact hE _ _ _ _ _ _ hW.1 ⟨_, rfl, hW.2.1, hG, hW.2.2⟩ dX2_recall_115
      · refine q_aload_n hM dX2_recall_22 (lv_at hl 0 rfl) ?_
        refine w_get (v := .ref (ad 3)) hM hW FG_X2_9 lb_80 (rf_80_0 hW.2.1) dX2_recall_23 ?_
        refine w_getI hM hW FG_X2_123 lb_3 (by decide) (by decide) dX2_recall_26 (fun x1467 fx1467 => ?_)
        have bx1467 := hG.f fx1467 rF_3_2 (by decide)
        refine q_iload hM dX2_recall_29 (lv_at hl 4 rfl) ?_
        refine q_callN (host := "ForgetSchool") (As := [.int x1467, .int w15_4]) (rest := []) hM hW.1 hR hC myX11_has (List.mem_of_getElem? (i := 3) rfl) (c_X11_has _ _ cA ad g9 x1467 w15_4 hW.2.1) ⟨by decide, by decide⟩ rfl rfl hl.1 (Nat.le_of_ble_eq_true rfl) dX2_recall_31 (fun v g1469 H locs hp hW1 => ?_)
        obtain ⟨r1468, rfl, hr1468, rfl⟩ := hp
        have hW : WS ad cA (fun i k => (46 ≤ i ∧ i < 54) ∨ i = 83 ∨ i = (lw + 6) ∨ (i = 42 ∧ (k = 6))) g0 K g9 H locs := ⟨hW1, hW.2.1, hW.2.2⟩
        first | have ltr1468 := has_lt 5 hr1468 (by omega) (by omega) | have ltr1468 := has_lt 6 hr1468 (by omega) (by omega) | have ltr1468 := has_lt 8 hr1468 (by omega) (by omega) | have ltr1468 := has_lt 12 hr1468 (by omega) (by omega) | skip
        refine q_if_eq (tgt := 95) hM dX2_recall_34 (by decide) (rfl : r1468.toInt = r1468.toInt) (fun h34 => ?_) (fun h34 => ?_)
        · refine q_iinc (lv9 := fun z1471 => [(4, .int z1471), (0, .ref (ad 80)), (1, .int p), (2, .ref (ad (46 + 1 * p.toInt.toNat))), (3, .int w15_3)]) hM dX2_recall_95 hl (kq := 4) rfl (by decide) (fun _ => rfl) (fun z1471 ls hz1471 hl => ?_)
          first | have tz1471 := i_addT hz1471 (rfl : w15_4.toInt = w15_4.toInt) (kc_1 : (Int32.ofInt 1).toInt = 1) (by omega) (by omega) | skip
          refine q_goto (tgt := 15) hM dX2_recall_98 (by decide) ?_
          exact ih15 w15_3 z1471 _ _ _ _ (by omega) hG (by omega) (by omega) (lv_sub hl [1, 2, 3, 4, 0] rfl) hW
        · refine q_aload_n hM dX2_recall_37 (lv_at hl 2 rfl) ?_
          refine q_iload hM dX2_recall_38 (lv_at hl 4 rfl) ?_
          refine w_iald hM hW (lr_46 (by omega)) (i_in (by omega) (by omega)) dX2_recall_40 ?_
          refine q_top (fun y1473 hy1473 => ?_)
          refine q_if_ne (tgt := 95) hM dX2_recall_41 (by decide) (rfl : y1473.toInt = y1473.toInt) (fun h41 => ?_) (fun h41 => ?_)
          · refine q_iinc (lv9 := fun z1475 => [(4, .int z1475), (0, .ref (ad 80)), (1, .int p), (2, .ref (ad (46 + 1 * p.toInt.toNat))), (3, .int w15_3)]) hM dX2_recall_95 hl (kq := 4) rfl (by decide) (fun _ => rfl) (fun z1475 ls hz1475 hl => ?_)
            first | have tz1475 := i_addT hz1475 (rfl : w15_4.toInt = w15_4.toInt) (kc_1 : (Int32.ofInt 1).toInt = 1) (by omega) (by omega) | skip
            refine q_goto (tgt := 15) hM dX2_recall_98 (by decide) ?_
            exact ih15 w15_3 z1475 _ _ _ _ (by omega) hG (by omega) (by omega) (lv_sub hl [1, 2, 3, 4, 0] rfl) hW
          · refine q_aload_n hM dX2_recall_44 (lv_at hl 0 rfl) ?_
            refine w_get (v := .ref (ad 3)) hM hW FG_X2_9 lb_80 (rf_80_0 hW.2.1) dX2_recall_45 ?_
            refine q_aload_n hM dX2_recall_48 (lv_at hl 2 rfl) ?_
            refine q_iload hM dX2_recall_49 (lv_at hl 4 rfl) ?_
            refine q_callV (As := [.ref (ad (46 + 1 * p.toInt.toNat)), .int w15_4]) (rest := []) hM hW.1 hR hC myX5_sound (kAW (v_2_13 (List.mem_of_getElem? (i := 13) rfl)) rfl) (rfl : vwCl[5]? = some (RX5, TX5, 3)) rfl lb_3.1 (shO hW.2.1 lb_3) (a_X5_sound _ _ cA ad g9 (46 + 1 * p.toInt.toNat) w15_4 hW.2.1 hG (by unfold isSr; omega : isSr (46 + 1 * p.toInt.toNat)) (by  omega) (by  omega)) ⟨by decide, by decide⟩ rfl rfl hl.1 (Nat.le_of_ble_eq_true rfl) dX2_recall_51 (fun v g1478 H locs hp hW1 => ?_)
            obtain ⟨r1477, rfl, hr1477, rfl⟩ := hp
            have hW : WS ad cA (fun i k => (46 ≤ i ∧ i < 54) ∨ i = 83 ∨ i = (lw + 6) ∨ (i = 42 ∧ (k = 6))) g0 K g9 H locs := ⟨hW1, hW.2.1, hW.2.2⟩
            refine q_aload_n hM dX2_recall_54 (lv_at hl 0 rfl) ?_
            refine w_get (v := .ref (ad lw)) hM hW FG_X2_15 lb_80 ((hW.2.2.1 80 9 (by omega)).trans h_r9) dX2_recall_55 ?_
            refine q_bipush (v := (104 : Int32)) hM dX2_recall_58 (by decide) ?_
            refine q_sipush (v := (999 : Int32)) hM dX2_recall_60 (by decide) ?_
            refine q_aload_n hM dX2_recall_63 (lv_at hl 0 rfl) ?_
            refine q_iload_n hM dX2_recall_64 (lv_at hl 1 rfl) ?_
            refine q_iload hM dX2_recall_65 (lv_at hl 4 rfl) ?_
            refine q_callV (As := [.int p, .int w15_4]) (rest := [.int (999 : Int32), .int (104 : Int32), .ref (ad lw), .int r1477]) hM hW.1 hR hC myX2_about (kAW (v_2_10 (List.mem_of_getElem? (i := 12) rfl)) rfl) (rfl : vwCl[2]? = some (RX2, TX2, 11)) rfl lb_80.1 (shO hW.2.1 lb_80) (a_X2_about_42 _ _ cA ad g9 p w15_4 hW.2.1 hG ((hW.2.2.1 80 10 (by omega)).trans h_r10) (by  omega) (by  omega) (by  omega) (by  omega)) ⟨by decide, by decide⟩ rfl rfl hl.1 (Nat.le_of_ble_eq_true rfl) dX2_recall_67 (fun v g1479 H locs hp hW1 => ?_)
            obtain ⟨rfl, hs1, hG, hf1⟩ := hp
            have f1480 : fld g1479 3 2 = .int x1467 := (hf1.1 3 2 (by omega)).trans fx1467
            have hW : WS ad cA (fun i k => (46 ≤ i ∧ i < 54) ∨ i = 83 ∨ i = (lw + 6) ∨ (i = 42 ∧ (k = 6))) g0 K g1479 H locs := ⟨hW1, hs1, hW.2.2.tr hf1 (fun i k h => (Or.inr (Or.inl h)))⟩
            refine q_callV (As := [.int (104 : Int32), .int (999 : Int32), .ref (ad 83)]) (rest := [.int r1477]) hM hW.1 hR hC myX3_amount (kAW (v_2_11 (List.mem_of_getElem? (i := 10) rfl)) rfl) (rfl : vwCl[3]? = some (RX3, TX3, 8)) rfl (lo_Lw hlw).1 (shO hW.2.1 (lo_Lw hlw)) (a_X3_amount _ _ cA ad g1479 lw (104 : Int32) (999 : Int32) hW.2.1 hG hlw) ⟨by decide, by decide⟩ rfl rfl hl.1 (Nat.le_of_ble_eq_true rfl) dX2_recall_70 (fun v g1482 H locs hp hW1 => ?_)
            obtain ⟨r1481, rfl, hs1, hG, hf1⟩ := hp
            have f1483 : fld g1482 3 2 = .int x1467 := (hf1.1 3 2 (by omega)).trans f1480
            have hW : WS ad cA (fun i k => (46 ≤ i ∧ i < 54) ∨ i = 83 ∨ i = (lw + 6) ∨ (i = 42 ∧ (k = 6))) g0 K g1482 H locs := ⟨hW1, hs1, hW.2.2.tr hf1 (fun i k h => (Or.inr (Or.inr (Or.inl h))))⟩
            refine q_isub hM dX2_recall_73 (fun z1484 hz1484 => ?_)
            first | have tz1484 := i_subT hz1484 (rfl : r1477.toInt = r1477.toInt) (rfl : r1481.toInt = r1481.toInt) (by omega) (by omega) | skip
            refine q_istore (lv9 := [(5, .int z1484), (0, .ref (ad 80)), (1, .int p), (2, .ref (ad (46 + 1 * p.toInt.toNat))), (3, .int w15_3), (4, .int w15_4)]) hM dX2_recall_74 hl (by decide) rfl (fun ls hl => ?_)
            refine q_iload hM dX2_recall_76 (lv_at hl 0 rfl) ?_
            refine q_if_le (tgt := 95) hM dX2_recall_78 (by decide) (rfl : z1484.toInt = z1484.toInt) (fun h78 => ?_) (fun h78 => ?_)
            · refine q_iinc (lv9 := fun z1486 => [(4, .int z1486), (5, .int z1484), (0, .ref (ad 80)), (1, .int p), (2, .ref (ad (46 + 1 * p.toInt.toNat))), (3, .int w15_3)]) hM dX2_recall_95 hl (kq := 5) rfl (by decide) (fun _ => rfl) (fun z1486 ls hz1486 hl => ?_)
              first | have tz1486 := i_addT hz1486 (rfl : w15_4.toInt = w15_4.toInt) (kc_1 : (Int32.ofInt 1).toInt = 1) (by omega) (by omega) | skip
              refine q_goto (tgt := 15) hM dX2_recall_98 (by decide) ?_
              exact ih15 w15_3 z1486 _ _ _ _ (by omega) hG (by omega) (by omega) (lv_sub hl [2, 3, 4, 5, 0] rfl) hW
            · refine q_aload_n hM dX2_recall_81 (lv_at hl 3 rfl) ?_
              refine q_iload hM dX2_recall_82 (lv_at hl 5 rfl) ?_
              refine q_bipush (v := (99 : Int32)) hM dX2_recall_84 (by decide) ?_
              refine q_iload hM dX2_recall_86 (lv_at hl 0 rfl) ?_
              refine q_mmin hM hR hC (kAW (v_2_12 (List.mem_of_getElem? (i := 7) rfl)) rfl) hl.1 (by decide) (Nat.le_of_ble_eq_true rfl) dX2_recall_88 (fun r1488 hr1488 => ?_)
              have := kc_99
              refine w_iast hM hW (lr_46 (by omega)) (by omega) (i_in (by omega) (by omega)) dX2_recall_91 (fun g1489 H locs hW e1 e2 => ?_)
              have f1490 : fld g1489 3 2 = .int x1467 := (e2.1 3 2 (by unfold Only; omega)).trans f1483
              have hG := hG.st e1 e2 (rA_row_46 (by omega)) (by have := i_rng r1488; omega) (by have := i_rng r1488; omega)
              refine q_iinc (lv9 := fun z1491 => [(3, .int z1491), (5, .int z1484), (0, .ref (ad 80)), (1, .int p), (2, .ref (ad (46 + 1 * p.toInt.toNat))), (4, .int w15_4)]) hM dX2_recall_92 hl (kq := 4) rfl (by decide) (fun _ => rfl) (fun z1491 ls hz1491 hl => ?_)
              first | have tz1491 := i_addT hz1491 (rfl : w15_3.toInt = w15_3.toInt) (kc_1 : (Int32.ofInt 1).toInt = 1) (by omega) (by omega) | skip
              refine q_iinc (lv9 := fun z1492 => [(4, .int z1492), (3, .int z1491), (5, .int z1484), (0, .ref (ad 80)), (1, .int p), (2, .ref (ad (46 + 1 * p.toInt.toNat)))]) hM dX2_recall_95 hl (kq := 5) rfl (by decide) (fun _ => rfl) (fun z1492 ls hz1492 hl => ?_)
              first | have tz1492 := i_addT hz1492 (rfl : w15_4.toInt = w15_4.toInt) (kc_1 : (Int32.ofInt 1).toInt = 1) (by omega) (by omega) | skip
              refine q_goto (tgt := 15) hM dX2_recall_98 (by decide) ?_
              exact ih15 z1491 z1492 _ _ _ _ (by omega) hG (by omega) (by omega) (lv_sub hl [3, 4, 5, 1, 0] rfl) hW
  have := kc_0
  have := kc_0
  exact L15 _ (0 : Int32) (0 : Int32) _ _ _ _ (Nat.lt_succ_self _) hG (by omega) (by omega) (lv_sub hl [3, 4, 2, 1, 0] rfl) hW


set_option maxRecDepth 100000 in
set_option maxHeartbeats 4000000 in
theorem a_X2_turn_42 (l : Launch) (D : va_G) (cA : Nat → ClassId) (ad : Nat → Nat) (g0 : Nat → va_E) (p : Int32) (ar : Nat)  (lw : Nat) (hSh : Shp ad cA g0) (hG : Rng g0) (har : isAt ar) (hlw : isLw lw) (h_r9 : fld g0 80 9 = .ref (ad lw)) (h_r10 : fld g0 80 10 = .ref (ad 42)) (p0 : 0 ≤ p.toInt) (p7 : p.toInt < 8) : CT l NN ad cA D yX2_turn cX2_turn 3 none (5, 121) [.ref (ad 80), .int p, .ref (ad ar)] g0 (fun v g' => v = none ∧ Shp ad cA g' ∧ Rng g' ∧ FR (fun i k => (46 ≤ i ∧ i < 54) ∨ i = 83 ∨ i = (lw + 6) ∨ (i = 42 ∧ (k = 6))) g0 g') := by
  refine q_enterV (by decide) (Nat.le_of_ble_eq_true rfl) (fun K H locs ls _ _ hM hW0 hR hC hE hl => ?_)
  have hl : lv_has ls 3 [(0, .ref (ad 80)), (1, .int p), (2, .ref (ad ar))] := hl
  have hW : WS ad cA (fun i k => (46 ≤ i ∧ i < 54) ∨ i = 83 ∨ i = (lw + 6) ∨ (i = 42 ∧ (k = 6))) g0 K g0 H locs := ⟨hW0, hSh, FR.rf⟩
  have uar := har
  unfold isAt at uar
  have ulw := hlw
  unfold isLw at ulw
  refine q_aload_n hM dX2_turn_0 (lv_at hl 0 rfl) ?_
  refine q_iload_n hM dX2_turn_1 (lv_at hl 1 rfl) ?_
  refine q_aload_n hM dX2_turn_2 (lv_at hl 2 rfl) ?_
  refine q_callV (As := [.int p, .ref (ad ar)]) (rest := []) hM hW.1 hR hC myX2_doArt (kAW (v_2_12 (List.mem_of_getElem? (i := 8) rfl)) rfl) (rfl : vwCl[2]? = some (RX2, TX2, 11)) rfl lb_80.1 (shO hW.2.1 lb_80) (a_X2_doArt_42 _ _ cA ad g0 p ar lw hW.2.1 hG har hlw ((hW.2.2.1 80 9 (by omega)).trans h_r9) ((hW.2.2.1 80 10 (by omega)).trans h_r10) (by  omega) (by  omega)) ⟨by decide, by decide⟩ rfl rfl hl.1 (Nat.le_of_ble_eq_true rfl) dX2_turn_3 (fun v g1493 H locs hp hW1 => ?_)
  obtain ⟨rfl, hs1, hG, hf1⟩ := hp
  have hW : WS ad cA (fun i k => (46 ≤ i ∧ i < 54) ∨ i = 83 ∨ i = (lw + 6) ∨ (i = 42 ∧ (k = 6))) g0 K g1493 H locs := ⟨hW1, hs1, hW.2.2.tr hf1 (fun i k h => h.elim (fun h => (Or.inl h)) (fun h => h.elim (fun h => (Or.inr (Or.inl h))) (fun h => (Or.inr (Or.inr (Or.inl h))))))⟩
  refine q_aload_n hM dX2_turn_6 (lv_at hl 0 rfl) ?_
  refine q_iload_n hM dX2_turn_7 (lv_at hl 1 rfl) ?_
  refine q_callV (As := [.int p]) (rest := []) hM hW.1 hR hC myX2_recall (kAW (v_2_13 (List.mem_of_getElem? (i := 9) rfl)) rfl) (rfl : vwCl[2]? = some (RX2, TX2, 11)) rfl lb_80.1 (shO hW.2.1 lb_80) (a_X2_recall_42 _ _ cA ad g1493 p lw hW.2.1 hG hlw ((hW.2.2.1 80 9 (by omega)).trans h_r9) ((hW.2.2.1 80 10 (by omega)).trans h_r10) (by  omega) (by  omega)) ⟨by decide, by decide⟩ rfl rfl hl.1 (Nat.le_of_ble_eq_true rfl) dX2_turn_8 (fun v g1495 H locs hp hW1 => ?_)
  obtain ⟨r1494, rfl, hs1, hG, hf1⟩ := hp
  have hW : WS ad cA (fun i k => (46 ≤ i ∧ i < 54) ∨ i = 83 ∨ i = (lw + 6) ∨ (i = 42 ∧ (k = 6))) g0 K g1495 H locs := ⟨hW1, hs1, hW.2.2.tr hf1 (fun i k h => h.elim (fun h => (Or.inl h)) (fun h => h.elim (fun h => (Or.inr (Or.inl h))) (fun h => h.elim (fun h => (Or.inr (Or.inr (Or.inl h)))) (fun h => (Or.inr (Or.inr (Or.inr h)))))))⟩
  refine q_pop hM dX2_turn_11 rfl ?_
  exact hE _ _ _ _ _ hW.1 ⟨rfl, hW.2.1, hG, hW.2.2⟩ dX2_turn_12

theorem dX2_timesTillRest_0 : decode cX2_timesTillRest 0 = .ok (.aload_n 0, 1) := by decide +kernel
theorem dX2_timesTillRest_1 : decode cX2_timesTillRest 1 = .ok (.getfield 19, 3) := by decide +kernel
theorem dX2_timesTillRest_4 : decode cX2_timesTillRest 4 = .ok (.getfield 86, 3) := by decide +kernel
theorem dX2_timesTillRest_7 : decode cX2_timesTillRest 7 = .ok (.iload_n 1, 1) := by decide +kernel
theorem dX2_timesTillRest_8 : decode cX2_timesTillRest 8 = .ok (.aaload, 1) := by decide +kernel
theorem dX2_timesTillRest_9 : decode cX2_timesTillRest 9 = .ok (.astore_n 3, 1) := by decide +kernel
theorem dX2_timesTillRest_10 : decode cX2_timesTillRest 10 = .ok (.iconst 0, 1) := by decide +kernel
theorem dX2_timesTillRest_11 : decode cX2_timesTillRest 11 = .ok (.istore 4, 2) := by decide +kernel
theorem dX2_timesTillRest_13 : decode cX2_timesTillRest 13 = .ok (.iload 4, 2) := by decide +kernel
theorem dX2_timesTillRest_15 : decode cX2_timesTillRest 15 = .ok (.sipush 200, 3) := by decide +kernel
theorem dX2_timesTillRest_18 : decode cX2_timesTillRest 18 = .ok (.if_icmp .gt 56, 3) := by decide +kernel
theorem dX2_timesTillRest_21 : decode cX2_timesTillRest 21 = .ok (.aload_n 3, 1) := by decide +kernel
theorem dX2_timesTillRest_22 : decode cX2_timesTillRest 22 = .ok (.iconst 0, 1) := by decide +kernel
theorem dX2_timesTillRest_23 : decode cX2_timesTillRest 23 = .ok (.invokestatic 153, 3) := by decide +kernel
theorem dX2_timesTillRest_26 : decode cX2_timesTillRest 26 = .ok (.lstore 5, 2) := by decide +kernel
theorem dX2_timesTillRest_28 : decode cX2_timesTillRest 28 = .ok (.aload_n 3, 1) := by decide +kernel
theorem dX2_timesTillRest_29 : decode cX2_timesTillRest 29 = .ok (.bipush 6, 2) := by decide +kernel
theorem dX2_timesTillRest_31 : decode cX2_timesTillRest 31 = .ok (.invokestatic 153, 3) := by decide +kernel
theorem dX2_timesTillRest_34 : decode cX2_timesTillRest 34 = .ok (.lstore 7, 2) := by decide +kernel
theorem dX2_timesTillRest_36 : decode cX2_timesTillRest 36 = .ok (.aload_n 0, 1) := by decide +kernel
theorem dX2_timesTillRest_37 : decode cX2_timesTillRest 37 = .ok (.iload_n 1, 1) := by decide +kernel
theorem dX2_timesTillRest_38 : decode cX2_timesTillRest 38 = .ok (.aload_n 2, 1) := by decide +kernel
theorem dX2_timesTillRest_39 : decode cX2_timesTillRest 39 = .ok (.invokevirtual 159, 3) := by decide +kernel
theorem dX2_timesTillRest_42 : decode cX2_timesTillRest 42 = .ok (.lload 5, 2) := by decide +kernel
theorem dX2_timesTillRest_44 : decode cX2_timesTillRest 44 = .ok (.aload_n 3, 1) := by decide +kernel
theorem dX2_timesTillRest_45 : decode cX2_timesTillRest 45 = .ok (.iconst 0, 1) := by decide +kernel
theorem dX2_timesTillRest_46 : decode cX2_timesTillRest 46 = .ok (.invokestatic 153, 3) := by decide +kernel
theorem dX2_timesTillRest_49 : decode cX2_timesTillRest 49 = .ok (.lcmp, 1) := by decide +kernel
theorem dX2_timesTillRest_50 : decode cX2_timesTillRest 50 = .ok (.ifCond .ne 18, 3) := by decide +kernel
theorem dX2_timesTillRest_53 : decode cX2_timesTillRest 53 = .ok (.lload 7, 2) := by decide +kernel
theorem dX2_timesTillRest_55 : decode cX2_timesTillRest 55 = .ok (.aload_n 3, 1) := by decide +kernel
theorem dX2_timesTillRest_56 : decode cX2_timesTillRest 56 = .ok (.bipush 6, 2) := by decide +kernel
theorem dX2_timesTillRest_58 : decode cX2_timesTillRest 58 = .ok (.invokestatic 153, 3) := by decide +kernel
theorem dX2_timesTillRest_61 : decode cX2_timesTillRest 61 = .ok (.lcmp, 1) := by decide +kernel
theorem dX2_timesTillRest_62 : decode cX2_timesTillRest 62 = .ok (.ifCond .ne 6, 3) := by decide +kernel
theorem dX2_timesTillRest_65 : decode cX2_timesTillRest 65 = .ok (.iload 4, 2) := by decide +kernel
theorem dX2_timesTillRest_67 : decode cX2_timesTillRest 67 = .ok (.ireturn, 1) := by decide +kernel
theorem dX2_timesTillRest_68 : decode cX2_timesTillRest 68 = .ok (.iinc 4 1, 3) := by decide +kernel
theorem dX2_timesTillRest_71 : decode cX2_timesTillRest 71 = .ok (.goto (-58), 3) := by decide +kernel
theorem dX2_timesTillRest_74 : decode cX2_timesTillRest 74 = .ok (.sipush 201, 3) := by decide +kernel
theorem dX2_timesTillRest_77 : decode cX2_timesTillRest 77 = .ok (.ireturn, 1) := by decide +kernel
theorem myX2_turn : MI yX2_turn cX2_turn 3 none 2 := ⟨kAW (v_3_6 (List.mem_of_getElem? (i := 2) rfl)) rfl, kAW (v_0_0 (List.mem_of_getElem? (i := 9) rfl)) rfl, kAW (v_3_6 (List.mem_of_getElem? (i := 0) rfl)) rfl, kAW (v_3_6 (List.mem_of_getElem? (i := 1) rfl)) rfl, by decide, by decide, by decide +kernel⟩
set_option maxRecDepth 100000 in
set_option maxHeartbeats 4000000 in
theorem a_X2_timesTillRest_42 (l : Launch) (D : va_G) (cA : Nat → ClassId) (ad : Nat → Nat) (g0 : Nat → va_E) (p : Int32) (ar : Nat)  (lw : Nat) (hSh : Shp ad cA g0) (hG : Rng g0) (har : isAt ar) (hlw : isLw lw) (h_r9 : fld g0 80 9 = .ref (ad lw)) (h_r10 : fld g0 80 10 = .ref (ad 42)) (p0 : 0 ≤ p.toInt) (p7 : p.toInt < 8) : CT l NN ad cA D yX2_timesTillRest cX2_timesTillRest 9 (some FieldType.int) (6, 143) [.ref (ad 80), .int p, .ref (ad ar)] g0 (fun v g' => ∃ (r : Int32), v = some (.int r) ∧ Shp ad cA g' ∧ Rng g' ∧ FR (fun i k => (46 ≤ i ∧ i < 54) ∨ i = 83 ∨ i = (lw + 6) ∨ (i = 42 ∧ (k = 6))) g0 g') := by
  refine q_enterI (by decide) (Nat.le_of_ble_eq_true rfl) rfl (fun K H locs ls _ _ hM hW0 hR hC hE hl => ?_)
  have hl : lv_has ls 9 [(0, .ref (ad 80)), (1, .int p), (2, .ref (ad ar))] := hl
  have hW : WS ad cA (fun i k => (46 ≤ i ∧ i < 54) ∨ i = 83 ∨ i = (lw + 6) ∨ (i = 42 ∧ (k = 6))) g0 K g0 H locs := ⟨hW0, hSh, FR.rf⟩
  have uar := har
  unfold isAt at uar
  have ulw := hlw
  unfold isLw at ulw
  refine q_aload_n hM dX2_timesTillRest_0 (lv_at hl 0 rfl) ?_
  refine w_get (v := .ref (ad 42)) hM hW FG_X2_19 lb_80 ((hW.2.2.1 80 10 (by omega)).trans h_r10) dX2_timesTillRest_1 ?_
  refine w_get (v := .ref (ad 45)) hM hW FG_X2_86 lb_42 (rf_42_2 hW.2.1) dX2_timesTillRest_4 ?_
  refine q_iload_n hM dX2_timesTillRest_7 (lv_at hl 1 rfl) ?_
  refine w_aald hM hW lb_45 (Or.inl rfl) (i_in (by omega) (by omega)) (aq (aq_45 hW.2.1) (by omega) (by omega)) dX2_timesTillRest_8 ?_
  refine q_astore_n (lv9 := [(3, .ref (ad (46 + 1 * p.toInt.toNat))), (0, .ref (ad 80)), (1, .int p), (2, .ref (ad ar))]) hM dX2_timesTillRest_9 hl (by decide) rfl (fun ls hl => ?_)
  refine q_iconst (v := (0 : Int32)) hM dX2_timesTillRest_10 (by decide) ?_
  refine q_istore (lv9 := [(4, .int (0 : Int32)), (3, .ref (ad (46 + 1 * p.toInt.toNat))), (0, .ref (ad 80)), (1, .int p), (2, .ref (ad ar))]) hM dX2_timesTillRest_11 hl (by decide) rfl (fun ls hl => ?_)
  have L13 : ∀ (fu13 : Nat) (w13_4 : Int32) (g9 : Nat → va_E) (H : Heap) (locs : List Loc) (ls : Array Slot), (201 - w13_4.toInt).toNat < fu13 → (Rng g9) → (0 ≤ w13_4.toInt) → (w13_4.toInt ≤ 201) → lv_has ls 9 [(0, .ref (ad 80)), (1, .int p), (2, .ref (ad ar)), (3, .ref (ad (46 + 1 * p.toInt.toNat))), (4, .int w13_4)] → WS ad cA (fun i k => (46 ≤ i ∧ i < 54) ∨ i = 83 ∨ i = (lw + 6) ∨ (i = 42 ∧ (k = 6))) g0 K g9 H locs → XX K 0 0 H locs 13 ls [] := by
    intro fu13
    induction fu13 with
    | zero => intro w13_4 g9 H locs ls h0; omega
    | succ fu13 ih13 =>
      intro w13_4 g9 H locs ls hm13 i13_0 i13_1 i13_2 hl hW
      have hG := i13_0
      refine q_iload hM dX2_timesTillRest_13 (lv_at hl 4 rfl) ?_
      refine q_sipush (v := (200 : Int32)) hM dX2_timesTillRest_15 (by decide) ?_
      refine q_icmp_gt (tgt := 74) hM dX2_timesTillRest_18 (by decide) (rfl : w13_4.toInt = w13_4.toInt) (kc_200 : (200 : Int32).toInt = 200) (fun h18 => ?_) (fun h18 => ?_)
      · refine q_sipush (v := (201 : Int32)) hM dX2_timesTillRest_74 (by decide) ?_
        exact hE _ _ _ _ _ _ hW.1 ⟨_, rfl, hW.2.1, hG, hW.2.2⟩ dX2_timesTillRest_77
      · refine q_aload_n hM dX2_timesTillRest_21 (lv_at hl 3 rfl) ?_
        refine q_iconst (v := (0 : Int32)) hM dX2_timesTillRest_22 (by decide) ?_
        refine q_callS (As := [.ref (ad (46 + 1 * p.toInt.toNat)), .int (0 : Int32)]) (rest := []) hM hW.1 hR hC myX8_packed (kAW (v_3_7 (List.mem_of_getElem? (i := 0) rfl)) rfl) (a_X8_packed _ _ cA ad g9 (46 + 1 * p.toInt.toNat) (0 : Int32) hW.2.1 hG (by unfold isSr; omega : isSr (46 + 1 * p.toInt.toNat)) (by have := kc_0; omega) (by have := kc_0; omega)) ⟨by decide, by decide⟩ rfl rfl hl.1 (Nat.le_of_ble_eq_true rfl) dX2_timesTillRest_23 (fun v g1500 H locs hp hW1 => ?_)
        obtain ⟨r1499, rfl, rfl⟩ := hp
        have hW : WS ad cA (fun i k => (46 ≤ i ∧ i < 54) ∨ i = 83 ∨ i = (lw + 6) ∨ (i = 42 ∧ (k = 6))) g0 K g9 H locs := ⟨hW1, hW.2.1, hW.2.2⟩
        refine q_lstore (lv9 := [(5, .long r1499), (0, .ref (ad 80)), (1, .int p), (2, .ref (ad ar)), (3, .ref (ad (46 + 1 * p.toInt.toNat))), (4, .int w13_4)]) hM dX2_timesTillRest_26 hl (by decide) rfl (fun ls hl => ?_)
        refine q_aload_n hM dX2_timesTillRest_28 (lv_at hl 4 rfl) ?_
        refine q_bipush (v := (6 : Int32)) hM dX2_timesTillRest_29 (by decide) ?_
        refine q_callS (As := [.ref (ad (46 + 1 * p.toInt.toNat)), .int (6 : Int32)]) (rest := []) hM hW.1 hR hC myX8_packed (kAW (v_3_7 (List.mem_of_getElem? (i := 0) rfl)) rfl) (a_X8_packed _ _ cA ad g9 (46 + 1 * p.toInt.toNat) (6 : Int32) hW.2.1 hG (by unfold isSr; omega : isSr (46 + 1 * p.toInt.toNat)) (by have := kc_6; omega) (by have := kc_6; omega)) ⟨by decide, by decide⟩ rfl rfl hl.1 (Nat.le_of_ble_eq_true rfl) dX2_timesTillRest_31 (fun v g1502 H locs hp hW1 => ?_)
        obtain ⟨r1501, rfl, rfl⟩ := hp
        have hW : WS ad cA (fun i k => (46 ≤ i ∧ i < 54) ∨ i = 83 ∨ i = (lw + 6) ∨ (i = 42 ∧ (k = 6))) g0 K g9 H locs := ⟨hW1, hW.2.1, hW.2.2⟩
        refine q_lstore (lv9 := [(7, .long r1501), (5, .long r1499), (0, .ref (ad 80)), (1, .int p), (2, .ref (ad ar)), (3, .ref (ad (46 + 1 * p.toInt.toNat))), (4, .int w13_4)]) hM dX2_timesTillRest_34 hl (by decide) rfl (fun ls hl => ?_)
        refine q_aload_n hM dX2_timesTillRest_36 (lv_at hl 2 rfl) ?_
        refine q_iload_n hM dX2_timesTillRest_37 (lv_at hl 3 rfl) ?_
        refine q_aload_n hM dX2_timesTillRest_38 (lv_at hl 4 rfl) ?_
        refine q_callV (As := [.int p, .ref (ad ar)]) (rest := []) hM hW.1 hR hC myX2_turn (kAW (v_3_7 (List.mem_of_getElem? (i := 1) rfl)) rfl) (rfl : vwCl[2]? = some (RX2, TX2, 11)) rfl lb_80.1 (shO hW.2.1 lb_80) (a_X2_turn_42 _ _ cA ad g9 p ar lw hW.2.1 hG har hlw ((hW.2.2.1 80 9 (by omega)).trans h_r9) ((hW.2.2.1 80 10 (by omega)).trans h_r10) (by  omega) (by  omega)) ⟨by decide, by decide⟩ rfl rfl hl.1 (Nat.le_of_ble_eq_true rfl) dX2_timesTillRest_39 (fun v g1503 H locs hp hW1 => ?_)
        obtain ⟨rfl, hs1, hG, hf1⟩ := hp
        have hW : WS ad cA (fun i k => (46 ≤ i ∧ i < 54) ∨ i = 83 ∨ i = (lw + 6) ∨ (i = 42 ∧ (k = 6))) g0 K g1503 H locs := ⟨hW1, hs1, hW.2.2.tr hf1 (fun i k h => h.elim (fun h => (Or.inl h)) (fun h => h.elim (fun h => (Or.inr (Or.inl h))) (fun h => h.elim (fun h => (Or.inr (Or.inr (Or.inl h)))) (fun h => (Or.inr (Or.inr (Or.inr h)))))))⟩
        refine q_lload hM dX2_timesTillRest_42 (lv_at hl 1 rfl) ?_
        refine q_aload_n hM dX2_timesTillRest_44 (lv_at hl 5 rfl) ?_
        refine q_iconst (v := (0 : Int32)) hM dX2_timesTillRest_45 (by decide) ?_
        refine q_callS (As := [.ref (ad (46 + 1 * p.toInt.toNat)), .int (0 : Int32)]) (rest := [.long r1499]) hM hW.1 hR hC myX8_packed (kAW (v_3_7 (List.mem_of_getElem? (i := 0) rfl)) rfl) (a_X8_packed _ _ cA ad g1503 (46 + 1 * p.toInt.toNat) (0 : Int32) hW.2.1 hG (by unfold isSr; omega : isSr (46 + 1 * p.toInt.toNat)) (by have := kc_0; omega) (by have := kc_0; omega)) ⟨by decide, by decide⟩ rfl rfl hl.1 (Nat.le_of_ble_eq_true rfl) dX2_timesTillRest_46 (fun v g1505 H locs hp hW1 => ?_)
        obtain ⟨r1504, rfl, rfl⟩ := hp
        have hW : WS ad cA (fun i k => (46 ≤ i ∧ i < 54) ∨ i = 83 ∨ i = (lw + 6) ∨ (i = 42 ∧ (k = 6))) g0 K g1503 H locs := ⟨hW1, hW.2.1, hW.2.2⟩
        have := lc_all r1499 r1504
        refine q_lcmp hM dX2_timesTillRest_49 ?_
        refine q_if_ne (tgt := 68) hM dX2_timesTillRest_50 (by decide) (rfl : (lg_cmp r1499 r1504).toInt = (lg_cmp r1499 r1504).toInt) (fun h50 => ?_) (fun h50 => ?_)
        · refine q_iinc (lv9 := fun z1507 => [(4, .int z1507), (7, .long r1501), (5, .long r1499), (0, .ref (ad 80)), (1, .int p), (2, .ref (ad ar)), (3, .ref (ad (46 + 1 * p.toInt.toNat)))]) hM dX2_timesTillRest_68 hl (kq := 6) rfl (by decide) (fun _ => rfl) (fun z1507 ls hz1507 hl => ?_)
          first | have tz1507 := i_addT hz1507 (rfl : w13_4.toInt = w13_4.toInt) (kc_1 : (Int32.ofInt 1).toInt = 1) (by omega) (by omega) | skip
          refine q_goto (tgt := 13) hM dX2_timesTillRest_71 (by decide) ?_
          exact ih13 z1507 _ _ _ _ (by omega) hG (by omega) (by omega) (lv_sub hl [3, 4, 5, 6, 0] rfl) hW
        · refine q_lload hM dX2_timesTillRest_53 (lv_at hl 0 rfl) ?_
          refine q_aload_n hM dX2_timesTillRest_55 (lv_at hl 5 rfl) ?_
          refine q_bipush (v := (6 : Int32)) hM dX2_timesTillRest_56 (by decide) ?_
          refine q_callS (As := [.ref (ad (46 + 1 * p.toInt.toNat)), .int (6 : Int32)]) (rest := [.long r1501]) hM hW.1 hR hC myX8_packed (kAW (v_3_7 (List.mem_of_getElem? (i := 0) rfl)) rfl) (a_X8_packed _ _ cA ad g1503 (46 + 1 * p.toInt.toNat) (6 : Int32) hW.2.1 hG (by unfold isSr; omega : isSr (46 + 1 * p.toInt.toNat)) (by have := kc_6; omega) (by have := kc_6; omega)) ⟨by decide, by decide⟩ rfl rfl hl.1 (Nat.le_of_ble_eq_true rfl) dX2_timesTillRest_58 (fun v g1510 H locs hp hW1 => ?_)
          obtain ⟨r1509, rfl, rfl⟩ := hp
          have hW : WS ad cA (fun i k => (46 ≤ i ∧ i < 54) ∨ i = 83 ∨ i = (lw + 6) ∨ (i = 42 ∧ (k = 6))) g0 K g1503 H locs := ⟨hW1, hW.2.1, hW.2.2⟩
          have := lc_all r1501 r1509
          refine q_lcmp hM dX2_timesTillRest_61 ?_
          refine q_if_ne (tgt := 68) hM dX2_timesTillRest_62 (by decide) (rfl : (lg_cmp r1501 r1509).toInt = (lg_cmp r1501 r1509).toInt) (fun h62 => ?_) (fun h62 => ?_)
          · refine q_iinc (lv9 := fun z1512 => [(4, .int z1512), (7, .long r1501), (5, .long r1499), (0, .ref (ad 80)), (1, .int p), (2, .ref (ad ar)), (3, .ref (ad (46 + 1 * p.toInt.toNat)))]) hM dX2_timesTillRest_68 hl (kq := 6) rfl (by decide) (fun _ => rfl) (fun z1512 ls hz1512 hl => ?_)
            first | have tz1512 := i_addT hz1512 (rfl : w13_4.toInt = w13_4.toInt) (kc_1 : (Int32.ofInt 1).toInt = 1) (by omega) (by omega) | skip
            refine q_goto (tgt := 13) hM dX2_timesTillRest_71 (by decide) ?_
            exact ih13 z1512 _ _ _ _ (by omega) hG (by omega) (by omega) (lv_sub hl [3, 4, 5, 6, 0] rfl) hW
          · refine q_iload hM dX2_timesTillRest_65 (lv_at hl 6 rfl) ?_
            exact hE _ _ _ _ _ _ hW.1 ⟨_, rfl, hW.2.1, hG, hW.2.2⟩ dX2_timesTillRest_67
  have := kc_0
  exact L13 _ (0 : Int32) _ _ _ _ (Nat.lt_succ_self _) hG (by omega) (by omega) (lv_sub hl [2, 3, 4, 1, 0] rfl) hW


set_option maxRecDepth 100000 in
set_option maxHeartbeats 4000000 in
theorem a_X2_examine_42 (l : Launch) (D : va_G) (cA : Nat → ClassId) (ad : Nat → Nat) (g0 : Nat → va_E) (p : Int32)   (hSh : Shp ad cA g0) (hG : Rng g0) (h_r10 : fld g0 80 10 = .ref (ad 42)) (p0 : 0 ≤ p.toInt) (p7 : p.toInt < 8) (gr9 : (arI g0 43 p.toNatClampNeg).toInt ≤ 9) : CT l NN ad cA D yX2_examine cX2_examine 4 none (1, 21) [.ref (ad 80), .int p] g0 (fun v g' => v = none ∧ Shp ad cA g' ∧ Rng g' ∧ FR (fun i k => (i = 80 ∧ (k = 7 ∨ k = 8)) ∨ (i = 42 ∧ (k = 5 ∨ k = 7)) ∨ i = 43) g0 g') := by
  refine q_enterV (by decide) (Nat.le_of_ble_eq_true rfl) (fun K H locs ls _ _ hM hW0 hR hC hE hl => ?_)
  have hl : lv_has ls 4 [(0, .ref (ad 80)), (1, .int p)] := hl
  have hW : WS ad cA (fun i k => (i = 80 ∧ (k = 7 ∨ k = 8)) ∨ (i = 42 ∧ (k = 5 ∨ k = 7)) ∨ i = 43) g0 K g0 H locs := ⟨hW0, hSh, FR.rf⟩
  refine q_iconst (v := (0 : Int32)) hM dX2_examine_0 (by decide) ?_
  refine q_istore_n (lv9 := [(2, .int (0 : Int32)), (0, .ref (ad 80)), (1, .int p)]) hM dX2_examine_1 hl (by decide) rfl (fun ls hl => ?_)
  refine q_iconst (v := (0 : Int32)) hM dX2_examine_2 (by decide) ?_
  refine q_istore_n (lv9 := [(3, .int (0 : Int32)), (2, .int (0 : Int32)), (0, .ref (ad 80)), (1, .int p)]) hM dX2_examine_3 hl (by decide) rfl (fun ls hl => ?_)
  have L4 : ∀ (fu4 : Nat) (w4_2 : Int32) (w4_3 : Int32) (g9 : Nat → va_E) (H : Heap) (locs : List Loc) (ls : Array Slot), (12 - w4_3.toInt).toNat < fu4 → (Rng g9) → (0 ≤ w4_3.toInt) → (w4_3.toInt ≤ 12) → (arI g9 43 = arI g0 43) → lv_has ls 4 [(0, .ref (ad 80)), (1, .int p), (2, .int w4_2), (3, .int w4_3)] → WS ad cA (fun i k => (i = 80 ∧ (k = 7 ∨ k = 8)) ∨ (i = 42 ∧ (k = 5 ∨ k = 7)) ∨ i = 43) g0 K g9 H locs → XX K 0 0 H locs 4 ls [] := by
    intro fu4
    induction fu4 with
    | zero => intro w4_2 w4_3 g9 H locs ls h0; omega
    | succ fu4 ih4 =>
      intro w4_2 w4_3 g9 H locs ls hm4 i4_0 i4_1 i4_2 d4_43 hl hW
      have hG := i4_0
      refine q_iload_n hM dX2_examine_4 (lv_at hl 3 rfl) ?_
      refine q_bipush (v := (12 : Int32)) hM dX2_examine_5 (by decide) ?_
      refine q_icmp_ge (tgt := 62) hM dX2_examine_7 (by decide) (rfl : w4_3.toInt = w4_3.toInt) (kc_12 : (12 : Int32).toInt = 12) (fun h7 => ?_) (fun h7 => ?_)
      · refine q_aload_n hM dX2_examine_62 (lv_at hl 0 rfl) ?_
        refine q_dup hM dX2_examine_63 rfl ?_
        refine w_getI hM hW FG_X2_50 lb_80 (by decide) (by decide) dX2_examine_64 (fun x1516 fx1516 => ?_)
        refine q_iload_n hM dX2_examine_67 (lv_at hl 2 rfl) ?_
        refine q_iadd hM dX2_examine_68 (fun z1517 hz1517 => ?_)
        first | have tz1517 := i_addT hz1517 (rfl : x1516.toInt = x1516.toInt) (rfl : w4_2.toInt = w4_2.toInt) (by omega) (by omega) | skip
        refine w_put hM hW FP_X2_50 lb_80 (by omega) (Or.inl ⟨_, rfl⟩) rfl rfl dX2_examine_69 (fun g1518 H locs hW e1 e2 => ?_)
        have f1519 : arI g1518 43 = arI g0 43 := (e2.2.1 43 (by unfold Only; omega)).trans d4_43
        have f1520 : fld g1518 80 8 = .int z1517 := e1
        have hG := hG.put e1 e2 (rfl : rF 80 8 = (-2147483648, 2147483647)) (by decide) (by have := i_rng z1517; omega) (by have := i_rng z1517; omega)
        refine q_iload_n hM dX2_examine_72 (lv_at hl 2 rfl) ?_
        refine q_aload_n hM dX2_examine_73 (lv_at hl 0 rfl) ?_
        refine w_getI hM hW FG_X2_44 lb_80 (by decide) (by decide) dX2_examine_74 (fun x1521 fx1521 => ?_)
        refine q_icmp_le (tgt := 81) hM dX2_examine_77 (by decide) (rfl : w4_2.toInt = w4_2.toInt) (rfl : x1521.toInt = x1521.toInt) (fun h77 => ?_) (fun h77 => ?_)
        · refine q_aload_n hM dX2_examine_81 (lv_at hl 0 rfl) ?_
          refine w_get (v := .ref (ad 42)) hM hW FG_X2_19 lb_80 ((hW.2.2.1 80 10 (by omega)).trans h_r10) dX2_examine_82 ?_
          refine q_dup hM dX2_examine_85 rfl ?_
          refine w_getI hM hW FG_X2_150 lb_42 (by decide) (by decide) dX2_examine_86 (fun x1523 fx1523 => ?_)
          refine q_iconst (v := (1 : Int32)) hM dX2_examine_89 (by decide) ?_
          refine q_iadd hM dX2_examine_90 (fun z1524 hz1524 => ?_)
          first | have tz1524 := i_addT hz1524 (rfl : x1523.toInt = x1523.toInt) (kc_1 : (1 : Int32).toInt = 1) (by omega) (by omega) | skip
          refine w_put hM hW FP_X2_150 lb_42 (by omega) (Or.inl ⟨_, rfl⟩) rfl rfl dX2_examine_91 (fun g1525 H locs hW e1 e2 => ?_)
          have f1526 : arI g1525 43 = arI g0 43 := (e2.2.1 43 (by unfold Only; omega)).trans f1519
          have f1527 : fld g1525 80 8 = .int z1517 := (e2.1 80 8 (by unfold Only; omega)).trans f1520
          have f1528 : fld g1525 80 6 = .int x1521 := (e2.1 80 6 (by unfold Only; omega)).trans fx1521
          have f1529 : fld g1525 42 5 = .int z1524 := e1
          have hG := hG.put e1 e2 (rfl : rF 42 5 = (-2147483648, 2147483647)) (by decide) (by have := i_rng z1524; omega) (by have := i_rng z1524; omega)
          refine q_aload_n hM dX2_examine_94 (lv_at hl 0 rfl) ?_
          refine w_get (v := .ref (ad 42)) hM hW FG_X2_19 lb_80 ((hW.2.2.1 80 10 (by omega)).trans h_r10) dX2_examine_95 ?_
          refine w_get (v := .ref (ad 43)) hM hW FG_X2_65 lb_42 (rf_42_0 hW.2.1) dX2_examine_98 ?_
          refine q_iload_n hM dX2_examine_101 (lv_at hl 1 rfl) ?_
          refine q_dup2 hM dX2_examine_102 rfl rfl ?_
          refine w_iald hM hW lb_43 (i_in (by omega) (by omega)) dX2_examine_103 ?_
          refine q_top (fun y1530 hy1530 => ?_)
          have ky1530 : y1530.toInt ≤ 9 := by rw [hy1530, f1526]; exact gr9
          have by1530 := hG.a hy1530 rA_43
          refine q_iconst (v := (1 : Int32)) hM dX2_examine_104 (by decide) ?_
          refine q_iadd hM dX2_examine_105 (fun z1531 hz1531 => ?_)
          first | have tz1531 := i_addT hz1531 (rfl : y1530.toInt = y1530.toInt) (kc_1 : (1 : Int32).toInt = 1) (by omega) (by omega) | skip
          refine w_iast hM hW lb_43 (by omega) (i_in (by omega) (by omega)) dX2_examine_106 (fun g1532 H locs hW e1 e2 => ?_)
          have f1533 : fld g1532 80 8 = .int z1517 := (e2.1 80 8 (by unfold Only; omega)).trans f1527
          have f1534 : fld g1532 80 6 = .int x1521 := (e2.1 80 6 (by unfold Only; omega)).trans f1528
          have f1535 : fld g1532 42 5 = .int z1524 := (e2.1 42 5 (by unfold Only; omega)).trans f1529
          have hG := hG.st e1 e2 rA_43 (by have := i_rng z1531; omega) (by have := i_rng z1531; omega)
          refine q_aload_n hM dX2_examine_107 (lv_at hl 0 rfl) ?_
          refine w_get (v := .ref (ad 42)) hM hW FG_X2_19 lb_80 ((hW.2.2.1 80 10 (by omega)).trans h_r10) dX2_examine_108 ?_
          refine w_get (v := .ref (ad 43)) hM hW FG_X2_65 lb_42 (rf_42_0 hW.2.1) dX2_examine_111 ?_
          refine q_iload_n hM dX2_examine_114 (lv_at hl 1 rfl) ?_
          refine w_iald hM hW lb_43 (i_in (by omega) (by omega)) dX2_examine_115 ?_
          refine q_top (fun y1536 hy1536 => ?_)
          have by1536 := hG.a hy1536 rA_43
          refine q_bipush (v := (10 : Int32)) hM dX2_examine_116 (by decide) ?_
          refine q_icmp_ne (tgt := 131) hM dX2_examine_118 (by decide) (rfl : y1536.toInt = y1536.toInt) (kc_10 : (10 : Int32).toInt = 10) (fun h118 => ?_) (fun h118 => ?_)
          · exact hE _ _ _ _ _ hW.1 ⟨rfl, hW.2.1, hG, hW.2.2⟩ dX2_examine_131
          · refine q_aload_n hM dX2_examine_121 (lv_at hl 0 rfl) ?_
            refine q_dup hM dX2_examine_122 rfl ?_
            refine w_getI hM hW FG_X2_47 lb_80 (by decide) (by decide) dX2_examine_123 (fun x1539 fx1539 => ?_)
            refine q_iconst (v := (1 : Int32)) hM dX2_examine_126 (by decide) ?_
            refine q_iadd hM dX2_examine_127 (fun z1540 hz1540 => ?_)
            first | have tz1540 := i_addT hz1540 (rfl : x1539.toInt = x1539.toInt) (kc_1 : (1 : Int32).toInt = 1) (by omega) (by omega) | skip
            refine w_put hM hW FP_X2_47 lb_80 (by omega) (Or.inl ⟨_, rfl⟩) rfl rfl dX2_examine_128 (fun g1541 H locs hW e1 e2 => ?_)
            have f1542 : fld g1541 80 8 = .int z1517 := (e2.1 80 8 (by unfold Only; omega)).trans f1533
            have f1543 : fld g1541 80 6 = .int x1521 := (e2.1 80 6 (by unfold Only; omega)).trans f1534
            have f1544 : fld g1541 42 5 = .int z1524 := (e2.1 42 5 (by unfold Only; omega)).trans f1535
            have f1545 : fld g1541 80 7 = .int z1540 := e1
            have hG := hG.put e1 e2 (rfl : rF 80 7 = (-2147483648, 2147483647)) (by decide) (by have := i_rng z1540; omega) (by have := i_rng z1540; omega)
            exact hE _ _ _ _ _ hW.1 ⟨rfl, hW.2.1, hG, hW.2.2⟩ dX2_examine_131
        · exact hE _ _ _ _ _ hW.1 ⟨rfl, hW.2.1, hG, hW.2.2⟩ dX2_examine_80
      · refine q_aload_n hM dX2_examine_10 (lv_at hl 0 rfl) ?_
        refine w_get (v := .ref (ad 3)) hM hW FG_X2_9 lb_80 (rf_80_0 hW.2.1) dX2_examine_11 ?_
        refine w_getI hM hW FG_X2_123 lb_3 (by decide) (by decide) dX2_examine_14 (fun x1548 fx1548 => ?_)
        have bx1548 := hG.f fx1548 rF_3_2 (by decide)
        refine q_aload_n hM dX2_examine_17 (lv_at hl 0 rfl) ?_
        refine w_getI hM hW FG_X2_41 lb_80 (by decide) (by decide) dX2_examine_18 (fun x1549 fx1549 => ?_)
        refine q_iand hM dX2_examine_21 (fun z1550 hz1550 => ?_)
        refine q_iload_n hM dX2_examine_22 (lv_at hl 3 rfl) ?_
        refine q_callN (host := "ForgetSchool") (As := [.int z1550, .int w4_3]) (rest := []) hM hW.1 hR hC myX11_has (List.mem_of_getElem? (i := 3) rfl) (c_X11_has _ _ cA ad g9 z1550 w4_3 hW.2.1) ⟨by decide, by decide⟩ rfl rfl hl.1 (Nat.le_of_ble_eq_true rfl) dX2_examine_23 (fun v g1552 H locs hp hW1 => ?_)
        obtain ⟨r1551, rfl, hr1551, rfl⟩ := hp
        have hW : WS ad cA (fun i k => (i = 80 ∧ (k = 7 ∨ k = 8)) ∨ (i = 42 ∧ (k = 5 ∨ k = 7)) ∨ i = 43) g0 K g9 H locs := ⟨hW1, hW.2.1, hW.2.2⟩
        first | have ltr1551 := has_lt 5 hr1551 (by omega) (by omega) | have ltr1551 := has_lt 6 hr1551 (by omega) (by omega) | have ltr1551 := has_lt 8 hr1551 (by omega) (by omega) | have ltr1551 := has_lt 12 hr1551 (by omega) (by omega) | skip
        refine q_if_eq (tgt := 56) hM dX2_examine_26 (by decide) (rfl : r1551.toInt = r1551.toInt) (fun h26 => ?_) (fun h26 => ?_)
        · refine q_iinc (lv9 := fun z1554 => [(3, .int z1554), (0, .ref (ad 80)), (1, .int p), (2, .int w4_2)]) hM dX2_examine_56 hl (kq := 3) rfl (by decide) (fun _ => rfl) (fun z1554 ls hz1554 hl => ?_)
          first | have tz1554 := i_addT hz1554 (rfl : w4_3.toInt = w4_3.toInt) (kc_1 : (Int32.ofInt 1).toInt = 1) (by omega) (by omega) | skip
          refine q_goto (tgt := 4) hM dX2_examine_59 (by decide) ?_
          exact ih4 w4_2 z1554 _ _ _ _ (by omega) hG (by omega) (by omega) d4_43 (lv_sub hl [1, 2, 3, 0] rfl) hW
        · refine q_aload_n hM dX2_examine_29 (lv_at hl 0 rfl) ?_
          refine w_get (v := .ref (ad 42)) hM hW FG_X2_19 lb_80 ((hW.2.2.1 80 10 (by omega)).trans h_r10) dX2_examine_30 ?_
          refine q_callV (As := []) (rest := []) hM hW.1 hR hC myX7_draw (kAW (v_2_14 (List.mem_of_getElem? (i := 5) rfl)) rfl) (rfl : vwCl[7]? = some (RX7, TX7, 8)) rfl lb_42.1 (shO hW.2.1 lb_42) (a_X7_draw_42 _ _ cA ad g9  hW.2.1 hG) ⟨by decide, by decide⟩ rfl rfl hl.1 (Nat.le_of_ble_eq_true rfl) dX2_examine_33 (fun v g1557 H locs hp hW1 => ?_)
          obtain ⟨r1556, rfl, hs1, hG, hf1⟩ := hp
          have f1558 : arI g1557 43 = arI g0 43 := (hf1.2.1 43 (by omega)).trans d4_43
          have f1559 : fld g1557 3 2 = .int x1548 := (hf1.1 3 2 (by omega)).trans fx1548
          have f1560 : fld g1557 80 5 = .int x1549 := (hf1.1 80 5 (by omega)).trans fx1549
          have hW : WS ad cA (fun i k => (i = 80 ∧ (k = 7 ∨ k = 8)) ∨ (i = 42 ∧ (k = 5 ∨ k = 7)) ∨ i = 43) g0 K g1557 H locs := ⟨hW1, hs1, hW.2.2.tr hf1 (fun i k h => (Or.inr (Or.inl (by omega))))⟩
          refine q_aload_n hM dX2_examine_36 (lv_at hl 0 rfl) ?_
          refine w_get (v := .ref (ad 42)) hM hW FG_X2_19 lb_80 ((hW.2.2.1 80 10 (by omega)).trans h_r10) dX2_examine_37 ?_
          refine w_get (v := .ref (ad 45)) hM hW FG_X2_86 lb_42 (rf_42_2 hW.2.1) dX2_examine_40 ?_
          refine q_iload_n hM dX2_examine_43 (lv_at hl 1 rfl) ?_
          refine w_aald hM hW lb_45 (Or.inl rfl) (i_in (by omega) (by omega)) (aq (aq_45 hW.2.1) (by omega) (by omega)) dX2_examine_44 ?_
          refine q_iload_n hM dX2_examine_45 (lv_at hl 3 rfl) ?_
          refine w_iald hM hW (lr_46 (by omega)) (i_in (by omega) (by omega)) dX2_examine_46 ?_
          refine q_top (fun y1561 hy1561 => ?_)
          refine q_callN (host := "ForgetSchool") (As := [.int y1561]) (rest := [.int r1556]) hM hW.1 hR hC myX11_tenths (List.mem_of_getElem? (i := 4) rfl) (a_X11_tenths _ _ cA ad g1557 y1561 hW.2.1 hG) ⟨by decide, by decide⟩ rfl rfl hl.1 (Nat.le_of_ble_eq_true rfl) dX2_examine_47 (fun v g1563 H locs hp hW1 => ?_)
          obtain ⟨r1562, rfl, hr1562, rfl⟩ := hp
          have hW : WS ad cA (fun i k => (i = 80 ∧ (k = 7 ∨ k = 8)) ∨ (i = 42 ∧ (k = 5 ∨ k = 7)) ∨ i = 43) g0 K g1557 H locs := ⟨hW1, hW.2.1, hW.2.2⟩
          refine q_icmp_ge (tgt := 56) hM dX2_examine_50 (by decide) (rfl : r1556.toInt = r1556.toInt) (rfl : r1562.toInt = r1562.toInt) (fun h50 => ?_) (fun h50 => ?_)
          · refine q_iinc (lv9 := fun z1565 => [(3, .int z1565), (0, .ref (ad 80)), (1, .int p), (2, .int w4_2)]) hM dX2_examine_56 hl (kq := 3) rfl (by decide) (fun _ => rfl) (fun z1565 ls hz1565 hl => ?_)
            first | have tz1565 := i_addT hz1565 (rfl : w4_3.toInt = w4_3.toInt) (kc_1 : (Int32.ofInt 1).toInt = 1) (by omega) (by omega) | skip
            refine q_goto (tgt := 4) hM dX2_examine_59 (by decide) ?_
            exact ih4 w4_2 z1565 _ _ _ _ (by omega) hG (by omega) (by omega) f1558 (lv_sub hl [1, 2, 3, 0] rfl) hW
          · refine q_iinc (lv9 := fun z1567 => [(2, .int z1567), (0, .ref (ad 80)), (1, .int p), (3, .int w4_3)]) hM dX2_examine_53 hl (kq := 2) rfl (by decide) (fun _ => rfl) (fun z1567 ls hz1567 hl => ?_)
            first | have tz1567 := i_addT hz1567 (rfl : w4_2.toInt = w4_2.toInt) (kc_1 : (Int32.ofInt 1).toInt = 1) (by omega) (by omega) | skip
            refine q_iinc (lv9 := fun z1568 => [(3, .int z1568), (2, .int z1567), (0, .ref (ad 80)), (1, .int p)]) hM dX2_examine_56 hl (kq := 3) rfl (by decide) (fun _ => rfl) (fun z1568 ls hz1568 hl => ?_)
            first | have tz1568 := i_addT hz1568 (rfl : w4_3.toInt = w4_3.toInt) (kc_1 : (Int32.ofInt 1).toInt = 1) (by omega) (by omega) | skip
            refine q_goto (tgt := 4) hM dX2_examine_59 (by decide) ?_
            exact ih4 z1567 z1568 _ _ _ _ (by omega) hG (by omega) (by omega) f1558 (lv_sub hl [2, 3, 1, 0] rfl) hW
  have := kc_0
  have := kc_0
  exact L4 _ (0 : Int32) (0 : Int32) _ _ _ _ (Nat.lt_succ_self _) hG (by omega) (by omega) (rfl : arI g0 43 = arI g0 43) (lv_sub hl [2, 3, 1, 0] rfl) hW


set_option maxRecDepth 100000 in
set_option maxHeartbeats 4000000 in
theorem a_X2_goThrough_42 (l : Launch) (D : va_G) (cA : Nat → ClassId) (ad : Nat → Nat) (g0 : Nat → va_E) (p : Int32)  (lw : Nat) (hSh : Shp ad cA g0) (hG : Rng g0) (hlw : isLw lw) (h_r9 : fld g0 80 9 = .ref (ad lw)) (h_r10 : fld g0 80 10 = .ref (ad 42)) (p0 : 0 ≤ p.toInt) (p7 : p.toInt < 8) (gr9 : (arI g0 43 p.toNatClampNeg).toInt ≤ 9) : CT l NN ad cA D yX2_goThrough cX2_goThrough 4 none (5, 121) [.ref (ad 80), .int p] g0 (fun v g' => v = none ∧ Shp ad cA g' ∧ Rng g' ∧ FR (fun i k => (46 ≤ i ∧ i < 54) ∨ i = 83 ∨ i = (lw + 6) ∨ (i = 42 ∧ (k = 5 ∨ k = 6 ∨ k = 7)) ∨ (i = 80 ∧ (k = 7 ∨ k = 8)) ∨ i = 43) g0 g') := by
  refine q_enterV (by decide) (Nat.le_of_ble_eq_true rfl) (fun K H locs ls _ _ hM hW0 hR hC hE hl => ?_)
  have hl : lv_has ls 4 [(0, .ref (ad 80)), (1, .int p)] := hl
  have hW : WS ad cA (fun i k => (46 ≤ i ∧ i < 54) ∨ i = 83 ∨ i = (lw + 6) ∨ (i = 42 ∧ (k = 5 ∨ k = 6 ∨ k = 7)) ∨ (i = 80 ∧ (k = 7 ∨ k = 8)) ∨ i = 43) g0 K g0 H locs := ⟨hW0, hSh, FR.rf⟩
  have ulw := hlw
  unfold isLw at ulw
  refine q_aload_n hM dX2_goThrough_0 (lv_at hl 0 rfl) ?_
  refine w_get (v := .ref (ad 42)) hM hW FG_X2_19 lb_80 ((hW.2.2.1 80 10 (by omega)).trans h_r10) dX2_goThrough_1 ?_
  refine w_getI hM hW FG_X2_53 lb_42 (by decide) (by decide) dX2_goThrough_4 (fun x1569 fx1569 => ?_)
  refine q_bipush (v := (12 : Int32)) hM dX2_goThrough_7 (by decide) ?_
  refine q_irem hM (by decide) dX2_goThrough_9 (fun z1570 hz1570 => ?_)
  first | have tz1570 := i_remT hz1570 (rfl : x1569.toInt = x1569.toInt) (kc_12 : (12 : Int32).toInt = 12) (by omega) (by omega) | skip
  refine q_istore_n (lv9 := [(2, .int z1570), (0, .ref (ad 80)), (1, .int p)]) hM dX2_goThrough_10 hl (by decide) rfl (fun ls hl => ?_)
  refine q_iload_n hM dX2_goThrough_11 (lv_at hl 0 rfl) ?_
  refine q_bipush (v := (10 : Int32)) hM dX2_goThrough_12 (by decide) ?_
  refine q_icmp_lt (tgt := 25) hM dX2_goThrough_14 (by decide) (rfl : z1570.toInt = z1570.toInt) (kc_10 : (10 : Int32).toInt = 10) (fun h14 => ?_) (fun h14 => ?_)
  · refine q_aload_n hM dX2_goThrough_25 (lv_at hl 1 rfl) ?_
    refine w_get (v := .ref (ad 82)) hM hW FG_X2_30 lb_80 (rf_80_2 hW.2.1) dX2_goThrough_26 ?_
    refine q_aload_n hM dX2_goThrough_29 (lv_at hl 1 rfl) ?_
    refine w_get (v := .ref (ad 42)) hM hW FG_X2_19 lb_80 ((hW.2.2.1 80 10 (by omega)).trans h_r10) dX2_goThrough_30 ?_
    refine w_get (v := .ref (ad 43)) hM hW FG_X2_65 lb_42 (rf_42_0 hW.2.1) dX2_goThrough_33 ?_
    refine q_iload_n hM dX2_goThrough_36 (lv_at hl 2 rfl) ?_
    refine w_iald hM hW lb_43 (i_in (by omega) (by omega)) dX2_goThrough_37 ?_
    refine q_top (fun y1572 hy1572 => ?_)
    have ky1572 : y1572.toInt ≤ 9 := by rw [hy1572, (rfl : arI g0 43 = arI g0 43)]; exact gr9
    have by1572 := hG.a hy1572 rA_43
    refine w_iald hM hW lb_82 (i_in (by omega) (by omega)) dX2_goThrough_38 ?_
    refine q_top (fun y1573 hy1573 => ?_)
    refine q_istore_n (lv9 := [(3, .int y1573), (2, .int z1570), (0, .ref (ad 80)), (1, .int p)]) hM dX2_goThrough_39 hl (by decide) rfl (fun ls hl => ?_)
    refine q_aload_n hM dX2_goThrough_40 (lv_at hl 2 rfl) ?_
    refine w_getI hM hW FG_X2_37 lb_80 (by decide) (by decide) dX2_goThrough_41 (fun x1574 fx1574 => ?_)
    have bx1574 := hG.f fx1574 rF_80_4 (by decide)
    refine q_iload_n hM dX2_goThrough_44 (lv_at hl 0 rfl) ?_
    refine q_callN (host := "ForgetSchool") (As := [.int x1574, .int y1573]) (rest := []) hM hW.1 hR hC myX11_has (List.mem_of_getElem? (i := 3) rfl) (c_X11_has _ _ cA ad g0 x1574 y1573 hW.2.1) ⟨by decide, by decide⟩ rfl rfl hl.1 (Nat.le_of_ble_eq_true rfl) dX2_goThrough_45 (fun v g1576 H locs hp hW1 => ?_)
    obtain ⟨r1575, rfl, hr1575, rfl⟩ := hp
    have hW : WS ad cA (fun i k => (46 ≤ i ∧ i < 54) ∨ i = 83 ∨ i = (lw + 6) ∨ (i = 42 ∧ (k = 5 ∨ k = 6 ∨ k = 7)) ∨ (i = 80 ∧ (k = 7 ∨ k = 8)) ∨ i = 43) g0 K g0 H locs := ⟨hW1, hW.2.1, hW.2.2⟩
    first | have ltr1575 := has_lt 5 hr1575 (by omega) (by omega) | have ltr1575 := has_lt 6 hr1575 (by omega) (by omega) | have ltr1575 := has_lt 8 hr1575 (by omega) (by omega) | have ltr1575 := has_lt 12 hr1575 (by omega) (by omega) | skip
    refine q_if_eq (tgt := 62) hM dX2_goThrough_48 (by decide) (rfl : r1575.toInt = r1575.toInt) (fun h48 => ?_) (fun h48 => ?_)
    · refine q_aload_n hM dX2_goThrough_62 (lv_at hl 2 rfl) ?_
      refine q_iload_n hM dX2_goThrough_63 (lv_at hl 3 rfl) ?_
      refine q_callV (As := [.int p]) (rest := []) hM hW.1 hR hC myX2_recall (kAW (v_2_13 (List.mem_of_getElem? (i := 9) rfl)) rfl) (rfl : vwCl[2]? = some (RX2, TX2, 11)) rfl lb_80.1 (shO hW.2.1 lb_80) (a_X2_recall_42 _ _ cA ad g0 p lw hW.2.1 hG hlw ((hW.2.2.1 80 9 (by omega)).trans h_r9) ((hW.2.2.1 80 10 (by omega)).trans h_r10) (by  omega) (by  omega)) ⟨by decide, by decide⟩ rfl rfl hl.1 (Nat.le_of_ble_eq_true rfl) dX2_goThrough_64 (fun v g1579 H locs hp hW1 => ?_)
      obtain ⟨r1578, rfl, hs1, hG, hf1⟩ := hp
      have f1580 : arI g1579 43 = arI g0 43 := (hf1.2.1 43 (by omega)).trans (rfl : arI g0 43 = arI g0 43)
      have f1581 : fld g1579 42 4 = .int x1569 := (hf1.1 42 4 (by omega)).trans fx1569
      have f1582 : fld g1579 80 4 = .int x1574 := (hf1.1 80 4 (by omega)).trans fx1574
      have hW : WS ad cA (fun i k => (46 ≤ i ∧ i < 54) ∨ i = 83 ∨ i = (lw + 6) ∨ (i = 42 ∧ (k = 5 ∨ k = 6 ∨ k = 7)) ∨ (i = 80 ∧ (k = 7 ∨ k = 8)) ∨ i = 43) g0 K g1579 H locs := ⟨hW1, hs1, hW.2.2.tr hf1 (fun i k h => h.elim (fun h => (Or.inl h)) (fun h => h.elim (fun h => (Or.inr (Or.inl h))) (fun h => h.elim (fun h => (Or.inr (Or.inr (Or.inl h)))) (fun h => (Or.inr (Or.inr (Or.inr (Or.inl (by omega)))))))))⟩
      refine q_pop hM dX2_goThrough_67 rfl ?_
      refine q_aload_n hM dX2_goThrough_68 (lv_at hl 2 rfl) ?_
      refine w_getI hM hW FG_X2_41 lb_80 (by decide) (by decide) dX2_goThrough_69 (fun x1583 fx1583 => ?_)
      refine q_if_eq (tgt := 87) hM dX2_goThrough_72 (by decide) (rfl : x1583.toInt = x1583.toInt) (fun h72 => ?_) (fun h72 => ?_)
      · exact hE _ _ _ _ _ hW.1 ⟨rfl, hW.2.1, hG, hW.2.2⟩ dX2_goThrough_87
      · refine q_iload_n hM dX2_goThrough_75 (lv_at hl 1 rfl) ?_
        refine q_iconst (v := (4 : Int32)) hM dX2_goThrough_76 (by decide) ?_
        refine q_irem hM (by decide) dX2_goThrough_77 (fun z1586 hz1586 => ?_)
        first | have tz1586 := i_remT hz1586 (rfl : z1570.toInt = z1570.toInt) (kc_4 : (4 : Int32).toInt = 4) (by omega) (by omega) | skip
        refine q_iconst (v := (3 : Int32)) hM dX2_goThrough_78 (by decide) ?_
        refine q_icmp_ne (tgt := 87) hM dX2_goThrough_79 (by decide) (rfl : z1586.toInt = z1586.toInt) (kc_3 : (3 : Int32).toInt = 3) (fun h79 => ?_) (fun h79 => ?_)
        · exact hE _ _ _ _ _ hW.1 ⟨rfl, hW.2.1, hG, hW.2.2⟩ dX2_goThrough_87
        · refine q_aload_n hM dX2_goThrough_82 (lv_at hl 2 rfl) ?_
          refine q_iload_n hM dX2_goThrough_83 (lv_at hl 3 rfl) ?_
          refine q_callV (As := [.int p]) (rest := []) hM hW.1 hR hC myX2_examine (kAW (v_2_14 (List.mem_of_getElem? (i := 1) rfl)) rfl) (rfl : vwCl[2]? = some (RX2, TX2, 11)) rfl lb_80.1 (shO hW.2.1 lb_80) (a_X2_examine_42 _ _ cA ad g1579 p hW.2.1 hG ((hW.2.2.1 80 10 (by omega)).trans h_r10) (by  omega) (by  omega) (by rw [f1580]; exact gr9)) ⟨by decide, by decide⟩ rfl rfl hl.1 (Nat.le_of_ble_eq_true rfl) dX2_goThrough_84 (fun v g1589 H locs hp hW1 => ?_)
          obtain ⟨rfl, hs1, hG, hf1⟩ := hp
          have f1590 : fld g1589 42 4 = .int x1569 := (hf1.1 42 4 (by omega)).trans f1581
          have f1591 : fld g1589 80 4 = .int x1574 := (hf1.1 80 4 (by omega)).trans f1582
          have f1592 : fld g1589 80 5 = .int x1583 := (hf1.1 80 5 (by omega)).trans fx1583
          have hW : WS ad cA (fun i k => (46 ≤ i ∧ i < 54) ∨ i = 83 ∨ i = (lw + 6) ∨ (i = 42 ∧ (k = 5 ∨ k = 6 ∨ k = 7)) ∨ (i = 80 ∧ (k = 7 ∨ k = 8)) ∨ i = 43) g0 K g1589 H locs := ⟨hW1, hs1, hW.2.2.tr hf1 (fun i k h => h.elim (fun h => (Or.inr (Or.inr (Or.inr (Or.inr (Or.inl h)))))) (fun h => h.elim (fun h => (Or.inr (Or.inr (Or.inr (Or.inl (by omega)))))) (fun h => (Or.inr (Or.inr (Or.inr (Or.inr (Or.inr h))))))))⟩
          exact hE _ _ _ _ _ hW.1 ⟨rfl, hW.2.1, hG, hW.2.2⟩ dX2_goThrough_87
    · refine q_aload_n hM dX2_goThrough_51 (lv_at hl 2 rfl) ?_
      refine q_iload_n hM dX2_goThrough_52 (lv_at hl 3 rfl) ?_
      refine q_aload_n hM dX2_goThrough_53 (lv_at hl 2 rfl) ?_
      refine w_get (v := .ref (ad 81)) hM hW FG_X2_25 lb_80 (rf_80_1 hW.2.1) dX2_goThrough_54 ?_
      refine q_iload_n hM dX2_goThrough_57 (lv_at hl 0 rfl) ?_
      refine w_aald hM hW lb_81 (Or.inr rfl) (i_in (by omega) (by omega)) (aq (aq_81 hW.2.1) (by omega) (by omega)) dX2_goThrough_58 ?_
      refine q_callV (As := [.int p, .ref (ad (84 + 3 * y1573.toInt.toNat))]) (rest := []) hM hW.1 hR hC myX2_doArt (kAW (v_2_12 (List.mem_of_getElem? (i := 8) rfl)) rfl) (rfl : vwCl[2]? = some (RX2, TX2, 11)) rfl lb_80.1 (shO hW.2.1 lb_80) (a_X2_doArt_42 _ _ cA ad g0 p (84 + 3 * y1573.toInt.toNat) lw hW.2.1 hG (isAt_art (by omega) : isAt (84 + 3 * y1573.toInt.toNat)) hlw ((hW.2.2.1 80 9 (by omega)).trans h_r9) ((hW.2.2.1 80 10 (by omega)).trans h_r10) (by  omega) (by  omega)) ⟨by decide, by decide⟩ rfl rfl hl.1 (Nat.le_of_ble_eq_true rfl) dX2_goThrough_59 (fun v g1594 H locs hp hW1 => ?_)
      obtain ⟨rfl, hs1, hG, hf1⟩ := hp
      have f1595 : arI g1594 43 = arI g0 43 := (hf1.2.1 43 (by omega)).trans (rfl : arI g0 43 = arI g0 43)
      have f1596 : fld g1594 42 4 = .int x1569 := (hf1.1 42 4 (by omega)).trans fx1569
      have f1597 : fld g1594 80 4 = .int x1574 := (hf1.1 80 4 (by omega)).trans fx1574
      have hW : WS ad cA (fun i k => (46 ≤ i ∧ i < 54) ∨ i = 83 ∨ i = (lw + 6) ∨ (i = 42 ∧ (k = 5 ∨ k = 6 ∨ k = 7)) ∨ (i = 80 ∧ (k = 7 ∨ k = 8)) ∨ i = 43) g0 K g1594 H locs := ⟨hW1, hs1, hW.2.2.tr hf1 (fun i k h => h.elim (fun h => (Or.inl h)) (fun h => h.elim (fun h => (Or.inr (Or.inl h))) (fun h => (Or.inr (Or.inr (Or.inl h))))))⟩
      refine q_aload_n hM dX2_goThrough_62 (lv_at hl 2 rfl) ?_
      refine q_iload_n hM dX2_goThrough_63 (lv_at hl 3 rfl) ?_
      refine q_callV (As := [.int p]) (rest := []) hM hW.1 hR hC myX2_recall (kAW (v_2_13 (List.mem_of_getElem? (i := 9) rfl)) rfl) (rfl : vwCl[2]? = some (RX2, TX2, 11)) rfl lb_80.1 (shO hW.2.1 lb_80) (a_X2_recall_42 _ _ cA ad g1594 p lw hW.2.1 hG hlw ((hW.2.2.1 80 9 (by omega)).trans h_r9) ((hW.2.2.1 80 10 (by omega)).trans h_r10) (by  omega) (by  omega)) ⟨by decide, by decide⟩ rfl rfl hl.1 (Nat.le_of_ble_eq_true rfl) dX2_goThrough_64 (fun v g1599 H locs hp hW1 => ?_)
      obtain ⟨r1598, rfl, hs1, hG, hf1⟩ := hp
      have f1600 : arI g1599 43 = arI g0 43 := (hf1.2.1 43 (by omega)).trans f1595
      have f1601 : fld g1599 42 4 = .int x1569 := (hf1.1 42 4 (by omega)).trans f1596
      have f1602 : fld g1599 80 4 = .int x1574 := (hf1.1 80 4 (by omega)).trans f1597
      have hW : WS ad cA (fun i k => (46 ≤ i ∧ i < 54) ∨ i = 83 ∨ i = (lw + 6) ∨ (i = 42 ∧ (k = 5 ∨ k = 6 ∨ k = 7)) ∨ (i = 80 ∧ (k = 7 ∨ k = 8)) ∨ i = 43) g0 K g1599 H locs := ⟨hW1, hs1, hW.2.2.tr hf1 (fun i k h => h.elim (fun h => (Or.inl h)) (fun h => h.elim (fun h => (Or.inr (Or.inl h))) (fun h => h.elim (fun h => (Or.inr (Or.inr (Or.inl h)))) (fun h => (Or.inr (Or.inr (Or.inr (Or.inl (by omega)))))))))⟩
      refine q_pop hM dX2_goThrough_67 rfl ?_
      refine q_aload_n hM dX2_goThrough_68 (lv_at hl 2 rfl) ?_
      refine w_getI hM hW FG_X2_41 lb_80 (by decide) (by decide) dX2_goThrough_69 (fun x1603 fx1603 => ?_)
      refine q_if_eq (tgt := 87) hM dX2_goThrough_72 (by decide) (rfl : x1603.toInt = x1603.toInt) (fun h72 => ?_) (fun h72 => ?_)
      · exact hE _ _ _ _ _ hW.1 ⟨rfl, hW.2.1, hG, hW.2.2⟩ dX2_goThrough_87
      · refine q_iload_n hM dX2_goThrough_75 (lv_at hl 1 rfl) ?_
        refine q_iconst (v := (4 : Int32)) hM dX2_goThrough_76 (by decide) ?_
        refine q_irem hM (by decide) dX2_goThrough_77 (fun z1606 hz1606 => ?_)
        first | have tz1606 := i_remT hz1606 (rfl : z1570.toInt = z1570.toInt) (kc_4 : (4 : Int32).toInt = 4) (by omega) (by omega) | skip
        refine q_iconst (v := (3 : Int32)) hM dX2_goThrough_78 (by decide) ?_
        refine q_icmp_ne (tgt := 87) hM dX2_goThrough_79 (by decide) (rfl : z1606.toInt = z1606.toInt) (kc_3 : (3 : Int32).toInt = 3) (fun h79 => ?_) (fun h79 => ?_)
        · exact hE _ _ _ _ _ hW.1 ⟨rfl, hW.2.1, hG, hW.2.2⟩ dX2_goThrough_87
        · refine q_aload_n hM dX2_goThrough_82 (lv_at hl 2 rfl) ?_
          refine q_iload_n hM dX2_goThrough_83 (lv_at hl 3 rfl) ?_
          refine q_callV (As := [.int p]) (rest := []) hM hW.1 hR hC myX2_examine (kAW (v_2_14 (List.mem_of_getElem? (i := 1) rfl)) rfl) (rfl : vwCl[2]? = some (RX2, TX2, 11)) rfl lb_80.1 (shO hW.2.1 lb_80) (a_X2_examine_42 _ _ cA ad g1599 p hW.2.1 hG ((hW.2.2.1 80 10 (by omega)).trans h_r10) (by  omega) (by  omega) (by rw [f1600]; exact gr9)) ⟨by decide, by decide⟩ rfl rfl hl.1 (Nat.le_of_ble_eq_true rfl) dX2_goThrough_84 (fun v g1609 H locs hp hW1 => ?_)
          obtain ⟨rfl, hs1, hG, hf1⟩ := hp
          have f1610 : fld g1609 42 4 = .int x1569 := (hf1.1 42 4 (by omega)).trans f1601
          have f1611 : fld g1609 80 4 = .int x1574 := (hf1.1 80 4 (by omega)).trans f1602
          have f1612 : fld g1609 80 5 = .int x1603 := (hf1.1 80 5 (by omega)).trans fx1603
          have hW : WS ad cA (fun i k => (46 ≤ i ∧ i < 54) ∨ i = 83 ∨ i = (lw + 6) ∨ (i = 42 ∧ (k = 5 ∨ k = 6 ∨ k = 7)) ∨ (i = 80 ∧ (k = 7 ∨ k = 8)) ∨ i = 43) g0 K g1609 H locs := ⟨hW1, hs1, hW.2.2.tr hf1 (fun i k h => h.elim (fun h => (Or.inr (Or.inr (Or.inr (Or.inr (Or.inl h)))))) (fun h => h.elim (fun h => (Or.inr (Or.inr (Or.inr (Or.inl (by omega)))))) (fun h => (Or.inr (Or.inr (Or.inr (Or.inr (Or.inr h))))))))⟩
          exact hE _ _ _ _ _ hW.1 ⟨rfl, hW.2.1, hG, hW.2.2⟩ dX2_goThrough_87
  · refine q_aload_n hM dX2_goThrough_17 (lv_at hl 1 rfl) ?_
    refine q_iload_n hM dX2_goThrough_18 (lv_at hl 2 rfl) ?_
    refine q_callV (As := [.int p]) (rest := []) hM hW.1 hR hC myX2_rest (kAW (v_2_10 (List.mem_of_getElem? (i := 8) rfl)) rfl) (rfl : vwCl[2]? = some (RX2, TX2, 11)) rfl lb_80.1 (shO hW.2.1 lb_80) (a_X2_rest_42 _ _ cA ad g0 p lw hW.2.1 hG hlw ((hW.2.2.1 80 9 (by omega)).trans h_r9) ((hW.2.2.1 80 10 (by omega)).trans h_r10) (by  omega) (by  omega)) ⟨by decide, by decide⟩ rfl rfl hl.1 (Nat.le_of_ble_eq_true rfl) dX2_goThrough_19 (fun v g1614 H locs hp hW1 => ?_)
    obtain ⟨rfl, hs1, hG, hf1⟩ := hp
    have f1615 : arI g1614 43 = arI g0 43 := (hf1.2.1 43 (by omega)).trans (rfl : arI g0 43 = arI g0 43)
    have f1616 : fld g1614 42 4 = .int x1569 := (hf1.1 42 4 (by omega)).trans fx1569
    have hW : WS ad cA (fun i k => (46 ≤ i ∧ i < 54) ∨ i = 83 ∨ i = (lw + 6) ∨ (i = 42 ∧ (k = 5 ∨ k = 6 ∨ k = 7)) ∨ (i = 80 ∧ (k = 7 ∨ k = 8)) ∨ i = 43) g0 K g1614 H locs := ⟨hW1, hs1, hW.2.2.tr hf1 (fun i k h => h.elim (fun h => (Or.inl h)) (fun h => h.elim (fun h => (Or.inr (Or.inl h))) (fun h => (Or.inr (Or.inr (Or.inl h))))))⟩
    refine q_goto (tgt := 62) hM dX2_goThrough_22 (by decide) ?_
    refine q_aload_n hM dX2_goThrough_62 (lv_at hl 1 rfl) ?_
    refine q_iload_n hM dX2_goThrough_63 (lv_at hl 2 rfl) ?_
    refine q_callV (As := [.int p]) (rest := []) hM hW.1 hR hC myX2_recall (kAW (v_2_13 (List.mem_of_getElem? (i := 9) rfl)) rfl) (rfl : vwCl[2]? = some (RX2, TX2, 11)) rfl lb_80.1 (shO hW.2.1 lb_80) (a_X2_recall_42 _ _ cA ad g1614 p lw hW.2.1 hG hlw ((hW.2.2.1 80 9 (by omega)).trans h_r9) ((hW.2.2.1 80 10 (by omega)).trans h_r10) (by  omega) (by  omega)) ⟨by decide, by decide⟩ rfl rfl hl.1 (Nat.le_of_ble_eq_true rfl) dX2_goThrough_64 (fun v g1618 H locs hp hW1 => ?_)
    obtain ⟨r1617, rfl, hs1, hG, hf1⟩ := hp
    have f1619 : arI g1618 43 = arI g0 43 := (hf1.2.1 43 (by omega)).trans f1615
    have f1620 : fld g1618 42 4 = .int x1569 := (hf1.1 42 4 (by omega)).trans f1616
    have hW : WS ad cA (fun i k => (46 ≤ i ∧ i < 54) ∨ i = 83 ∨ i = (lw + 6) ∨ (i = 42 ∧ (k = 5 ∨ k = 6 ∨ k = 7)) ∨ (i = 80 ∧ (k = 7 ∨ k = 8)) ∨ i = 43) g0 K g1618 H locs := ⟨hW1, hs1, hW.2.2.tr hf1 (fun i k h => h.elim (fun h => (Or.inl h)) (fun h => h.elim (fun h => (Or.inr (Or.inl h))) (fun h => h.elim (fun h => (Or.inr (Or.inr (Or.inl h)))) (fun h => (Or.inr (Or.inr (Or.inr (Or.inl (by omega)))))))))⟩
    refine q_pop hM dX2_goThrough_67 rfl ?_
    refine q_aload_n hM dX2_goThrough_68 (lv_at hl 1 rfl) ?_
    refine w_getI hM hW FG_X2_41 lb_80 (by decide) (by decide) dX2_goThrough_69 (fun x1621 fx1621 => ?_)
    refine q_if_eq (tgt := 87) hM dX2_goThrough_72 (by decide) (rfl : x1621.toInt = x1621.toInt) (fun h72 => ?_) (fun h72 => ?_)
    · exact hE _ _ _ _ _ hW.1 ⟨rfl, hW.2.1, hG, hW.2.2⟩ dX2_goThrough_87
    · refine q_iload_n hM dX2_goThrough_75 (lv_at hl 0 rfl) ?_
      refine q_iconst (v := (4 : Int32)) hM dX2_goThrough_76 (by decide) ?_
      refine q_irem hM (by decide) dX2_goThrough_77 (fun z1624 hz1624 => ?_)
      first | have tz1624 := i_remT hz1624 (rfl : z1570.toInt = z1570.toInt) (kc_4 : (4 : Int32).toInt = 4) (by omega) (by omega) | skip
      refine q_iconst (v := (3 : Int32)) hM dX2_goThrough_78 (by decide) ?_
      refine q_icmp_ne (tgt := 87) hM dX2_goThrough_79 (by decide) (rfl : z1624.toInt = z1624.toInt) (kc_3 : (3 : Int32).toInt = 3) (fun h79 => ?_) (fun h79 => ?_)
      · exact hE _ _ _ _ _ hW.1 ⟨rfl, hW.2.1, hG, hW.2.2⟩ dX2_goThrough_87
      · refine q_aload_n hM dX2_goThrough_82 (lv_at hl 1 rfl) ?_
        refine q_iload_n hM dX2_goThrough_83 (lv_at hl 2 rfl) ?_
        refine q_callV (As := [.int p]) (rest := []) hM hW.1 hR hC myX2_examine (kAW (v_2_14 (List.mem_of_getElem? (i := 1) rfl)) rfl) (rfl : vwCl[2]? = some (RX2, TX2, 11)) rfl lb_80.1 (shO hW.2.1 lb_80) (a_X2_examine_42 _ _ cA ad g1618 p hW.2.1 hG ((hW.2.2.1 80 10 (by omega)).trans h_r10) (by  omega) (by  omega) (by rw [f1619]; exact gr9)) ⟨by decide, by decide⟩ rfl rfl hl.1 (Nat.le_of_ble_eq_true rfl) dX2_goThrough_84 (fun v g1627 H locs hp hW1 => ?_)
        obtain ⟨rfl, hs1, hG, hf1⟩ := hp
        have f1628 : fld g1627 42 4 = .int x1569 := (hf1.1 42 4 (by omega)).trans f1620
        have f1629 : fld g1627 80 5 = .int x1621 := (hf1.1 80 5 (by omega)).trans fx1621
        have hW : WS ad cA (fun i k => (46 ≤ i ∧ i < 54) ∨ i = 83 ∨ i = (lw + 6) ∨ (i = 42 ∧ (k = 5 ∨ k = 6 ∨ k = 7)) ∨ (i = 80 ∧ (k = 7 ∨ k = 8)) ∨ i = 43) g0 K g1627 H locs := ⟨hW1, hs1, hW.2.2.tr hf1 (fun i k h => h.elim (fun h => (Or.inr (Or.inr (Or.inr (Or.inr (Or.inl h)))))) (fun h => h.elim (fun h => (Or.inr (Or.inr (Or.inr (Or.inl (by omega)))))) (fun h => (Or.inr (Or.inr (Or.inr (Or.inr (Or.inr h))))))))⟩
        exact hE _ _ _ _ _ hW.1 ⟨rfl, hW.2.1, hG, hW.2.2⟩ dX2_goThrough_87


set_option maxRecDepth 100000 in
set_option maxHeartbeats 4000000 in
theorem a_X2_go_42 (l : Launch) (D : va_G) (cA : Nat → ClassId) (ad : Nat → Nat) (g0 : Nat → va_E) (n : Int32)  (lw : Nat) (hSh : Shp ad cA g0) (hG : Rng g0) (hlw : isLw lw) (h_r9 : fld g0 80 9 = .ref (ad lw)) (h_r10 : fld g0 80 10 = .ref (ad 42)) : CT l NN ad cA D yX2_go cX2_go 4 none (6, 144) [.ref (ad 80), .int n] g0 (fun v g' => v = none ∧ Shp ad cA g' ∧ Rng g' ∧ FR (fun i k => (46 ≤ i ∧ i < 54) ∨ i = 83 ∨ i = (lw + 6) ∨ (i = 42 ∧ (k = 5 ∨ k = 6 ∨ k = 7)) ∨ (i = 80 ∧ (k = 7 ∨ k = 8)) ∨ i = 43 ∨ (i = 42 ∧ (k = 4))) g0 g') := by
  refine q_enterV (by decide) (Nat.le_of_ble_eq_true rfl) (fun K H locs ls _ _ hM hW0 hR hC hE hl => ?_)
  have hl : lv_has ls 4 [(0, .ref (ad 80)), (1, .int n)] := hl
  have hW : WS ad cA (fun i k => (46 ≤ i ∧ i < 54) ∨ i = 83 ∨ i = (lw + 6) ∨ (i = 42 ∧ (k = 5 ∨ k = 6 ∨ k = 7)) ∨ (i = 80 ∧ (k = 7 ∨ k = 8)) ∨ i = 43 ∨ (i = 42 ∧ (k = 4))) g0 K g0 H locs := ⟨hW0, hSh, FR.rf⟩
  have ulw := hlw
  unfold isLw at ulw
  have := i_rng n
  refine q_iconst (v := (0 : Int32)) hM dX2_go_0 (by decide) ?_
  refine q_istore_n (lv9 := [(2, .int (0 : Int32)), (0, .ref (ad 80)), (1, .int n)]) hM dX2_go_1 hl (by decide) rfl (fun ls hl => ?_)
  have L2 : ∀ (fu2 : Nat) (w2_2 : Int32) (g9 : Nat → va_E) (H : Heap) (locs : List Loc) (ls : Array Slot), (n.toInt - w2_2.toInt + 1).toNat < fu2 → (Rng g9) → (0 ≤ w2_2.toInt) → lv_has ls 4 [(0, .ref (ad 80)), (1, .int n), (2, .int w2_2)] → WS ad cA (fun i k => (46 ≤ i ∧ i < 54) ∨ i = 83 ∨ i = (lw + 6) ∨ (i = 42 ∧ (k = 5 ∨ k = 6 ∨ k = 7)) ∨ (i = 80 ∧ (k = 7 ∨ k = 8)) ∨ i = 43 ∨ (i = 42 ∧ (k = 4))) g0 K g9 H locs → XX K 0 0 H locs 2 ls [] := by
    intro fu2
    induction fu2 with
    | zero => intro w2_2 g9 H locs ls h0; omega
    | succ fu2 ih2 =>
      intro w2_2 g9 H locs ls hm2 i2_0 i2_1 hl hW
      have hG := i2_0
      have := i_rng n
      refine q_iload_n hM dX2_go_2 (lv_at hl 2 rfl) ?_
      refine q_iload_n hM dX2_go_3 (lv_at hl 1 rfl) ?_
      refine q_icmp_ge (tgt := 86) hM dX2_go_4 (by decide) (rfl : w2_2.toInt = w2_2.toInt) (rfl : n.toInt = n.toInt) (fun h4 => ?_) (fun h4 => ?_)
      · exact hE _ _ _ _ _ hW.1 ⟨rfl, hW.2.1, hG, hW.2.2⟩ dX2_go_86
      · refine q_aload_n hM dX2_go_7 (lv_at hl 0 rfl) ?_
        refine w_get (v := .ref (ad 42)) hM hW FG_X2_19 lb_80 ((hW.2.2.1 80 10 (by omega)).trans h_r10) dX2_go_8 ?_
        refine w_getI hM hW FG_X2_53 lb_42 (by decide) (by decide) dX2_go_11 (fun x1633 fx1633 => ?_)
        refine q_sipush (v := (9999 : Int32)) hM dX2_go_14 (by decide) ?_
        refine q_icmp_ge (tgt := 86) hM dX2_go_17 (by decide) (rfl : x1633.toInt = x1633.toInt) (kc_9999 : (9999 : Int32).toInt = 9999) (fun h17 => ?_) (fun h17 => ?_)
        · exact hE _ _ _ _ _ hW.1 ⟨rfl, hW.2.1, hG, hW.2.2⟩ dX2_go_86
        · refine q_iconst (v := (0 : Int32)) hM dX2_go_20 (by decide) ?_
          refine q_istore_n (lv9 := [(3, .int (0 : Int32)), (0, .ref (ad 80)), (1, .int n), (2, .int w2_2)]) hM dX2_go_21 hl (by decide) rfl (fun ls hl => ?_)
          have L22 : ∀ (fu22 : Nat) (w22_3 : Int32) (g9 : Nat → va_E) (H : Heap) (locs : List Loc) (ls : Array Slot), (8 - w22_3.toInt).toNat < fu22 → (Rng g9) → (0 ≤ w22_3.toInt) → (w22_3.toInt ≤ 8) → lv_has ls 4 [(0, .ref (ad 80)), (1, .int n), (2, .int w2_2), (3, .int w22_3)] → WS ad cA (fun i k => (46 ≤ i ∧ i < 54) ∨ i = 83 ∨ i = (lw + 6) ∨ (i = 42 ∧ (k = 5 ∨ k = 6 ∨ k = 7)) ∨ (i = 80 ∧ (k = 7 ∨ k = 8)) ∨ i = 43 ∨ (i = 42 ∧ (k = 4))) g0 K g9 H locs → XX K 0 0 H locs 22 ls [] := by
            intro fu22
            induction fu22 with
            | zero => intro w22_3 g9 H locs ls h0; omega
            | succ fu22 ih22 =>
              intro w22_3 g9 H locs ls hm22 i22_0 i22_1 i22_2 hl hW
              have hG := i22_0
              refine q_iload_n hM dX2_go_22 (lv_at hl 3 rfl) ?_
              refine q_bipush (v := (8 : Int32)) hM dX2_go_23 (by decide) ?_
              refine q_icmp_ge (tgt := 67) hM dX2_go_25 (by decide) (rfl : w22_3.toInt = w22_3.toInt) (kc_8 : (8 : Int32).toInt = 8) (fun h25 => ?_) (fun h25 => ?_)
              · refine q_aload_n hM dX2_go_67 (lv_at hl 0 rfl) ?_
                refine w_get (v := .ref (ad 42)) hM hW FG_X2_19 lb_80 ((hW.2.2.1 80 10 (by omega)).trans h_r10) dX2_go_68 ?_
                refine q_dup hM dX2_go_71 rfl ?_
                refine w_getI hM hW FG_X2_53 lb_42 (by decide) (by decide) dX2_go_72 (fun x1638 fx1638 => ?_)
                refine q_iconst (v := (1 : Int32)) hM dX2_go_75 (by decide) ?_
                refine q_iadd hM dX2_go_76 (fun z1639 hz1639 => ?_)
                first | have tz1639 := i_addT hz1639 (rfl : x1638.toInt = x1638.toInt) (kc_1 : (1 : Int32).toInt = 1) (by omega) (by omega) | skip
                refine w_put hM hW FP_X2_53 lb_42 (by omega) (Or.inl ⟨_, rfl⟩) rfl rfl dX2_go_77 (fun g1640 H locs hW e1 e2 => ?_)
                have f1641 : fld g1640 42 4 = .int z1639 := e1
                have hG := hG.put e1 e2 (rfl : rF 42 4 = (-2147483648, 2147483647)) (by decide) (by have := i_rng z1639; omega) (by have := i_rng z1639; omega)
                refine q_iinc (lv9 := fun z1642 => [(2, .int z1642), (0, .ref (ad 80)), (1, .int n), (3, .int w22_3)]) hM dX2_go_80 hl (kq := 2) rfl (by decide) (fun _ => rfl) (fun z1642 ls hz1642 hl => ?_)
                first | have tz1642 := i_addT hz1642 (rfl : w2_2.toInt = w2_2.toInt) (kc_1 : (Int32.ofInt 1).toInt = 1) (by omega) (by omega) | skip
                refine q_goto (tgt := 2) hM dX2_go_83 (by decide) ?_
                exact ih2 z1642 _ _ _ _ (by omega) hG (by omega) (lv_sub hl [1, 2, 0] rfl) hW
              · refine q_aload_n hM dX2_go_28 (lv_at hl 0 rfl) ?_
                refine w_get (v := .ref (ad 42)) hM hW FG_X2_19 lb_80 ((hW.2.2.1 80 10 (by omega)).trans h_r10) dX2_go_29 ?_
                refine w_getI hM hW FG_X2_58 lb_42 (by decide) (by decide) dX2_go_32 (fun x1644 fx1644 => ?_)
                have bx1644 := hG.f fx1644 rF_42_3 (by decide)
                refine q_iload_n hM dX2_go_35 (lv_at hl 3 rfl) ?_
                refine q_callN (host := "ForgetSchool") (As := [.int x1644, .int w22_3]) (rest := []) hM hW.1 hR hC myX11_has (List.mem_of_getElem? (i := 3) rfl) (c_X11_has _ _ cA ad g9 x1644 w22_3 hW.2.1) ⟨by decide, by decide⟩ rfl rfl hl.1 (Nat.le_of_ble_eq_true rfl) dX2_go_36 (fun v g1646 H locs hp hW1 => ?_)
                obtain ⟨r1645, rfl, hr1645, rfl⟩ := hp
                have hW : WS ad cA (fun i k => (46 ≤ i ∧ i < 54) ∨ i = 83 ∨ i = (lw + 6) ∨ (i = 42 ∧ (k = 5 ∨ k = 6 ∨ k = 7)) ∨ (i = 80 ∧ (k = 7 ∨ k = 8)) ∨ i = 43 ∨ (i = 42 ∧ (k = 4))) g0 K g9 H locs := ⟨hW1, hW.2.1, hW.2.2⟩
                first | have ltr1645 := has_lt 5 hr1645 (by omega) (by omega) | have ltr1645 := has_lt 6 hr1645 (by omega) (by omega) | have ltr1645 := has_lt 8 hr1645 (by omega) (by omega) | have ltr1645 := has_lt 12 hr1645 (by omega) (by omega) | skip
                refine q_if_eq (tgt := 61) hM dX2_go_39 (by decide) (rfl : r1645.toInt = r1645.toInt) (fun h39 => ?_) (fun h39 => ?_)
                · refine q_iinc (lv9 := fun z1648 => [(3, .int z1648), (0, .ref (ad 80)), (1, .int n), (2, .int w2_2)]) hM dX2_go_61 hl (kq := 3) rfl (by decide) (fun _ => rfl) (fun z1648 ls hz1648 hl => ?_)
                  first | have tz1648 := i_addT hz1648 (rfl : w22_3.toInt = w22_3.toInt) (kc_1 : (Int32.ofInt 1).toInt = 1) (by omega) (by omega) | skip
                  refine q_goto (tgt := 22) hM dX2_go_64 (by decide) ?_
                  exact ih22 z1648 _ _ _ _ (by omega) hG (by omega) (by omega) (lv_sub hl [1, 2, 3, 0] rfl) hW
                · refine q_aload_n hM dX2_go_42 (lv_at hl 0 rfl) ?_
                  refine w_get (v := .ref (ad 42)) hM hW FG_X2_19 lb_80 ((hW.2.2.1 80 10 (by omega)).trans h_r10) dX2_go_43 ?_
                  refine w_get (v := .ref (ad 43)) hM hW FG_X2_65 lb_42 (rf_42_0 hW.2.1) dX2_go_46 ?_
                  refine q_iload_n hM dX2_go_49 (lv_at hl 3 rfl) ?_
                  refine w_iald hM hW lb_43 (i_in (by omega) (by omega)) dX2_go_50 ?_
                  refine q_top (fun y1650 hy1650 => ?_)
                  have by1650 := hG.a hy1650 rA_43
                  refine q_bipush (v := (9 : Int32)) hM dX2_go_51 (by decide) ?_
                  refine q_icmp_gt (tgt := 61) hM dX2_go_53 (by decide) (rfl : y1650.toInt = y1650.toInt) (kc_9 : (9 : Int32).toInt = 9) (fun h53 => ?_) (fun h53 => ?_)
                  · refine q_iinc (lv9 := fun z1652 => [(3, .int z1652), (0, .ref (ad 80)), (1, .int n), (2, .int w2_2)]) hM dX2_go_61 hl (kq := 3) rfl (by decide) (fun _ => rfl) (fun z1652 ls hz1652 hl => ?_)
                    first | have tz1652 := i_addT hz1652 (rfl : w22_3.toInt = w22_3.toInt) (kc_1 : (Int32.ofInt 1).toInt = 1) (by omega) (by omega) | skip
                    refine q_goto (tgt := 22) hM dX2_go_64 (by decide) ?_
                    exact ih22 z1652 _ _ _ _ (by omega) hG (by omega) (by omega) (lv_sub hl [1, 2, 3, 0] rfl) hW
                  · refine q_aload_n hM dX2_go_56 (lv_at hl 0 rfl) ?_
                    refine q_iload_n hM dX2_go_57 (lv_at hl 3 rfl) ?_
                    refine q_callV (As := [.int w22_3]) (rest := []) hM hW.1 hR hC myX2_goThrough (kAW (v_2_10 (List.mem_of_getElem? (i := 4) rfl)) rfl) (rfl : vwCl[2]? = some (RX2, TX2, 11)) rfl lb_80.1 (shO hW.2.1 lb_80) (a_X2_goThrough_42 _ _ cA ad g9 w22_3 lw hW.2.1 hG hlw ((hW.2.2.1 80 9 (by omega)).trans h_r9) ((hW.2.2.1 80 10 (by omega)).trans h_r10) (by  omega) (by  omega) (by rw [← hy1650]; omega)) ⟨by decide, by decide⟩ rfl rfl hl.1 (Nat.le_of_ble_eq_true rfl) dX2_go_58 (fun v g1654 H locs hp hW1 => ?_)
                    obtain ⟨rfl, hs1, hG, hf1⟩ := hp
                    have f1655 : fld g1654 42 3 = .int x1644 := (hf1.1 42 3 (by omega)).trans fx1644
                    have hW : WS ad cA (fun i k => (46 ≤ i ∧ i < 54) ∨ i = 83 ∨ i = (lw + 6) ∨ (i = 42 ∧ (k = 5 ∨ k = 6 ∨ k = 7)) ∨ (i = 80 ∧ (k = 7 ∨ k = 8)) ∨ i = 43 ∨ (i = 42 ∧ (k = 4))) g0 K g1654 H locs := ⟨hW1, hs1, hW.2.2.tr hf1 (fun i k h => h.elim (fun h => (Or.inl h)) (fun h => h.elim (fun h => (Or.inr (Or.inl h))) (fun h => h.elim (fun h => (Or.inr (Or.inr (Or.inl h)))) (fun h => h.elim (fun h => (Or.inr (Or.inr (Or.inr (Or.inl h))))) (fun h => h.elim (fun h => (Or.inr (Or.inr (Or.inr (Or.inr (Or.inl h)))))) (fun h => (Or.inr (Or.inr (Or.inr (Or.inr (Or.inr (Or.inl h))))))))))))⟩
                    refine q_iinc (lv9 := fun z1656 => [(3, .int z1656), (0, .ref (ad 80)), (1, .int n), (2, .int w2_2)]) hM dX2_go_61 hl (kq := 3) rfl (by decide) (fun _ => rfl) (fun z1656 ls hz1656 hl => ?_)
                    first | have tz1656 := i_addT hz1656 (rfl : w22_3.toInt = w22_3.toInt) (kc_1 : (Int32.ofInt 1).toInt = 1) (by omega) (by omega) | skip
                    refine q_goto (tgt := 22) hM dX2_go_64 (by decide) ?_
                    exact ih22 z1656 _ _ _ _ (by omega) hG (by omega) (by omega) (lv_sub hl [1, 2, 3, 0] rfl) hW
          have := kc_0
          exact L22 _ (0 : Int32) _ _ _ _ (Nat.lt_succ_self _) hG (by omega) (by omega) (lv_sub hl [1, 2, 3, 0] rfl) hW
  have := kc_0
  exact L2 _ (0 : Int32) _ _ _ _ (Nat.lt_succ_self _) hG (by omega) (lv_sub hl [1, 2, 0] rfl) hW

theorem dX8_find_0 : decode cX8_find 0 = .ok (.aload_n 1, 1) := by decide +kernel
theorem dX8_find_1 : decode cX8_find 1 = .ok (.getfield 35, 3) := by decide +kernel
theorem dX8_find_4 : decode cX8_find 4 = .ok (.getfield 41, 3) := by decide +kernel
theorem dX8_find_7 : decode cX8_find 7 = .ok (.iload_n 2, 1) := by decide +kernel
theorem dX8_find_8 : decode cX8_find 8 = .ok (.aaload, 1) := by decide +kernel
theorem dX8_find_9 : decode cX8_find 9 = .ok (.astore 6, 2) := by decide +kernel
theorem dX8_find_11 : decode cX8_find 11 = .ok (.aload_n 1, 1) := by decide +kernel
theorem dX8_find_12 : decode cX8_find 12 = .ok (.getfield 35, 3) := by decide +kernel
theorem dX8_find_15 : decode cX8_find 15 = .ok (.iload_n 2, 1) := by decide +kernel
theorem dX8_find_16 : decode cX8_find 16 = .ok (.invokevirtual 47, 3) := by decide +kernel
theorem dX8_find_19 : decode cX8_find 19 = .ok (.iload 4, 2) := by decide +kernel
theorem dX8_find_21 : decode cX8_find 21 = .ok (.iload 5, 2) := by decide +kernel
theorem dX8_find_23 : decode cX8_find 23 = .ok (.invokestatic 51, 3) := by decide +kernel
theorem dX8_find_26 : decode cX8_find 26 = .ok (.ifCond .eq 5, 3) := by decide +kernel
theorem dX8_find_29 : decode cX8_find 29 = .ok (.iconst 0, 1) := by decide +kernel
theorem dX8_find_30 : decode cX8_find 30 = .ok (.ireturn, 1) := by decide +kernel
theorem dX8_find_31 : decode cX8_find 31 = .ok (.aload_n 0, 1) := by decide +kernel
theorem dX8_find_32 : decode cX8_find 32 = .ok (.iconst 0, 1) := by decide +kernel
theorem dX8_find_33 : decode cX8_find 33 = .ok (.putfield 31, 3) := by decide +kernel
theorem dX8_find_36 : decode cX8_find 36 = .ok (.aload_n 0, 1) := by decide +kernel
theorem dX8_find_37 : decode cX8_find 37 = .ok (.aload 6, 2) := by decide +kernel
theorem dX8_find_39 : decode cX8_find 39 = .ok (.iconst (-1), 1) := by decide +kernel
theorem dX8_find_40 : decode cX8_find 40 = .ok (.iconst (-1), 1) := by decide +kernel
theorem dX8_find_41 : decode cX8_find 41 = .ok (.invokevirtual 55, 3) := by decide +kernel
theorem dX8_find_44 : decode cX8_find 44 = .ok (.iconst 0, 1) := by decide +kernel
theorem dX8_find_45 : decode cX8_find 45 = .ok (.istore 7, 2) := by decide +kernel
theorem dX8_find_47 : decode cX8_find 47 = .ok (.iload 7, 2) := by decide +kernel
theorem dX8_find_49 : decode cX8_find 49 = .ok (.aload_n 0, 1) := by decide +kernel
theorem dX8_find_50 : decode cX8_find 50 = .ok (.getfield 31, 3) := by decide +kernel
theorem dX8_find_53 : decode cX8_find 53 = .ok (.if_icmp .ge 99, 3) := by decide +kernel
theorem dX8_find_56 : decode cX8_find 56 = .ok (.iload 7, 2) := by decide +kernel
theorem dX8_find_58 : decode cX8_find 58 = .ok (.sipush 341, 3) := by decide +kernel
theorem dX8_find_61 : decode cX8_find 61 = .ok (.if_icmp .ge 91, 3) := by decide +kernel
theorem dX8_find_64 : decode cX8_find 64 = .ok (.iconst 0, 1) := by decide +kernel
theorem dX8_find_65 : decode cX8_find 65 = .ok (.istore 8, 2) := by decide +kernel
theorem dX8_find_67 : decode cX8_find 67 = .ok (.iload 8, 2) := by decide +kernel
theorem dX8_find_69 : decode cX8_find 69 = .ok (.bipush 6, 2) := by decide +kernel
theorem dX8_find_71 : decode cX8_find 71 = .ok (.if_icmp .ge 75, 3) := by decide +kernel
theorem dX8_find_74 : decode cX8_find 74 = .ok (.iload_n 3, 1) := by decide +kernel
theorem dX8_find_75 : decode cX8_find 75 = .ok (.iload 8, 2) := by decide +kernel
theorem dX8_find_77 : decode cX8_find 77 = .ok (.invokestatic 59, 3) := by decide +kernel
theorem dX8_find_80 : decode cX8_find 80 = .ok (.ifCond .eq 60, 3) := by decide +kernel
theorem dX8_find_83 : decode cX8_find 83 = .ok (.aload_n 0, 1) := by decide +kernel
theorem dX8_find_84 : decode cX8_find 84 = .ok (.iload 7, 2) := by decide +kernel
theorem dX8_find_86 : decode cX8_find 86 = .ok (.aload 6, 2) := by decide +kernel
theorem dX8_find_88 : decode cX8_find 88 = .ok (.invokevirtual 63, 3) := by decide +kernel
theorem dX8_find_91 : decode cX8_find 91 = .ok (.aload_n 1, 1) := by decide +kernel
theorem dX8_find_92 : decode cX8_find 92 = .ok (.iload_n 2, 1) := by decide +kernel
theorem dX8_find_93 : decode cX8_find 93 = .ok (.aload_n 1, 1) := by decide +kernel
theorem dX8_find_94 : decode cX8_find 94 = .ok (.getfield 67, 3) := by decide +kernel
theorem dX8_find_97 : decode cX8_find 97 = .ok (.iload 8, 2) := by decide +kernel
theorem dX8_find_99 : decode cX8_find 99 = .ok (.aaload, 1) := by decide +kernel
theorem dX8_find_100 : decode cX8_find 100 = .ok (.invokevirtual 71, 3) := by decide +kernel
theorem dX8_find_103 : decode cX8_find 103 = .ok (.aload_n 1, 1) := by decide +kernel
theorem dX8_find_104 : decode cX8_find 104 = .ok (.getfield 35, 3) := by decide +kernel
theorem dX8_find_107 : decode cX8_find 107 = .ok (.iload_n 2, 1) := by decide +kernel
theorem dX8_find_108 : decode cX8_find 108 = .ok (.invokevirtual 47, 3) := by decide +kernel
theorem dX8_find_111 : decode cX8_find 111 = .ok (.iload 4, 2) := by decide +kernel
theorem dX8_find_113 : decode cX8_find 113 = .ok (.iload 5, 2) := by decide +kernel
theorem dX8_find_115 : decode cX8_find 115 = .ok (.invokestatic 51, 3) := by decide +kernel
theorem dX8_find_118 : decode cX8_find 118 = .ok (.ifCond .eq 12, 3) := by decide +kernel
theorem dX8_find_121 : decode cX8_find 121 = .ok (.aload_n 0, 1) := by decide +kernel
theorem dX8_find_122 : decode cX8_find 122 = .ok (.iload 7, 2) := by decide +kernel
theorem dX8_find_124 : decode cX8_find 124 = .ok (.iload 8, 2) := by decide +kernel
theorem dX8_find_126 : decode cX8_find 126 = .ok (.invokevirtual 75, 3) := by decide +kernel
theorem dX8_find_129 : decode cX8_find 129 = .ok (.ireturn, 1) := by decide +kernel
theorem dX8_find_130 : decode cX8_find 130 = .ok (.aload_n 0, 1) := by decide +kernel
theorem dX8_find_131 : decode cX8_find 131 = .ok (.aload 6, 2) := by decide +kernel
theorem dX8_find_133 : decode cX8_find 133 = .ok (.iload 7, 2) := by decide +kernel
theorem dX8_find_135 : decode cX8_find 135 = .ok (.iload 8, 2) := by decide +kernel
theorem dX8_find_137 : decode cX8_find 137 = .ok (.invokevirtual 55, 3) := by decide +kernel
theorem dX8_find_140 : decode cX8_find 140 = .ok (.iinc 8 1, 3) := by decide +kernel
theorem dX8_find_143 : decode cX8_find 143 = .ok (.goto (-76), 3) := by decide +kernel
theorem dX8_find_146 : decode cX8_find 146 = .ok (.iinc 7 1, 3) := by decide +kernel
theorem dX8_find_149 : decode cX8_find 149 = .ok (.goto (-102), 3) := by decide +kernel
theorem dX8_find_152 : decode cX8_find 152 = .ok (.iconst (-1), 1) := by decide +kernel
theorem dX8_find_153 : decode cX8_find 153 = .ok (.ireturn, 1) := by decide +kernel
theorem FG_X8_41 : FG RX8 41 7 8 2 := ⟨RX7, TX7, rfl, wX7, by decide, kAW (v_0_5 (List.mem_of_getElem? (i := 2) rfl)) rfl, rfl⟩
theorem myX8_fits : MS yX8_fits cX8_fits 3 (some FieldType.boolean) 3 := ⟨kAW (v_3_5 (List.mem_of_getElem? (i := 0) rfl)) rfl, kAW (v_0_0 (List.mem_of_getElem? (i := 11) rfl)) rfl, kAW (v_3_4 (List.mem_of_getElem? (i := 15) rfl)) rfl, by decide, by decide, by decide +kernel⟩
theorem myX8_add : MI yX8_add cX8_add 10 none 3 := ⟨kAW (v_3_5 (List.mem_of_getElem? (i := 5) rfl)) rfl, kAW (v_0_0 (List.mem_of_getElem? (i := 11) rfl)) rfl, kAW (v_3_5 (List.mem_of_getElem? (i := 4) rfl)) rfl, kAW (tp_t1 (List.mem_of_getElem? (i := 9) rfl)) rfl, by decide, by decide, by decide +kernel⟩
theorem myX8_unpack : MI yX8_unpack cX8_unpack 5 none 2 := ⟨kAW (v_3_5 (List.mem_of_getElem? (i := 13) rfl)) rfl, kAW (v_0_0 (List.mem_of_getElem? (i := 11) rfl)) rfl, kAW (v_3_5 (List.mem_of_getElem? (i := 12) rfl)) rfl, kAW (tp_t1 (List.mem_of_getElem? (i := 10) rfl)) rfl, by decide, by decide, by decide +kernel⟩
theorem FG_X8_67 : FG RX8 67 2 11 1 := ⟨RX2, TX2, rfl, wX2, by decide, kAW (v_0_14 (List.mem_of_getElem? (i := 5) rfl)) rfl, rfl⟩
theorem myX8_write : MI yX8_write cX8_write 6 (some FieldType.int) 2 := ⟨kAW (v_3_6 (List.mem_of_getElem? (i := 6) rfl)) rfl, kAW (v_0_0 (List.mem_of_getElem? (i := 11) rfl)) rfl, kAW (v_3_6 (List.mem_of_getElem? (i := 5) rfl)) rfl, kAW (tp_t1 (List.mem_of_getElem? (i := 11) rfl)) rfl, by decide, by decide, by decide +kernel⟩
set_option maxRecDepth 100000 in
set_option maxHeartbeats 4000000 in
theorem a_X8_find (l : Launch) (D : va_G) (cA : Nat → ClassId) (ad : Nat → Nat) (g0 : Nat → va_E) (p : Int32) (as : Int32) (go : Int32) (ke : Int32)  (lw : Nat) (hSh : Shp ad cA g0) (hG : Rng g0) (hlw : isLw lw) (h_r9 : fld g0 80 9 = .ref (ad lw)) (h_r10 : fld g0 80 10 = .ref (ad 42)) (p0 : 0 ≤ p.toInt) (p7 : p.toInt < 8) : CT l NN ad cA D yX8_find cX8_find 9 (some FieldType.int) (6, 143) [.ref (ad 120), .ref (ad 80), .int p, .int as, .int go, .int ke] g0 (fun v g' => ∃ (r : Int32), v = some (.int r) ∧ Shp ad cA g' ∧ Rng g' ∧ FR (fun i k => (46 ≤ i ∧ i < 54) ∨ i = 83 ∨ i = (lw + 6) ∨ (i = 42 ∧ (k = 6)) ∨ (i = 120 ∧ (k = 6)) ∨ i = 121 ∨ i = 122 ∨ i = 123 ∨ i = 124 ∨ i = 125 ∨ i = 126) g0 g' ∧ (-1 ≤ r.toInt ∧ r.toInt ≤ 5)) := by
  refine q_enterI (by decide) (Nat.le_of_ble_eq_true rfl) rfl (fun K H locs ls _ _ hM hW0 hR hC hE hl => ?_)
  have hl : lv_has ls 9 [(0, .ref (ad 120)), (1, .ref (ad 80)), (2, .int p), (3, .int as), (4, .int go), (5, .int ke)] := hl
  have hW : WS ad cA (fun i k => (46 ≤ i ∧ i < 54) ∨ i = 83 ∨ i = (lw + 6) ∨ (i = 42 ∧ (k = 6)) ∨ (i = 120 ∧ (k = 6)) ∨ i = 121 ∨ i = 122 ∨ i = 123 ∨ i = 124 ∨ i = 125 ∨ i = 126) g0 K g0 H locs := ⟨hW0, hSh, FR.rf⟩
  have ulw := hlw
  unfold isLw at ulw
  refine q_aload_n hM dX8_find_0 (lv_at hl 1 rfl) ?_
  refine w_getP hM hW ((hW.2.2.1 80 10 (by omega)).trans h_r10) dX8_find_1 ?_
  refine w_get (v := .ref (ad 45)) hM hW FG_X8_41 lb_42 (rf_42_2 hW.2.1) dX8_find_4 ?_
  refine q_iload_n hM dX8_find_7 (lv_at hl 2 rfl) ?_
  refine w_aald hM hW lb_45 (Or.inl rfl) (i_in (by omega) (by omega)) (aq (aq_45 hW.2.1) (by omega) (by omega)) dX8_find_8 ?_
  refine q_astore (lv9 := [(6, .ref (ad (46 + 1 * p.toInt.toNat))), (0, .ref (ad 120)), (1, .ref (ad 80)), (2, .int p), (3, .int as), (4, .int go), (5, .int ke)]) hM dX8_find_9 hl (by decide) rfl (fun ls hl => ?_)
  refine q_aload_n hM dX8_find_11 (lv_at hl 2 rfl) ?_
  refine w_getP hM hW ((hW.2.2.1 80 10 (by omega)).trans h_r10) dX8_find_12 ?_
  refine q_iload_n hM dX8_find_15 (lv_at hl 3 rfl) ?_
  refine q_callV (As := [.int p]) (rest := []) hM hW.1 hR hC myX7_known (kAW (v_3_4 (List.mem_of_getElem? (i := 13) rfl)) rfl) (rfl : vwCl[7]? = some (RX7, TX7, 8)) rfl lb_42.1 (shO hW.2.1 lb_42) (a_X7_known _ _ cA ad g0 42 p hW.2.1 hG (Or.inr rfl : isPb 42) (by  omega) (by  omega)) ⟨by decide, by decide⟩ rfl rfl hl.1 (Nat.le_of_ble_eq_true rfl) dX8_find_16 (fun v g1658 H locs hp hW1 => ?_)
  obtain ⟨r1657, rfl, hr1657, rfl⟩ := hp
  have hW : WS ad cA (fun i k => (46 ≤ i ∧ i < 54) ∨ i = 83 ∨ i = (lw + 6) ∨ (i = 42 ∧ (k = 6)) ∨ (i = 120 ∧ (k = 6)) ∨ i = 121 ∨ i = 122 ∨ i = 123 ∨ i = 124 ∨ i = 125 ∨ i = 126) g0 K g0 H locs := ⟨hW1, hW.2.1, hW.2.2⟩
  refine q_iload hM dX8_find_19 (lv_at hl 5 rfl) ?_
  refine q_iload hM dX8_find_21 (lv_at hl 6 rfl) ?_
  refine q_callS (As := [.int r1657, .int go, .int ke]) (rest := []) hM hW.1 hR hC myX8_fits (kAW (v_3_4 (List.mem_of_getElem? (i := 14) rfl)) rfl) (a_X8_fits _ _ cA ad g0 r1657 go ke hW.2.1 hG) ⟨by decide, by decide⟩ rfl rfl hl.1 (Nat.le_of_ble_eq_true rfl) dX8_find_23 (fun v g1660 H locs hp hW1 => ?_)
  obtain ⟨r1659, rfl, hr1659, rfl⟩ := hp
  have hW : WS ad cA (fun i k => (46 ≤ i ∧ i < 54) ∨ i = 83 ∨ i = (lw + 6) ∨ (i = 42 ∧ (k = 6)) ∨ (i = 120 ∧ (k = 6)) ∨ i = 121 ∨ i = 122 ∨ i = 123 ∨ i = 124 ∨ i = 125 ∨ i = 126) g0 K g0 H locs := ⟨hW1, hW.2.1, hW.2.2⟩
  refine q_if_eq (tgt := 31) hM dX8_find_26 (by decide) (rfl : r1659.toInt = r1659.toInt) (fun h26 => ?_) (fun h26 => ?_)
  · refine q_aload_n hM dX8_find_31 (lv_at hl 1 rfl) ?_
    refine q_iconst (v := (0 : Int32)) hM dX8_find_32 (by decide) ?_
    refine w_put hM hW FP_X8_31 lb_120 (by omega) (Or.inl ⟨_, rfl⟩) rfl rfl dX8_find_33 (fun g1662 H locs hW e1 e2 => ?_)
    have f1663 : fld g1662 120 6 = .int (0 : Int32) := e1
    have hG := hG.put e1 e2 rF_120_6 (by decide) (by have := kc_0; have := i_rng (0 : Int32); omega) (by have := kc_0; have := i_rng (0 : Int32); omega)
    refine q_aload_n hM dX8_find_36 (lv_at hl 1 rfl) ?_
    refine q_aload hM dX8_find_37 (lv_at hl 0 rfl) ?_
    refine q_iconst (v := ((-1) : Int32)) hM dX8_find_39 (by decide) ?_
    refine q_iconst (v := ((-1) : Int32)) hM dX8_find_40 (by decide) ?_
    refine q_callV (As := [.ref (ad (46 + 1 * p.toInt.toNat)), .int ((-1) : Int32), .int ((-1) : Int32)]) (rest := []) hM hW.1 hR hC myX8_add (kAW (v_3_5 (List.mem_of_getElem? (i := 2) rfl)) rfl) (rfl : vwCl[8]? = some (RX8, TX8, 7)) rfl lb_120.1 (shO hW.2.1 lb_120) (a_X8_add _ _ cA ad g1662 (46 + 1 * p.toInt.toNat) ((-1) : Int32) ((-1) : Int32) hW.2.1 hG (by unfold isSr; omega : isSr (46 + 1 * p.toInt.toNat)) (by have := kc_m1; have := kc_m1; omega) (by have := kc_m1; have := kc_m1; omega)) ⟨by decide, by decide⟩ rfl rfl hl.1 (Nat.le_of_ble_eq_true rfl) dX8_find_41 (fun v g1664 H locs hp hW1 => ?_)
    obtain ⟨rfl, hs1, hG, hf1⟩ := hp
    have hW : WS ad cA (fun i k => (46 ≤ i ∧ i < 54) ∨ i = 83 ∨ i = (lw + 6) ∨ (i = 42 ∧ (k = 6)) ∨ (i = 120 ∧ (k = 6)) ∨ i = 121 ∨ i = 122 ∨ i = 123 ∨ i = 124 ∨ i = 125 ∨ i = 126) g0 K g1664 H locs := ⟨hW1, hs1, hW.2.2.tr hf1 (fun i k h => h.elim (fun h => (Or.inr (Or.inr (Or.inr (Or.inr (Or.inr (Or.inr (Or.inl h)))))))) (fun h => h.elim (fun h => (Or.inr (Or.inr (Or.inr (Or.inr (Or.inr (Or.inr (Or.inr (Or.inl h))))))))) (fun h => h.elim (fun h => (Or.inr (Or.inr (Or.inr (Or.inr (Or.inr (Or.inr (Or.inr (Or.inr (Or.inl h)))))))))) (fun h => h.elim (fun h => (Or.inr (Or.inr (Or.inr (Or.inr (Or.inr (Or.inr (Or.inr (Or.inr (Or.inr (Or.inl h))))))))))) (fun h => h.elim (fun h => (Or.inr (Or.inr (Or.inr (Or.inr (Or.inr (Or.inr (Or.inr (Or.inr (Or.inr (Or.inr h))))))))))) (fun h => (Or.inr (Or.inr (Or.inr (Or.inr (Or.inl h)))))))))))⟩
    refine q_iconst (v := (0 : Int32)) hM dX8_find_44 (by decide) ?_
    refine q_istore (lv9 := [(7, .int (0 : Int32)), (6, .ref (ad (46 + 1 * p.toInt.toNat))), (0, .ref (ad 120)), (1, .ref (ad 80)), (2, .int p), (3, .int as), (4, .int go), (5, .int ke)]) hM dX8_find_45 hl (by decide) rfl (fun ls hl => ?_)
    have L47 : ∀ (fu47 : Nat) (w47_7 : Int32) (g9 : Nat → va_E) (H : Heap) (locs : List Loc) (ls : Array Slot), (341 - w47_7.toInt).toNat < fu47 → (Rng g9) → (0 ≤ w47_7.toInt) → (w47_7.toInt ≤ 341) → lv_has ls 9 [(0, .ref (ad 120)), (1, .ref (ad 80)), (2, .int p), (3, .int as), (4, .int go), (5, .int ke), (6, .ref (ad (46 + 1 * p.toInt.toNat))), (7, .int w47_7)] → WS ad cA (fun i k => (46 ≤ i ∧ i < 54) ∨ i = 83 ∨ i = (lw + 6) ∨ (i = 42 ∧ (k = 6)) ∨ (i = 120 ∧ (k = 6)) ∨ i = 121 ∨ i = 122 ∨ i = 123 ∨ i = 124 ∨ i = 125 ∨ i = 126) g0 K g9 H locs → XX K 0 0 H locs 47 ls [] := by
      intro fu47
      induction fu47 with
      | zero => intro w47_7 g9 H locs ls h0; omega
      | succ fu47 ih47 =>
        intro w47_7 g9 H locs ls hm47 i47_0 i47_1 i47_2 hl hW
        have hG := i47_0
        refine q_iload hM dX8_find_47 (lv_at hl 7 rfl) ?_
        refine q_aload_n hM dX8_find_49 (lv_at hl 0 rfl) ?_
        refine w_getI hM hW FG_X8_31 lb_120 (by decide) (by decide) dX8_find_50 (fun x1666 fx1666 => ?_)
        have bx1666 := hG.f fx1666 rF_120_6 (by decide)
        refine q_icmp_ge (tgt := 152) hM dX8_find_53 (by decide) (rfl : w47_7.toInt = w47_7.toInt) (rfl : x1666.toInt = x1666.toInt) (fun h53 => ?_) (fun h53 => ?_)
        · refine q_iconst (v := ((-1) : Int32)) hM dX8_find_152 (by decide) ?_
          exact hE _ _ _ _ _ _ hW.1 ⟨_, rfl, hW.2.1, hG, hW.2.2, (by have := kc_m1; omega)⟩ dX8_find_153
        · refine q_iload hM dX8_find_56 (lv_at hl 7 rfl) ?_
          refine q_sipush (v := (341 : Int32)) hM dX8_find_58 (by decide) ?_
          refine q_icmp_ge (tgt := 152) hM dX8_find_61 (by decide) (rfl : w47_7.toInt = w47_7.toInt) (kc_341 : (341 : Int32).toInt = 341) (fun h61 => ?_) (fun h61 => ?_)
          · refine q_iconst (v := ((-1) : Int32)) hM dX8_find_152 (by decide) ?_
            exact hE _ _ _ _ _ _ hW.1 ⟨_, rfl, hW.2.1, hG, hW.2.2, (by have := kc_m1; omega)⟩ dX8_find_153
          · refine q_iconst (v := (0 : Int32)) hM dX8_find_64 (by decide) ?_
            refine q_istore (lv9 := [(8, .int (0 : Int32)), (0, .ref (ad 120)), (1, .ref (ad 80)), (2, .int p), (3, .int as), (4, .int go), (5, .int ke), (6, .ref (ad (46 + 1 * p.toInt.toNat))), (7, .int w47_7)]) hM dX8_find_65 hl (by decide) rfl (fun ls hl => ?_)
            have L67 : ∀ (fu67 : Nat) (w67_8 : Int32) (g9 : Nat → va_E) (H : Heap) (locs : List Loc) (ls : Array Slot), (6 - w67_8.toInt).toNat < fu67 → (Rng g9) → (0 ≤ w67_8.toInt) → (w67_8.toInt ≤ 6) → lv_has ls 9 [(0, .ref (ad 120)), (1, .ref (ad 80)), (2, .int p), (3, .int as), (4, .int go), (5, .int ke), (6, .ref (ad (46 + 1 * p.toInt.toNat))), (7, .int w47_7), (8, .int w67_8)] → WS ad cA (fun i k => (46 ≤ i ∧ i < 54) ∨ i = 83 ∨ i = (lw + 6) ∨ (i = 42 ∧ (k = 6)) ∨ (i = 120 ∧ (k = 6)) ∨ i = 121 ∨ i = 122 ∨ i = 123 ∨ i = 124 ∨ i = 125 ∨ i = 126) g0 K g9 H locs → XX K 0 0 H locs 67 ls [] := by
              intro fu67
              induction fu67 with
              | zero => intro w67_8 g9 H locs ls h0; omega
              | succ fu67 ih67 =>
                intro w67_8 g9 H locs ls hm67 i67_0 i67_1 i67_2 hl hW
                have hG := i67_0
                refine q_iload hM dX8_find_67 (lv_at hl 8 rfl) ?_
                refine q_bipush (v := (6 : Int32)) hM dX8_find_69 (by decide) ?_
                refine q_icmp_ge (tgt := 146) hM dX8_find_71 (by decide) (rfl : w67_8.toInt = w67_8.toInt) (kc_6 : (6 : Int32).toInt = 6) (fun h71 => ?_) (fun h71 => ?_)
                · refine q_iinc (lv9 := fun z1673 => [(7, .int z1673), (0, .ref (ad 120)), (1, .ref (ad 80)), (2, .int p), (3, .int as), (4, .int go), (5, .int ke), (6, .ref (ad (46 + 1 * p.toInt.toNat))), (8, .int w67_8)]) hM dX8_find_146 hl (kq := 7) rfl (by decide) (fun _ => rfl) (fun z1673 ls hz1673 hl => ?_)
                  first | have tz1673 := i_addT hz1673 (rfl : w47_7.toInt = w47_7.toInt) (kc_1 : (Int32.ofInt 1).toInt = 1) (by omega) (by omega) | skip
                  refine q_goto (tgt := 47) hM dX8_find_149 (by decide) ?_
                  exact ih47 z1673 _ _ _ _ (by omega) hG (by omega) (by omega) (lv_sub hl [1, 2, 3, 4, 5, 6, 7, 0] rfl) hW
                · refine q_iload_n hM dX8_find_74 (lv_at hl 3 rfl) ?_
                  refine q_iload hM dX8_find_75 (lv_at hl 8 rfl) ?_
                  refine q_callN (host := "ForgetSchool") (As := [.int as, .int w67_8]) (rest := []) hM hW.1 hR hC myX11_has (List.mem_of_getElem? (i := 7) rfl) (c_X11_has _ _ cA ad g9 as w67_8 hW.2.1) ⟨by decide, by decide⟩ rfl rfl hl.1 (Nat.le_of_ble_eq_true rfl) dX8_find_77 (fun v g1676 H locs hp hW1 => ?_)
                  obtain ⟨r1675, rfl, hr1675, rfl⟩ := hp
                  have hW : WS ad cA (fun i k => (46 ≤ i ∧ i < 54) ∨ i = 83 ∨ i = (lw + 6) ∨ (i = 42 ∧ (k = 6)) ∨ (i = 120 ∧ (k = 6)) ∨ i = 121 ∨ i = 122 ∨ i = 123 ∨ i = 124 ∨ i = 125 ∨ i = 126) g0 K g9 H locs := ⟨hW1, hW.2.1, hW.2.2⟩
                  first | have ltr1675 := has_lt 5 hr1675 (by omega) (by omega) | have ltr1675 := has_lt 6 hr1675 (by omega) (by omega) | have ltr1675 := has_lt 8 hr1675 (by omega) (by omega) | have ltr1675 := has_lt 12 hr1675 (by omega) (by omega) | skip
                  refine q_if_eq (tgt := 140) hM dX8_find_80 (by decide) (rfl : r1675.toInt = r1675.toInt) (fun h80 => ?_) (fun h80 => ?_)
                  · refine q_iinc (lv9 := fun z1678 => [(8, .int z1678), (0, .ref (ad 120)), (1, .ref (ad 80)), (2, .int p), (3, .int as), (4, .int go), (5, .int ke), (6, .ref (ad (46 + 1 * p.toInt.toNat))), (7, .int w47_7)]) hM dX8_find_140 hl (kq := 8) rfl (by decide) (fun _ => rfl) (fun z1678 ls hz1678 hl => ?_)
                    first | have tz1678 := i_addT hz1678 (rfl : w67_8.toInt = w67_8.toInt) (kc_1 : (Int32.ofInt 1).toInt = 1) (by omega) (by omega) | skip
                    refine q_goto (tgt := 67) hM dX8_find_143 (by decide) ?_
                    exact ih67 z1678 _ _ _ _ (by omega) hG (by omega) (by omega) (lv_sub hl [1, 2, 3, 4, 5, 6, 7, 8, 0] rfl) hW
                  · refine q_aload_n hM dX8_find_83 (lv_at hl 0 rfl) ?_
                    refine q_iload hM dX8_find_84 (lv_at hl 7 rfl) ?_
                    refine q_aload hM dX8_find_86 (lv_at hl 6 rfl) ?_
                    refine q_callV (As := [.int w47_7, .ref (ad (46 + 1 * p.toInt.toNat))]) (rest := []) hM hW.1 hR hC myX8_unpack (kAW (v_3_5 (List.mem_of_getElem? (i := 10) rfl)) rfl) (rfl : vwCl[8]? = some (RX8, TX8, 7)) rfl lb_120.1 (shO hW.2.1 lb_120) (a_X8_unpack _ _ cA ad g9 w47_7 (46 + 1 * p.toInt.toNat) hW.2.1 hG (by unfold isSr; omega : isSr (46 + 1 * p.toInt.toNat)) (by  omega) (by  omega)) ⟨by decide, by decide⟩ rfl rfl hl.1 (Nat.le_of_ble_eq_true rfl) dX8_find_88 (fun v g1680 H locs hp hW1 => ?_)
                    obtain ⟨rfl, hs1, hG, hf1⟩ := hp
                    have hW : WS ad cA (fun i k => (46 ≤ i ∧ i < 54) ∨ i = 83 ∨ i = (lw + 6) ∨ (i = 42 ∧ (k = 6)) ∨ (i = 120 ∧ (k = 6)) ∨ i = 121 ∨ i = 122 ∨ i = 123 ∨ i = 124 ∨ i = 125 ∨ i = 126) g0 K g1680 H locs := ⟨hW1, hs1, hW.2.2.tr hf1 (fun i k h => (by omega))⟩
                    refine q_aload_n hM dX8_find_91 (lv_at hl 1 rfl) ?_
                    refine q_iload_n hM dX8_find_92 (lv_at hl 2 rfl) ?_
                    refine q_aload_n hM dX8_find_93 (lv_at hl 1 rfl) ?_
                    refine w_get (v := .ref (ad 81)) hM hW FG_X8_67 lb_80 (rf_80_1 hW.2.1) dX8_find_94 ?_
                    refine q_iload hM dX8_find_97 (lv_at hl 8 rfl) ?_
                    refine w_aald hM hW lb_81 (Or.inr rfl) (i_in (by omega) (by omega)) (aq (aq_81 hW.2.1) (by omega) (by omega)) dX8_find_99 ?_
                    refine q_callV (As := [.int p, .ref (ad (84 + 3 * w67_8.toInt.toNat))]) (rest := []) hM hW.1 hR hC myX2_turn (kAW (v_3_5 (List.mem_of_getElem? (i := 15) rfl)) rfl) (rfl : vwCl[2]? = some (RX2, TX2, 11)) rfl lb_80.1 (shO hW.2.1 lb_80) (a_X2_turn_42 _ _ cA ad g1680 p (84 + 3 * w67_8.toInt.toNat) lw hW.2.1 hG (isAt_art (by omega) : isAt (84 + 3 * w67_8.toInt.toNat)) hlw ((hW.2.2.1 80 9 (by omega)).trans h_r9) ((hW.2.2.1 80 10 (by omega)).trans h_r10) (by  omega) (by  omega)) ⟨by decide, by decide⟩ rfl rfl hl.1 (Nat.le_of_ble_eq_true rfl) dX8_find_100 (fun v g1681 H locs hp hW1 => ?_)
                    obtain ⟨rfl, hs1, hG, hf1⟩ := hp
                    have hW : WS ad cA (fun i k => (46 ≤ i ∧ i < 54) ∨ i = 83 ∨ i = (lw + 6) ∨ (i = 42 ∧ (k = 6)) ∨ (i = 120 ∧ (k = 6)) ∨ i = 121 ∨ i = 122 ∨ i = 123 ∨ i = 124 ∨ i = 125 ∨ i = 126) g0 K g1681 H locs := ⟨hW1, hs1, hW.2.2.tr hf1 (fun i k h => h.elim (fun h => (Or.inl h)) (fun h => h.elim (fun h => (Or.inr (Or.inl h))) (fun h => h.elim (fun h => (Or.inr (Or.inr (Or.inl h)))) (fun h => (Or.inr (Or.inr (Or.inr (Or.inl h))))))))⟩
                    refine q_aload_n hM dX8_find_103 (lv_at hl 1 rfl) ?_
                    refine w_getP hM hW ((hW.2.2.1 80 10 (by omega)).trans h_r10) dX8_find_104 ?_
                    refine q_iload_n hM dX8_find_107 (lv_at hl 2 rfl) ?_
                    refine q_callV (As := [.int p]) (rest := []) hM hW.1 hR hC myX7_known (kAW (v_3_4 (List.mem_of_getElem? (i := 13) rfl)) rfl) (rfl : vwCl[7]? = some (RX7, TX7, 8)) rfl lb_42.1 (shO hW.2.1 lb_42) (a_X7_known _ _ cA ad g1681 42 p hW.2.1 hG (Or.inr rfl : isPb 42) (by  omega) (by  omega)) ⟨by decide, by decide⟩ rfl rfl hl.1 (Nat.le_of_ble_eq_true rfl) dX8_find_108 (fun v g1683 H locs hp hW1 => ?_)
                    obtain ⟨r1682, rfl, hr1682, rfl⟩ := hp
                    have hW : WS ad cA (fun i k => (46 ≤ i ∧ i < 54) ∨ i = 83 ∨ i = (lw + 6) ∨ (i = 42 ∧ (k = 6)) ∨ (i = 120 ∧ (k = 6)) ∨ i = 121 ∨ i = 122 ∨ i = 123 ∨ i = 124 ∨ i = 125 ∨ i = 126) g0 K g1681 H locs := ⟨hW1, hW.2.1, hW.2.2⟩
                    refine q_iload hM dX8_find_111 (lv_at hl 4 rfl) ?_
                    refine q_iload hM dX8_find_113 (lv_at hl 5 rfl) ?_
                    refine q_callS (As := [.int r1682, .int go, .int ke]) (rest := []) hM hW.1 hR hC myX8_fits (kAW (v_3_4 (List.mem_of_getElem? (i := 14) rfl)) rfl) (a_X8_fits _ _ cA ad g1681 r1682 go ke hW.2.1 hG) ⟨by decide, by decide⟩ rfl rfl hl.1 (Nat.le_of_ble_eq_true rfl) dX8_find_115 (fun v g1685 H locs hp hW1 => ?_)
                    obtain ⟨r1684, rfl, hr1684, rfl⟩ := hp
                    have hW : WS ad cA (fun i k => (46 ≤ i ∧ i < 54) ∨ i = 83 ∨ i = (lw + 6) ∨ (i = 42 ∧ (k = 6)) ∨ (i = 120 ∧ (k = 6)) ∨ i = 121 ∨ i = 122 ∨ i = 123 ∨ i = 124 ∨ i = 125 ∨ i = 126) g0 K g1681 H locs := ⟨hW1, hW.2.1, hW.2.2⟩
                    refine q_if_eq (tgt := 130) hM dX8_find_118 (by decide) (rfl : r1684.toInt = r1684.toInt) (fun h118 => ?_) (fun h118 => ?_)
                    · refine q_aload_n hM dX8_find_130 (lv_at hl 0 rfl) ?_
                      refine q_aload hM dX8_find_131 (lv_at hl 6 rfl) ?_
                      refine q_iload hM dX8_find_133 (lv_at hl 7 rfl) ?_
                      refine q_iload hM dX8_find_135 (lv_at hl 8 rfl) ?_
                      refine q_callV (As := [.ref (ad (46 + 1 * p.toInt.toNat)), .int w47_7, .int w67_8]) (rest := []) hM hW.1 hR hC myX8_add (kAW (v_3_5 (List.mem_of_getElem? (i := 2) rfl)) rfl) (rfl : vwCl[8]? = some (RX8, TX8, 7)) rfl lb_120.1 (shO hW.2.1 lb_120) (a_X8_add _ _ cA ad g1681 (46 + 1 * p.toInt.toNat) w47_7 w67_8 hW.2.1 hG (by unfold isSr; omega : isSr (46 + 1 * p.toInt.toNat)) (by  omega) (by  omega)) ⟨by decide, by decide⟩ rfl rfl hl.1 (Nat.le_of_ble_eq_true rfl) dX8_find_137 (fun v g1687 H locs hp hW1 => ?_)
                      obtain ⟨rfl, hs1, hG, hf1⟩ := hp
                      have hW : WS ad cA (fun i k => (46 ≤ i ∧ i < 54) ∨ i = 83 ∨ i = (lw + 6) ∨ (i = 42 ∧ (k = 6)) ∨ (i = 120 ∧ (k = 6)) ∨ i = 121 ∨ i = 122 ∨ i = 123 ∨ i = 124 ∨ i = 125 ∨ i = 126) g0 K g1687 H locs := ⟨hW1, hs1, hW.2.2.tr hf1 (fun i k h => h.elim (fun h => (Or.inr (Or.inr (Or.inr (Or.inr (Or.inr (Or.inr (Or.inl h)))))))) (fun h => h.elim (fun h => (Or.inr (Or.inr (Or.inr (Or.inr (Or.inr (Or.inr (Or.inr (Or.inl h))))))))) (fun h => h.elim (fun h => (Or.inr (Or.inr (Or.inr (Or.inr (Or.inr (Or.inr (Or.inr (Or.inr (Or.inl h)))))))))) (fun h => h.elim (fun h => (Or.inr (Or.inr (Or.inr (Or.inr (Or.inr (Or.inr (Or.inr (Or.inr (Or.inr (Or.inl h))))))))))) (fun h => h.elim (fun h => (Or.inr (Or.inr (Or.inr (Or.inr (Or.inr (Or.inr (Or.inr (Or.inr (Or.inr (Or.inr h))))))))))) (fun h => (Or.inr (Or.inr (Or.inr (Or.inr (Or.inl h)))))))))))⟩
                      refine q_iinc (lv9 := fun z1688 => [(8, .int z1688), (0, .ref (ad 120)), (1, .ref (ad 80)), (2, .int p), (3, .int as), (4, .int go), (5, .int ke), (6, .ref (ad (46 + 1 * p.toInt.toNat))), (7, .int w47_7)]) hM dX8_find_140 hl (kq := 8) rfl (by decide) (fun _ => rfl) (fun z1688 ls hz1688 hl => ?_)
                      first | have tz1688 := i_addT hz1688 (rfl : w67_8.toInt = w67_8.toInt) (kc_1 : (Int32.ofInt 1).toInt = 1) (by omega) (by omega) | skip
                      refine q_goto (tgt := 67) hM dX8_find_143 (by decide) ?_
                      exact ih67 z1688 _ _ _ _ (by omega) hG (by omega) (by omega) (lv_sub hl [1, 2, 3, 4, 5, 6, 7, 8, 0] rfl) hW
                    · refine q_aload_n hM dX8_find_121 (lv_at hl 0 rfl) ?_
                      refine q_iload hM dX8_find_122 (lv_at hl 7 rfl) ?_
                      refine q_iload hM dX8_find_124 (lv_at hl 8 rfl) ?_
                      refine q_callV (As := [.int w47_7, .int w67_8]) (rest := []) hM hW.1 hR hC myX8_write (kAW (v_3_6 (List.mem_of_getElem? (i := 3) rfl)) rfl) (rfl : vwCl[8]? = some (RX8, TX8, 7)) rfl lb_120.1 (shO hW.2.1 lb_120) (a_X8_write _ _ cA ad g1681 w47_7 w67_8 hW.2.1 hG (by  omega) (by  omega)) ⟨by decide, by decide⟩ rfl rfl hl.1 (Nat.le_of_ble_eq_true rfl) dX8_find_126 (fun v g1691 H locs hp hW1 => ?_)
                      obtain ⟨r1690, rfl, hs1, hG, hf1, hr1690⟩ := hp
                      have hW : WS ad cA (fun i k => (46 ≤ i ∧ i < 54) ∨ i = 83 ∨ i = (lw + 6) ∨ (i = 42 ∧ (k = 6)) ∨ (i = 120 ∧ (k = 6)) ∨ i = 121 ∨ i = 122 ∨ i = 123 ∨ i = 124 ∨ i = 125 ∨ i = 126) g0 K g1691 H locs := ⟨hW1, hs1, hW.2.2.tr hf1 (fun i k h => (Or.inr (Or.inr (Or.inr (Or.inr (Or.inr (Or.inl h)))))))⟩
                      exact hE _ _ _ _ _ _ hW.1 ⟨_, rfl, hW.2.1, hG, hW.2.2, (by omega)⟩ dX8_find_129
            have := kc_0
            exact L67 _ (0 : Int32) _ _ _ _ (Nat.lt_succ_self _) hG (by omega) (by omega) (lv_sub hl [1, 2, 3, 4, 5, 6, 7, 8, 0] rfl) hW
    have := kc_0
    exact L47 _ (0 : Int32) _ _ _ _ (Nat.lt_succ_self _) hG (by omega) (by omega) (lv_sub hl [2, 3, 4, 5, 6, 7, 1, 0] rfl) hW
  · refine q_iconst (v := (0 : Int32)) hM dX8_find_29 (by decide) ?_
    exact hE _ _ _ _ _ _ hW.1 ⟨_, rfl, hW.2.1, hG, hW.2.2, (by have := kc_0; omega)⟩ dX8_find_30
