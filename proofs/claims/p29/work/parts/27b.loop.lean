theorem dL_law_18 : decode cL_law 18 = .ok (.iload_n 3, 1) := by decide +kernel
theorem dL_law_19 : decode cL_law 19 = .ok (.aload_n 0, 1) := by decide +kernel
theorem dL_law_20 : decode cL_law 20 = .ok (.arraylength, 1) := by decide +kernel
theorem dL_law_21 : decode cL_law 21 = .ok (.bipush 6, 2) := by decide +kernel
theorem dL_law_23 : decode cL_law 23 = .ok (.isub, 1) := by decide +kernel
theorem dL_law_24 : decode cL_law 24 = .ok (.if_icmp .gt 1439, 3) := by decide +kernel
theorem dL_law_27 : decode cL_law 27 = .ok (.aload_n 0, 1) := by decide +kernel
theorem dL_law_28 : decode cL_law 28 = .ok (.iload_n 3, 1) := by decide +kernel
theorem dL_law_29 : decode cL_law 29 = .ok (.iaload, 1) := by decide +kernel
theorem dL_law_30 : decode cL_law 30 = .ok (.bipush 63, 2) := by decide +kernel
theorem dL_law_32 : decode cL_law 32 = .ok (.iand, 1) := by decide +kernel
theorem dL_law_33 : decode cL_law 33 = .ok (.tableswitch 1424 0 36 #[163, 196, 239, 282, 325, 388, 421, 444, 477, 510, 533, 566, 599, 612, 655, 688, 721, 754, 787, 850, 893, 936, 959, 972, 995, 1028, 1071, 1104, 1147, 1190, 1233, 1286, 1319, 1342, 1355, 1368, 1401], 163) := by decide +kernel
theorem dL_law_1457 : decode cL_law 1457 = .ok (.iinc 3 6, 3) := by decide +kernel
theorem dL_law_1460 : decode cL_law 1460 = .ok (.goto (-1442), 3) := by decide +kernel
theorem dL_law_1463 : decode cL_law 1463 = .ok (.iconst 1, 1) := by decide +kernel
theorem dL_law_1464 : decode cL_law 1464 = .ok (.ireturn, 1) := by decide +kernel
set_option maxRecDepth 100000 in
set_option maxHeartbeats 4000000 in
/-- the law's loop -/
theorem law_loop {K : KT} {cA : Nat → ClassId} {ad : Nat → Nat} {b L : Nat} {xs : Nat → Int32} (hM : MB K cA code 4 R_law) (hXB : XB K b L xs) (hL : L ≤ 3072) (hR : HasRoom K 2048 84000) (hC : Cells K 600000 7302250) (hend : ∀ (H : Heap) (locs : List Loc) (pc : Nat) (ls : Array Slot), decode code pc = .ok (.ireturn, 1) → (∃ g, WB NN ad K g H locs) → XX K 600000 7302250 H locs pc ls [.int 1]) : ∀ (n : Nat) (i : Int32) (g : Nat → va_E) (H : Heap) (locs : List Loc) (ls : Array Slot), (L - i.toInt).toNat < n → 0 ≤ i.toInt → i.toInt ≤ 3072 → PI ad cA g → WB NN ad K g H locs → lv_has ls 4 [(3, .int i), (2, .ref (ad 129)), (1, .ref (ad 0)), (0, .ref b)] → XX K 600000 7302250 H locs 18 ls [] := by
  intro n
  induction n with
  | zero => intro i g H locs ls h0; omega
  | succ n ih =>
    intro i g H locs ls hn hi0 hiL hP hW hl
    have hLn : (Int32.ofNat L).toInt = L := nI_toInt (by omega)
    refine q_iload_n hM dL_law_18 (lv_at hl 0 rfl) ?_
    refine q_aload_n hM dL_law_19 (lv_at hl 3 rfl) ?_
    refine s_alen hM hW hXB dL_law_20 ?_
    refine q_bipush (v := (6 : Int32)) hM dL_law_21 (by decide) ?_
    refine q_isub hM dL_law_23 (fun w hw => ?_)
    have tw := i_subT hw hLn kc_6 (by omega) (by omega)
    refine q_icmp_gt (tgt := 1463) hM dL_law_24 (by decide) (rfl : i.toInt = i.toInt) (rfl : w.toInt = w.toInt) (fun h24 => ?_) (fun h24 => ?_)
    · refine q_iconst (v := (1 : Int32)) hM dL_law_1463 (by decide) ?_
      exact hend _ _ _ _ dL_law_1464 ⟨g, hW⟩
    have hi : i.toInt + 6 ≤ L := by omega
    have kk : ∀ (g : Nat → va_E) (H : Heap) (locs : List Loc) (ls : Array Slot), PI ad cA g → WB NN ad K g H locs → lv_has ls 4 [(3, .int i), (2, .ref (ad 129)), (1, .ref (ad 0)), (0, .ref b)] → XX K 600000 7302250 H locs 1457 ls [] := by
      intro g H locs ls hP hW hl
      refine q_iinc (lv9 := fun z => [(3, .int z), (2, .ref (ad 129)), (1, .ref (ad 0)), (0, .ref b)]) hM dL_law_1457 hl (kq := 0) rfl (by decide) (fun _ => rfl) (fun z ls hz hl => ?_)
      have tz := i_addT hz (rfl : i.toInt = i.toInt) (kc_6 : (Int32.ofInt 6).toInt = 6) (by omega) (by omega)
      refine q_goto (tgt := 18) hM dL_law_1460 (by decide) ?_
      exact ih z g H locs ls (by omega) (by omega) (by omega) hP hW hl
    refine q_aload_n hM dL_law_27 (lv_at hl 3 rfl) ?_
    refine q_iload_n hM dL_law_28 (lv_at hl 0 rfl) ?_
    refine s_iald i.toInt.toNat hM hW hXB (by omega) (by omega) (by omega) dL_law_29 ?_
    refine q_bipush (v := (63 : Int32)) hM dL_law_30 (by decide) ?_
    refine q_iand hM dL_law_32 (fun y hy => ?_)
    rcases (show y.toInt < 0 ∨ 36 < y.toInt ∨ y.toInt = 0 ∨ y.toInt = 1 ∨ y.toInt = 2 ∨ y.toInt = 3 ∨ y.toInt = 4 ∨ y.toInt = 5 ∨ y.toInt = 6 ∨ y.toInt = 7 ∨ y.toInt = 8 ∨ y.toInt = 9 ∨ y.toInt = 10 ∨ y.toInt = 11 ∨ y.toInt = 12 ∨ y.toInt = 13 ∨ y.toInt = 14 ∨ y.toInt = 15 ∨ y.toInt = 16 ∨ y.toInt = 17 ∨ y.toInt = 18 ∨ y.toInt = 19 ∨ y.toInt = 20 ∨ y.toInt = 21 ∨ y.toInt = 22 ∨ y.toInt = 23 ∨ y.toInt = 24 ∨ y.toInt = 25 ∨ y.toInt = 26 ∨ y.toInt = 27 ∨ y.toInt = 28 ∨ y.toInt = 29 ∨ y.toInt = 30 ∨ y.toInt = 31 ∨ y.toInt = 32 ∨ y.toInt = 33 ∨ y.toInt = 34 ∨ y.toInt = 35 ∨ y.toInt = 36 from by omega) with h33 | h33 | h33 | h33 | h33 | h33 | h33 | h33 | h33 | h33 | h33 | h33 | h33 | h33 | h33 | h33 | h33 | h33 | h33 | h33 | h33 | h33 | h33 | h33 | h33 | h33 | h33 | h33 | h33 | h33 | h33 | h33 | h33 | h33 | h33 | h33 | h33 | h33 | h33
    · refine q_tableOut (tgt := 1457) hM dL_law_33 rfl (by omega) (by decide) ?_
      exact kk _ _ _ _ hP hW hl
    · refine q_tableOut (tgt := 1457) hM dL_law_33 rfl (by omega) (by decide) ?_
      exact kk _ _ _ _ hP hW hl
    · refine q_tableIn (tgt := 196) hM dL_law_33 ((rfl : y.toInt = _).trans h33) (by decide) (by decide) rfl (by decide) ?_
      exact lc_fact hM hXB hL hR hC hP hi0 hi hW hl kk
    · refine q_tableIn (tgt := 229) hM dL_law_33 ((rfl : y.toInt = _).trans h33) (by decide) (by decide) rfl (by decide) ?_
      exact lc_link hM hXB hL hR hC hP hi0 hi hW hl kk
    · refine q_tableIn (tgt := 272) hM dL_law_33 ((rfl : y.toInt = _).trans h33) (by decide) (by decide) rfl (by decide) ?_
      exact lc_pupil hM hXB hL hR hC hP hi0 hi hW hl kk
    · refine q_tableIn (tgt := 315) hM dL_law_33 ((rfl : y.toInt = _).trans h33) (by decide) (by decide) rfl (by decide) ?_
      exact lc_knows hM hXB hL hR hC hP hi0 hi hW hl kk
    · refine q_tableIn (tgt := 358) hM dL_law_33 ((rfl : y.toInt = _).trans h33) (by decide) (by decide) rfl (by decide) ?_
      exact lc_feed hM hXB hL hR hC hP hi0 hi hW hl kk
    · refine q_tableIn (tgt := 421) hM dL_law_33 ((rfl : y.toInt = _).trans h33) (by decide) (by decide) rfl (by decide) ?_
      exact lc_art hM hXB hL hR hC hP hi0 hi hW hl kk
    · refine q_tableIn (tgt := 454) hM dL_law_33 ((rfl : y.toInt = _).trans h33) (by decide) (by decide) rfl (by decide) ?_
      exact lc_law hM hXB hL hR hC hP hi0 hi hW hl kk
    · refine q_tableIn (tgt := 477) hM dL_law_33 ((rfl : y.toInt = _).trans h33) (by decide) (by decide) rfl (by decide) ?_
      exact lc_grade hM hXB hL hR hC hP hi0 hi hW hl kk
    · refine q_tableIn (tgt := 510) hM dL_law_33 ((rfl : y.toInt = _).trans h33) (by decide) (by decide) rfl (by decide) ?_
      exact lc_exam hM hXB hL hR hC hP hi0 hi hW hl kk
    · refine q_tableIn (tgt := 543) hM dL_law_33 ((rfl : y.toInt = _).trans h33) (by decide) (by decide) rfl (by decide) ?_
      exact lc_weeks hM hXB hL hR hC hP hi0 hi hW hl kk
    · refine q_tableIn (tgt := 566) hM dL_law_33 ((rfl : y.toInt = _).trans h33) (by decide) (by decide) rfl (by decide) ?_
      exact lc_tried hM hXB hL hR hC hP hi0 hi hW hl kk
    · refine q_tableIn (tgt := 599) hM dL_law_33 ((rfl : y.toInt = _).trans h33) (by decide) (by decide) rfl (by decide) ?_
      exact lc_other hM hXB hL hR hC hP hi0 hi hW hl kk
    · refine q_tableIn (tgt := 632) hM dL_law_33 ((rfl : y.toInt = _).trans h33) (by decide) (by decide) rfl (by decide) ?_
      exact lc_copy hM hXB hL hR hC hP hi0 hi hW hl kk
    · refine q_tableIn (tgt := 645) hM dL_law_33 ((rfl : y.toInt = _).trans h33) (by decide) (by decide) rfl (by decide) ?_
      exact lc_first hM hXB hL hR hC hP hi0 hi hW hl kk
    · refine q_tableIn (tgt := 688) hM dL_law_33 ((rfl : y.toInt = _).trans h33) (by decide) (by decide) rfl (by decide) ?_
      exact lc_does hM hXB hL hR hC hP hi0 hi hW hl kk
    · refine q_tableIn (tgt := 721) hM dL_law_33 ((rfl : y.toInt = _).trans h33) (by decide) (by decide) rfl (by decide) ?_
      exact lc_pupilIs hM hXB hL hR hC hP hi0 hi hW hl kk
    · refine q_tableIn (tgt := 754) hM dL_law_33 ((rfl : y.toInt = _).trans h33) (by decide) (by decide) rfl (by decide) ?_
      exact lc_strength hM hXB hL hR hC hP hi0 hi hW hl kk
    · refine q_tableIn (tgt := 787) hM dL_law_33 ((rfl : y.toInt = _).trans h33) (by decide) (by decide) rfl (by decide) ?_
      exact lc_heard hM hXB hL hR hC hP hi0 hi hW hl kk
    · refine q_tableIn (tgt := 820) hM dL_law_33 ((rfl : y.toInt = _).trans h33) (by decide) (by decide) rfl (by decide) ?_
      exact lc_order hM hXB hL hR hC hP hi0 hi hW hl kk
    · refine q_tableIn (tgt := 883) hM dL_law_33 ((rfl : y.toInt = _).trans h33) (by decide) (by decide) rfl (by decide) ?_
      exact lc_still hM hXB hL hR hC hP hi0 hi hW hl kk
    · refine q_tableIn (tgt := 926) hM dL_law_33 ((rfl : y.toInt = _).trans h33) (by decide) (by decide) rfl (by decide) ?_
      exact lc_cut hM hXB hL hR hC hP hi0 hi hW hl kk
    · refine q_tableIn (tgt := 969) hM dL_law_33 ((rfl : y.toInt = _).trans h33) (by decide) (by decide) rfl (by decide) ?_
      exact lc_recalls hM hXB hL hR hC hP hi0 hi hW hl kk
    · refine q_tableIn (tgt := 992) hM dL_law_33 ((rfl : y.toInt = _).trans h33) (by decide) (by decide) rfl (by decide) ?_
      exact lc_root hM hXB hL hR hC hP hi0 hi hW hl kk
    · refine q_tableIn (tgt := 1005) hM dL_law_33 ((rfl : y.toInt = _).trans h33) (by decide) (by decide) rfl (by decide) ?_
      exact lc_kin hM hXB hL hR hC hP hi0 hi hW hl kk
    · refine q_tableIn (tgt := 1028) hM dL_law_33 ((rfl : y.toInt = _).trans h33) (by decide) (by decide) rfl (by decide) ?_
      exact lc_questions hM hXB hL hR hC hP hi0 hi hW hl kk
    · refine q_tableIn (tgt := 1061) hM dL_law_33 ((rfl : y.toInt = _).trans h33) (by decide) (by decide) rfl (by decide) ?_
      exact lc_reminds hM hXB hL hR hC hP hi0 hi hW hl kk
    · refine q_tableIn (tgt := 1104) hM dL_law_33 ((rfl : y.toInt = _).trans h33) (by decide) (by decide) rfl (by decide) ?_
      exact lc_parted hM hXB hL hR hC hP hi0 hi hW hl kk
    · refine q_tableIn (tgt := 1137) hM dL_law_33 ((rfl : y.toInt = _).trans h33) (by decide) (by decide) rfl (by decide) ?_
      exact lc_skill hM hXB hL hR hC hP hi0 hi hW hl kk
    · refine q_tableIn (tgt := 1180) hM dL_law_33 ((rfl : y.toInt = _).trans h33) (by decide) (by decide) rfl (by decide) ?_
      exact lc_taught hM hXB hL hR hC hP hi0 hi hW hl kk
    · refine q_tableIn (tgt := 1223) hM dL_law_33 ((rfl : y.toInt = _).trans h33) (by decide) (by decide) rfl (by decide) ?_
      exact lc_hummed hM hXB hL hR hC hP hi0 hi hW hl kk
    · refine q_tableIn (tgt := 1266) hM dL_law_33 ((rfl : y.toInt = _).trans h33) (by decide) (by decide) rfl (by decide) ?_
      exact lc_odds hM hXB hL hR hC hP hi0 hi hW hl kk
    · refine q_tableIn (tgt := 1319) hM dL_law_33 ((rfl : y.toInt = _).trans h33) (by decide) (by decide) rfl (by decide) ?_
      exact lc_crib hM hXB hL hR hC hP hi0 hi hW hl kk
    · refine q_tableIn (tgt := 1352) hM dL_law_33 ((rfl : y.toInt = _).trans h33) (by decide) (by decide) rfl (by decide) ?_
      exact lc_seed hM hXB hL hR hC hP hi0 hi hW hl kk
    · refine q_tableIn (tgt := 1375) hM dL_law_33 ((rfl : y.toInt = _).trans h33) (by decide) (by decide) rfl (by decide) ?_
      exact lc_keep hM hXB hL hR hC hP hi0 hi hW hl kk
    · refine q_tableIn (tgt := 1388) hM dL_law_33 ((rfl : y.toInt = _).trans h33) (by decide) (by decide) rfl (by decide) ?_
      exact lc_undo hM hXB hL hR hC hP hi0 hi hW hl kk
    · refine q_tableIn (tgt := 1401) hM dL_law_33 ((rfl : y.toInt = _).trans h33) (by decide) (by decide) rfl (by decide) ?_
      exact lc_check hM hXB hL hR hC hP hi0 hi hW hl kk
    · refine q_tableIn (tgt := 1434) hM dL_law_33 ((rfl : y.toInt = _).trans h33) (by decide) (by decide) rfl (by decide) ?_
      exact lc_count hM hXB hL hR hC hP hi0 hi hW hl kk
