theorem dX7_become_0 : decode cX7_become 0 = .ok (.iconst 0, 1) := by decide +kernel
theorem dX7_become_1 : decode cX7_become 1 = .ok (.istore_n 2, 1) := by decide +kernel
theorem dX7_become_2 : decode cX7_become 2 = .ok (.iload_n 2, 1) := by decide +kernel
theorem dX7_become_3 : decode cX7_become 3 = .ok (.bipush 8, 2) := by decide +kernel
theorem dX7_become_5 : decode cX7_become 5 = .ok (.if_icmp .ge 63, 3) := by decide +kernel
theorem dX7_become_8 : decode cX7_become 8 = .ok (.aload_n 0, 1) := by decide +kernel
theorem dX7_become_9 : decode cX7_become 9 = .ok (.getfield 9, 3) := by decide +kernel
theorem dX7_become_12 : decode cX7_become 12 = .ok (.iload_n 2, 1) := by decide +kernel
theorem dX7_become_13 : decode cX7_become 13 = .ok (.aload_n 1, 1) := by decide +kernel
theorem dX7_become_14 : decode cX7_become 14 = .ok (.getfield 9, 3) := by decide +kernel
theorem dX7_become_17 : decode cX7_become 17 = .ok (.iload_n 2, 1) := by decide +kernel
theorem dX7_become_18 : decode cX7_become 18 = .ok (.iaload, 1) := by decide +kernel
theorem dX7_become_19 : decode cX7_become 19 = .ok (.iastore, 1) := by decide +kernel
theorem dX7_become_20 : decode cX7_become 20 = .ok (.aload_n 0, 1) := by decide +kernel
theorem dX7_become_21 : decode cX7_become 21 = .ok (.getfield 15, 3) := by decide +kernel
theorem dX7_become_24 : decode cX7_become 24 = .ok (.iload_n 2, 1) := by decide +kernel
theorem dX7_become_25 : decode cX7_become 25 = .ok (.aload_n 1, 1) := by decide +kernel
theorem dX7_become_26 : decode cX7_become 26 = .ok (.getfield 15, 3) := by decide +kernel
theorem dX7_become_29 : decode cX7_become 29 = .ok (.iload_n 2, 1) := by decide +kernel
theorem dX7_become_30 : decode cX7_become 30 = .ok (.iaload, 1) := by decide +kernel
theorem dX7_become_31 : decode cX7_become 31 = .ok (.iastore, 1) := by decide +kernel
theorem dX7_become_32 : decode cX7_become 32 = .ok (.iconst 0, 1) := by decide +kernel
theorem dX7_become_33 : decode cX7_become 33 = .ok (.istore_n 3, 1) := by decide +kernel
theorem dX7_become_34 : decode cX7_become 34 = .ok (.iload_n 3, 1) := by decide +kernel
theorem dX7_become_35 : decode cX7_become 35 = .ok (.bipush 12, 2) := by decide +kernel
theorem dX7_become_37 : decode cX7_become 37 = .ok (.if_icmp .ge 25, 3) := by decide +kernel
theorem dX7_become_40 : decode cX7_become 40 = .ok (.aload_n 0, 1) := by decide +kernel
theorem dX7_become_41 : decode cX7_become 41 = .ok (.getfield 20, 3) := by decide +kernel
theorem dX7_become_44 : decode cX7_become 44 = .ok (.iload_n 2, 1) := by decide +kernel
theorem dX7_become_45 : decode cX7_become 45 = .ok (.aaload, 1) := by decide +kernel
theorem dX7_become_46 : decode cX7_become 46 = .ok (.iload_n 3, 1) := by decide +kernel
theorem dX7_become_47 : decode cX7_become 47 = .ok (.aload_n 1, 1) := by decide +kernel
theorem dX7_become_48 : decode cX7_become 48 = .ok (.getfield 20, 3) := by decide +kernel
theorem dX7_become_51 : decode cX7_become 51 = .ok (.iload_n 2, 1) := by decide +kernel
theorem dX7_become_52 : decode cX7_become 52 = .ok (.aaload, 1) := by decide +kernel
theorem dX7_become_53 : decode cX7_become 53 = .ok (.iload_n 3, 1) := by decide +kernel
theorem dX7_become_54 : decode cX7_become 54 = .ok (.iaload, 1) := by decide +kernel
theorem dX7_become_55 : decode cX7_become 55 = .ok (.iastore, 1) := by decide +kernel
theorem dX7_become_56 : decode cX7_become 56 = .ok (.iinc 3 1, 3) := by decide +kernel
theorem dX7_become_59 : decode cX7_become 59 = .ok (.goto (-25), 3) := by decide +kernel
theorem dX7_become_62 : decode cX7_become 62 = .ok (.iinc 2 1, 3) := by decide +kernel
theorem dX7_become_65 : decode cX7_become 65 = .ok (.goto (-63), 3) := by decide +kernel
theorem dX7_become_68 : decode cX7_become 68 = .ok (.aload_n 0, 1) := by decide +kernel
theorem dX7_become_69 : decode cX7_become 69 = .ok (.aload_n 1, 1) := by decide +kernel
theorem dX7_become_70 : decode cX7_become 70 = .ok (.getfield 23, 3) := by decide +kernel
theorem dX7_become_73 : decode cX7_become 73 = .ok (.putfield 23, 3) := by decide +kernel
theorem dX7_become_76 : decode cX7_become 76 = .ok (.aload_n 0, 1) := by decide +kernel
theorem dX7_become_77 : decode cX7_become 77 = .ok (.aload_n 1, 1) := by decide +kernel
theorem dX7_become_78 : decode cX7_become 78 = .ok (.getfield 27, 3) := by decide +kernel
theorem dX7_become_81 : decode cX7_become 81 = .ok (.putfield 27, 3) := by decide +kernel
theorem dX7_become_84 : decode cX7_become 84 = .ok (.aload_n 0, 1) := by decide +kernel
theorem dX7_become_85 : decode cX7_become 85 = .ok (.aload_n 1, 1) := by decide +kernel
theorem dX7_become_86 : decode cX7_become 86 = .ok (.getfield 30, 3) := by decide +kernel
theorem dX7_become_89 : decode cX7_become 89 = .ok (.putfield 30, 3) := by decide +kernel
theorem dX7_become_92 : decode cX7_become 92 = .ok (.aload_n 0, 1) := by decide +kernel
theorem dX7_become_93 : decode cX7_become 93 = .ok (.aload_n 1, 1) := by decide +kernel
theorem dX7_become_94 : decode cX7_become 94 = .ok (.getfield 33, 3) := by decide +kernel
theorem dX7_become_97 : decode cX7_become 97 = .ok (.putfield 33, 3) := by decide +kernel
theorem dX7_become_100 : decode cX7_become 100 = .ok (.aload_n 0, 1) := by decide +kernel
theorem dX7_become_101 : decode cX7_become 101 = .ok (.aload_n 1, 1) := by decide +kernel
theorem dX7_become_102 : decode cX7_become 102 = .ok (.getfield 36, 3) := by decide +kernel
theorem dX7_become_105 : decode cX7_become 105 = .ok (.putfield 36, 3) := by decide +kernel
theorem dX7_become_108 : decode cX7_become 108 = .ok (.return_, 1) := by decide +kernel
theorem FP_X7_23 : FPX RX7 23 7 8 3 .int := ⟨⟨RX7, TX7, tyX7, rfl, wX7, by decide, kAW (v_0_5 (List.mem_of_getElem? (i := 5) rfl)) rfl, rfl, tyX7_ok, nmX7, by decide +kernel, rfl⟩, by decide +kernel⟩
theorem FG_X7_27 : FG RX7 27 7 8 4 := ⟨RX7, TX7, rfl, wX7, by decide, kAW (v_0_5 (List.mem_of_getElem? (i := 8) rfl)) rfl, rfl⟩
theorem FP_X7_27 : FPX RX7 27 7 8 4 .int := ⟨⟨RX7, TX7, tyX7, rfl, wX7, by decide, kAW (v_0_5 (List.mem_of_getElem? (i := 8) rfl)) rfl, rfl, tyX7_ok, nmX7, by decide +kernel, rfl⟩, by decide +kernel⟩
theorem FG_X7_30 : FG RX7 30 7 8 5 := ⟨RX7, TX7, rfl, wX7, by decide, kAW (v_0_5 (List.mem_of_getElem? (i := 11) rfl)) rfl, rfl⟩
theorem FP_X7_30 : FPX RX7 30 7 8 5 .int := ⟨⟨RX7, TX7, tyX7, rfl, wX7, by decide, kAW (v_0_5 (List.mem_of_getElem? (i := 11) rfl)) rfl, rfl, tyX7_ok, nmX7, by decide +kernel, rfl⟩, by decide +kernel⟩
theorem FG_X7_33 : FG RX7 33 7 8 6 := ⟨RX7, TX7, rfl, wX7, by decide, kAW (v_0_5 (List.mem_of_getElem? (i := 14) rfl)) rfl, rfl⟩
theorem FP_X7_33 : FPX RX7 33 7 8 6 .int := ⟨⟨RX7, TX7, tyX7, rfl, wX7, by decide, kAW (v_0_5 (List.mem_of_getElem? (i := 14) rfl)) rfl, rfl, tyX7_ok, nmX7, by decide +kernel, rfl⟩, by decide +kernel⟩
theorem FG_X7_36 : FG RX7 36 7 8 7 := ⟨RX7, TX7, rfl, wX7, by decide, kAW (v_0_6 (List.mem_of_getElem? (i := 1) rfl)) rfl, rfl⟩
theorem FP_X7_36 : FPX RX7 36 7 8 7 .int := ⟨⟨RX7, TX7, tyX7, rfl, wX7, by decide, kAW (v_0_6 (List.mem_of_getElem? (i := 1) rfl)) rfl, rfl, tyX7_ok, nmX7, by decide +kernel, rfl⟩, by decide +kernel⟩
theorem FG_X7_9 : FG RX7 9 7 8 0 := ⟨RX7, TX7, rfl, wX7, by decide, kAW (v_0_4 (List.mem_of_getElem? (i := 11) rfl)) rfl, rfl⟩
theorem FG_X7_15 : FG RX7 15 7 8 1 := ⟨RX7, TX7, rfl, wX7, by decide, kAW (v_0_4 (List.mem_of_getElem? (i := 14) rfl)) rfl, rfl⟩
set_option maxRecDepth 100000 in
set_option maxHeartbeats 4000000 in
theorem a_X7_become_42_18 (l : Launch) (D : va_G) (cA : Nat → ClassId) (ad : Nat → Nat) (g0 : Nat → va_E)  (hSh : Shp ad cA g0) (hG : Rng g0) : CT l NN ad cA D yX7_become cX7_become 4 none (0, 0) [.ref (ad 42), .ref (ad 18)] g0 (fun v g' => v = none ∧ Shp ad cA g' ∧ Rng g' ∧ FR (fun i k => i = 43 ∨ i = 44 ∨ (46 ≤ i ∧ i < 54) ∨ (i = 42 ∧ (k = 3 ∨ k = 4 ∨ k = 5 ∨ k = 6 ∨ k = 7))) g0 g') := by
  refine q_enterV (by decide) (Nat.le_of_ble_eq_true rfl) (fun K H locs ls _ _ hM hW0 hR hC hE hl => ?_)
  have hl : lv_has ls 4 [(0, .ref (ad 42)), (1, .ref (ad 18))] := hl
  have hW : WS ad cA (fun i k => i = 43 ∨ i = 44 ∨ (46 ≤ i ∧ i < 54) ∨ (i = 42 ∧ (k = 3 ∨ k = 4 ∨ k = 5 ∨ k = 6 ∨ k = 7))) g0 K g0 H locs := ⟨hW0, hSh, FR.rf⟩
  refine q_iconst (v := (0 : Int32)) hM dX7_become_0 (by decide) ?_
  refine q_istore_n (lv9 := [(2, .int (0 : Int32)), (0, .ref (ad 42)), (1, .ref (ad 18))]) hM dX7_become_1 hl (by decide) rfl (fun ls hl => ?_)
  have L2 : ∀ (fu2 : Nat) (w2_2 : Int32) (g9 : Nat → va_E) (H : Heap) (locs : List Loc) (ls : Array Slot), (8 - w2_2.toInt).toNat < fu2 → (Rng g9) → (0 ≤ w2_2.toInt) → (w2_2.toInt ≤ 8) → lv_has ls 4 [(0, .ref (ad 42)), (1, .ref (ad 18)), (2, .int w2_2)] → WS ad cA (fun i k => i = 43 ∨ i = 44 ∨ (46 ≤ i ∧ i < 54) ∨ (i = 42 ∧ (k = 3 ∨ k = 4 ∨ k = 5 ∨ k = 6 ∨ k = 7))) g0 K g9 H locs → XX K 0 0 H locs 2 ls [] := by
    intro fu2
    induction fu2 with
    | zero => intro w2_2 g9 H locs ls h0; omega
    | succ fu2 ih2 =>
      intro w2_2 g9 H locs ls hm2 i2_0 i2_1 i2_2 hl hW
      have hG := i2_0
      refine q_iload_n hM dX7_become_2 (lv_at hl 2 rfl) ?_
      refine q_bipush (v := (8 : Int32)) hM dX7_become_3 (by decide) ?_
      refine q_icmp_ge (tgt := 68) hM dX7_become_5 (by decide) (rfl : w2_2.toInt = w2_2.toInt) (kc_8 : (8 : Int32).toInt = 8) (fun h5 => ?_) (fun h5 => ?_)
      · refine q_aload_n hM dX7_become_68 (lv_at hl 0 rfl) ?_
        refine q_aload_n hM dX7_become_69 (lv_at hl 1 rfl) ?_
        refine w_getI hM hW FG_X7_23 lb_18 (by decide) (by decide) dX7_become_70 (fun x316 fx316 => ?_)
        have bx316 := hG.f fx316 rF_18_3 (by decide)
        refine w_put hM hW FP_X7_23 lb_42 (by omega) (Or.inl ⟨_, rfl⟩) rfl rfl dX7_become_73 (fun g317 H locs hW e1 e2 => ?_)
        have f318 : fld g317 18 3 = .int x316 := (e2.1 18 3 (by unfold Only; omega)).trans fx316
        have f319 : fld g317 42 3 = .int x316 := e1
        have hG := hG.put e1 e2 rF_42_3 (by decide) (by have := i_rng x316; omega) (by have := i_rng x316; omega)
        refine q_aload_n hM dX7_become_76 (lv_at hl 0 rfl) ?_
        refine q_aload_n hM dX7_become_77 (lv_at hl 1 rfl) ?_
        refine w_getI hM hW FG_X7_27 lb_18 (by decide) (by decide) dX7_become_78 (fun x320 fx320 => ?_)
        refine w_put hM hW FP_X7_27 lb_42 (by omega) (Or.inl ⟨_, rfl⟩) rfl rfl dX7_become_81 (fun g321 H locs hW e1 e2 => ?_)
        have f322 : fld g321 18 3 = .int x316 := (e2.1 18 3 (by unfold Only; omega)).trans f318
        have f323 : fld g321 42 3 = .int x316 := (e2.1 42 3 (by unfold Only; omega)).trans f319
        have f324 : fld g321 18 4 = .int x320 := (e2.1 18 4 (by unfold Only; omega)).trans fx320
        have f325 : fld g321 42 4 = .int x320 := e1
        have hG := hG.put e1 e2 (rfl : rF 42 4 = (-2147483648, 2147483647)) (by decide) (by have := i_rng x320; omega) (by have := i_rng x320; omega)
        refine q_aload_n hM dX7_become_84 (lv_at hl 0 rfl) ?_
        refine q_aload_n hM dX7_become_85 (lv_at hl 1 rfl) ?_
        refine w_getI hM hW FG_X7_30 lb_18 (by decide) (by decide) dX7_become_86 (fun x326 fx326 => ?_)
        refine w_put hM hW FP_X7_30 lb_42 (by omega) (Or.inl ⟨_, rfl⟩) rfl rfl dX7_become_89 (fun g327 H locs hW e1 e2 => ?_)
        have f328 : fld g327 18 3 = .int x316 := (e2.1 18 3 (by unfold Only; omega)).trans f322
        have f329 : fld g327 42 3 = .int x316 := (e2.1 42 3 (by unfold Only; omega)).trans f323
        have f330 : fld g327 18 4 = .int x320 := (e2.1 18 4 (by unfold Only; omega)).trans f324
        have f331 : fld g327 42 4 = .int x320 := (e2.1 42 4 (by unfold Only; omega)).trans f325
        have f332 : fld g327 18 5 = .int x326 := (e2.1 18 5 (by unfold Only; omega)).trans fx326
        have f333 : fld g327 42 5 = .int x326 := e1
        have hG := hG.put e1 e2 (rfl : rF 42 5 = (-2147483648, 2147483647)) (by decide) (by have := i_rng x326; omega) (by have := i_rng x326; omega)
        refine q_aload_n hM dX7_become_92 (lv_at hl 0 rfl) ?_
        refine q_aload_n hM dX7_become_93 (lv_at hl 1 rfl) ?_
        refine w_getI hM hW FG_X7_33 lb_18 (by decide) (by decide) dX7_become_94 (fun x334 fx334 => ?_)
        refine w_put hM hW FP_X7_33 lb_42 (by omega) (Or.inl ⟨_, rfl⟩) rfl rfl dX7_become_97 (fun g335 H locs hW e1 e2 => ?_)
        have f336 : fld g335 18 3 = .int x316 := (e2.1 18 3 (by unfold Only; omega)).trans f328
        have f337 : fld g335 42 3 = .int x316 := (e2.1 42 3 (by unfold Only; omega)).trans f329
        have f338 : fld g335 18 4 = .int x320 := (e2.1 18 4 (by unfold Only; omega)).trans f330
        have f339 : fld g335 42 4 = .int x320 := (e2.1 42 4 (by unfold Only; omega)).trans f331
        have f340 : fld g335 18 5 = .int x326 := (e2.1 18 5 (by unfold Only; omega)).trans f332
        have f341 : fld g335 42 5 = .int x326 := (e2.1 42 5 (by unfold Only; omega)).trans f333
        have f342 : fld g335 18 6 = .int x334 := (e2.1 18 6 (by unfold Only; omega)).trans fx334
        have f343 : fld g335 42 6 = .int x334 := e1
        have hG := hG.put e1 e2 (rfl : rF 42 6 = (-2147483648, 2147483647)) (by decide) (by have := i_rng x334; omega) (by have := i_rng x334; omega)
        refine q_aload_n hM dX7_become_100 (lv_at hl 0 rfl) ?_
        refine q_aload_n hM dX7_become_101 (lv_at hl 1 rfl) ?_
        refine w_getI hM hW FG_X7_36 lb_18 (by decide) (by decide) dX7_become_102 (fun x344 fx344 => ?_)
        refine w_put hM hW FP_X7_36 lb_42 (by omega) (Or.inl ⟨_, rfl⟩) rfl rfl dX7_become_105 (fun g345 H locs hW e1 e2 => ?_)
        have f346 : fld g345 18 3 = .int x316 := (e2.1 18 3 (by unfold Only; omega)).trans f336
        have f347 : fld g345 42 3 = .int x316 := (e2.1 42 3 (by unfold Only; omega)).trans f337
        have f348 : fld g345 18 4 = .int x320 := (e2.1 18 4 (by unfold Only; omega)).trans f338
        have f349 : fld g345 42 4 = .int x320 := (e2.1 42 4 (by unfold Only; omega)).trans f339
        have f350 : fld g345 18 5 = .int x326 := (e2.1 18 5 (by unfold Only; omega)).trans f340
        have f351 : fld g345 42 5 = .int x326 := (e2.1 42 5 (by unfold Only; omega)).trans f341
        have f352 : fld g345 18 6 = .int x334 := (e2.1 18 6 (by unfold Only; omega)).trans f342
        have f353 : fld g345 42 6 = .int x334 := (e2.1 42 6 (by unfold Only; omega)).trans f343
        have f354 : fld g345 18 7 = .int x344 := (e2.1 18 7 (by unfold Only; omega)).trans fx344
        have f355 : fld g345 42 7 = .int x344 := e1
        have hG := hG.put e1 e2 (rfl : rF 42 7 = (-2147483648, 2147483647)) (by decide) (by have := i_rng x344; omega) (by have := i_rng x344; omega)
        exact hE _ _ _ _ _ hW.1 ⟨rfl, hW.2.1, hG, hW.2.2⟩ dX7_become_108
      · refine q_aload_n hM dX7_become_8 (lv_at hl 0 rfl) ?_
        refine w_get (v := .ref (ad 43)) hM hW FG_X7_9 lb_42 (rf_42_0 hW.2.1) dX7_become_9 ?_
        refine q_iload_n hM dX7_become_12 (lv_at hl 2 rfl) ?_
        refine q_aload_n hM dX7_become_13 (lv_at hl 1 rfl) ?_
        refine w_get (v := .ref (ad 19)) hM hW FG_X7_9 lb_18 (rf_18_0 hW.2.1) dX7_become_14 ?_
        refine q_iload_n hM dX7_become_17 (lv_at hl 2 rfl) ?_
        refine w_iald hM hW lb_19 (i_in (by omega) (by omega)) dX7_become_18 ?_
        refine q_top (fun y357 hy357 => ?_)
        have by357 := hG.a hy357 rA_19
        refine w_iast hM hW lb_43 (by omega) (i_in (by omega) (by omega)) dX7_become_19 (fun g358 H locs hW e1 e2 => ?_)
        have hG := hG.st e1 e2 rA_43 (by have := i_rng y357; omega) (by have := i_rng y357; omega)
        refine q_aload_n hM dX7_become_20 (lv_at hl 0 rfl) ?_
        refine w_get (v := .ref (ad 44)) hM hW FG_X7_15 lb_42 (rf_42_1 hW.2.1) dX7_become_21 ?_
        refine q_iload_n hM dX7_become_24 (lv_at hl 2 rfl) ?_
        refine q_aload_n hM dX7_become_25 (lv_at hl 1 rfl) ?_
        refine w_get (v := .ref (ad 20)) hM hW FG_X7_15 lb_18 (rf_18_1 hW.2.1) dX7_become_26 ?_
        refine q_iload_n hM dX7_become_29 (lv_at hl 2 rfl) ?_
        refine w_iald hM hW lb_20 (i_in (by omega) (by omega)) dX7_become_30 ?_
        refine q_top (fun y359 hy359 => ?_)
        refine w_iast hM hW lb_44 (by omega) (i_in (by omega) (by omega)) dX7_become_31 (fun g360 H locs hW e1 e2 => ?_)
        have hG := hG.st e1 e2 (rfl : rA 44 = (-2147483648, 2147483647)) (by have := i_rng y359; omega) (by have := i_rng y359; omega)
        refine q_iconst (v := (0 : Int32)) hM dX7_become_32 (by decide) ?_
        refine q_istore_n (lv9 := [(3, .int (0 : Int32)), (0, .ref (ad 42)), (1, .ref (ad 18)), (2, .int w2_2)]) hM dX7_become_33 hl (by decide) rfl (fun ls hl => ?_)
        have L34 : ∀ (fu34 : Nat) (w34_3 : Int32) (g9 : Nat → va_E) (H : Heap) (locs : List Loc) (ls : Array Slot), (12 - w34_3.toInt).toNat < fu34 → (Rng g9) → (0 ≤ w34_3.toInt) → (w34_3.toInt ≤ 12) → lv_has ls 4 [(0, .ref (ad 42)), (1, .ref (ad 18)), (2, .int w2_2), (3, .int w34_3)] → WS ad cA (fun i k => i = 43 ∨ i = 44 ∨ (46 ≤ i ∧ i < 54) ∨ (i = 42 ∧ (k = 3 ∨ k = 4 ∨ k = 5 ∨ k = 6 ∨ k = 7))) g0 K g9 H locs → XX K 0 0 H locs 34 ls [] := by
          intro fu34
          induction fu34 with
          | zero => intro w34_3 g9 H locs ls h0; omega
          | succ fu34 ih34 =>
            intro w34_3 g9 H locs ls hm34 i34_0 i34_1 i34_2 hl hW
            have hG := i34_0
            refine q_iload_n hM dX7_become_34 (lv_at hl 3 rfl) ?_
            refine q_bipush (v := (12 : Int32)) hM dX7_become_35 (by decide) ?_
            refine q_icmp_ge (tgt := 62) hM dX7_become_37 (by decide) (rfl : w34_3.toInt = w34_3.toInt) (kc_12 : (12 : Int32).toInt = 12) (fun h37 => ?_) (fun h37 => ?_)
            · refine q_iinc (lv9 := fun z363 => [(2, .int z363), (0, .ref (ad 42)), (1, .ref (ad 18)), (3, .int w34_3)]) hM dX7_become_62 hl (kq := 2) rfl (by decide) (fun _ => rfl) (fun z363 ls hz363 hl => ?_)
              first | have tz363 := i_addT hz363 (rfl : w2_2.toInt = w2_2.toInt) (kc_1 : (Int32.ofInt 1).toInt = 1) (by omega) (by omega) | skip
              refine q_goto (tgt := 2) hM dX7_become_65 (by decide) ?_
              exact ih2 z363 _ _ _ _ (by omega) hG (by omega) (by omega) (lv_sub hl [1, 2, 0] rfl) hW
            · refine q_aload_n hM dX7_become_40 (lv_at hl 0 rfl) ?_
              refine w_get (v := .ref (ad 45)) hM hW FG_X7_20 lb_42 (rf_42_2 hW.2.1) dX7_become_41 ?_
              refine q_iload_n hM dX7_become_44 (lv_at hl 2 rfl) ?_
              refine w_aald hM hW lb_45 (Or.inl rfl) (i_in (by omega) (by omega)) (aq (aq_45 hW.2.1) (by omega) (by omega)) dX7_become_45 ?_
              refine q_iload_n hM dX7_become_46 (lv_at hl 3 rfl) ?_
              refine q_aload_n hM dX7_become_47 (lv_at hl 1 rfl) ?_
              refine w_get (v := .ref (ad 21)) hM hW FG_X7_20 lb_18 (rf_18_2 hW.2.1) dX7_become_48 ?_
              refine q_iload_n hM dX7_become_51 (lv_at hl 2 rfl) ?_
              refine w_aald hM hW lb_21 (Or.inl rfl) (i_in (by omega) (by omega)) (aq (aq_21 hW.2.1) (by omega) (by omega)) dX7_become_52 ?_
              refine q_iload_n hM dX7_become_53 (lv_at hl 3 rfl) ?_
              refine w_iald hM hW (lr_22 (by omega)) (i_in (by omega) (by omega)) dX7_become_54 ?_
              refine q_top (fun y365 hy365 => ?_)
              refine w_iast hM hW (lr_46 (by omega)) (by omega) (i_in (by omega) (by omega)) dX7_become_55 (fun g366 H locs hW e1 e2 => ?_)
              have hG := hG.st e1 e2 (rA_row_46 (by omega)) (by have := i_rng y365; omega) (by have := i_rng y365; omega)
              refine q_iinc (lv9 := fun z367 => [(3, .int z367), (0, .ref (ad 42)), (1, .ref (ad 18)), (2, .int w2_2)]) hM dX7_become_56 hl (kq := 3) rfl (by decide) (fun _ => rfl) (fun z367 ls hz367 hl => ?_)
              first | have tz367 := i_addT hz367 (rfl : w34_3.toInt = w34_3.toInt) (kc_1 : (Int32.ofInt 1).toInt = 1) (by omega) (by omega) | skip
              refine q_goto (tgt := 34) hM dX7_become_59 (by decide) ?_
              exact ih34 z367 _ _ _ _ (by omega) hG (by omega) (by omega) (lv_sub hl [1, 2, 3, 0] rfl) hW
        have := kc_0
        exact L34 _ (0 : Int32) _ _ _ _ (Nat.lt_succ_self _) hG (by omega) (by omega) (lv_sub hl [1, 2, 3, 0] rfl) hW
  have := kc_0
  exact L2 _ (0 : Int32) _ _ _ _ (Nat.lt_succ_self _) hG (by omega) (by omega) (lv_sub hl [1, 2, 0] rfl) hW


set_option maxRecDepth 100000 in
set_option maxHeartbeats 4000000 in
theorem a_X7_become_30_18 (l : Launch) (D : va_G) (cA : Nat → ClassId) (ad : Nat → Nat) (g0 : Nat → va_E)  (hSh : Shp ad cA g0) (hG : Rng g0) : CT l NN ad cA D yX7_become cX7_become 4 none (0, 0) [.ref (ad 30), .ref (ad 18)] g0 (fun v g' => v = none ∧ Shp ad cA g' ∧ Rng g' ∧ FR (fun i k => i = 31 ∨ i = 32 ∨ (34 ≤ i ∧ i < 42) ∨ (i = 30 ∧ (k = 3 ∨ k = 4 ∨ k = 5 ∨ k = 6 ∨ k = 7))) g0 g') := by
  refine q_enterV (by decide) (Nat.le_of_ble_eq_true rfl) (fun K H locs ls _ _ hM hW0 hR hC hE hl => ?_)
  have hl : lv_has ls 4 [(0, .ref (ad 30)), (1, .ref (ad 18))] := hl
  have hW : WS ad cA (fun i k => i = 31 ∨ i = 32 ∨ (34 ≤ i ∧ i < 42) ∨ (i = 30 ∧ (k = 3 ∨ k = 4 ∨ k = 5 ∨ k = 6 ∨ k = 7))) g0 K g0 H locs := ⟨hW0, hSh, FR.rf⟩
  refine q_iconst (v := (0 : Int32)) hM dX7_become_0 (by decide) ?_
  refine q_istore_n (lv9 := [(2, .int (0 : Int32)), (0, .ref (ad 30)), (1, .ref (ad 18))]) hM dX7_become_1 hl (by decide) rfl (fun ls hl => ?_)
  have L2 : ∀ (fu2 : Nat) (w2_2 : Int32) (g9 : Nat → va_E) (H : Heap) (locs : List Loc) (ls : Array Slot), (8 - w2_2.toInt).toNat < fu2 → (Rng g9) → (0 ≤ w2_2.toInt) → (w2_2.toInt ≤ 8) → lv_has ls 4 [(0, .ref (ad 30)), (1, .ref (ad 18)), (2, .int w2_2)] → WS ad cA (fun i k => i = 31 ∨ i = 32 ∨ (34 ≤ i ∧ i < 42) ∨ (i = 30 ∧ (k = 3 ∨ k = 4 ∨ k = 5 ∨ k = 6 ∨ k = 7))) g0 K g9 H locs → XX K 0 0 H locs 2 ls [] := by
    intro fu2
    induction fu2 with
    | zero => intro w2_2 g9 H locs ls h0; omega
    | succ fu2 ih2 =>
      intro w2_2 g9 H locs ls hm2 i2_0 i2_1 i2_2 hl hW
      have hG := i2_0
      refine q_iload_n hM dX7_become_2 (lv_at hl 2 rfl) ?_
      refine q_bipush (v := (8 : Int32)) hM dX7_become_3 (by decide) ?_
      refine q_icmp_ge (tgt := 68) hM dX7_become_5 (by decide) (rfl : w2_2.toInt = w2_2.toInt) (kc_8 : (8 : Int32).toInt = 8) (fun h5 => ?_) (fun h5 => ?_)
      · refine q_aload_n hM dX7_become_68 (lv_at hl 0 rfl) ?_
        refine q_aload_n hM dX7_become_69 (lv_at hl 1 rfl) ?_
        refine w_getI hM hW FG_X7_23 lb_18 (by decide) (by decide) dX7_become_70 (fun x370 fx370 => ?_)
        have bx370 := hG.f fx370 rF_18_3 (by decide)
        refine w_put hM hW FP_X7_23 lb_30 (by omega) (Or.inl ⟨_, rfl⟩) rfl rfl dX7_become_73 (fun g371 H locs hW e1 e2 => ?_)
        have f372 : fld g371 18 3 = .int x370 := (e2.1 18 3 (by unfold Only; omega)).trans fx370
        have f373 : fld g371 30 3 = .int x370 := e1
        have hG := hG.put e1 e2 rF_30_3 (by decide) (by have := i_rng x370; omega) (by have := i_rng x370; omega)
        refine q_aload_n hM dX7_become_76 (lv_at hl 0 rfl) ?_
        refine q_aload_n hM dX7_become_77 (lv_at hl 1 rfl) ?_
        refine w_getI hM hW FG_X7_27 lb_18 (by decide) (by decide) dX7_become_78 (fun x374 fx374 => ?_)
        refine w_put hM hW FP_X7_27 lb_30 (by omega) (Or.inl ⟨_, rfl⟩) rfl rfl dX7_become_81 (fun g375 H locs hW e1 e2 => ?_)
        have f376 : fld g375 18 3 = .int x370 := (e2.1 18 3 (by unfold Only; omega)).trans f372
        have f377 : fld g375 30 3 = .int x370 := (e2.1 30 3 (by unfold Only; omega)).trans f373
        have f378 : fld g375 18 4 = .int x374 := (e2.1 18 4 (by unfold Only; omega)).trans fx374
        have f379 : fld g375 30 4 = .int x374 := e1
        have hG := hG.put e1 e2 (rfl : rF 30 4 = (-2147483648, 2147483647)) (by decide) (by have := i_rng x374; omega) (by have := i_rng x374; omega)
        refine q_aload_n hM dX7_become_84 (lv_at hl 0 rfl) ?_
        refine q_aload_n hM dX7_become_85 (lv_at hl 1 rfl) ?_
        refine w_getI hM hW FG_X7_30 lb_18 (by decide) (by decide) dX7_become_86 (fun x380 fx380 => ?_)
        refine w_put hM hW FP_X7_30 lb_30 (by omega) (Or.inl ⟨_, rfl⟩) rfl rfl dX7_become_89 (fun g381 H locs hW e1 e2 => ?_)
        have f382 : fld g381 18 3 = .int x370 := (e2.1 18 3 (by unfold Only; omega)).trans f376
        have f383 : fld g381 30 3 = .int x370 := (e2.1 30 3 (by unfold Only; omega)).trans f377
        have f384 : fld g381 18 4 = .int x374 := (e2.1 18 4 (by unfold Only; omega)).trans f378
        have f385 : fld g381 30 4 = .int x374 := (e2.1 30 4 (by unfold Only; omega)).trans f379
        have f386 : fld g381 18 5 = .int x380 := (e2.1 18 5 (by unfold Only; omega)).trans fx380
        have f387 : fld g381 30 5 = .int x380 := e1
        have hG := hG.put e1 e2 (rfl : rF 30 5 = (-2147483648, 2147483647)) (by decide) (by have := i_rng x380; omega) (by have := i_rng x380; omega)
        refine q_aload_n hM dX7_become_92 (lv_at hl 0 rfl) ?_
        refine q_aload_n hM dX7_become_93 (lv_at hl 1 rfl) ?_
        refine w_getI hM hW FG_X7_33 lb_18 (by decide) (by decide) dX7_become_94 (fun x388 fx388 => ?_)
        refine w_put hM hW FP_X7_33 lb_30 (by omega) (Or.inl ⟨_, rfl⟩) rfl rfl dX7_become_97 (fun g389 H locs hW e1 e2 => ?_)
        have f390 : fld g389 18 3 = .int x370 := (e2.1 18 3 (by unfold Only; omega)).trans f382
        have f391 : fld g389 30 3 = .int x370 := (e2.1 30 3 (by unfold Only; omega)).trans f383
        have f392 : fld g389 18 4 = .int x374 := (e2.1 18 4 (by unfold Only; omega)).trans f384
        have f393 : fld g389 30 4 = .int x374 := (e2.1 30 4 (by unfold Only; omega)).trans f385
        have f394 : fld g389 18 5 = .int x380 := (e2.1 18 5 (by unfold Only; omega)).trans f386
        have f395 : fld g389 30 5 = .int x380 := (e2.1 30 5 (by unfold Only; omega)).trans f387
        have f396 : fld g389 18 6 = .int x388 := (e2.1 18 6 (by unfold Only; omega)).trans fx388
        have f397 : fld g389 30 6 = .int x388 := e1
        have hG := hG.put e1 e2 (rfl : rF 30 6 = (-2147483648, 2147483647)) (by decide) (by have := i_rng x388; omega) (by have := i_rng x388; omega)
        refine q_aload_n hM dX7_become_100 (lv_at hl 0 rfl) ?_
        refine q_aload_n hM dX7_become_101 (lv_at hl 1 rfl) ?_
        refine w_getI hM hW FG_X7_36 lb_18 (by decide) (by decide) dX7_become_102 (fun x398 fx398 => ?_)
        refine w_put hM hW FP_X7_36 lb_30 (by omega) (Or.inl ⟨_, rfl⟩) rfl rfl dX7_become_105 (fun g399 H locs hW e1 e2 => ?_)
        have f400 : fld g399 18 3 = .int x370 := (e2.1 18 3 (by unfold Only; omega)).trans f390
        have f401 : fld g399 30 3 = .int x370 := (e2.1 30 3 (by unfold Only; omega)).trans f391
        have f402 : fld g399 18 4 = .int x374 := (e2.1 18 4 (by unfold Only; omega)).trans f392
        have f403 : fld g399 30 4 = .int x374 := (e2.1 30 4 (by unfold Only; omega)).trans f393
        have f404 : fld g399 18 5 = .int x380 := (e2.1 18 5 (by unfold Only; omega)).trans f394
        have f405 : fld g399 30 5 = .int x380 := (e2.1 30 5 (by unfold Only; omega)).trans f395
        have f406 : fld g399 18 6 = .int x388 := (e2.1 18 6 (by unfold Only; omega)).trans f396
        have f407 : fld g399 30 6 = .int x388 := (e2.1 30 6 (by unfold Only; omega)).trans f397
        have f408 : fld g399 18 7 = .int x398 := (e2.1 18 7 (by unfold Only; omega)).trans fx398
        have f409 : fld g399 30 7 = .int x398 := e1
        have hG := hG.put e1 e2 (rfl : rF 30 7 = (-2147483648, 2147483647)) (by decide) (by have := i_rng x398; omega) (by have := i_rng x398; omega)
        exact hE _ _ _ _ _ hW.1 ⟨rfl, hW.2.1, hG, hW.2.2⟩ dX7_become_108
      · refine q_aload_n hM dX7_become_8 (lv_at hl 0 rfl) ?_
        refine w_get (v := .ref (ad 31)) hM hW FG_X7_9 lb_30 (rf_30_0 hW.2.1) dX7_become_9 ?_
        refine q_iload_n hM dX7_become_12 (lv_at hl 2 rfl) ?_
        refine q_aload_n hM dX7_become_13 (lv_at hl 1 rfl) ?_
        refine w_get (v := .ref (ad 19)) hM hW FG_X7_9 lb_18 (rf_18_0 hW.2.1) dX7_become_14 ?_
        refine q_iload_n hM dX7_become_17 (lv_at hl 2 rfl) ?_
        refine w_iald hM hW lb_19 (i_in (by omega) (by omega)) dX7_become_18 ?_
        refine q_top (fun y411 hy411 => ?_)
        have by411 := hG.a hy411 rA_19
        refine w_iast hM hW lb_31 (by omega) (i_in (by omega) (by omega)) dX7_become_19 (fun g412 H locs hW e1 e2 => ?_)
        have hG := hG.st e1 e2 rA_31 (by have := i_rng y411; omega) (by have := i_rng y411; omega)
        refine q_aload_n hM dX7_become_20 (lv_at hl 0 rfl) ?_
        refine w_get (v := .ref (ad 32)) hM hW FG_X7_15 lb_30 (rf_30_1 hW.2.1) dX7_become_21 ?_
        refine q_iload_n hM dX7_become_24 (lv_at hl 2 rfl) ?_
        refine q_aload_n hM dX7_become_25 (lv_at hl 1 rfl) ?_
        refine w_get (v := .ref (ad 20)) hM hW FG_X7_15 lb_18 (rf_18_1 hW.2.1) dX7_become_26 ?_
        refine q_iload_n hM dX7_become_29 (lv_at hl 2 rfl) ?_
        refine w_iald hM hW lb_20 (i_in (by omega) (by omega)) dX7_become_30 ?_
        refine q_top (fun y413 hy413 => ?_)
        refine w_iast hM hW lb_32 (by omega) (i_in (by omega) (by omega)) dX7_become_31 (fun g414 H locs hW e1 e2 => ?_)
        have hG := hG.st e1 e2 (rfl : rA 32 = (-2147483648, 2147483647)) (by have := i_rng y413; omega) (by have := i_rng y413; omega)
        refine q_iconst (v := (0 : Int32)) hM dX7_become_32 (by decide) ?_
        refine q_istore_n (lv9 := [(3, .int (0 : Int32)), (0, .ref (ad 30)), (1, .ref (ad 18)), (2, .int w2_2)]) hM dX7_become_33 hl (by decide) rfl (fun ls hl => ?_)
        have L34 : ∀ (fu34 : Nat) (w34_3 : Int32) (g9 : Nat → va_E) (H : Heap) (locs : List Loc) (ls : Array Slot), (12 - w34_3.toInt).toNat < fu34 → (Rng g9) → (0 ≤ w34_3.toInt) → (w34_3.toInt ≤ 12) → lv_has ls 4 [(0, .ref (ad 30)), (1, .ref (ad 18)), (2, .int w2_2), (3, .int w34_3)] → WS ad cA (fun i k => i = 31 ∨ i = 32 ∨ (34 ≤ i ∧ i < 42) ∨ (i = 30 ∧ (k = 3 ∨ k = 4 ∨ k = 5 ∨ k = 6 ∨ k = 7))) g0 K g9 H locs → XX K 0 0 H locs 34 ls [] := by
          intro fu34
          induction fu34 with
          | zero => intro w34_3 g9 H locs ls h0; omega
          | succ fu34 ih34 =>
            intro w34_3 g9 H locs ls hm34 i34_0 i34_1 i34_2 hl hW
            have hG := i34_0
            refine q_iload_n hM dX7_become_34 (lv_at hl 3 rfl) ?_
            refine q_bipush (v := (12 : Int32)) hM dX7_become_35 (by decide) ?_
            refine q_icmp_ge (tgt := 62) hM dX7_become_37 (by decide) (rfl : w34_3.toInt = w34_3.toInt) (kc_12 : (12 : Int32).toInt = 12) (fun h37 => ?_) (fun h37 => ?_)
            · refine q_iinc (lv9 := fun z417 => [(2, .int z417), (0, .ref (ad 30)), (1, .ref (ad 18)), (3, .int w34_3)]) hM dX7_become_62 hl (kq := 2) rfl (by decide) (fun _ => rfl) (fun z417 ls hz417 hl => ?_)
              first | have tz417 := i_addT hz417 (rfl : w2_2.toInt = w2_2.toInt) (kc_1 : (Int32.ofInt 1).toInt = 1) (by omega) (by omega) | skip
              refine q_goto (tgt := 2) hM dX7_become_65 (by decide) ?_
              exact ih2 z417 _ _ _ _ (by omega) hG (by omega) (by omega) (lv_sub hl [1, 2, 0] rfl) hW
            · refine q_aload_n hM dX7_become_40 (lv_at hl 0 rfl) ?_
              refine w_get (v := .ref (ad 33)) hM hW FG_X7_20 lb_30 (rf_30_2 hW.2.1) dX7_become_41 ?_
              refine q_iload_n hM dX7_become_44 (lv_at hl 2 rfl) ?_
              refine w_aald hM hW lb_33 (Or.inl rfl) (i_in (by omega) (by omega)) (aq (aq_33 hW.2.1) (by omega) (by omega)) dX7_become_45 ?_
              refine q_iload_n hM dX7_become_46 (lv_at hl 3 rfl) ?_
              refine q_aload_n hM dX7_become_47 (lv_at hl 1 rfl) ?_
              refine w_get (v := .ref (ad 21)) hM hW FG_X7_20 lb_18 (rf_18_2 hW.2.1) dX7_become_48 ?_
              refine q_iload_n hM dX7_become_51 (lv_at hl 2 rfl) ?_
              refine w_aald hM hW lb_21 (Or.inl rfl) (i_in (by omega) (by omega)) (aq (aq_21 hW.2.1) (by omega) (by omega)) dX7_become_52 ?_
              refine q_iload_n hM dX7_become_53 (lv_at hl 3 rfl) ?_
              refine w_iald hM hW (lr_22 (by omega)) (i_in (by omega) (by omega)) dX7_become_54 ?_
              refine q_top (fun y419 hy419 => ?_)
              refine w_iast hM hW (lr_34 (by omega)) (by omega) (i_in (by omega) (by omega)) dX7_become_55 (fun g420 H locs hW e1 e2 => ?_)
              have hG := hG.st e1 e2 (rA_row_34 (by omega)) (by have := i_rng y419; omega) (by have := i_rng y419; omega)
              refine q_iinc (lv9 := fun z421 => [(3, .int z421), (0, .ref (ad 30)), (1, .ref (ad 18)), (2, .int w2_2)]) hM dX7_become_56 hl (kq := 3) rfl (by decide) (fun _ => rfl) (fun z421 ls hz421 hl => ?_)
              first | have tz421 := i_addT hz421 (rfl : w34_3.toInt = w34_3.toInt) (kc_1 : (Int32.ofInt 1).toInt = 1) (by omega) (by omega) | skip
              refine q_goto (tgt := 34) hM dX7_become_59 (by decide) ?_
              exact ih34 z421 _ _ _ _ (by omega) hG (by omega) (by omega) (lv_sub hl [1, 2, 3, 0] rfl) hW
        have := kc_0
        exact L34 _ (0 : Int32) _ _ _ _ (Nat.lt_succ_self _) hG (by omega) (by omega) (lv_sub hl [1, 2, 3, 0] rfl) hW
  have := kc_0
  exact L2 _ (0 : Int32) _ _ _ _ (Nat.lt_succ_self _) hG (by omega) (by omega) (lv_sub hl [1, 2, 0] rfl) hW


set_option maxRecDepth 100000 in
set_option maxHeartbeats 4000000 in
theorem a_X7_become_18_30 (l : Launch) (D : va_G) (cA : Nat → ClassId) (ad : Nat → Nat) (g0 : Nat → va_E)  (hSh : Shp ad cA g0) (hG : Rng g0) : CT l NN ad cA D yX7_become cX7_become 4 none (0, 0) [.ref (ad 18), .ref (ad 30)] g0 (fun v g' => v = none ∧ Shp ad cA g' ∧ Rng g' ∧ FR (fun i k => i = 19 ∨ i = 20 ∨ (22 ≤ i ∧ i < 30) ∨ (i = 18 ∧ (k = 3 ∨ k = 4 ∨ k = 5 ∨ k = 6 ∨ k = 7))) g0 g') := by
  refine q_enterV (by decide) (Nat.le_of_ble_eq_true rfl) (fun K H locs ls _ _ hM hW0 hR hC hE hl => ?_)
  have hl : lv_has ls 4 [(0, .ref (ad 18)), (1, .ref (ad 30))] := hl
  have hW : WS ad cA (fun i k => i = 19 ∨ i = 20 ∨ (22 ≤ i ∧ i < 30) ∨ (i = 18 ∧ (k = 3 ∨ k = 4 ∨ k = 5 ∨ k = 6 ∨ k = 7))) g0 K g0 H locs := ⟨hW0, hSh, FR.rf⟩
  refine q_iconst (v := (0 : Int32)) hM dX7_become_0 (by decide) ?_
  refine q_istore_n (lv9 := [(2, .int (0 : Int32)), (0, .ref (ad 18)), (1, .ref (ad 30))]) hM dX7_become_1 hl (by decide) rfl (fun ls hl => ?_)
  have L2 : ∀ (fu2 : Nat) (w2_2 : Int32) (g9 : Nat → va_E) (H : Heap) (locs : List Loc) (ls : Array Slot), (8 - w2_2.toInt).toNat < fu2 → (Rng g9) → (0 ≤ w2_2.toInt) → (w2_2.toInt ≤ 8) → lv_has ls 4 [(0, .ref (ad 18)), (1, .ref (ad 30)), (2, .int w2_2)] → WS ad cA (fun i k => i = 19 ∨ i = 20 ∨ (22 ≤ i ∧ i < 30) ∨ (i = 18 ∧ (k = 3 ∨ k = 4 ∨ k = 5 ∨ k = 6 ∨ k = 7))) g0 K g9 H locs → XX K 0 0 H locs 2 ls [] := by
    intro fu2
    induction fu2 with
    | zero => intro w2_2 g9 H locs ls h0; omega
    | succ fu2 ih2 =>
      intro w2_2 g9 H locs ls hm2 i2_0 i2_1 i2_2 hl hW
      have hG := i2_0
      refine q_iload_n hM dX7_become_2 (lv_at hl 2 rfl) ?_
      refine q_bipush (v := (8 : Int32)) hM dX7_become_3 (by decide) ?_
      refine q_icmp_ge (tgt := 68) hM dX7_become_5 (by decide) (rfl : w2_2.toInt = w2_2.toInt) (kc_8 : (8 : Int32).toInt = 8) (fun h5 => ?_) (fun h5 => ?_)
      · refine q_aload_n hM dX7_become_68 (lv_at hl 0 rfl) ?_
        refine q_aload_n hM dX7_become_69 (lv_at hl 1 rfl) ?_
        refine w_getI hM hW FG_X7_23 lb_30 (by decide) (by decide) dX7_become_70 (fun x424 fx424 => ?_)
        have bx424 := hG.f fx424 rF_30_3 (by decide)
        refine w_put hM hW FP_X7_23 lb_18 (by omega) (Or.inl ⟨_, rfl⟩) rfl rfl dX7_become_73 (fun g425 H locs hW e1 e2 => ?_)
        have f426 : fld g425 30 3 = .int x424 := (e2.1 30 3 (by unfold Only; omega)).trans fx424
        have f427 : fld g425 18 3 = .int x424 := e1
        have hG := hG.put e1 e2 rF_18_3 (by decide) (by have := i_rng x424; omega) (by have := i_rng x424; omega)
        refine q_aload_n hM dX7_become_76 (lv_at hl 0 rfl) ?_
        refine q_aload_n hM dX7_become_77 (lv_at hl 1 rfl) ?_
        refine w_getI hM hW FG_X7_27 lb_30 (by decide) (by decide) dX7_become_78 (fun x428 fx428 => ?_)
        refine w_put hM hW FP_X7_27 lb_18 (by omega) (Or.inl ⟨_, rfl⟩) rfl rfl dX7_become_81 (fun g429 H locs hW e1 e2 => ?_)
        have f430 : fld g429 30 3 = .int x424 := (e2.1 30 3 (by unfold Only; omega)).trans f426
        have f431 : fld g429 18 3 = .int x424 := (e2.1 18 3 (by unfold Only; omega)).trans f427
        have f432 : fld g429 30 4 = .int x428 := (e2.1 30 4 (by unfold Only; omega)).trans fx428
        have f433 : fld g429 18 4 = .int x428 := e1
        have hG := hG.put e1 e2 (rfl : rF 18 4 = (-2147483648, 2147483647)) (by decide) (by have := i_rng x428; omega) (by have := i_rng x428; omega)
        refine q_aload_n hM dX7_become_84 (lv_at hl 0 rfl) ?_
        refine q_aload_n hM dX7_become_85 (lv_at hl 1 rfl) ?_
        refine w_getI hM hW FG_X7_30 lb_30 (by decide) (by decide) dX7_become_86 (fun x434 fx434 => ?_)
        refine w_put hM hW FP_X7_30 lb_18 (by omega) (Or.inl ⟨_, rfl⟩) rfl rfl dX7_become_89 (fun g435 H locs hW e1 e2 => ?_)
        have f436 : fld g435 30 3 = .int x424 := (e2.1 30 3 (by unfold Only; omega)).trans f430
        have f437 : fld g435 18 3 = .int x424 := (e2.1 18 3 (by unfold Only; omega)).trans f431
        have f438 : fld g435 30 4 = .int x428 := (e2.1 30 4 (by unfold Only; omega)).trans f432
        have f439 : fld g435 18 4 = .int x428 := (e2.1 18 4 (by unfold Only; omega)).trans f433
        have f440 : fld g435 30 5 = .int x434 := (e2.1 30 5 (by unfold Only; omega)).trans fx434
        have f441 : fld g435 18 5 = .int x434 := e1
        have hG := hG.put e1 e2 (rfl : rF 18 5 = (-2147483648, 2147483647)) (by decide) (by have := i_rng x434; omega) (by have := i_rng x434; omega)
        refine q_aload_n hM dX7_become_92 (lv_at hl 0 rfl) ?_
        refine q_aload_n hM dX7_become_93 (lv_at hl 1 rfl) ?_
        refine w_getI hM hW FG_X7_33 lb_30 (by decide) (by decide) dX7_become_94 (fun x442 fx442 => ?_)
        refine w_put hM hW FP_X7_33 lb_18 (by omega) (Or.inl ⟨_, rfl⟩) rfl rfl dX7_become_97 (fun g443 H locs hW e1 e2 => ?_)
        have f444 : fld g443 30 3 = .int x424 := (e2.1 30 3 (by unfold Only; omega)).trans f436
        have f445 : fld g443 18 3 = .int x424 := (e2.1 18 3 (by unfold Only; omega)).trans f437
        have f446 : fld g443 30 4 = .int x428 := (e2.1 30 4 (by unfold Only; omega)).trans f438
        have f447 : fld g443 18 4 = .int x428 := (e2.1 18 4 (by unfold Only; omega)).trans f439
        have f448 : fld g443 30 5 = .int x434 := (e2.1 30 5 (by unfold Only; omega)).trans f440
        have f449 : fld g443 18 5 = .int x434 := (e2.1 18 5 (by unfold Only; omega)).trans f441
        have f450 : fld g443 30 6 = .int x442 := (e2.1 30 6 (by unfold Only; omega)).trans fx442
        have f451 : fld g443 18 6 = .int x442 := e1
        have hG := hG.put e1 e2 (rfl : rF 18 6 = (-2147483648, 2147483647)) (by decide) (by have := i_rng x442; omega) (by have := i_rng x442; omega)
        refine q_aload_n hM dX7_become_100 (lv_at hl 0 rfl) ?_
        refine q_aload_n hM dX7_become_101 (lv_at hl 1 rfl) ?_
        refine w_getI hM hW FG_X7_36 lb_30 (by decide) (by decide) dX7_become_102 (fun x452 fx452 => ?_)
        refine w_put hM hW FP_X7_36 lb_18 (by omega) (Or.inl ⟨_, rfl⟩) rfl rfl dX7_become_105 (fun g453 H locs hW e1 e2 => ?_)
        have f454 : fld g453 30 3 = .int x424 := (e2.1 30 3 (by unfold Only; omega)).trans f444
        have f455 : fld g453 18 3 = .int x424 := (e2.1 18 3 (by unfold Only; omega)).trans f445
        have f456 : fld g453 30 4 = .int x428 := (e2.1 30 4 (by unfold Only; omega)).trans f446
        have f457 : fld g453 18 4 = .int x428 := (e2.1 18 4 (by unfold Only; omega)).trans f447
        have f458 : fld g453 30 5 = .int x434 := (e2.1 30 5 (by unfold Only; omega)).trans f448
        have f459 : fld g453 18 5 = .int x434 := (e2.1 18 5 (by unfold Only; omega)).trans f449
        have f460 : fld g453 30 6 = .int x442 := (e2.1 30 6 (by unfold Only; omega)).trans f450
        have f461 : fld g453 18 6 = .int x442 := (e2.1 18 6 (by unfold Only; omega)).trans f451
        have f462 : fld g453 30 7 = .int x452 := (e2.1 30 7 (by unfold Only; omega)).trans fx452
        have f463 : fld g453 18 7 = .int x452 := e1
        have hG := hG.put e1 e2 (rfl : rF 18 7 = (-2147483648, 2147483647)) (by decide) (by have := i_rng x452; omega) (by have := i_rng x452; omega)
        exact hE _ _ _ _ _ hW.1 ⟨rfl, hW.2.1, hG, hW.2.2⟩ dX7_become_108
      · refine q_aload_n hM dX7_become_8 (lv_at hl 0 rfl) ?_
        refine w_get (v := .ref (ad 19)) hM hW FG_X7_9 lb_18 (rf_18_0 hW.2.1) dX7_become_9 ?_
        refine q_iload_n hM dX7_become_12 (lv_at hl 2 rfl) ?_
        refine q_aload_n hM dX7_become_13 (lv_at hl 1 rfl) ?_
        refine w_get (v := .ref (ad 31)) hM hW FG_X7_9 lb_30 (rf_30_0 hW.2.1) dX7_become_14 ?_
        refine q_iload_n hM dX7_become_17 (lv_at hl 2 rfl) ?_
        refine w_iald hM hW lb_31 (i_in (by omega) (by omega)) dX7_become_18 ?_
        refine q_top (fun y465 hy465 => ?_)
        have by465 := hG.a hy465 rA_31
        refine w_iast hM hW lb_19 (by omega) (i_in (by omega) (by omega)) dX7_become_19 (fun g466 H locs hW e1 e2 => ?_)
        have hG := hG.st e1 e2 rA_19 (by have := i_rng y465; omega) (by have := i_rng y465; omega)
        refine q_aload_n hM dX7_become_20 (lv_at hl 0 rfl) ?_
        refine w_get (v := .ref (ad 20)) hM hW FG_X7_15 lb_18 (rf_18_1 hW.2.1) dX7_become_21 ?_
        refine q_iload_n hM dX7_become_24 (lv_at hl 2 rfl) ?_
        refine q_aload_n hM dX7_become_25 (lv_at hl 1 rfl) ?_
        refine w_get (v := .ref (ad 32)) hM hW FG_X7_15 lb_30 (rf_30_1 hW.2.1) dX7_become_26 ?_
        refine q_iload_n hM dX7_become_29 (lv_at hl 2 rfl) ?_
        refine w_iald hM hW lb_32 (i_in (by omega) (by omega)) dX7_become_30 ?_
        refine q_top (fun y467 hy467 => ?_)
        refine w_iast hM hW lb_20 (by omega) (i_in (by omega) (by omega)) dX7_become_31 (fun g468 H locs hW e1 e2 => ?_)
        have hG := hG.st e1 e2 (rfl : rA 20 = (-2147483648, 2147483647)) (by have := i_rng y467; omega) (by have := i_rng y467; omega)
        refine q_iconst (v := (0 : Int32)) hM dX7_become_32 (by decide) ?_
        refine q_istore_n (lv9 := [(3, .int (0 : Int32)), (0, .ref (ad 18)), (1, .ref (ad 30)), (2, .int w2_2)]) hM dX7_become_33 hl (by decide) rfl (fun ls hl => ?_)
        have L34 : ∀ (fu34 : Nat) (w34_3 : Int32) (g9 : Nat → va_E) (H : Heap) (locs : List Loc) (ls : Array Slot), (12 - w34_3.toInt).toNat < fu34 → (Rng g9) → (0 ≤ w34_3.toInt) → (w34_3.toInt ≤ 12) → lv_has ls 4 [(0, .ref (ad 18)), (1, .ref (ad 30)), (2, .int w2_2), (3, .int w34_3)] → WS ad cA (fun i k => i = 19 ∨ i = 20 ∨ (22 ≤ i ∧ i < 30) ∨ (i = 18 ∧ (k = 3 ∨ k = 4 ∨ k = 5 ∨ k = 6 ∨ k = 7))) g0 K g9 H locs → XX K 0 0 H locs 34 ls [] := by
          intro fu34
          induction fu34 with
          | zero => intro w34_3 g9 H locs ls h0; omega
          | succ fu34 ih34 =>
            intro w34_3 g9 H locs ls hm34 i34_0 i34_1 i34_2 hl hW
            have hG := i34_0
            refine q_iload_n hM dX7_become_34 (lv_at hl 3 rfl) ?_
            refine q_bipush (v := (12 : Int32)) hM dX7_become_35 (by decide) ?_
            refine q_icmp_ge (tgt := 62) hM dX7_become_37 (by decide) (rfl : w34_3.toInt = w34_3.toInt) (kc_12 : (12 : Int32).toInt = 12) (fun h37 => ?_) (fun h37 => ?_)
            · refine q_iinc (lv9 := fun z471 => [(2, .int z471), (0, .ref (ad 18)), (1, .ref (ad 30)), (3, .int w34_3)]) hM dX7_become_62 hl (kq := 2) rfl (by decide) (fun _ => rfl) (fun z471 ls hz471 hl => ?_)
              first | have tz471 := i_addT hz471 (rfl : w2_2.toInt = w2_2.toInt) (kc_1 : (Int32.ofInt 1).toInt = 1) (by omega) (by omega) | skip
              refine q_goto (tgt := 2) hM dX7_become_65 (by decide) ?_
              exact ih2 z471 _ _ _ _ (by omega) hG (by omega) (by omega) (lv_sub hl [1, 2, 0] rfl) hW
            · refine q_aload_n hM dX7_become_40 (lv_at hl 0 rfl) ?_
              refine w_get (v := .ref (ad 21)) hM hW FG_X7_20 lb_18 (rf_18_2 hW.2.1) dX7_become_41 ?_
              refine q_iload_n hM dX7_become_44 (lv_at hl 2 rfl) ?_
              refine w_aald hM hW lb_21 (Or.inl rfl) (i_in (by omega) (by omega)) (aq (aq_21 hW.2.1) (by omega) (by omega)) dX7_become_45 ?_
              refine q_iload_n hM dX7_become_46 (lv_at hl 3 rfl) ?_
              refine q_aload_n hM dX7_become_47 (lv_at hl 1 rfl) ?_
              refine w_get (v := .ref (ad 33)) hM hW FG_X7_20 lb_30 (rf_30_2 hW.2.1) dX7_become_48 ?_
              refine q_iload_n hM dX7_become_51 (lv_at hl 2 rfl) ?_
              refine w_aald hM hW lb_33 (Or.inl rfl) (i_in (by omega) (by omega)) (aq (aq_33 hW.2.1) (by omega) (by omega)) dX7_become_52 ?_
              refine q_iload_n hM dX7_become_53 (lv_at hl 3 rfl) ?_
              refine w_iald hM hW (lr_34 (by omega)) (i_in (by omega) (by omega)) dX7_become_54 ?_
              refine q_top (fun y473 hy473 => ?_)
              refine w_iast hM hW (lr_22 (by omega)) (by omega) (i_in (by omega) (by omega)) dX7_become_55 (fun g474 H locs hW e1 e2 => ?_)
              have hG := hG.st e1 e2 (rA_row_22 (by omega)) (by have := i_rng y473; omega) (by have := i_rng y473; omega)
              refine q_iinc (lv9 := fun z475 => [(3, .int z475), (0, .ref (ad 18)), (1, .ref (ad 30)), (2, .int w2_2)]) hM dX7_become_56 hl (kq := 3) rfl (by decide) (fun _ => rfl) (fun z475 ls hz475 hl => ?_)
              first | have tz475 := i_addT hz475 (rfl : w34_3.toInt = w34_3.toInt) (kc_1 : (Int32.ofInt 1).toInt = 1) (by omega) (by omega) | skip
              refine q_goto (tgt := 34) hM dX7_become_59 (by decide) ?_
              exact ih34 z475 _ _ _ _ (by omega) hG (by omega) (by omega) (lv_sub hl [1, 2, 3, 0] rfl) hW
        have := kc_0
        exact L34 _ (0 : Int32) _ _ _ _ (Nat.lt_succ_self _) hG (by omega) (by omega) (lv_sub hl [1, 2, 3, 0] rfl) hW
  have := kc_0
  exact L2 _ (0 : Int32) _ _ _ _ (Nat.lt_succ_self _) hG (by omega) (by omega) (lv_sub hl [1, 2, 0] rfl) hW

theorem dX2_begin_0 : decode cX2_begin 0 = .ok (.aload_n 0, 1) := by decide +kernel
theorem dX2_begin_1 : decode cX2_begin 1 = .ok (.aload_n 1, 1) := by decide +kernel
theorem dX2_begin_2 : decode cX2_begin 2 = .ok (.putfield 15, 3) := by decide +kernel
theorem dX2_begin_5 : decode cX2_begin 5 = .ok (.aload_n 0, 1) := by decide +kernel
theorem dX2_begin_6 : decode cX2_begin 6 = .ok (.aload_n 2, 1) := by decide +kernel
theorem dX2_begin_7 : decode cX2_begin 7 = .ok (.putfield 19, 3) := by decide +kernel
theorem dX2_begin_10 : decode cX2_begin 10 = .ok (.aload_n 0, 1) := by decide +kernel
theorem dX2_begin_11 : decode cX2_begin 11 = .ok (.iconst 0, 1) := by decide +kernel
theorem dX2_begin_12 : decode cX2_begin 12 = .ok (.putfield 47, 3) := by decide +kernel
theorem dX2_begin_15 : decode cX2_begin 15 = .ok (.aload_n 0, 1) := by decide +kernel
theorem dX2_begin_16 : decode cX2_begin 16 = .ok (.iconst 0, 1) := by decide +kernel
theorem dX2_begin_17 : decode cX2_begin 17 = .ok (.putfield 50, 3) := by decide +kernel
theorem dX2_begin_20 : decode cX2_begin 20 = .ok (.return_, 1) := by decide +kernel
theorem FP_X2_15 : FPX RX2 15 2 11 9 (.object "ForgetSchool$Law") := ⟨⟨RX2, TX2, tyX2, rfl, wX2, by decide, kAW (v_1_0 (List.mem_of_getElem? (i := 4) rfl)) rfl, rfl, tyX2_ok, nmX2, by decide +kernel, rfl⟩, by decide +kernel⟩
theorem FP_X2_19 : FPX RX2 19 2 11 10 (.object "ForgetSchool$Pupils") := ⟨⟨RX2, TX2, tyX2, rfl, wX2, by decide, kAW (v_1_0 (List.mem_of_getElem? (i := 5) rfl)) rfl, rfl, tyX2_ok, nmX2, by decide +kernel, rfl⟩, by decide +kernel⟩
theorem FP_X2_47 : FPX RX2 47 2 11 7 .int := ⟨⟨RX2, TX2, tyX2, rfl, wX2, by decide, kAW (v_1_0 (List.mem_of_getElem? (i := 0) rfl)) rfl, rfl, tyX2_ok, nmX2, by decide +kernel, rfl⟩, by decide +kernel⟩
theorem FP_X2_50 : FPX RX2 50 2 11 8 .int := ⟨⟨RX2, TX2, tyX2, rfl, wX2, by decide, kAW (v_1_0 (List.mem_of_getElem? (i := 2) rfl)) rfl, rfl, tyX2_ok, nmX2, by decide +kernel, rfl⟩, by decide +kernel⟩
set_option maxRecDepth 100000 in
set_option maxHeartbeats 4000000 in
theorem a_X2_begin (l : Launch) (D : va_G) (cA : Nat → ClassId) (ad : Nat → Nat) (g0 : Nat → va_E) (lw : Nat) (pb : Nat) (hSh : Shp ad cA g0) (hG : Rng g0) (hlw : isLw lw) (hpb : isPb pb) : CT l NN ad cA D yX2_begin cX2_begin 3 none (0, 0) [.ref (ad 80), .ref (ad lw), .ref (ad pb)] g0 (fun v g' => v = none ∧ Shp ad cA g' ∧ Rng g' ∧ FR (fun i k => (i = 80 ∧ (k = 7 ∨ k = 8 ∨ k = 9 ∨ k = 10))) g0 g' ∧ fld g' 80 9 = .ref (ad lw) ∧ fld g' 80 10 = .ref (ad pb)) := by
  refine q_enterV (by decide) (Nat.le_of_ble_eq_true rfl) (fun K H locs ls _ _ hM hW0 hR hC hE hl => ?_)
  have hl : lv_has ls 3 [(0, .ref (ad 80)), (1, .ref (ad lw)), (2, .ref (ad pb))] := hl
  have hW : WS ad cA (fun i k => (i = 80 ∧ (k = 7 ∨ k = 8 ∨ k = 9 ∨ k = 10))) g0 K g0 H locs := ⟨hW0, hSh, FR.rf⟩
  have ulw := hlw
  unfold isLw at ulw
  have upb := hpb
  unfold isPb at upb
  refine q_aload_n hM dX2_begin_0 (lv_at hl 0 rfl) ?_
  refine q_aload_n hM dX2_begin_1 (lv_at hl 1 rfl) ?_
  refine w_put hM hW FP_X2_15 lb_80 (by omega) (Or.inr (by decide)) rfl rfl dX2_begin_2 (fun g476 H locs hW e1 e2 => ?_)
  have f477 : fld g476 80 9 = .ref (ad lw) := e1
  have hG := hG.putR e1 e2 (rfl : rF 80 9 = (-2147483648, 2147483647)) (by decide)
  refine q_aload_n hM dX2_begin_5 (lv_at hl 0 rfl) ?_
  refine q_aload_n hM dX2_begin_6 (lv_at hl 2 rfl) ?_
  refine w_put hM hW FP_X2_19 lb_80 (by omega) (Or.inr (by decide)) rfl rfl dX2_begin_7 (fun g478 H locs hW e1 e2 => ?_)
  have f479 : fld g478 80 9 = .ref (ad lw) := (e2.1 80 9 (by unfold Only; omega)).trans f477
  have f480 : fld g478 80 10 = .ref (ad pb) := e1
  have hG := hG.putR e1 e2 (rfl : rF 80 10 = (-2147483648, 2147483647)) (by decide)
  refine q_aload_n hM dX2_begin_10 (lv_at hl 0 rfl) ?_
  refine q_iconst (v := (0 : Int32)) hM dX2_begin_11 (by decide) ?_
  refine w_put hM hW FP_X2_47 lb_80 (by omega) (Or.inl ⟨_, rfl⟩) rfl rfl dX2_begin_12 (fun g481 H locs hW e1 e2 => ?_)
  have f482 : fld g481 80 9 = .ref (ad lw) := (e2.1 80 9 (by unfold Only; omega)).trans f479
  have f483 : fld g481 80 10 = .ref (ad pb) := (e2.1 80 10 (by unfold Only; omega)).trans f480
  have f484 : fld g481 80 7 = .int (0 : Int32) := e1
  have hG := hG.put e1 e2 (rfl : rF 80 7 = (-2147483648, 2147483647)) (by decide) (by have := kc_0; have := i_rng (0 : Int32); omega) (by have := kc_0; have := i_rng (0 : Int32); omega)
  refine q_aload_n hM dX2_begin_15 (lv_at hl 0 rfl) ?_
  refine q_iconst (v := (0 : Int32)) hM dX2_begin_16 (by decide) ?_
  refine w_put hM hW FP_X2_50 lb_80 (by omega) (Or.inl ⟨_, rfl⟩) rfl rfl dX2_begin_17 (fun g485 H locs hW e1 e2 => ?_)
  have f486 : fld g485 80 9 = .ref (ad lw) := (e2.1 80 9 (by unfold Only; omega)).trans f482
  have f487 : fld g485 80 10 = .ref (ad pb) := (e2.1 80 10 (by unfold Only; omega)).trans f483
  have f488 : fld g485 80 7 = .int (0 : Int32) := (e2.1 80 7 (by unfold Only; omega)).trans f484
  have f489 : fld g485 80 8 = .int (0 : Int32) := e1
  have hG := hG.put e1 e2 (rfl : rF 80 8 = (-2147483648, 2147483647)) (by decide) (by have := kc_0; have := i_rng (0 : Int32); omega) (by have := kc_0; have := i_rng (0 : Int32); omega)
  exact hE _ _ _ _ _ hW.1 ⟨rfl, hW.2.1, hG, hW.2.2, f486, f487⟩ dX2_begin_20

theorem dX3_become_0 : decode cX3_become 0 = .ok (.aload_n 0, 1) := by decide +kernel
theorem dX3_become_1 : decode cX3_become 1 = .ok (.aload_n 1, 1) := by decide +kernel
theorem dX3_become_2 : decode cX3_become 2 = .ok (.getfield 28, 3) := by decide +kernel
theorem dX3_become_5 : decode cX3_become 5 = .ok (.putfield 28, 3) := by decide +kernel
theorem dX3_become_8 : decode cX3_become 8 = .ok (.aload_n 0, 1) := by decide +kernel
theorem dX3_become_9 : decode cX3_become 9 = .ok (.aload_n 1, 1) := by decide +kernel
theorem dX3_become_10 : decode cX3_become 10 = .ok (.getfield 32, 3) := by decide +kernel
theorem dX3_become_13 : decode cX3_become 13 = .ok (.putfield 32, 3) := by decide +kernel
theorem dX3_become_16 : decode cX3_become 16 = .ok (.iconst 0, 1) := by decide +kernel
theorem dX3_become_17 : decode cX3_become 17 = .ok (.istore_n 2, 1) := by decide +kernel
theorem dX3_become_18 : decode cX3_become 18 = .ok (.iload_n 2, 1) := by decide +kernel
theorem dX3_become_19 : decode cX3_become 19 = .ok (.bipush 16, 2) := by decide +kernel
theorem dX3_become_21 : decode cX3_become 21 = .ok (.if_icmp .ge 45, 3) := by decide +kernel
theorem dX3_become_24 : decode cX3_become 24 = .ok (.aload_n 0, 1) := by decide +kernel
theorem dX3_become_25 : decode cX3_become 25 = .ok (.getfield 9, 3) := by decide +kernel
theorem dX3_become_28 : decode cX3_become 28 = .ok (.iload_n 2, 1) := by decide +kernel
theorem dX3_become_29 : decode cX3_become 29 = .ok (.aload_n 1, 1) := by decide +kernel
theorem dX3_become_30 : decode cX3_become 30 = .ok (.getfield 9, 3) := by decide +kernel
theorem dX3_become_33 : decode cX3_become 33 = .ok (.iload_n 2, 1) := by decide +kernel
theorem dX3_become_34 : decode cX3_become 34 = .ok (.iaload, 1) := by decide +kernel
theorem dX3_become_35 : decode cX3_become 35 = .ok (.iastore, 1) := by decide +kernel
theorem dX3_become_36 : decode cX3_become 36 = .ok (.aload_n 0, 1) := by decide +kernel
theorem dX3_become_37 : decode cX3_become 37 = .ok (.getfield 13, 3) := by decide +kernel
theorem dX3_become_40 : decode cX3_become 40 = .ok (.iload_n 2, 1) := by decide +kernel
theorem dX3_become_41 : decode cX3_become 41 = .ok (.aload_n 1, 1) := by decide +kernel
theorem dX3_become_42 : decode cX3_become 42 = .ok (.getfield 13, 3) := by decide +kernel
theorem dX3_become_45 : decode cX3_become 45 = .ok (.iload_n 2, 1) := by decide +kernel
theorem dX3_become_46 : decode cX3_become 46 = .ok (.iaload, 1) := by decide +kernel
theorem dX3_become_47 : decode cX3_become 47 = .ok (.iastore, 1) := by decide +kernel
theorem dX3_become_48 : decode cX3_become 48 = .ok (.aload_n 0, 1) := by decide +kernel
theorem dX3_become_49 : decode cX3_become 49 = .ok (.getfield 16, 3) := by decide +kernel
theorem dX3_become_52 : decode cX3_become 52 = .ok (.iload_n 2, 1) := by decide +kernel
theorem dX3_become_53 : decode cX3_become 53 = .ok (.aload_n 1, 1) := by decide +kernel
theorem dX3_become_54 : decode cX3_become 54 = .ok (.getfield 16, 3) := by decide +kernel
theorem dX3_become_57 : decode cX3_become 57 = .ok (.iload_n 2, 1) := by decide +kernel
theorem dX3_become_58 : decode cX3_become 58 = .ok (.iaload, 1) := by decide +kernel
theorem dX3_become_59 : decode cX3_become 59 = .ok (.iastore, 1) := by decide +kernel
theorem dX3_become_60 : decode cX3_become 60 = .ok (.iinc 2 1, 3) := by decide +kernel
theorem dX3_become_63 : decode cX3_become 63 = .ok (.goto (-45), 3) := by decide +kernel
theorem dX3_become_66 : decode cX3_become 66 = .ok (.iconst 0, 1) := by decide +kernel
theorem dX3_become_67 : decode cX3_become 67 = .ok (.istore_n 2, 1) := by decide +kernel
theorem dX3_become_68 : decode cX3_become 68 = .ok (.iload_n 2, 1) := by decide +kernel
theorem dX3_become_69 : decode cX3_become 69 = .ok (.sipush 256, 3) := by decide +kernel
theorem dX3_become_72 : decode cX3_become 72 = .ok (.if_icmp .ge 33, 3) := by decide +kernel
theorem dX3_become_75 : decode cX3_become 75 = .ok (.aload_n 0, 1) := by decide +kernel
theorem dX3_become_76 : decode cX3_become 76 = .ok (.getfield 19, 3) := by decide +kernel
theorem dX3_become_79 : decode cX3_become 79 = .ok (.iload_n 2, 1) := by decide +kernel
theorem dX3_become_80 : decode cX3_become 80 = .ok (.aload_n 1, 1) := by decide +kernel
theorem dX3_become_81 : decode cX3_become 81 = .ok (.getfield 19, 3) := by decide +kernel
theorem dX3_become_84 : decode cX3_become 84 = .ok (.iload_n 2, 1) := by decide +kernel
theorem dX3_become_85 : decode cX3_become 85 = .ok (.iaload, 1) := by decide +kernel
theorem dX3_become_86 : decode cX3_become 86 = .ok (.iastore, 1) := by decide +kernel
theorem dX3_become_87 : decode cX3_become 87 = .ok (.aload_n 0, 1) := by decide +kernel
theorem dX3_become_88 : decode cX3_become 88 = .ok (.getfield 22, 3) := by decide +kernel
theorem dX3_become_91 : decode cX3_become 91 = .ok (.iload_n 2, 1) := by decide +kernel
theorem dX3_become_92 : decode cX3_become 92 = .ok (.aload_n 1, 1) := by decide +kernel
theorem dX3_become_93 : decode cX3_become 93 = .ok (.getfield 22, 3) := by decide +kernel
theorem dX3_become_96 : decode cX3_become 96 = .ok (.iload_n 2, 1) := by decide +kernel
theorem dX3_become_97 : decode cX3_become 97 = .ok (.iaload, 1) := by decide +kernel
theorem dX3_become_98 : decode cX3_become 98 = .ok (.iastore, 1) := by decide +kernel
theorem dX3_become_99 : decode cX3_become 99 = .ok (.iinc 2 1, 3) := by decide +kernel
theorem dX3_become_102 : decode cX3_become 102 = .ok (.goto (-34), 3) := by decide +kernel
theorem dX3_become_105 : decode cX3_become 105 = .ok (.return_, 1) := by decide +kernel
theorem FG_X3_28 : FG RX3 28 3 8 6 := ⟨RX3, TX3, rfl, wX3, by decide, kAW (v_0_8 (List.mem_of_getElem? (i := 3) rfl)) rfl, rfl⟩
theorem FP_X3_28 : FPX RX3 28 3 8 6 .int := ⟨⟨RX3, TX3, tyX3, rfl, wX3, by decide, kAW (v_0_8 (List.mem_of_getElem? (i := 3) rfl)) rfl, rfl, tyX3_ok, nmX3, by decide +kernel, rfl⟩, by decide +kernel⟩
theorem FG_X3_32 : FG RX3 32 3 8 7 := ⟨RX3, TX3, rfl, wX3, by decide, kAW (v_0_8 (List.mem_of_getElem? (i := 6) rfl)) rfl, rfl⟩
theorem FP_X3_32 : FPX RX3 32 3 8 7 .int := ⟨⟨RX3, TX3, tyX3, rfl, wX3, by decide, kAW (v_0_8 (List.mem_of_getElem? (i := 6) rfl)) rfl, rfl, tyX3_ok, nmX3, by decide +kernel, rfl⟩, by decide +kernel⟩
theorem FG_X3_19 : FG RX3 19 3 8 3 := ⟨RX3, TX3, rfl, wX3, by decide, kAW (v_0_8 (List.mem_of_getElem? (i := 0) rfl)) rfl, rfl⟩
theorem FG_X3_22 : FG RX3 22 3 8 4 := ⟨RX3, TX3, rfl, wX3, by decide, kAW (v_0_8 (List.mem_of_getElem? (i := 1) rfl)) rfl, rfl⟩
theorem FG_X3_9 : FG RX3 9 3 8 0 := ⟨RX3, TX3, rfl, wX3, by decide, kAW (v_0_7 (List.mem_of_getElem? (i := 10) rfl)) rfl, rfl⟩
theorem FG_X3_13 : FG RX3 13 3 8 1 := ⟨RX3, TX3, rfl, wX3, by decide, kAW (v_0_7 (List.mem_of_getElem? (i := 12) rfl)) rfl, rfl⟩
theorem FG_X3_16 : FG RX3 16 3 8 2 := ⟨RX3, TX3, rfl, wX3, by decide, kAW (v_0_7 (List.mem_of_getElem? (i := 14) rfl)) rfl, rfl⟩
set_option maxRecDepth 100000 in
set_option maxHeartbeats 4000000 in
theorem a_X3_become_54 (l : Launch) (D : va_G) (cA : Nat → ClassId) (ad : Nat → Nat) (g0 : Nat → va_E)  (hSh : Shp ad cA g0) (hG : Rng g0) : CT l NN ad cA D yX3_become cX3_become 3 none (0, 0) [.ref (ad 61), .ref (ad 54)] g0 (fun v g' => v = none ∧ Shp ad cA g' ∧ Rng g' ∧ FR (fun i k => (i = 61 ∧ (k = 6 ∨ k = 7)) ∨ (62 ≤ i ∧ i < 67)) g0 g') := by
  refine q_enterV (by decide) (Nat.le_of_ble_eq_true rfl) (fun K H locs ls _ _ hM hW0 hR hC hE hl => ?_)
  have hl : lv_has ls 3 [(0, .ref (ad 61)), (1, .ref (ad 54))] := hl
  have hW : WS ad cA (fun i k => (i = 61 ∧ (k = 6 ∨ k = 7)) ∨ (62 ≤ i ∧ i < 67)) g0 K g0 H locs := ⟨hW0, hSh, FR.rf⟩
  refine q_aload_n hM dX3_become_0 (lv_at hl 0 rfl) ?_
  refine q_aload_n hM dX3_become_1 (lv_at hl 1 rfl) ?_
  refine w_getI hM hW FG_X3_28 lb_54 (by decide) (by decide) dX3_become_2 (fun x490 fx490 => ?_)
  have bx490 := hG.f fx490 rF_54_6 (by decide)
  refine w_put hM hW FP_X3_28 lb_61 (by omega) (Or.inl ⟨_, rfl⟩) rfl rfl dX3_become_5 (fun g491 H locs hW e1 e2 => ?_)
  have f492 : fld g491 54 6 = .int x490 := (e2.1 54 6 (by unfold Only; omega)).trans fx490
  have f493 : fld g491 61 6 = .int x490 := e1
  have hG := hG.put e1 e2 rF_61_6 (by decide) (by have := i_rng x490; omega) (by have := i_rng x490; omega)
  refine q_aload_n hM dX3_become_8 (lv_at hl 0 rfl) ?_
  refine q_aload_n hM dX3_become_9 (lv_at hl 1 rfl) ?_
  refine w_getI hM hW FG_X3_32 lb_54 (by decide) (by decide) dX3_become_10 (fun x494 fx494 => ?_)
  have bx494 := hG.f fx494 rF_54_7 (by decide)
  refine w_put hM hW FP_X3_32 lb_61 (by omega) (Or.inl ⟨_, rfl⟩) rfl rfl dX3_become_13 (fun g495 H locs hW e1 e2 => ?_)
  have f496 : fld g495 54 6 = .int x490 := (e2.1 54 6 (by unfold Only; omega)).trans f492
  have f497 : fld g495 61 6 = .int x490 := (e2.1 61 6 (by unfold Only; omega)).trans f493
  have f498 : fld g495 54 7 = .int x494 := (e2.1 54 7 (by unfold Only; omega)).trans fx494
  have f499 : fld g495 61 7 = .int x494 := e1
  have hG := hG.put e1 e2 rF_61_7 (by decide) (by have := i_rng x494; omega) (by have := i_rng x494; omega)
  refine q_iconst (v := (0 : Int32)) hM dX3_become_16 (by decide) ?_
  refine q_istore_n (lv9 := [(2, .int (0 : Int32)), (0, .ref (ad 61)), (1, .ref (ad 54))]) hM dX3_become_17 hl (by decide) rfl (fun ls hl => ?_)
  have L18 : ∀ (fu18 : Nat) (w18_2 : Int32) (g9 : Nat → va_E) (H : Heap) (locs : List Loc) (ls : Array Slot), (16 - w18_2.toInt).toNat < fu18 → (Rng g9) → (0 ≤ w18_2.toInt) → (w18_2.toInt ≤ 16) → lv_has ls 3 [(0, .ref (ad 61)), (1, .ref (ad 54)), (2, .int w18_2)] → WS ad cA (fun i k => (i = 61 ∧ (k = 6 ∨ k = 7)) ∨ (62 ≤ i ∧ i < 67)) g0 K g9 H locs → XX K 0 0 H locs 18 ls [] := by
    intro fu18
    induction fu18 with
    | zero => intro w18_2 g9 H locs ls h0; omega
    | succ fu18 ih18 =>
      intro w18_2 g9 H locs ls hm18 i18_0 i18_1 i18_2 hl hW
      have hG := i18_0
      refine q_iload_n hM dX3_become_18 (lv_at hl 2 rfl) ?_
      refine q_bipush (v := (16 : Int32)) hM dX3_become_19 (by decide) ?_
      refine q_icmp_ge (tgt := 66) hM dX3_become_21 (by decide) (rfl : w18_2.toInt = w18_2.toInt) (kc_16 : (16 : Int32).toInt = 16) (fun h21 => ?_) (fun h21 => ?_)
      · refine q_iconst (v := (0 : Int32)) hM dX3_become_66 (by decide) ?_
        refine q_istore_n (lv9 := [(2, .int (0 : Int32)), (0, .ref (ad 61)), (1, .ref (ad 54))]) hM dX3_become_67 hl (by decide) rfl (fun ls hl => ?_)
        have L68 : ∀ (fu68 : Nat) (w68_2 : Int32) (g9 : Nat → va_E) (H : Heap) (locs : List Loc) (ls : Array Slot), (256 - w68_2.toInt).toNat < fu68 → (Rng g9) → (0 ≤ w68_2.toInt) → (w68_2.toInt ≤ 256) → lv_has ls 3 [(0, .ref (ad 61)), (1, .ref (ad 54)), (2, .int w68_2)] → WS ad cA (fun i k => (i = 61 ∧ (k = 6 ∨ k = 7)) ∨ (62 ≤ i ∧ i < 67)) g0 K g9 H locs → XX K 0 0 H locs 68 ls [] := by
          intro fu68
          induction fu68 with
          | zero => intro w68_2 g9 H locs ls h0; omega
          | succ fu68 ih68 =>
            intro w68_2 g9 H locs ls hm68 i68_0 i68_1 i68_2 hl hW
            have hG := i68_0
            refine q_iload_n hM dX3_become_68 (lv_at hl 2 rfl) ?_
            refine q_sipush (v := (256 : Int32)) hM dX3_become_69 (by decide) ?_
            refine q_icmp_ge (tgt := 105) hM dX3_become_72 (by decide) (rfl : w68_2.toInt = w68_2.toInt) (kc_256 : (256 : Int32).toInt = 256) (fun h72 => ?_) (fun h72 => ?_)
            · exact hE _ _ _ _ _ hW.1 ⟨rfl, hW.2.1, hG, hW.2.2⟩ dX3_become_105
            · refine q_aload_n hM dX3_become_75 (lv_at hl 0 rfl) ?_
              refine w_get (v := .ref (ad 65)) hM hW FG_X3_19 lb_61 (rf_61_3 hW.2.1) dX3_become_76 ?_
              refine q_iload_n hM dX3_become_79 (lv_at hl 2 rfl) ?_
              refine q_aload_n hM dX3_become_80 (lv_at hl 1 rfl) ?_
              refine w_get (v := .ref (ad 58)) hM hW FG_X3_19 lb_54 (rf_54_3 hW.2.1) dX3_become_81 ?_
              refine q_iload_n hM dX3_become_84 (lv_at hl 2 rfl) ?_
              refine w_iald hM hW lb_58 (i_in (by omega) (by omega)) dX3_become_85 ?_
              refine q_top (fun y505 hy505 => ?_)
              refine w_iast hM hW lb_65 (by omega) (i_in (by omega) (by omega)) dX3_become_86 (fun g506 H locs hW e1 e2 => ?_)
              have hG := hG.st e1 e2 (rfl : rA 65 = (-2147483648, 2147483647)) (by have := i_rng y505; omega) (by have := i_rng y505; omega)
              refine q_aload_n hM dX3_become_87 (lv_at hl 0 rfl) ?_
              refine w_get (v := .ref (ad 66)) hM hW FG_X3_22 lb_61 (rf_61_4 hW.2.1) dX3_become_88 ?_
              refine q_iload_n hM dX3_become_91 (lv_at hl 2 rfl) ?_
              refine q_aload_n hM dX3_become_92 (lv_at hl 1 rfl) ?_
              refine w_get (v := .ref (ad 59)) hM hW FG_X3_22 lb_54 (rf_54_4 hW.2.1) dX3_become_93 ?_
              refine q_iload_n hM dX3_become_96 (lv_at hl 2 rfl) ?_
              refine w_iald hM hW lb_59 (i_in (by omega) (by omega)) dX3_become_97 ?_
              refine q_top (fun y507 hy507 => ?_)
              have by507 := hG.a hy507 rA_59
              refine w_iast hM hW lb_66 (by omega) (i_in (by omega) (by omega)) dX3_become_98 (fun g508 H locs hW e1 e2 => ?_)
              have hG := hG.st e1 e2 rA_66 (by have := i_rng y507; omega) (by have := i_rng y507; omega)
              refine q_iinc (lv9 := fun z509 => [(2, .int z509), (0, .ref (ad 61)), (1, .ref (ad 54))]) hM dX3_become_99 hl (kq := 2) rfl (by decide) (fun _ => rfl) (fun z509 ls hz509 hl => ?_)
              first | have tz509 := i_addT hz509 (rfl : w68_2.toInt = w68_2.toInt) (kc_1 : (Int32.ofInt 1).toInt = 1) (by omega) (by omega) | skip
              refine q_goto (tgt := 68) hM dX3_become_102 (by decide) ?_
              exact ih68 z509 _ _ _ _ (by omega) hG (by omega) (by omega) (lv_sub hl [1, 2, 0] rfl) hW
        have := kc_0
        exact L68 _ (0 : Int32) _ _ _ _ (Nat.lt_succ_self _) hG (by omega) (by omega) (lv_sub hl [1, 2, 0] rfl) hW
      · refine q_aload_n hM dX3_become_24 (lv_at hl 0 rfl) ?_
        refine w_get (v := .ref (ad 62)) hM hW FG_X3_9 lb_61 (rf_61_0 hW.2.1) dX3_become_25 ?_
        refine q_iload_n hM dX3_become_28 (lv_at hl 2 rfl) ?_
        refine q_aload_n hM dX3_become_29 (lv_at hl 1 rfl) ?_
        refine w_get (v := .ref (ad 55)) hM hW FG_X3_9 lb_54 (rf_54_0 hW.2.1) dX3_become_30 ?_
        refine q_iload_n hM dX3_become_33 (lv_at hl 2 rfl) ?_
        refine w_iald hM hW lb_55 (i_in (by omega) (by omega)) dX3_become_34 ?_
        refine q_top (fun y511 hy511 => ?_)
        refine w_iast hM hW lb_62 (by omega) (i_in (by omega) (by omega)) dX3_become_35 (fun g512 H locs hW e1 e2 => ?_)
        have hG := hG.st e1 e2 (rfl : rA 62 = (-2147483648, 2147483647)) (by have := i_rng y511; omega) (by have := i_rng y511; omega)
        refine q_aload_n hM dX3_become_36 (lv_at hl 0 rfl) ?_
        refine w_get (v := .ref (ad 63)) hM hW FG_X3_13 lb_61 (rf_61_1 hW.2.1) dX3_become_37 ?_
        refine q_iload_n hM dX3_become_40 (lv_at hl 2 rfl) ?_
        refine q_aload_n hM dX3_become_41 (lv_at hl 1 rfl) ?_
        refine w_get (v := .ref (ad 56)) hM hW FG_X3_13 lb_54 (rf_54_1 hW.2.1) dX3_become_42 ?_
        refine q_iload_n hM dX3_become_45 (lv_at hl 2 rfl) ?_
        refine w_iald hM hW lb_56 (i_in (by omega) (by omega)) dX3_become_46 ?_
        refine q_top (fun y513 hy513 => ?_)
        refine w_iast hM hW lb_63 (by omega) (i_in (by omega) (by omega)) dX3_become_47 (fun g514 H locs hW e1 e2 => ?_)
        have hG := hG.st e1 e2 (rfl : rA 63 = (-2147483648, 2147483647)) (by have := i_rng y513; omega) (by have := i_rng y513; omega)
        refine q_aload_n hM dX3_become_48 (lv_at hl 0 rfl) ?_
        refine w_get (v := .ref (ad 64)) hM hW FG_X3_16 lb_61 (rf_61_2 hW.2.1) dX3_become_49 ?_
        refine q_iload_n hM dX3_become_52 (lv_at hl 2 rfl) ?_
        refine q_aload_n hM dX3_become_53 (lv_at hl 1 rfl) ?_
        refine w_get (v := .ref (ad 57)) hM hW FG_X3_16 lb_54 (rf_54_2 hW.2.1) dX3_become_54 ?_
        refine q_iload_n hM dX3_become_57 (lv_at hl 2 rfl) ?_
        refine w_iald hM hW lb_57 (i_in (by omega) (by omega)) dX3_become_58 ?_
        refine q_top (fun y515 hy515 => ?_)
        refine w_iast hM hW lb_64 (by omega) (i_in (by omega) (by omega)) dX3_become_59 (fun g516 H locs hW e1 e2 => ?_)
        have hG := hG.st e1 e2 (rfl : rA 64 = (-2147483648, 2147483647)) (by have := i_rng y515; omega) (by have := i_rng y515; omega)
        refine q_iinc (lv9 := fun z517 => [(2, .int z517), (0, .ref (ad 61)), (1, .ref (ad 54))]) hM dX3_become_60 hl (kq := 2) rfl (by decide) (fun _ => rfl) (fun z517 ls hz517 hl => ?_)
        first | have tz517 := i_addT hz517 (rfl : w18_2.toInt = w18_2.toInt) (kc_1 : (Int32.ofInt 1).toInt = 1) (by omega) (by omega) | skip
        refine q_goto (tgt := 18) hM dX3_become_63 (by decide) ?_
        exact ih18 z517 _ _ _ _ (by omega) hG (by omega) (by omega) (lv_sub hl [1, 2, 0] rfl) hW
  have := kc_0
  exact L18 _ (0 : Int32) _ _ _ _ (Nat.lt_succ_self _) hG (by omega) (by omega) (lv_sub hl [1, 2, 0] rfl) hW


set_option maxRecDepth 100000 in
set_option maxHeartbeats 4000000 in
theorem a_X3_become_68 (l : Launch) (D : va_G) (cA : Nat → ClassId) (ad : Nat → Nat) (g0 : Nat → va_E)  (hSh : Shp ad cA g0) (hG : Rng g0) : CT l NN ad cA D yX3_become cX3_become 3 none (0, 0) [.ref (ad 61), .ref (ad 68)] g0 (fun v g' => v = none ∧ Shp ad cA g' ∧ Rng g' ∧ FR (fun i k => (i = 61 ∧ (k = 6 ∨ k = 7)) ∨ (62 ≤ i ∧ i < 67)) g0 g') := by
  refine q_enterV (by decide) (Nat.le_of_ble_eq_true rfl) (fun K H locs ls _ _ hM hW0 hR hC hE hl => ?_)
  have hl : lv_has ls 3 [(0, .ref (ad 61)), (1, .ref (ad 68))] := hl
  have hW : WS ad cA (fun i k => (i = 61 ∧ (k = 6 ∨ k = 7)) ∨ (62 ≤ i ∧ i < 67)) g0 K g0 H locs := ⟨hW0, hSh, FR.rf⟩
  refine q_aload_n hM dX3_become_0 (lv_at hl 0 rfl) ?_
  refine q_aload_n hM dX3_become_1 (lv_at hl 1 rfl) ?_
  refine w_getI hM hW FG_X3_28 lb_68 (by decide) (by decide) dX3_become_2 (fun x518 fx518 => ?_)
  have bx518 := hG.f fx518 rF_68_6 (by decide)
  refine w_put hM hW FP_X3_28 lb_61 (by omega) (Or.inl ⟨_, rfl⟩) rfl rfl dX3_become_5 (fun g519 H locs hW e1 e2 => ?_)
  have f520 : fld g519 68 6 = .int x518 := (e2.1 68 6 (by unfold Only; omega)).trans fx518
  have f521 : fld g519 61 6 = .int x518 := e1
  have hG := hG.put e1 e2 rF_61_6 (by decide) (by have := i_rng x518; omega) (by have := i_rng x518; omega)
  refine q_aload_n hM dX3_become_8 (lv_at hl 0 rfl) ?_
  refine q_aload_n hM dX3_become_9 (lv_at hl 1 rfl) ?_
  refine w_getI hM hW FG_X3_32 lb_68 (by decide) (by decide) dX3_become_10 (fun x522 fx522 => ?_)
  have bx522 := hG.f fx522 rF_68_7 (by decide)
  refine w_put hM hW FP_X3_32 lb_61 (by omega) (Or.inl ⟨_, rfl⟩) rfl rfl dX3_become_13 (fun g523 H locs hW e1 e2 => ?_)
  have f524 : fld g523 68 6 = .int x518 := (e2.1 68 6 (by unfold Only; omega)).trans f520
  have f525 : fld g523 61 6 = .int x518 := (e2.1 61 6 (by unfold Only; omega)).trans f521
  have f526 : fld g523 68 7 = .int x522 := (e2.1 68 7 (by unfold Only; omega)).trans fx522
  have f527 : fld g523 61 7 = .int x522 := e1
  have hG := hG.put e1 e2 rF_61_7 (by decide) (by have := i_rng x522; omega) (by have := i_rng x522; omega)
  refine q_iconst (v := (0 : Int32)) hM dX3_become_16 (by decide) ?_
  refine q_istore_n (lv9 := [(2, .int (0 : Int32)), (0, .ref (ad 61)), (1, .ref (ad 68))]) hM dX3_become_17 hl (by decide) rfl (fun ls hl => ?_)
  have L18 : ∀ (fu18 : Nat) (w18_2 : Int32) (g9 : Nat → va_E) (H : Heap) (locs : List Loc) (ls : Array Slot), (16 - w18_2.toInt).toNat < fu18 → (Rng g9) → (0 ≤ w18_2.toInt) → (w18_2.toInt ≤ 16) → lv_has ls 3 [(0, .ref (ad 61)), (1, .ref (ad 68)), (2, .int w18_2)] → WS ad cA (fun i k => (i = 61 ∧ (k = 6 ∨ k = 7)) ∨ (62 ≤ i ∧ i < 67)) g0 K g9 H locs → XX K 0 0 H locs 18 ls [] := by
    intro fu18
    induction fu18 with
    | zero => intro w18_2 g9 H locs ls h0; omega
    | succ fu18 ih18 =>
      intro w18_2 g9 H locs ls hm18 i18_0 i18_1 i18_2 hl hW
      have hG := i18_0
      refine q_iload_n hM dX3_become_18 (lv_at hl 2 rfl) ?_
      refine q_bipush (v := (16 : Int32)) hM dX3_become_19 (by decide) ?_
      refine q_icmp_ge (tgt := 66) hM dX3_become_21 (by decide) (rfl : w18_2.toInt = w18_2.toInt) (kc_16 : (16 : Int32).toInt = 16) (fun h21 => ?_) (fun h21 => ?_)
      · refine q_iconst (v := (0 : Int32)) hM dX3_become_66 (by decide) ?_
        refine q_istore_n (lv9 := [(2, .int (0 : Int32)), (0, .ref (ad 61)), (1, .ref (ad 68))]) hM dX3_become_67 hl (by decide) rfl (fun ls hl => ?_)
        have L68 : ∀ (fu68 : Nat) (w68_2 : Int32) (g9 : Nat → va_E) (H : Heap) (locs : List Loc) (ls : Array Slot), (256 - w68_2.toInt).toNat < fu68 → (Rng g9) → (0 ≤ w68_2.toInt) → (w68_2.toInt ≤ 256) → lv_has ls 3 [(0, .ref (ad 61)), (1, .ref (ad 68)), (2, .int w68_2)] → WS ad cA (fun i k => (i = 61 ∧ (k = 6 ∨ k = 7)) ∨ (62 ≤ i ∧ i < 67)) g0 K g9 H locs → XX K 0 0 H locs 68 ls [] := by
          intro fu68
          induction fu68 with
          | zero => intro w68_2 g9 H locs ls h0; omega
          | succ fu68 ih68 =>
            intro w68_2 g9 H locs ls hm68 i68_0 i68_1 i68_2 hl hW
            have hG := i68_0
            refine q_iload_n hM dX3_become_68 (lv_at hl 2 rfl) ?_
            refine q_sipush (v := (256 : Int32)) hM dX3_become_69 (by decide) ?_
            refine q_icmp_ge (tgt := 105) hM dX3_become_72 (by decide) (rfl : w68_2.toInt = w68_2.toInt) (kc_256 : (256 : Int32).toInt = 256) (fun h72 => ?_) (fun h72 => ?_)
            · exact hE _ _ _ _ _ hW.1 ⟨rfl, hW.2.1, hG, hW.2.2⟩ dX3_become_105
            · refine q_aload_n hM dX3_become_75 (lv_at hl 0 rfl) ?_
              refine w_get (v := .ref (ad 65)) hM hW FG_X3_19 lb_61 (rf_61_3 hW.2.1) dX3_become_76 ?_
              refine q_iload_n hM dX3_become_79 (lv_at hl 2 rfl) ?_
              refine q_aload_n hM dX3_become_80 (lv_at hl 1 rfl) ?_
              refine w_get (v := .ref (ad 72)) hM hW FG_X3_19 lb_68 (rf_68_3 hW.2.1) dX3_become_81 ?_
              refine q_iload_n hM dX3_become_84 (lv_at hl 2 rfl) ?_
              refine w_iald hM hW lb_72 (i_in (by omega) (by omega)) dX3_become_85 ?_
              refine q_top (fun y533 hy533 => ?_)
              refine w_iast hM hW lb_65 (by omega) (i_in (by omega) (by omega)) dX3_become_86 (fun g534 H locs hW e1 e2 => ?_)
              have hG := hG.st e1 e2 (rfl : rA 65 = (-2147483648, 2147483647)) (by have := i_rng y533; omega) (by have := i_rng y533; omega)
              refine q_aload_n hM dX3_become_87 (lv_at hl 0 rfl) ?_
              refine w_get (v := .ref (ad 66)) hM hW FG_X3_22 lb_61 (rf_61_4 hW.2.1) dX3_become_88 ?_
              refine q_iload_n hM dX3_become_91 (lv_at hl 2 rfl) ?_
              refine q_aload_n hM dX3_become_92 (lv_at hl 1 rfl) ?_
              refine w_get (v := .ref (ad 73)) hM hW FG_X3_22 lb_68 (rf_68_4 hW.2.1) dX3_become_93 ?_
              refine q_iload_n hM dX3_become_96 (lv_at hl 2 rfl) ?_
              refine w_iald hM hW lb_73 (i_in (by omega) (by omega)) dX3_become_97 ?_
              refine q_top (fun y535 hy535 => ?_)
              have by535 := hG.a hy535 rA_73
              refine w_iast hM hW lb_66 (by omega) (i_in (by omega) (by omega)) dX3_become_98 (fun g536 H locs hW e1 e2 => ?_)
              have hG := hG.st e1 e2 rA_66 (by have := i_rng y535; omega) (by have := i_rng y535; omega)
              refine q_iinc (lv9 := fun z537 => [(2, .int z537), (0, .ref (ad 61)), (1, .ref (ad 68))]) hM dX3_become_99 hl (kq := 2) rfl (by decide) (fun _ => rfl) (fun z537 ls hz537 hl => ?_)
              first | have tz537 := i_addT hz537 (rfl : w68_2.toInt = w68_2.toInt) (kc_1 : (Int32.ofInt 1).toInt = 1) (by omega) (by omega) | skip
              refine q_goto (tgt := 68) hM dX3_become_102 (by decide) ?_
              exact ih68 z537 _ _ _ _ (by omega) hG (by omega) (by omega) (lv_sub hl [1, 2, 0] rfl) hW
        have := kc_0
        exact L68 _ (0 : Int32) _ _ _ _ (Nat.lt_succ_self _) hG (by omega) (by omega) (lv_sub hl [1, 2, 0] rfl) hW
      · refine q_aload_n hM dX3_become_24 (lv_at hl 0 rfl) ?_
        refine w_get (v := .ref (ad 62)) hM hW FG_X3_9 lb_61 (rf_61_0 hW.2.1) dX3_become_25 ?_
        refine q_iload_n hM dX3_become_28 (lv_at hl 2 rfl) ?_
        refine q_aload_n hM dX3_become_29 (lv_at hl 1 rfl) ?_
        refine w_get (v := .ref (ad 69)) hM hW FG_X3_9 lb_68 (rf_68_0 hW.2.1) dX3_become_30 ?_
        refine q_iload_n hM dX3_become_33 (lv_at hl 2 rfl) ?_
        refine w_iald hM hW lb_69 (i_in (by omega) (by omega)) dX3_become_34 ?_
        refine q_top (fun y539 hy539 => ?_)
        refine w_iast hM hW lb_62 (by omega) (i_in (by omega) (by omega)) dX3_become_35 (fun g540 H locs hW e1 e2 => ?_)
        have hG := hG.st e1 e2 (rfl : rA 62 = (-2147483648, 2147483647)) (by have := i_rng y539; omega) (by have := i_rng y539; omega)
        refine q_aload_n hM dX3_become_36 (lv_at hl 0 rfl) ?_
        refine w_get (v := .ref (ad 63)) hM hW FG_X3_13 lb_61 (rf_61_1 hW.2.1) dX3_become_37 ?_
        refine q_iload_n hM dX3_become_40 (lv_at hl 2 rfl) ?_
        refine q_aload_n hM dX3_become_41 (lv_at hl 1 rfl) ?_
        refine w_get (v := .ref (ad 70)) hM hW FG_X3_13 lb_68 (rf_68_1 hW.2.1) dX3_become_42 ?_
        refine q_iload_n hM dX3_become_45 (lv_at hl 2 rfl) ?_
        refine w_iald hM hW lb_70 (i_in (by omega) (by omega)) dX3_become_46 ?_
        refine q_top (fun y541 hy541 => ?_)
        refine w_iast hM hW lb_63 (by omega) (i_in (by omega) (by omega)) dX3_become_47 (fun g542 H locs hW e1 e2 => ?_)
        have hG := hG.st e1 e2 (rfl : rA 63 = (-2147483648, 2147483647)) (by have := i_rng y541; omega) (by have := i_rng y541; omega)
        refine q_aload_n hM dX3_become_48 (lv_at hl 0 rfl) ?_
        refine w_get (v := .ref (ad 64)) hM hW FG_X3_16 lb_61 (rf_61_2 hW.2.1) dX3_become_49 ?_
        refine q_iload_n hM dX3_become_52 (lv_at hl 2 rfl) ?_
        refine q_aload_n hM dX3_become_53 (lv_at hl 1 rfl) ?_
        refine w_get (v := .ref (ad 71)) hM hW FG_X3_16 lb_68 (rf_68_2 hW.2.1) dX3_become_54 ?_
        refine q_iload_n hM dX3_become_57 (lv_at hl 2 rfl) ?_
        refine w_iald hM hW lb_71 (i_in (by omega) (by omega)) dX3_become_58 ?_
        refine q_top (fun y543 hy543 => ?_)
        refine w_iast hM hW lb_64 (by omega) (i_in (by omega) (by omega)) dX3_become_59 (fun g544 H locs hW e1 e2 => ?_)
        have hG := hG.st e1 e2 (rfl : rA 64 = (-2147483648, 2147483647)) (by have := i_rng y543; omega) (by have := i_rng y543; omega)
        refine q_iinc (lv9 := fun z545 => [(2, .int z545), (0, .ref (ad 61)), (1, .ref (ad 68))]) hM dX3_become_60 hl (kq := 2) rfl (by decide) (fun _ => rfl) (fun z545 ls hz545 hl => ?_)
        first | have tz545 := i_addT hz545 (rfl : w18_2.toInt = w18_2.toInt) (kc_1 : (Int32.ofInt 1).toInt = 1) (by omega) (by omega) | skip
        refine q_goto (tgt := 18) hM dX3_become_63 (by decide) ?_
        exact ih18 z545 _ _ _ _ (by omega) hG (by omega) (by omega) (lv_sub hl [1, 2, 0] rfl) hW
  have := kc_0
  exact L18 _ (0 : Int32) _ _ _ _ (Nat.lt_succ_self _) hG (by omega) (by omega) (lv_sub hl [1, 2, 0] rfl) hW

theorem dX3_add_0 : decode cX3_add 0 = .ok (.aload_n 0, 1) := by decide +kernel
theorem dX3_add_1 : decode cX3_add 1 = .ok (.getfield 32, 3) := by decide +kernel
theorem dX3_add_4 : decode cX3_add 4 = .ok (.sipush 256, 3) := by decide +kernel
theorem dX3_add_7 : decode cX3_add 7 = .ok (.if_icmp .ge 33, 3) := by decide +kernel
theorem dX3_add_10 : decode cX3_add 10 = .ok (.aload_n 0, 1) := by decide +kernel
theorem dX3_add_11 : decode cX3_add 11 = .ok (.getfield 19, 3) := by decide +kernel
theorem dX3_add_14 : decode cX3_add 14 = .ok (.aload_n 0, 1) := by decide +kernel
theorem dX3_add_15 : decode cX3_add 15 = .ok (.getfield 32, 3) := by decide +kernel
theorem dX3_add_18 : decode cX3_add 18 = .ok (.iload_n 1, 1) := by decide +kernel
theorem dX3_add_19 : decode cX3_add 19 = .ok (.iastore, 1) := by decide +kernel
theorem dX3_add_20 : decode cX3_add 20 = .ok (.aload_n 0, 1) := by decide +kernel
theorem dX3_add_21 : decode cX3_add 21 = .ok (.getfield 22, 3) := by decide +kernel
theorem dX3_add_24 : decode cX3_add 24 = .ok (.aload_n 0, 1) := by decide +kernel
theorem dX3_add_25 : decode cX3_add 25 = .ok (.getfield 32, 3) := by decide +kernel
theorem dX3_add_28 : decode cX3_add 28 = .ok (.iload_n 2, 1) := by decide +kernel
theorem dX3_add_29 : decode cX3_add 29 = .ok (.iastore, 1) := by decide +kernel
theorem dX3_add_30 : decode cX3_add 30 = .ok (.aload_n 0, 1) := by decide +kernel
theorem dX3_add_31 : decode cX3_add 31 = .ok (.dup, 1) := by decide +kernel
theorem dX3_add_32 : decode cX3_add 32 = .ok (.getfield 32, 3) := by decide +kernel
theorem dX3_add_35 : decode cX3_add 35 = .ok (.iconst 1, 1) := by decide +kernel
theorem dX3_add_36 : decode cX3_add 36 = .ok (.iadd, 1) := by decide +kernel
theorem dX3_add_37 : decode cX3_add 37 = .ok (.putfield 32, 3) := by decide +kernel
theorem dX3_add_40 : decode cX3_add 40 = .ok (.return_, 1) := by decide +kernel
set_option maxRecDepth 100000 in
set_option maxHeartbeats 4000000 in
theorem a_X3_add (l : Launch) (D : va_G) (cA : Nat → ClassId) (ad : Nat → Nat) (g0 : Nat → va_E) (lw : Nat) (o : Int32) (wi : Int32) (hSh : Shp ad cA g0) (hG : Rng g0) (hlw : isLw lw) (w0 : -1 ≤ wi.toInt) (w1 : wi.toInt ≤ 99999) : CT l NN ad cA D yX3_add cX3_add 3 none (0, 0) [.ref (ad lw), .int o, .int wi] g0 (fun v g' => v = none ∧ Shp ad cA g' ∧ Rng g' ∧ FR (fun i k => (i = lw ∧ (k = 7)) ∨ i = (lw + 4) ∨ i = (lw + 5)) g0 g') := by
  refine q_enterV (by decide) (Nat.le_of_ble_eq_true rfl) (fun K H locs ls _ _ hM hW0 hR hC hE hl => ?_)
  have hl : lv_has ls 3 [(0, .ref (ad lw)), (1, .int o), (2, .int wi)] := hl
  have hW : WS ad cA (fun i k => (i = lw ∧ (k = 7)) ∨ i = (lw + 4) ∨ i = (lw + 5)) g0 K g0 H locs := ⟨hW0, hSh, FR.rf⟩
  have ulw := hlw
  unfold isLw at ulw
  refine q_aload_n hM dX3_add_0 (lv_at hl 0 rfl) ?_
  refine w_getI hM hW FG_X3_32 (lo_Lw hlw) (by decide) (by decide) dX3_add_1 (fun x546 fx546 => ?_)
  have bx546 := hG.f fx546 (rF_Lw_7 hlw) (by decide)
  refine q_sipush (v := (256 : Int32)) hM dX3_add_4 (by decide) ?_
  refine q_icmp_ge (tgt := 40) hM dX3_add_7 (by decide) (rfl : x546.toInt = x546.toInt) (kc_256 : (256 : Int32).toInt = 256) (fun h7 => ?_) (fun h7 => ?_)
  · exact hE _ _ _ _ _ hW.1 ⟨rfl, hW.2.1, hG, hW.2.2⟩ dX3_add_40
  · refine q_aload_n hM dX3_add_10 (lv_at hl 0 rfl) ?_
    refine w_get (v := .ref (ad (lw + 4))) hM hW FG_X3_19 (lo_Lw hlw) (rf_Lw_3 hlw hW.2.1) dX3_add_11 ?_
    refine q_aload_n hM dX3_add_14 (lv_at hl 0 rfl) ?_
    refine w_get (v := .int x546) hM hW FG_X3_32 (lo_Lw hlw) fx546 dX3_add_15 ?_
    have bx546 := hG.f fx546 (rF_Lw_7 hlw) (by decide)
    refine q_iload_n hM dX3_add_18 (lv_at hl 1 rfl) ?_
    refine w_iast hM hW (la_Lw_3 hlw) (by omega) (i_in (by omega) (by omega)) dX3_add_19 (fun g549 H locs hW e1 e2 => ?_)
    have f550 : fld g549 lw 7 = .int x546 := (e2.1 lw 7 (by unfold Only; omega)).trans fx546
    have hG := hG.st e1 e2 (rA_Lw_3 hlw) (by have := i_rng o; omega) (by have := i_rng o; omega)
    refine q_aload_n hM dX3_add_20 (lv_at hl 0 rfl) ?_
    refine w_get (v := .ref (ad (lw + 5))) hM hW FG_X3_22 (lo_Lw hlw) (rf_Lw_4 hlw hW.2.1) dX3_add_21 ?_
    refine q_aload_n hM dX3_add_24 (lv_at hl 0 rfl) ?_
    refine w_get (v := .int x546) hM hW FG_X3_32 (lo_Lw hlw) f550 dX3_add_25 ?_
    have bx546 := hG.f f550 (rF_Lw_7 hlw) (by decide)
    refine q_iload_n hM dX3_add_28 (lv_at hl 2 rfl) ?_
    refine w_iast hM hW (la_Lw_4 hlw) (by omega) (i_in (by omega) (by omega)) dX3_add_29 (fun g551 H locs hW e1 e2 => ?_)
    have f552 : fld g551 lw 7 = .int x546 := (e2.1 lw 7 (by unfold Only; omega)).trans f550
    have hG := hG.st e1 e2 (rA_Lw_4 hlw) (by have := i_rng wi; omega) (by have := i_rng wi; omega)
    refine q_aload_n hM dX3_add_30 (lv_at hl 0 rfl) ?_
    refine q_dup hM dX3_add_31 rfl ?_
    refine w_get (v := .int x546) hM hW FG_X3_32 (lo_Lw hlw) f552 dX3_add_32 ?_
    have bx546 := hG.f f552 (rF_Lw_7 hlw) (by decide)
    refine q_iconst (v := (1 : Int32)) hM dX3_add_35 (by decide) ?_
    refine q_iadd hM dX3_add_36 (fun z553 hz553 => ?_)
    first | have tz553 := i_addT hz553 (rfl : x546.toInt = x546.toInt) (kc_1 : (1 : Int32).toInt = 1) (by omega) (by omega) | skip
    refine w_put hM hW FP_X3_32 (lo_Lw hlw) (by omega) (Or.inl ⟨_, rfl⟩) rfl rfl dX3_add_37 (fun g554 H locs hW e1 e2 => ?_)
    have f555 : fld g554 lw 7 = .int z553 := e1
    have hG := hG.put e1 e2 (rF_Lw_7 hlw) (by decide) (by have := i_rng z553; omega) (by have := i_rng z553; omega)
    exact hE _ _ _ _ _ hW.1 ⟨rfl, hW.2.1, hG, hW.2.2⟩ dX3_add_40

theorem dX3_land_0 : decode cX3_land 0 = .ok (.iload_n 1, 1) := by decide +kernel
theorem dX3_land_1 : decode cX3_land 1 = .ok (.istore_n 2, 1) := by decide +kernel
theorem dX3_land_2 : decode cX3_land 2 = .ok (.iconst 0, 1) := by decide +kernel
theorem dX3_land_3 : decode cX3_land 3 = .ok (.istore_n 3, 1) := by decide +kernel
theorem dX3_land_4 : decode cX3_land 4 = .ok (.iload_n 3, 1) := by decide +kernel
theorem dX3_land_5 : decode cX3_land 5 = .ok (.sipush 256, 3) := by decide +kernel
theorem dX3_land_8 : decode cX3_land 8 = .ok (.if_icmp .ge 41, 3) := by decide +kernel
theorem dX3_land_11 : decode cX3_land 11 = .ok (.iload_n 2, 1) := by decide +kernel
theorem dX3_land_12 : decode cX3_land 12 = .ok (.ifCond .lt 37, 3) := by decide +kernel
theorem dX3_land_15 : decode cX3_land 15 = .ok (.iload_n 2, 1) := by decide +kernel
theorem dX3_land_16 : decode cX3_land 16 = .ok (.sipush 256, 3) := by decide +kernel
theorem dX3_land_19 : decode cX3_land 19 = .ok (.if_icmp .ge 30, 3) := by decide +kernel
theorem dX3_land_22 : decode cX3_land 22 = .ok (.aload_n 0, 1) := by decide +kernel
theorem dX3_land_23 : decode cX3_land 23 = .ok (.getfield 22, 3) := by decide +kernel
theorem dX3_land_26 : decode cX3_land 26 = .ok (.iload_n 2, 1) := by decide +kernel
theorem dX3_land_27 : decode cX3_land 27 = .ok (.iaload, 1) := by decide +kernel
theorem dX3_land_28 : decode cX3_land 28 = .ok (.istore 4, 2) := by decide +kernel
theorem dX3_land_30 : decode cX3_land 30 = .ok (.aload_n 0, 1) := by decide +kernel
theorem dX3_land_31 : decode cX3_land 31 = .ok (.getfield 22, 3) := by decide +kernel
theorem dX3_land_34 : decode cX3_land 34 = .ok (.iload_n 2, 1) := by decide +kernel
theorem dX3_land_35 : decode cX3_land 35 = .ok (.aload_n 0, 1) := by decide +kernel
theorem dX3_land_36 : decode cX3_land 36 = .ok (.getfield 32, 3) := by decide +kernel
theorem dX3_land_39 : decode cX3_land 39 = .ok (.iastore, 1) := by decide +kernel
theorem dX3_land_40 : decode cX3_land 40 = .ok (.iload 4, 2) := by decide +kernel
theorem dX3_land_42 : decode cX3_land 42 = .ok (.istore_n 2, 1) := by decide +kernel
theorem dX3_land_43 : decode cX3_land 43 = .ok (.iinc 3 1, 3) := by decide +kernel
theorem dX3_land_46 : decode cX3_land 46 = .ok (.goto (-42), 3) := by decide +kernel
theorem dX3_land_49 : decode cX3_land 49 = .ok (.return_, 1) := by decide +kernel
set_option maxRecDepth 100000 in
set_option maxHeartbeats 4000000 in
theorem a_X3_land (l : Launch) (D : va_G) (cA : Nat → ClassId) (ad : Nat → Nat) (g0 : Nat → va_E) (lw : Nat) (ch : Int32) (hSh : Shp ad cA g0) (hG : Rng g0) (hlw : isLw lw) : CT l NN ad cA D yX3_land cX3_land 5 none (0, 0) [.ref (ad lw), .int ch] g0 (fun v g' => v = none ∧ Shp ad cA g' ∧ Rng g' ∧ FR (fun i k => i = (lw + 5)) g0 g') := by
  refine q_enterV (by decide) (Nat.le_of_ble_eq_true rfl) (fun K H locs ls _ _ hM hW0 hR hC hE hl => ?_)
  have hl : lv_has ls 5 [(0, .ref (ad lw)), (1, .int ch)] := hl
  have hW : WS ad cA (fun i k => i = (lw + 5)) g0 K g0 H locs := ⟨hW0, hSh, FR.rf⟩
  have ulw := hlw
  unfold isLw at ulw
  refine q_iload_n hM dX3_land_0 (lv_at hl 1 rfl) ?_
  refine q_istore_n (lv9 := [(2, .int ch), (0, .ref (ad lw)), (1, .int ch)]) hM dX3_land_1 hl (by decide) rfl (fun ls hl => ?_)
  refine q_iconst (v := (0 : Int32)) hM dX3_land_2 (by decide) ?_
  refine q_istore_n (lv9 := [(3, .int (0 : Int32)), (2, .int ch), (0, .ref (ad lw)), (1, .int ch)]) hM dX3_land_3 hl (by decide) rfl (fun ls hl => ?_)
  have L4 : ∀ (fu4 : Nat) (w4_2 : Int32) (w4_3 : Int32) (g9 : Nat → va_E) (H : Heap) (locs : List Loc) (ls : Array Slot), (256 - w4_3.toInt).toNat < fu4 → (Rng g9) → (0 ≤ w4_3.toInt) → (w4_3.toInt ≤ 256) → lv_has ls 5 [(0, .ref (ad lw)), (1, .int ch), (2, .int w4_2), (3, .int w4_3)] → WS ad cA (fun i k => i = (lw + 5)) g0 K g9 H locs → XX K 0 0 H locs 4 ls [] := by
    intro fu4
    induction fu4 with
    | zero => intro w4_2 w4_3 g9 H locs ls h0; omega
    | succ fu4 ih4 =>
      intro w4_2 w4_3 g9 H locs ls hm4 i4_0 i4_1 i4_2 hl hW
      have hG := i4_0
      refine q_iload_n hM dX3_land_4 (lv_at hl 3 rfl) ?_
      refine q_sipush (v := (256 : Int32)) hM dX3_land_5 (by decide) ?_
      refine q_icmp_ge (tgt := 49) hM dX3_land_8 (by decide) (rfl : w4_3.toInt = w4_3.toInt) (kc_256 : (256 : Int32).toInt = 256) (fun h8 => ?_) (fun h8 => ?_)
      · exact hE _ _ _ _ _ hW.1 ⟨rfl, hW.2.1, hG, hW.2.2⟩ dX3_land_49
      · refine q_iload_n hM dX3_land_11 (lv_at hl 2 rfl) ?_
        refine q_if_lt (tgt := 49) hM dX3_land_12 (by decide) (rfl : w4_2.toInt = w4_2.toInt) (fun h12 => ?_) (fun h12 => ?_)
        · exact hE _ _ _ _ _ hW.1 ⟨rfl, hW.2.1, hG, hW.2.2⟩ dX3_land_49
        · refine q_iload_n hM dX3_land_15 (lv_at hl 2 rfl) ?_
          refine q_sipush (v := (256 : Int32)) hM dX3_land_16 (by decide) ?_
          refine q_icmp_ge (tgt := 49) hM dX3_land_19 (by decide) (rfl : w4_2.toInt = w4_2.toInt) (kc_256 : (256 : Int32).toInt = 256) (fun h19 => ?_) (fun h19 => ?_)
          · exact hE _ _ _ _ _ hW.1 ⟨rfl, hW.2.1, hG, hW.2.2⟩ dX3_land_49
          · refine q_aload_n hM dX3_land_22 (lv_at hl 0 rfl) ?_
            refine w_get (v := .ref (ad (lw + 5))) hM hW FG_X3_22 (lo_Lw hlw) (rf_Lw_4 hlw hW.2.1) dX3_land_23 ?_
            refine q_iload_n hM dX3_land_26 (lv_at hl 2 rfl) ?_
            refine w_iald hM hW (la_Lw_4 hlw) (i_in (by omega) (by omega)) dX3_land_27 ?_
            refine q_top (fun y563 hy563 => ?_)
            have by563 := hG.a hy563 (rA_Lw_4 hlw)
            refine q_istore (lv9 := [(4, .int y563), (0, .ref (ad lw)), (1, .int ch), (2, .int w4_2), (3, .int w4_3)]) hM dX3_land_28 hl (by decide) rfl (fun ls hl => ?_)
            refine q_aload_n hM dX3_land_30 (lv_at hl 1 rfl) ?_
            refine w_get (v := .ref (ad (lw + 5))) hM hW FG_X3_22 (lo_Lw hlw) (rf_Lw_4 hlw hW.2.1) dX3_land_31 ?_
            refine q_iload_n hM dX3_land_34 (lv_at hl 3 rfl) ?_
            refine q_aload_n hM dX3_land_35 (lv_at hl 1 rfl) ?_
            refine w_getI hM hW FG_X3_32 (lo_Lw hlw) (by decide) (by decide) dX3_land_36 (fun x564 fx564 => ?_)
            have bx564 := hG.f fx564 (rF_Lw_7 hlw) (by decide)
            refine w_iast hM hW (la_Lw_4 hlw) (by omega) (i_in (by omega) (by omega)) dX3_land_39 (fun g565 H locs hW e1 e2 => ?_)
            have f566 : fld g565 lw 7 = .int x564 := (e2.1 lw 7 (by unfold Only; omega)).trans fx564
            have hG := hG.st e1 e2 (rA_Lw_4 hlw) (by have := i_rng x564; omega) (by have := i_rng x564; omega)
            refine q_iload hM dX3_land_40 (lv_at hl 0 rfl) ?_
            refine q_istore_n (lv9 := [(2, .int y563), (4, .int y563), (0, .ref (ad lw)), (1, .int ch), (3, .int w4_3)]) hM dX3_land_42 hl (by decide) rfl (fun ls hl => ?_)
            refine q_iinc (lv9 := fun z567 => [(3, .int z567), (2, .int y563), (4, .int y563), (0, .ref (ad lw)), (1, .int ch)]) hM dX3_land_43 hl (kq := 4) rfl (by decide) (fun _ => rfl) (fun z567 ls hz567 hl => ?_)
            first | have tz567 := i_addT hz567 (rfl : w4_3.toInt = w4_3.toInt) (kc_1 : (Int32.ofInt 1).toInt = 1) (by omega) (by omega) | skip
            refine q_goto (tgt := 4) hM dX3_land_46 (by decide) ?_
            exact ih4 y563 z567 _ _ _ _ (by omega) hG (by omega) (by omega) (lv_sub hl [3, 4, 1, 0] rfl) hW
  have := kc_0
  exact L4 _ ch (0 : Int32) _ _ _ _ (Nat.lt_succ_self _) hG (by omega) (by omega) (lv_sub hl [2, 3, 1, 0] rfl) hW

theorem dX0_add_0 : decode cX0_add 0 = .ok (.aload_n 0, 1) := by decide +kernel
theorem dX0_add_1 : decode cX0_add 1 = .ok (.getfield 16, 3) := by decide +kernel
theorem dX0_add_4 : decode cX0_add 4 = .ok (.bipush 48, 2) := by decide +kernel
theorem dX0_add_6 : decode cX0_add 6 = .ok (.if_icmp .lt 5, 3) := by decide +kernel
theorem dX0_add_9 : decode cX0_add 9 = .ok (.iconst 0, 1) := by decide +kernel
theorem dX0_add_10 : decode cX0_add 10 = .ok (.ireturn, 1) := by decide +kernel
theorem dX0_add_11 : decode cX0_add 11 = .ok (.aload_n 0, 1) := by decide +kernel
theorem dX0_add_12 : decode cX0_add 12 = .ok (.getfield 9, 3) := by decide +kernel
theorem dX0_add_15 : decode cX0_add 15 = .ok (.aload_n 0, 1) := by decide +kernel
theorem dX0_add_16 : decode cX0_add 16 = .ok (.getfield 16, 3) := by decide +kernel
theorem dX0_add_19 : decode cX0_add 19 = .ok (.iload_n 1, 1) := by decide +kernel
theorem dX0_add_20 : decode cX0_add 20 = .ok (.iastore, 1) := by decide +kernel
theorem dX0_add_21 : decode cX0_add 21 = .ok (.aload_n 0, 1) := by decide +kernel
theorem dX0_add_22 : decode cX0_add 22 = .ok (.getfield 13, 3) := by decide +kernel
theorem dX0_add_25 : decode cX0_add 25 = .ok (.aload_n 0, 1) := by decide +kernel
theorem dX0_add_26 : decode cX0_add 26 = .ok (.getfield 16, 3) := by decide +kernel
theorem dX0_add_29 : decode cX0_add 29 = .ok (.iload_n 2, 1) := by decide +kernel
theorem dX0_add_30 : decode cX0_add 30 = .ok (.iastore, 1) := by decide +kernel
theorem dX0_add_31 : decode cX0_add 31 = .ok (.aload_n 0, 1) := by decide +kernel
theorem dX0_add_32 : decode cX0_add 32 = .ok (.dup, 1) := by decide +kernel
theorem dX0_add_33 : decode cX0_add 33 = .ok (.getfield 16, 3) := by decide +kernel
theorem dX0_add_36 : decode cX0_add 36 = .ok (.iconst 1, 1) := by decide +kernel
theorem dX0_add_37 : decode cX0_add 37 = .ok (.iadd, 1) := by decide +kernel
theorem dX0_add_38 : decode cX0_add 38 = .ok (.putfield 16, 3) := by decide +kernel
theorem dX0_add_41 : decode cX0_add 41 = .ok (.iconst 1, 1) := by decide +kernel
theorem dX0_add_42 : decode cX0_add 42 = .ok (.ireturn, 1) := by decide +kernel
theorem FG_X0_16 : FG RX0 16 0 3 2 := ⟨RX0, TX0, rfl, wX0, by decide, kAW (v_0_10 (List.mem_of_getElem? (i := 3) rfl)) rfl, rfl⟩
theorem FG_X0_9 : FG RX0 9 0 3 0 := ⟨RX0, TX0, rfl, wX0, by decide, kAW (v_0_9 (List.mem_of_getElem? (i := 15) rfl)) rfl, rfl⟩
theorem FG_X0_13 : FG RX0 13 0 3 1 := ⟨RX0, TX0, rfl, wX0, by decide, kAW (v_0_10 (List.mem_of_getElem? (i := 1) rfl)) rfl, rfl⟩
theorem FP_X0_16 : FPX RX0 16 0 3 2 .int := ⟨⟨RX0, TX0, tyX0, rfl, wX0, by decide, kAW (v_0_10 (List.mem_of_getElem? (i := 3) rfl)) rfl, rfl, tyX0_ok, nmX0, by decide +kernel, rfl⟩, by decide +kernel⟩
set_option maxRecDepth 100000 in
set_option maxHeartbeats 4000000 in
theorem a_X0_add (l : Launch) (D : va_G) (cA : Nat → ClassId) (ad : Nat → Nat) (g0 : Nat → va_E) (wy : Int32) (wh : Int32) (hSh : Shp ad cA g0) (hG : Rng g0) : CT l NN ad cA D yX0_add cX0_add 3 (some FieldType.boolean) (0, 0) [.ref (ad 75), .int wy, .int wh] g0 (fun v g' => ∃ r : Int32, v = some (.int r) ∧ Shp ad cA g' ∧ Rng g' ∧ FR (fun i k => (i = 75 ∧ (k = 2)) ∨ i = 76 ∨ i = 77) g0 g' ∧ (r.toInt = 0 ∨ r.toInt = 1)) := by
  refine q_enterZ (by decide) (Nat.le_of_ble_eq_true rfl) (fun K H locs ls _ _ hM hW0 hR hC hE hl => ?_)
  have hl : lv_has ls 3 [(0, .ref (ad 75)), (1, .int wy), (2, .int wh)] := hl
  have hW : WS ad cA (fun i k => (i = 75 ∧ (k = 2)) ∨ i = 76 ∨ i = 77) g0 K g0 H locs := ⟨hW0, hSh, FR.rf⟩
  refine q_aload_n hM dX0_add_0 (lv_at hl 0 rfl) ?_
  refine w_getI hM hW FG_X0_16 lb_75 (by decide) (by decide) dX0_add_1 (fun x568 fx568 => ?_)
  have bx568 := hG.f fx568 rF_75_2 (by decide)
  refine q_bipush (v := (48 : Int32)) hM dX0_add_4 (by decide) ?_
  refine q_icmp_lt (tgt := 11) hM dX0_add_6 (by decide) (rfl : x568.toInt = x568.toInt) (kc_48 : (48 : Int32).toInt = 48) (fun h6 => ?_) (fun h6 => ?_)
  · refine q_aload_n hM dX0_add_11 (lv_at hl 0 rfl) ?_
    refine w_get (v := .ref (ad 76)) hM hW FG_X0_9 lb_75 (rf_75_0 hW.2.1) dX0_add_12 ?_
    refine q_aload_n hM dX0_add_15 (lv_at hl 0 rfl) ?_
    refine w_get (v := .int x568) hM hW FG_X0_16 lb_75 fx568 dX0_add_16 ?_
    have bx568 := hG.f fx568 rF_75_2 (by decide)
    refine q_iload_n hM dX0_add_19 (lv_at hl 1 rfl) ?_
    refine w_iast hM hW lb_76 (by omega) (i_in (by omega) (by omega)) dX0_add_20 (fun g570 H locs hW e1 e2 => ?_)
    have f571 : fld g570 75 2 = .int x568 := (e2.1 75 2 (by unfold Only; omega)).trans fx568
    have hG := hG.st e1 e2 (rfl : rA 76 = (-2147483648, 2147483647)) (by have := i_rng wy; omega) (by have := i_rng wy; omega)
    refine q_aload_n hM dX0_add_21 (lv_at hl 0 rfl) ?_
    refine w_get (v := .ref (ad 77)) hM hW FG_X0_13 lb_75 (rf_75_1 hW.2.1) dX0_add_22 ?_
    refine q_aload_n hM dX0_add_25 (lv_at hl 0 rfl) ?_
    refine w_get (v := .int x568) hM hW FG_X0_16 lb_75 f571 dX0_add_26 ?_
    have bx568 := hG.f f571 rF_75_2 (by decide)
    refine q_iload_n hM dX0_add_29 (lv_at hl 2 rfl) ?_
    refine w_iast hM hW lb_77 (by omega) (i_in (by omega) (by omega)) dX0_add_30 (fun g572 H locs hW e1 e2 => ?_)
    have f573 : fld g572 75 2 = .int x568 := (e2.1 75 2 (by unfold Only; omega)).trans f571
    have hG := hG.st e1 e2 (rfl : rA 77 = (-2147483648, 2147483647)) (by have := i_rng wh; omega) (by have := i_rng wh; omega)
    refine q_aload_n hM dX0_add_31 (lv_at hl 0 rfl) ?_
    refine q_dup hM dX0_add_32 rfl ?_
    refine w_get (v := .int x568) hM hW FG_X0_16 lb_75 f573 dX0_add_33 ?_
    have bx568 := hG.f f573 rF_75_2 (by decide)
    refine q_iconst (v := (1 : Int32)) hM dX0_add_36 (by decide) ?_
    refine q_iadd hM dX0_add_37 (fun z574 hz574 => ?_)
    first | have tz574 := i_addT hz574 (rfl : x568.toInt = x568.toInt) (kc_1 : (1 : Int32).toInt = 1) (by omega) (by omega) | skip
    refine w_put hM hW FP_X0_16 lb_75 (by omega) (Or.inl ⟨_, rfl⟩) rfl rfl dX0_add_38 (fun g575 H locs hW e1 e2 => ?_)
    have f576 : fld g575 75 2 = .int z574 := e1
    have hG := hG.put e1 e2 rF_75_2 (by decide) (by have := i_rng z574; omega) (by have := i_rng z574; omega)
    refine q_iconst (v := (1 : Int32)) hM dX0_add_41 (by decide) ?_
    exact hE _ _ _ _ _ _ hW.1 nz_1 ⟨_, rfl, hW.2.1, hG, hW.2.2, (by have := kc_1; omega)⟩ dX0_add_42
  · refine q_iconst (v := (0 : Int32)) hM dX0_add_9 (by decide) ?_
    exact hE _ _ _ _ _ _ hW.1 nz_0 ⟨_, rfl, hW.2.1, hG, hW.2.2, (by have := kc_0; omega)⟩ dX0_add_10
