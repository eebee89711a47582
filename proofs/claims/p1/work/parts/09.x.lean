theorem dX10_put_0 : decode cX10_put 0 = .ok (.bipush 24, 2) := by decide +kernel
theorem dX10_put_2 : decode cX10_put 2 = .ok (.istore_n 2, 1) := by decide +kernel
theorem dX10_put_3 : decode cX10_put 3 = .ok (.iload_n 2, 1) := by decide +kernel
theorem dX10_put_4 : decode cX10_put 4 = .ok (.ifCond .lt 45, 3) := by decide +kernel
theorem dX10_put_7 : decode cX10_put 7 = .ok (.aload_n 0, 1) := by decide +kernel
theorem dX10_put_8 : decode cX10_put 8 = .ok (.getfield 15, 3) := by decide +kernel
theorem dX10_put_11 : decode cX10_put 11 = .ok (.sipush 260, 3) := by decide +kernel
theorem dX10_put_14 : decode cX10_put 14 = .ok (.if_icmp .ge 35, 3) := by decide +kernel
theorem dX10_put_17 : decode cX10_put 17 = .ok (.aload_n 0, 1) := by decide +kernel
theorem dX10_put_18 : decode cX10_put 18 = .ok (.getfield 11, 3) := by decide +kernel
theorem dX10_put_21 : decode cX10_put 21 = .ok (.aload_n 0, 1) := by decide +kernel
theorem dX10_put_22 : decode cX10_put 22 = .ok (.getfield 15, 3) := by decide +kernel
theorem dX10_put_25 : decode cX10_put 25 = .ok (.iload_n 1, 1) := by decide +kernel
theorem dX10_put_26 : decode cX10_put 26 = .ok (.iload_n 2, 1) := by decide +kernel
theorem dX10_put_27 : decode cX10_put 27 = .ok (.ishr, 1) := by decide +kernel
theorem dX10_put_28 : decode cX10_put 28 = .ok (.sipush 255, 3) := by decide +kernel
theorem dX10_put_31 : decode cX10_put 31 = .ok (.iand, 1) := by decide +kernel
theorem dX10_put_32 : decode cX10_put 32 = .ok (.iastore, 1) := by decide +kernel
theorem dX10_put_33 : decode cX10_put 33 = .ok (.aload_n 0, 1) := by decide +kernel
theorem dX10_put_34 : decode cX10_put 34 = .ok (.dup, 1) := by decide +kernel
theorem dX10_put_35 : decode cX10_put 35 = .ok (.getfield 15, 3) := by decide +kernel
theorem dX10_put_38 : decode cX10_put 38 = .ok (.iconst 1, 1) := by decide +kernel
theorem dX10_put_39 : decode cX10_put 39 = .ok (.iadd, 1) := by decide +kernel
theorem dX10_put_40 : decode cX10_put 40 = .ok (.putfield 15, 3) := by decide +kernel
theorem dX10_put_43 : decode cX10_put 43 = .ok (.iinc 2 (-8), 3) := by decide +kernel
theorem dX10_put_46 : decode cX10_put 46 = .ok (.goto (-43), 3) := by decide +kernel
theorem dX10_put_49 : decode cX10_put 49 = .ok (.return_, 1) := by decide +kernel
theorem FG_X10_15 : FG RX10 15 10 2 1 := ⟨RX10, TX10, rfl, wX10, by decide, kAW (v_0_2 (List.mem_of_getElem? (i := 5) rfl)) rfl, rfl⟩
theorem FG_X10_11 : FG RX10 11 10 2 0 := ⟨RX10, TX10, rfl, wX10, by decide, kAW (v_0_2 (List.mem_of_getElem? (i := 3) rfl)) rfl, rfl⟩
theorem FP_X10_15 : FPX RX10 15 10 2 1 .int := ⟨⟨RX10, TX10, tyX10, rfl, wX10, by decide, kAW (v_0_2 (List.mem_of_getElem? (i := 5) rfl)) rfl, rfl, tyX10_ok, nmX10, by decide +kernel, rfl⟩, by decide +kernel⟩
set_option maxRecDepth 100000 in
set_option maxHeartbeats 4000000 in
theorem c_X10_put (l : Launch) (D : va_G) (cA : Nat → ClassId) (ad : Nat → Nat) (g0 : Nat → va_E) (four s : Int32) (hSh : Shp ad cA g0) (hs : fld g0 1 1 = .int s) (hs0 : 0 ≤ s.toInt) (hs1 : s.toInt ≤ 256) : CT l NN ad cA D yX10_put cX10_put 3 none (0, 0) [.ref (ad 1), .int four] g0 (fun v g' => ∃ (s9 : Int32), v = none ∧ Shp ad cA g' ∧ FR (fun i k => (i = 1 ∧ (k = 1)) ∨ i = 2) g0 g' ∧ (s9.toInt = s.toInt + 4) ∧ fld g' 1 1 = .int s9) := by
  refine q_enterV (by decide) (Nat.le_of_ble_eq_true rfl) (fun K H locs ls _ _ hM hW0 hR hC hE hl => ?_)
  have hl : lv_has ls 3 [(0, .ref (ad 1)), (1, .int four)] := hl
  have hW : WS ad cA (fun i k => (i = 1 ∧ (k = 1)) ∨ i = 2) g0 K g0 H locs := ⟨hW0, hSh, FR.rf⟩
  have f22 : fld g0 1 1 = .int s := hs
  refine q_bipush (v := (24 : Int32)) hM dX10_put_0 (by decide) ?_
  refine q_istore_n (lv9 := [(2, .int (24 : Int32)), (0, .ref (ad 1)), (1, .int four)]) hM dX10_put_2 hl (by decide) rfl (fun ls hl => ?_)
  have L3 : ∀ (fu3 : Nat) (sh : Int32) (z : Int32) (g9 : Nat → va_E) (H : Heap) (locs : List Loc) (ls : Array Slot), (sh.toInt + 8).toNat < fu3 → (sh.toInt = 24 - 8 * (z.toInt - s.toInt)) → (s.toInt ≤ z.toInt) → (z.toInt ≤ s.toInt + 4) → (fld g9 1 1 = .int z) → lv_has ls 3 [(0, .ref (ad 1)), (1, .int four), (2, .int sh)] → WS ad cA (fun i k => (i = 1 ∧ (k = 1)) ∨ i = 2) g0 K g9 H locs → XX K 0 0 H locs 3 ls [] := by
    intro fu3
    induction fu3 with
    | zero => intro sh z g9 H locs ls h0; omega
    | succ fu3 ih3 =>
      intro sh z g9 H locs ls hm3 i3_0 i3_1 i3_2 c3_1_1 hl hW
      refine q_iload_n hM dX10_put_3 (lv_at hl 2 rfl) ?_
      refine q_if_lt (tgt := 49) hM dX10_put_4 (by decide) (rfl : sh.toInt = sh.toInt) (fun h4 => ?_) (fun h4 => ?_)
      · exact hE _ _ _ _ _ hW.1 ⟨z, rfl, hW.2.1, hW.2.2, (by omega), c3_1_1⟩ dX10_put_49
      · refine q_aload_n hM dX10_put_7 (lv_at hl 0 rfl) ?_
        refine w_get (v := .int z) hM hW FG_X10_15 lb_1 c3_1_1 dX10_put_8 ?_
        refine q_sipush (v := (260 : Int32)) hM dX10_put_11 (by decide) ?_
        refine q_icmp_ge (tgt := 49) hM dX10_put_14 (by decide) (rfl : z.toInt = z.toInt) (kc_260 : (260 : Int32).toInt = 260) (fun h14 => ?_) (fun h14 => ?_)
        · exact hE _ _ _ _ _ hW.1 ⟨z, rfl, hW.2.1, hW.2.2, (by omega), c3_1_1⟩ dX10_put_49
        · refine q_aload_n hM dX10_put_17 (lv_at hl 0 rfl) ?_
          refine w_get (v := .ref (ad 2)) hM hW FG_X10_11 lb_1 (rf_1_0 hW.2.1) dX10_put_18 ?_
          refine q_aload_n hM dX10_put_21 (lv_at hl 0 rfl) ?_
          refine w_get (v := .int z) hM hW FG_X10_15 lb_1 c3_1_1 dX10_put_22 ?_
          refine q_iload_n hM dX10_put_25 (lv_at hl 1 rfl) ?_
          refine q_iload_n hM dX10_put_26 (lv_at hl 2 rfl) ?_
          refine q_ishr hM dX10_put_27 (fun z23 hz23 => ?_)
          refine q_sipush (v := (255 : Int32)) hM dX10_put_28 (by decide) ?_
          refine q_iand hM dX10_put_31 (fun z24 hz24 => ?_)
          refine w_iast hM hW lb_2 (by omega) (i_in (by omega) (by omega)) dX10_put_32 (fun g25 H locs hW e1 e2 => ?_)
          have f26 : fld g25 1 1 = .int z := (e2.1 1 1 (by unfold Only; omega)).trans c3_1_1
          refine q_aload_n hM dX10_put_33 (lv_at hl 0 rfl) ?_
          refine q_dup hM dX10_put_34 rfl ?_
          refine w_get (v := .int z) hM hW FG_X10_15 lb_1 f26 dX10_put_35 ?_
          refine q_iconst (v := (1 : Int32)) hM dX10_put_38 (by decide) ?_
          refine q_iadd hM dX10_put_39 (fun z27 hz27 => ?_)
          have tz27 := i_addT hz27 (rfl : z.toInt = z.toInt) (kc_1 : (1 : Int32).toInt = 1) (by omega) (by omega)
          refine w_put hM hW FP_X10_15 lb_1 (by omega) (Or.inl ⟨_, rfl⟩) rfl rfl dX10_put_40 (fun g28 H locs hW e1 e2 => ?_)
          have f29 : fld g28 1 1 = .int z27 := e1
          refine q_iinc (lv9 := fun z30 => [(2, .int z30), (0, .ref (ad 1)), (1, .int four)]) hM dX10_put_43 hl (kq := 2) rfl (by decide) (fun _ => rfl) (fun z30 ls hz30 hl => ?_)
          have tz30 := i_addT hz30 (rfl : sh.toInt = sh.toInt) (kc_m8 : (Int32.ofInt (-8)).toInt = (-8)) (by omega) (by omega)
          refine q_goto (tgt := 3) hM dX10_put_46 (by decide) ?_
          exact ih3 z30 z27 _ _ _ _ (by omega) (by omega) (by omega) (by omega) f29 (lv_sub hl [1, 2, 0] rfl) hW
  have := kc_24
  exact L3 _ (24 : Int32) s _ _ _ _ (Nat.lt_succ_self _) (by omega) (by omega) (by omega) f22 (lv_sub hl [1, 2, 0] rfl) hW

theorem dX2_begin_0 : decode cX2_begin 0 = .ok (.aload_n 0, 1) := by decide +kernel
theorem dX2_begin_1 : decode cX2_begin 1 = .ok (.aload_n 1, 1) := by decide +kernel
theorem dX2_begin_2 : decode cX2_begin 2 = .ok (.putfield 15, 3) := by decide +kernel
theorem dX2_begin_5 : decode cX2_begin 5 = .ok (.aload_n 0, 1) := by decide +kernel
theorem dX2_begin_6 : decode cX2_begin 6 = .ok (.aload_n 2, 1) := by decide +kernel
theorem dX2_begin_7 : decode cX2_begin 7 = .ok (.putfield 19, 3) := by decide +kernel
theorem dX2_begin_10 : decode cX2_begin 10 = .ok (.aload_n 0, 1) := by decide +kernel
theorem dX2_begin_11 : decode cX2_begin 11 = .ok (.iconst 0, 1) := by decide +kernel
theorem dX2_begin_12 : decode cX2_begin 12 = .ok (.putfield 47, 3) := by decide +kernel
theorem dX2_begin_15 : decode cX2_begin 15 = .ok (.aload_n 0, 1) := by decide +kernel
theorem dX2_begin_16 : decode cX2_begin 16 = .ok (.iconst 0, 1) := by decide +kernel
theorem dX2_begin_17 : decode cX2_begin 17 = .ok (.putfield 50, 3) := by decide +kernel
theorem dX2_begin_20 : decode cX2_begin 20 = .ok (.return_, 1) := by decide +kernel
theorem FP_X2_15 : FPX RX2 15 2 11 9 (.object "ForgetSchool$Law") := ⟨⟨RX2, TX2, tyX2, rfl, wX2, by decide, kAW (v_1_0 (List.mem_of_getElem? (i := 4) rfl)) rfl, rfl, tyX2_ok, nmX2, by decide +kernel, rfl⟩, by decide +kernel⟩
theorem FP_X2_19 : FPX RX2 19 2 11 10 (.object "ForgetSchool$Pupils") := ⟨⟨RX2, TX2, tyX2, rfl, wX2, by decide, kAW (v_1_0 (List.mem_of_getElem? (i := 5) rfl)) rfl, rfl, tyX2_ok, nmX2, by decide +kernel, rfl⟩, by decide +kernel⟩
theorem FP_X2_47 : FPX RX2 47 2 11 7 .int := ⟨⟨RX2, TX2, tyX2, rfl, wX2, by decide, kAW (v_1_0 (List.mem_of_getElem? (i := 0) rfl)) rfl, rfl, tyX2_ok, nmX2, by decide +kernel, rfl⟩, by decide +kernel⟩
theorem FP_X2_50 : FPX RX2 50 2 11 8 .int := ⟨⟨RX2, TX2, tyX2, rfl, wX2, by decide, kAW (v_1_0 (List.mem_of_getElem? (i := 2) rfl)) rfl, rfl, tyX2_ok, nmX2, by decide +kernel, rfl⟩, by decide +kernel⟩
set_option maxRecDepth 100000 in
set_option maxHeartbeats 4000000 in
theorem c_X2_begin (l : Launch) (D : va_G) (cA : Nat → ClassId) (ad : Nat → Nat) (g0 : Nat → va_E) (lw pb : Nat) (hSh : Shp ad cA g0) : CT l NN ad cA D yX2_begin cX2_begin 3 none (0, 0) [.ref (ad 80), .ref (ad lw), .ref (ad pb)] g0 (fun v g' => v = none ∧ Shp ad cA g' ∧ FR (fun i k => (i = 80 ∧ (k = 7 ∨ k = 8 ∨ k = 9 ∨ k = 10))) g0 g' ∧ fld g' 80 7 = .int (0 : Int32) ∧ fld g' 80 8 = .int (0 : Int32) ∧ fld g' 80 9 = .ref (ad lw) ∧ fld g' 80 10 = .ref (ad pb)) := by
  refine q_enterV (by decide) (Nat.le_of_ble_eq_true rfl) (fun K H locs ls _ _ hM hW0 hR hC hE hl => ?_)
  have hl : lv_has ls 3 [(0, .ref (ad 80)), (1, .ref (ad lw)), (2, .ref (ad pb))] := hl
  have hW : WS ad cA (fun i k => (i = 80 ∧ (k = 7 ∨ k = 8 ∨ k = 9 ∨ k = 10))) g0 K g0 H locs := ⟨hW0, hSh, FR.rf⟩
  refine q_aload_n hM dX2_begin_0 (lv_at hl 0 rfl) ?_
  refine q_aload_n hM dX2_begin_1 (lv_at hl 1 rfl) ?_
  refine w_put hM hW FP_X2_15 lb_80 (by omega) (Or.inr (by decide)) rfl rfl dX2_begin_2 (fun g31 H locs hW e1 e2 => ?_)
  have f32 : fld g31 80 9 = .ref (ad lw) := e1
  refine q_aload_n hM dX2_begin_5 (lv_at hl 0 rfl) ?_
  refine q_aload_n hM dX2_begin_6 (lv_at hl 2 rfl) ?_
  refine w_put hM hW FP_X2_19 lb_80 (by omega) (Or.inr (by decide)) rfl rfl dX2_begin_7 (fun g33 H locs hW e1 e2 => ?_)
  have f34 : fld g33 80 9 = .ref (ad lw) := (e2.1 80 9 (by unfold Only; omega)).trans f32
  have f35 : fld g33 80 10 = .ref (ad pb) := e1
  refine q_aload_n hM dX2_begin_10 (lv_at hl 0 rfl) ?_
  refine q_iconst (v := (0 : Int32)) hM dX2_begin_11 (by decide) ?_
  refine w_put hM hW FP_X2_47 lb_80 (by omega) (Or.inl ⟨_, rfl⟩) rfl rfl dX2_begin_12 (fun g36 H locs hW e1 e2 => ?_)
  have f37 : fld g36 80 9 = .ref (ad lw) := (e2.1 80 9 (by unfold Only; omega)).trans f34
  have f38 : fld g36 80 10 = .ref (ad pb) := (e2.1 80 10 (by unfold Only; omega)).trans f35
  have f39 : fld g36 80 7 = .int (0 : Int32) := e1
  refine q_aload_n hM dX2_begin_15 (lv_at hl 0 rfl) ?_
  refine q_iconst (v := (0 : Int32)) hM dX2_begin_16 (by decide) ?_
  refine w_put hM hW FP_X2_50 lb_80 (by omega) (Or.inl ⟨_, rfl⟩) rfl rfl dX2_begin_17 (fun g40 H locs hW e1 e2 => ?_)
  have f41 : fld g40 80 9 = .ref (ad lw) := (e2.1 80 9 (by unfold Only; omega)).trans f37
  have f42 : fld g40 80 10 = .ref (ad pb) := (e2.1 80 10 (by unfold Only; omega)).trans f38
  have f43 : fld g40 80 7 = .int (0 : Int32) := (e2.1 80 7 (by unfold Only; omega)).trans f39
  have f44 : fld g40 80 8 = .int (0 : Int32) := e1
  exact hE _ _ _ _ _ hW.1 ⟨rfl, hW.2.1, hW.2.2, f43, f44, f41, f42⟩ dX2_begin_20

theorem dX7_become_0 : decode cX7_become 0 = .ok (.iconst 0, 1) := by decide +kernel
theorem dX7_become_1 : decode cX7_become 1 = .ok (.istore_n 2, 1) := by decide +kernel
theorem dX7_become_2 : decode cX7_become 2 = .ok (.iload_n 2, 1) := by decide +kernel
theorem dX7_become_3 : decode cX7_become 3 = .ok (.bipush 8, 2) := by decide +kernel
theorem dX7_become_5 : decode cX7_become 5 = .ok (.if_icmp .ge 63, 3) := by decide +kernel
theorem dX7_become_8 : decode cX7_become 8 = .ok (.aload_n 0, 1) := by decide +kernel
theorem dX7_become_9 : decode cX7_become 9 = .ok (.getfield 9, 3) := by decide +kernel
theorem dX7_become_12 : decode cX7_become 12 = .ok (.iload_n 2, 1) := by decide +kernel
theorem dX7_become_13 : decode cX7_become 13 = .ok (.aload_n 1, 1) := by decide +kernel
theorem dX7_become_14 : decode cX7_become 14 = .ok (.getfield 9, 3) := by decide +kernel
theorem dX7_become_17 : decode cX7_become 17 = .ok (.iload_n 2, 1) := by decide +kernel
theorem dX7_become_18 : decode cX7_become 18 = .ok (.iaload, 1) := by decide +kernel
theorem dX7_become_19 : decode cX7_become 19 = .ok (.iastore, 1) := by decide +kernel
theorem dX7_become_20 : decode cX7_become 20 = .ok (.aload_n 0, 1) := by decide +kernel
theorem dX7_become_21 : decode cX7_become 21 = .ok (.getfield 15, 3) := by decide +kernel
theorem dX7_become_24 : decode cX7_become 24 = .ok (.iload_n 2, 1) := by decide +kernel
theorem dX7_become_25 : decode cX7_become 25 = .ok (.aload_n 1, 1) := by decide +kernel
theorem dX7_become_26 : decode cX7_become 26 = .ok (.getfield 15, 3) := by decide +kernel
theorem dX7_become_29 : decode cX7_become 29 = .ok (.iload_n 2, 1) := by decide +kernel
theorem dX7_become_30 : decode cX7_become 30 = .ok (.iaload, 1) := by decide +kernel
theorem dX7_become_31 : decode cX7_become 31 = .ok (.iastore, 1) := by decide +kernel
theorem dX7_become_32 : decode cX7_become 32 = .ok (.iconst 0, 1) := by decide +kernel
theorem dX7_become_33 : decode cX7_become 33 = .ok (.istore_n 3, 1) := by decide +kernel
theorem dX7_become_34 : decode cX7_become 34 = .ok (.iload_n 3, 1) := by decide +kernel
theorem dX7_become_35 : decode cX7_become 35 = .ok (.bipush 12, 2) := by decide +kernel
theorem dX7_become_37 : decode cX7_become 37 = .ok (.if_icmp .ge 25, 3) := by decide +kernel
theorem dX7_become_40 : decode cX7_become 40 = .ok (.aload_n 0, 1) := by decide +kernel
theorem dX7_become_41 : decode cX7_become 41 = .ok (.getfield 20, 3) := by decide +kernel
theorem dX7_become_44 : decode cX7_become 44 = .ok (.iload_n 2, 1) := by decide +kernel
theorem dX7_become_45 : decode cX7_become 45 = .ok (.aaload, 1) := by decide +kernel
theorem dX7_become_46 : decode cX7_become 46 = .ok (.iload_n 3, 1) := by decide +kernel
theorem dX7_become_47 : decode cX7_become 47 = .ok (.aload_n 1, 1) := by decide +kernel
theorem dX7_become_48 : decode cX7_become 48 = .ok (.getfield 20, 3) := by decide +kernel
theorem dX7_become_51 : decode cX7_become 51 = .ok (.iload_n 2, 1) := by decide +kernel
theorem dX7_become_52 : decode cX7_become 52 = .ok (.aaload, 1) := by decide +kernel
theorem dX7_become_53 : decode cX7_become 53 = .ok (.iload_n 3, 1) := by decide +kernel
theorem dX7_become_54 : decode cX7_become 54 = .ok (.iaload, 1) := by decide +kernel
theorem dX7_become_55 : decode cX7_become 55 = .ok (.iastore, 1) := by decide +kernel
theorem dX7_become_56 : decode cX7_become 56 = .ok (.iinc 3 1, 3) := by decide +kernel
theorem dX7_become_59 : decode cX7_become 59 = .ok (.goto (-25), 3) := by decide +kernel
theorem dX7_become_62 : decode cX7_become 62 = .ok (.iinc 2 1, 3) := by decide +kernel
theorem dX7_become_65 : decode cX7_become 65 = .ok (.goto (-63), 3) := by decide +kernel
theorem dX7_become_68 : decode cX7_become 68 = .ok (.aload_n 0, 1) := by decide +kernel
theorem dX7_become_69 : decode cX7_become 69 = .ok (.aload_n 1, 1) := by decide +kernel
theorem dX7_become_70 : decode cX7_become 70 = .ok (.getfield 23, 3) := by decide +kernel
theorem dX7_become_73 : decode cX7_become 73 = .ok (.putfield 23, 3) := by decide +kernel
theorem dX7_become_76 : decode cX7_become 76 = .ok (.aload_n 0, 1) := by decide +kernel
theorem dX7_become_77 : decode cX7_become 77 = .ok (.aload_n 1, 1) := by decide +kernel
theorem dX7_become_78 : decode cX7_become 78 = .ok (.getfield 27, 3) := by decide +kernel
theorem dX7_become_81 : decode cX7_become 81 = .ok (.putfield 27, 3) := by decide +kernel
theorem dX7_become_84 : decode cX7_become 84 = .ok (.aload_n 0, 1) := by decide +kernel
theorem dX7_become_85 : decode cX7_become 85 = .ok (.aload_n 1, 1) := by decide +kernel
theorem dX7_become_86 : decode cX7_become 86 = .ok (.getfield 30, 3) := by decide +kernel
theorem dX7_become_89 : decode cX7_become 89 = .ok (.putfield 30, 3) := by decide +kernel
theorem dX7_become_92 : decode cX7_become 92 = .ok (.aload_n 0, 1) := by decide +kernel
theorem dX7_become_93 : decode cX7_become 93 = .ok (.aload_n 1, 1) := by decide +kernel
theorem dX7_become_94 : decode cX7_become 94 = .ok (.getfield 33, 3) := by decide +kernel
theorem dX7_become_97 : decode cX7_become 97 = .ok (.putfield 33, 3) := by decide +kernel
theorem dX7_become_100 : decode cX7_become 100 = .ok (.aload_n 0, 1) := by decide +kernel
theorem dX7_become_101 : decode cX7_become 101 = .ok (.aload_n 1, 1) := by decide +kernel
theorem dX7_become_102 : decode cX7_become 102 = .ok (.getfield 36, 3) := by decide +kernel
theorem dX7_become_105 : decode cX7_become 105 = .ok (.putfield 36, 3) := by decide +kernel
theorem dX7_become_108 : decode cX7_become 108 = .ok (.return_, 1) := by decide +kernel
theorem FG_X7_23 : FG RX7 23 7 8 3 := ⟨RX7, TX7, rfl, wX7, by decide, kAW (v_0_5 (List.mem_of_getElem? (i := 5) rfl)) rfl, rfl⟩
theorem FP_X7_23 : FPX RX7 23 7 8 3 .int := ⟨⟨RX7, TX7, tyX7, rfl, wX7, by decide, kAW (v_0_5 (List.mem_of_getElem? (i := 5) rfl)) rfl, rfl, tyX7_ok, nmX7, by decide +kernel, rfl⟩, by decide +kernel⟩
theorem FG_X7_27 : FG RX7 27 7 8 4 := ⟨RX7, TX7, rfl, wX7, by decide, kAW (v_0_5 (List.mem_of_getElem? (i := 8) rfl)) rfl, rfl⟩
theorem FP_X7_27 : FPX RX7 27 7 8 4 .int := ⟨⟨RX7, TX7, tyX7, rfl, wX7, by decide, kAW (v_0_5 (List.mem_of_getElem? (i := 8) rfl)) rfl, rfl, tyX7_ok, nmX7, by decide +kernel, rfl⟩, by decide +kernel⟩
theorem FG_X7_30 : FG RX7 30 7 8 5 := ⟨RX7, TX7, rfl, wX7, by decide, kAW (v_0_5 (List.mem_of_getElem? (i := 11) rfl)) rfl, rfl⟩
theorem FP_X7_30 : FPX RX7 30 7 8 5 .int := ⟨⟨RX7, TX7, tyX7, rfl, wX7, by decide, kAW (v_0_5 (List.mem_of_getElem? (i := 11) rfl)) rfl, rfl, tyX7_ok, nmX7, by decide +kernel, rfl⟩, by decide +kernel⟩
theorem FG_X7_33 : FG RX7 33 7 8 6 := ⟨RX7, TX7, rfl, wX7, by decide, kAW (v_0_5 (List.mem_of_getElem? (i := 14) rfl)) rfl, rfl⟩
theorem FP_X7_33 : FPX RX7 33 7 8 6 .int := ⟨⟨RX7, TX7, tyX7, rfl, wX7, by decide, kAW (v_0_5 (List.mem_of_getElem? (i := 14) rfl)) rfl, rfl, tyX7_ok, nmX7, by decide +kernel, rfl⟩, by decide +kernel⟩
theorem FG_X7_36 : FG RX7 36 7 8 7 := ⟨RX7, TX7, rfl, wX7, by decide, kAW (v_0_6 (List.mem_of_getElem? (i := 1) rfl)) rfl, rfl⟩
theorem FP_X7_36 : FPX RX7 36 7 8 7 .int := ⟨⟨RX7, TX7, tyX7, rfl, wX7, by decide, kAW (v_0_6 (List.mem_of_getElem? (i := 1) rfl)) rfl, rfl, tyX7_ok, nmX7, by decide +kernel, rfl⟩, by decide +kernel⟩
theorem FG_X7_9 : FG RX7 9 7 8 0 := ⟨RX7, TX7, rfl, wX7, by decide, kAW (v_0_4 (List.mem_of_getElem? (i := 11) rfl)) rfl, rfl⟩
theorem FG_X7_15 : FG RX7 15 7 8 1 := ⟨RX7, TX7, rfl, wX7, by decide, kAW (v_0_4 (List.mem_of_getElem? (i := 14) rfl)) rfl, rfl⟩
theorem FG_X7_20 : FG RX7 20 7 8 2 := ⟨RX7, TX7, rfl, wX7, by decide, kAW (v_0_5 (List.mem_of_getElem? (i := 1) rfl)) rfl, rfl⟩
set_option maxRecDepth 100000 in
set_option maxHeartbeats 4000000 in
theorem c_X7_become_42 (l : Launch) (D : va_G) (cA : Nat → ClassId) (ad : Nat → Nat) (g0 : Nat → va_E) (tl wk ps rc xx : Int32) (hSh : Shp ad cA g0) (htl : fld g0 18 3 = .int tl) (hwk : fld g0 18 4 = .int wk) (hps : fld g0 18 5 = .int ps) (hrc : fld g0 18 6 = .int rc) (hxx : fld g0 18 7 = .int xx) : CT l NN ad cA D yX7_become cX7_become 4 none (0, 0) [.ref (ad 42), .ref (ad 18)] g0 (fun v g' => v = none ∧ Shp ad cA g' ∧ FR (fun i k => i = 43 ∨ i = 44 ∨ (46 ≤ i ∧ i < 54) ∨ (i = 42 ∧ (k = 3 ∨ k = 4 ∨ k = 5 ∨ k = 6 ∨ k = 7))) g0 g' ∧ fld g' 42 3 = .int tl ∧ fld g' 42 4 = .int wk ∧ fld g' 42 5 = .int ps ∧ fld g' 42 6 = .int rc ∧ fld g' 42 7 = .int xx) := by
  refine q_enterV (by decide) (Nat.le_of_ble_eq_true rfl) (fun K H locs ls _ _ hM hW0 hR hC hE hl => ?_)
  have hl : lv_has ls 4 [(0, .ref (ad 42)), (1, .ref (ad 18))] := hl
  have hW : WS ad cA (fun i k => i = 43 ∨ i = 44 ∨ (46 ≤ i ∧ i < 54) ∨ (i = 42 ∧ (k = 3 ∨ k = 4 ∨ k = 5 ∨ k = 6 ∨ k = 7))) g0 K g0 H locs := ⟨hW0, hSh, FR.rf⟩
  refine q_iconst (v := (0 : Int32)) hM dX7_become_0 (by decide) ?_
  refine q_istore_n (lv9 := [(2, .int (0 : Int32)), (0, .ref (ad 42)), (1, .ref (ad 18))]) hM dX7_become_1 hl (by decide) rfl (fun ls hl => ?_)
  have L2 : ∀ (fu2 : Nat) (p : Int32) (g9 : Nat → va_E) (H : Heap) (locs : List Loc) (ls : Array Slot), (8 - p.toInt).toNat < fu2 → (0 ≤ p.toInt) → (p.toInt ≤ 8) → lv_has ls 4 [(0, .ref (ad 42)), (1, .ref (ad 18)), (2, .int p)] → WS ad cA (fun i k => i = 43 ∨ i = 44 ∨ (46 ≤ i ∧ i < 54) ∨ (i = 42 ∧ (k = 3 ∨ k = 4 ∨ k = 5 ∨ k = 6 ∨ k = 7))) g0 K g9 H locs → XX K 0 0 H locs 2 ls [] := by
    intro fu2
    induction fu2 with
    | zero => intro p g9 H locs ls h0; omega
    | succ fu2 ih2 =>
      intro p g9 H locs ls hm2 i2_0 i2_1 hl hW
      refine q_iload_n hM dX7_become_2 (lv_at hl 2 rfl) ?_
      refine q_bipush (v := (8 : Int32)) hM dX7_become_3 (by decide) ?_
      refine q_icmp_ge (tgt := 68) hM dX7_become_5 (by decide) (rfl : p.toInt = p.toInt) (kc_8 : (8 : Int32).toInt = 8) (fun h5 => ?_) (fun h5 => ?_)
      · refine q_aload_n hM dX7_become_68 (lv_at hl 0 rfl) ?_
        refine q_aload_n hM dX7_become_69 (lv_at hl 1 rfl) ?_
        refine w_get (v := .int tl) hM hW FG_X7_23 lb_18 ((hW.2.2.1 18 3 (by omega)).trans htl) dX7_become_70 ?_
        refine w_put hM hW FP_X7_23 lb_42 (by omega) (Or.inl ⟨_, rfl⟩) rfl rfl dX7_become_73 (fun g45 H locs hW e1 e2 => ?_)
        have f46 : fld g45 42 3 = .int tl := e1
        refine q_aload_n hM dX7_become_76 (lv_at hl 0 rfl) ?_
        refine q_aload_n hM dX7_become_77 (lv_at hl 1 rfl) ?_
        refine w_get (v := .int wk) hM hW FG_X7_27 lb_18 ((hW.2.2.1 18 4 (by omega)).trans hwk) dX7_become_78 ?_
        refine w_put hM hW FP_X7_27 lb_42 (by omega) (Or.inl ⟨_, rfl⟩) rfl rfl dX7_become_81 (fun g47 H locs hW e1 e2 => ?_)
        have f48 : fld g47 42 3 = .int tl := (e2.1 42 3 (by unfold Only; omega)).trans f46
        have f49 : fld g47 42 4 = .int wk := e1
        refine q_aload_n hM dX7_become_84 (lv_at hl 0 rfl) ?_
        refine q_aload_n hM dX7_become_85 (lv_at hl 1 rfl) ?_
        refine w_get (v := .int ps) hM hW FG_X7_30 lb_18 ((hW.2.2.1 18 5 (by omega)).trans hps) dX7_become_86 ?_
        refine w_put hM hW FP_X7_30 lb_42 (by omega) (Or.inl ⟨_, rfl⟩) rfl rfl dX7_become_89 (fun g50 H locs hW e1 e2 => ?_)
        have f51 : fld g50 42 3 = .int tl := (e2.1 42 3 (by unfold Only; omega)).trans f48
        have f52 : fld g50 42 4 = .int wk := (e2.1 42 4 (by unfold Only; omega)).trans f49
        have f53 : fld g50 42 5 = .int ps := e1
        refine q_aload_n hM dX7_become_92 (lv_at hl 0 rfl) ?_
        refine q_aload_n hM dX7_become_93 (lv_at hl 1 rfl) ?_
        refine w_get (v := .int rc) hM hW FG_X7_33 lb_18 ((hW.2.2.1 18 6 (by omega)).trans hrc) dX7_become_94 ?_
        refine w_put hM hW FP_X7_33 lb_42 (by omega) (Or.inl ⟨_, rfl⟩) rfl rfl dX7_become_97 (fun g54 H locs hW e1 e2 => ?_)
        have f55 : fld g54 42 3 = .int tl := (e2.1 42 3 (by unfold Only; omega)).trans f51
        have f56 : fld g54 42 4 = .int wk := (e2.1 42 4 (by unfold Only; omega)).trans f52
        have f57 : fld g54 42 5 = .int ps := (e2.1 42 5 (by unfold Only; omega)).trans f53
        have f58 : fld g54 42 6 = .int rc := e1
        refine q_aload_n hM dX7_become_100 (lv_at hl 0 rfl) ?_
        refine q_aload_n hM dX7_become_101 (lv_at hl 1 rfl) ?_
        refine w_get (v := .int xx) hM hW FG_X7_36 lb_18 ((hW.2.2.1 18 7 (by omega)).trans hxx) dX7_become_102 ?_
        refine w_put hM hW FP_X7_36 lb_42 (by omega) (Or.inl ⟨_, rfl⟩) rfl rfl dX7_become_105 (fun g59 H locs hW e1 e2 => ?_)
        have f60 : fld g59 42 3 = .int tl := (e2.1 42 3 (by unfold Only; omega)).trans f55
        have f61 : fld g59 42 4 = .int wk := (e2.1 42 4 (by unfold Only; omega)).trans f56
        have f62 : fld g59 42 5 = .int ps := (e2.1 42 5 (by unfold Only; omega)).trans f57
        have f63 : fld g59 42 6 = .int rc := (e2.1 42 6 (by unfold Only; omega)).trans f58
        have f64 : fld g59 42 7 = .int xx := e1
        exact hE _ _ _ _ _ hW.1 ⟨rfl, hW.2.1, hW.2.2, f60, f61, f62, f63, f64⟩ dX7_become_108
      · refine q_aload_n hM dX7_become_8 (lv_at hl 0 rfl) ?_
        refine w_get (v := .ref (ad 43)) hM hW FG_X7_9 lb_42 (rf_42_0 hW.2.1) dX7_become_9 ?_
        refine q_iload_n hM dX7_become_12 (lv_at hl 2 rfl) ?_
        refine q_aload_n hM dX7_become_13 (lv_at hl 1 rfl) ?_
        refine w_get (v := .ref (ad 19)) hM hW FG_X7_9 lb_18 (rf_18_0 hW.2.1) dX7_become_14 ?_
        refine q_iload_n hM dX7_become_17 (lv_at hl 2 rfl) ?_
        refine w_iald hM hW lb_19 (i_in (by omega) (by omega)) dX7_become_18 ?_
        refine q_top (fun y65 hy65 => ?_)
        refine w_iast hM hW lb_43 (by omega) (i_in (by omega) (by omega)) dX7_become_19 (fun g66 H locs hW e1 e2 => ?_)
        refine q_aload_n hM dX7_become_20 (lv_at hl 0 rfl) ?_
        refine w_get (v := .ref (ad 44)) hM hW FG_X7_15 lb_42 (rf_42_1 hW.2.1) dX7_become_21 ?_
        refine q_iload_n hM dX7_become_24 (lv_at hl 2 rfl) ?_
        refine q_aload_n hM dX7_become_25 (lv_at hl 1 rfl) ?_
        refine w_get (v := .ref (ad 20)) hM hW FG_X7_15 lb_18 (rf_18_1 hW.2.1) dX7_become_26 ?_
        refine q_iload_n hM dX7_become_29 (lv_at hl 2 rfl) ?_
        refine w_iald hM hW lb_20 (i_in (by omega) (by omega)) dX7_become_30 ?_
        refine q_top (fun y67 hy67 => ?_)
        refine w_iast hM hW lb_44 (by omega) (i_in (by omega) (by omega)) dX7_become_31 (fun g68 H locs hW e1 e2 => ?_)
        refine q_iconst (v := (0 : Int32)) hM dX7_become_32 (by decide) ?_
        refine q_istore_n (lv9 := [(3, .int (0 : Int32)), (0, .ref (ad 42)), (1, .ref (ad 18)), (2, .int p)]) hM dX7_become_33 hl (by decide) rfl (fun ls hl => ?_)
        have L34 : ∀ (fu34 : Nat) (i : Int32) (g9 : Nat → va_E) (H : Heap) (locs : List Loc) (ls : Array Slot), (12 - i.toInt).toNat < fu34 → (0 ≤ i.toInt) → (i.toInt ≤ 12) → lv_has ls 4 [(0, .ref (ad 42)), (1, .ref (ad 18)), (2, .int p), (3, .int i)] → WS ad cA (fun i k => i = 43 ∨ i = 44 ∨ (46 ≤ i ∧ i < 54) ∨ (i = 42 ∧ (k = 3 ∨ k = 4 ∨ k = 5 ∨ k = 6 ∨ k = 7))) g0 K g9 H locs → XX K 0 0 H locs 34 ls [] := by
          intro fu34
          induction fu34 with
          | zero => intro i g9 H locs ls h0; omega
          | succ fu34 ih34 =>
            intro i g9 H locs ls hm34 i34_0 i34_1 hl hW
            refine q_iload_n hM dX7_become_34 (lv_at hl 3 rfl) ?_
            refine q_bipush (v := (12 : Int32)) hM dX7_become_35 (by decide) ?_
            refine q_icmp_ge (tgt := 62) hM dX7_become_37 (by decide) (rfl : i.toInt = i.toInt) (kc_12 : (12 : Int32).toInt = 12) (fun h37 => ?_) (fun h37 => ?_)
            · refine q_iinc (lv9 := fun z69 => [(2, .int z69), (0, .ref (ad 42)), (1, .ref (ad 18)), (3, .int i)]) hM dX7_become_62 hl (kq := 2) rfl (by decide) (fun _ => rfl) (fun z69 ls hz69 hl => ?_)
              have tz69 := i_addT hz69 (rfl : p.toInt = p.toInt) (kc_1 : (Int32.ofInt 1).toInt = 1) (by omega) (by omega)
              refine q_goto (tgt := 2) hM dX7_become_65 (by decide) ?_
              exact ih2 z69 _ _ _ _ (by omega) (by omega) (by omega) (lv_sub hl [1, 2, 0] rfl) hW
            · refine q_aload_n hM dX7_become_40 (lv_at hl 0 rfl) ?_
              refine w_get (v := .ref (ad 45)) hM hW FG_X7_20 lb_42 (rf_42_2 hW.2.1) dX7_become_41 ?_
              refine q_iload_n hM dX7_become_44 (lv_at hl 2 rfl) ?_
              refine w_aald hM hW lb_45 (Or.inl rfl) (i_in (by omega) (by omega)) (aq (aq_45 hW.2.1) (by omega) (by omega)) dX7_become_45 ?_
              refine q_iload_n hM dX7_become_46 (lv_at hl 3 rfl) ?_
              refine q_aload_n hM dX7_become_47 (lv_at hl 1 rfl) ?_
              refine w_get (v := .ref (ad 21)) hM hW FG_X7_20 lb_18 (rf_18_2 hW.2.1) dX7_become_48 ?_
              refine q_iload_n hM dX7_become_51 (lv_at hl 2 rfl) ?_
              refine w_aald hM hW lb_21 (Or.inl rfl) (i_in (by omega) (by omega)) (aq (aq_21 hW.2.1) (by omega) (by omega)) dX7_become_52 ?_
              refine q_iload_n hM dX7_become_53 (lv_at hl 3 rfl) ?_
              refine w_iald hM hW (lr_22 (by omega)) (i_in (by omega) (by omega)) dX7_become_54 ?_
              refine q_top (fun y70 hy70 => ?_)
              refine w_iast hM hW (lr_46 (by omega)) (by omega) (i_in (by omega) (by omega)) dX7_become_55 (fun g71 H locs hW e1 e2 => ?_)
              refine q_iinc (lv9 := fun z72 => [(3, .int z72), (0, .ref (ad 42)), (1, .ref (ad 18)), (2, .int p)]) hM dX7_become_56 hl (kq := 3) rfl (by decide) (fun _ => rfl) (fun z72 ls hz72 hl => ?_)
              have tz72 := i_addT hz72 (rfl : i.toInt = i.toInt) (kc_1 : (Int32.ofInt 1).toInt = 1) (by omega) (by omega)
              refine q_goto (tgt := 34) hM dX7_become_59 (by decide) ?_
              exact ih34 z72 _ _ _ _ (by omega) (by omega) (by omega) (lv_sub hl [1, 2, 3, 0] rfl) hW
        have := kc_0
        exact L34 _ (0 : Int32) _ _ _ _ (Nat.lt_succ_self _) (by omega) (by omega) (lv_sub hl [1, 2, 3, 0] rfl) hW
  have := kc_0
  exact L2 _ (0 : Int32) _ _ _ _ (Nat.lt_succ_self _) (by omega) (by omega) (lv_sub hl [1, 2, 0] rfl) hW


set_option maxRecDepth 100000 in
set_option maxHeartbeats 4000000 in
theorem c_X7_become_30 (l : Launch) (D : va_G) (cA : Nat → ClassId) (ad : Nat → Nat) (g0 : Nat → va_E) (tl wk ps rc xx : Int32) (hSh : Shp ad cA g0) (htl : fld g0 18 3 = .int tl) (hwk : fld g0 18 4 = .int wk) (hps : fld g0 18 5 = .int ps) (hrc : fld g0 18 6 = .int rc) (hxx : fld g0 18 7 = .int xx) : CT l NN ad cA D yX7_become cX7_become 4 none (0, 0) [.ref (ad 30), .ref (ad 18)] g0 (fun v g' => v = none ∧ Shp ad cA g' ∧ FR (fun i k => i = 31 ∨ i = 32 ∨ (34 ≤ i ∧ i < 42) ∨ (i = 30 ∧ (k = 3 ∨ k = 4 ∨ k = 5 ∨ k = 6 ∨ k = 7))) g0 g' ∧ fld g' 30 3 = .int tl ∧ fld g' 30 4 = .int wk ∧ fld g' 30 5 = .int ps ∧ fld g' 30 6 = .int rc ∧ fld g' 30 7 = .int xx) := by
  refine q_enterV (by decide) (Nat.le_of_ble_eq_true rfl) (fun K H locs ls _ _ hM hW0 hR hC hE hl => ?_)
  have hl : lv_has ls 4 [(0, .ref (ad 30)), (1, .ref (ad 18))] := hl
  have hW : WS ad cA (fun i k => i = 31 ∨ i = 32 ∨ (34 ≤ i ∧ i < 42) ∨ (i = 30 ∧ (k = 3 ∨ k = 4 ∨ k = 5 ∨ k = 6 ∨ k = 7))) g0 K g0 H locs := ⟨hW0, hSh, FR.rf⟩
  refine q_iconst (v := (0 : Int32)) hM dX7_become_0 (by decide) ?_
  refine q_istore_n (lv9 := [(2, .int (0 : Int32)), (0, .ref (ad 30)), (1, .ref (ad 18))]) hM dX7_become_1 hl (by decide) rfl (fun ls hl => ?_)
  have L2 : ∀ (fu2 : Nat) (p : Int32) (g9 : Nat → va_E) (H : Heap) (locs : List Loc) (ls : Array Slot), (8 - p.toInt).toNat < fu2 → (0 ≤ p.toInt) → (p.toInt ≤ 8) → lv_has ls 4 [(0, .ref (ad 30)), (1, .ref (ad 18)), (2, .int p)] → WS ad cA (fun i k => i = 31 ∨ i = 32 ∨ (34 ≤ i ∧ i < 42) ∨ (i = 30 ∧ (k = 3 ∨ k = 4 ∨ k = 5 ∨ k = 6 ∨ k = 7))) g0 K g9 H locs → XX K 0 0 H locs 2 ls [] := by
    intro fu2
    induction fu2 with
    | zero => intro p g9 H locs ls h0; omega
    | succ fu2 ih2 =>
      intro p g9 H locs ls hm2 i2_0 i2_1 hl hW
      refine q_iload_n hM dX7_become_2 (lv_at hl 2 rfl) ?_
      refine q_bipush (v := (8 : Int32)) hM dX7_become_3 (by decide) ?_
      refine q_icmp_ge (tgt := 68) hM dX7_become_5 (by decide) (rfl : p.toInt = p.toInt) (kc_8 : (8 : Int32).toInt = 8) (fun h5 => ?_) (fun h5 => ?_)
      · refine q_aload_n hM dX7_become_68 (lv_at hl 0 rfl) ?_
        refine q_aload_n hM dX7_become_69 (lv_at hl 1 rfl) ?_
        refine w_get (v := .int tl) hM hW FG_X7_23 lb_18 ((hW.2.2.1 18 3 (by omega)).trans htl) dX7_become_70 ?_
        refine w_put hM hW FP_X7_23 lb_30 (by omega) (Or.inl ⟨_, rfl⟩) rfl rfl dX7_become_73 (fun g73 H locs hW e1 e2 => ?_)
        have f74 : fld g73 30 3 = .int tl := e1
        refine q_aload_n hM dX7_become_76 (lv_at hl 0 rfl) ?_
        refine q_aload_n hM dX7_become_77 (lv_at hl 1 rfl) ?_
        refine w_get (v := .int wk) hM hW FG_X7_27 lb_18 ((hW.2.2.1 18 4 (by omega)).trans hwk) dX7_become_78 ?_
        refine w_put hM hW FP_X7_27 lb_30 (by omega) (Or.inl ⟨_, rfl⟩) rfl rfl dX7_become_81 (fun g75 H locs hW e1 e2 => ?_)
        have f76 : fld g75 30 3 = .int tl := (e2.1 30 3 (by unfold Only; omega)).trans f74
        have f77 : fld g75 30 4 = .int wk := e1
        refine q_aload_n hM dX7_become_84 (lv_at hl 0 rfl) ?_
        refine q_aload_n hM dX7_become_85 (lv_at hl 1 rfl) ?_
        refine w_get (v := .int ps) hM hW FG_X7_30 lb_18 ((hW.2.2.1 18 5 (by omega)).trans hps) dX7_become_86 ?_
        refine w_put hM hW FP_X7_30 lb_30 (by omega) (Or.inl ⟨_, rfl⟩) rfl rfl dX7_become_89 (fun g78 H locs hW e1 e2 => ?_)
        have f79 : fld g78 30 3 = .int tl := (e2.1 30 3 (by unfold Only; omega)).trans f76
        have f80 : fld g78 30 4 = .int wk := (e2.1 30 4 (by unfold Only; omega)).trans f77
        have f81 : fld g78 30 5 = .int ps := e1
        refine q_aload_n hM dX7_become_92 (lv_at hl 0 rfl) ?_
        refine q_aload_n hM dX7_become_93 (lv_at hl 1 rfl) ?_
        refine w_get (v := .int rc) hM hW FG_X7_33 lb_18 ((hW.2.2.1 18 6 (by omega)).trans hrc) dX7_become_94 ?_
        refine w_put hM hW FP_X7_33 lb_30 (by omega) (Or.inl ⟨_, rfl⟩) rfl rfl dX7_become_97 (fun g82 H locs hW e1 e2 => ?_)
        have f83 : fld g82 30 3 = .int tl := (e2.1 30 3 (by unfold Only; omega)).trans f79
        have f84 : fld g82 30 4 = .int wk := (e2.1 30 4 (by unfold Only; omega)).trans f80
        have f85 : fld g82 30 5 = .int ps := (e2.1 30 5 (by unfold Only; omega)).trans f81
        have f86 : fld g82 30 6 = .int rc := e1
        refine q_aload_n hM dX7_become_100 (lv_at hl 0 rfl) ?_
        refine q_aload_n hM dX7_become_101 (lv_at hl 1 rfl) ?_
        refine w_get (v := .int xx) hM hW FG_X7_36 lb_18 ((hW.2.2.1 18 7 (by omega)).trans hxx) dX7_become_102 ?_
        refine w_put hM hW FP_X7_36 lb_30 (by omega) (Or.inl ⟨_, rfl⟩) rfl rfl dX7_become_105 (fun g87 H locs hW e1 e2 => ?_)
        have f88 : fld g87 30 3 = .int tl := (e2.1 30 3 (by unfold Only; omega)).trans f83
        have f89 : fld g87 30 4 = .int wk := (e2.1 30 4 (by unfold Only; omega)).trans f84
        have f90 : fld g87 30 5 = .int ps := (e2.1 30 5 (by unfold Only; omega)).trans f85
        have f91 : fld g87 30 6 = .int rc := (e2.1 30 6 (by unfold Only; omega)).trans f86
        have f92 : fld g87 30 7 = .int xx := e1
        exact hE _ _ _ _ _ hW.1 ⟨rfl, hW.2.1, hW.2.2, f88, f89, f90, f91, f92⟩ dX7_become_108
      · refine q_aload_n hM dX7_become_8 (lv_at hl 0 rfl) ?_
        refine w_get (v := .ref (ad 31)) hM hW FG_X7_9 lb_30 (rf_30_0 hW.2.1) dX7_become_9 ?_
        refine q_iload_n hM dX7_become_12 (lv_at hl 2 rfl) ?_
        refine q_aload_n hM dX7_become_13 (lv_at hl 1 rfl) ?_
        refine w_get (v := .ref (ad 19)) hM hW FG_X7_9 lb_18 (rf_18_0 hW.2.1) dX7_become_14 ?_
        refine q_iload_n hM dX7_become_17 (lv_at hl 2 rfl) ?_
        refine w_iald hM hW lb_19 (i_in (by omega) (by omega)) dX7_become_18 ?_
        refine q_top (fun y93 hy93 => ?_)
        refine w_iast hM hW lb_31 (by omega) (i_in (by omega) (by omega)) dX7_become_19 (fun g94 H locs hW e1 e2 => ?_)
        refine q_aload_n hM dX7_become_20 (lv_at hl 0 rfl) ?_
        refine w_get (v := .ref (ad 32)) hM hW FG_X7_15 lb_30 (rf_30_1 hW.2.1) dX7_become_21 ?_
        refine q_iload_n hM dX7_become_24 (lv_at hl 2 rfl) ?_
        refine q_aload_n hM dX7_become_25 (lv_at hl 1 rfl) ?_
        refine w_get (v := .ref (ad 20)) hM hW FG_X7_15 lb_18 (rf_18_1 hW.2.1) dX7_become_26 ?_
        refine q_iload_n hM dX7_become_29 (lv_at hl 2 rfl) ?_
        refine w_iald hM hW lb_20 (i_in (by omega) (by omega)) dX7_become_30 ?_
        refine q_top (fun y95 hy95 => ?_)
        refine w_iast hM hW lb_32 (by omega) (i_in (by omega) (by omega)) dX7_become_31 (fun g96 H locs hW e1 e2 => ?_)
        refine q_iconst (v := (0 : Int32)) hM dX7_become_32 (by decide) ?_
        refine q_istore_n (lv9 := [(3, .int (0 : Int32)), (0, .ref (ad 30)), (1, .ref (ad 18)), (2, .int p)]) hM dX7_become_33 hl (by decide) rfl (fun ls hl => ?_)
        have L34 : ∀ (fu34 : Nat) (i : Int32) (g9 : Nat → va_E) (H : Heap) (locs : List Loc) (ls : Array Slot), (12 - i.toInt).toNat < fu34 → (0 ≤ i.toInt) → (i.toInt ≤ 12) → lv_has ls 4 [(0, .ref (ad 30)), (1, .ref (ad 18)), (2, .int p), (3, .int i)] → WS ad cA (fun i k => i = 31 ∨ i = 32 ∨ (34 ≤ i ∧ i < 42) ∨ (i = 30 ∧ (k = 3 ∨ k = 4 ∨ k = 5 ∨ k = 6 ∨ k = 7))) g0 K g9 H locs → XX K 0 0 H locs 34 ls [] := by
          intro fu34
          induction fu34 with
          | zero => intro i g9 H locs ls h0; omega
          | succ fu34 ih34 =>
            intro i g9 H locs ls hm34 i34_0 i34_1 hl hW
            refine q_iload_n hM dX7_become_34 (lv_at hl 3 rfl) ?_
            refine q_bipush (v := (12 : Int32)) hM dX7_become_35 (by decide) ?_
            refine q_icmp_ge (tgt := 62) hM dX7_become_37 (by decide) (rfl : i.toInt = i.toInt) (kc_12 : (12 : Int32).toInt = 12) (fun h37 => ?_) (fun h37 => ?_)
            · refine q_iinc (lv9 := fun z97 => [(2, .int z97), (0, .ref (ad 30)), (1, .ref (ad 18)), (3, .int i)]) hM dX7_become_62 hl (kq := 2) rfl (by decide) (fun _ => rfl) (fun z97 ls hz97 hl => ?_)
              have tz97 := i_addT hz97 (rfl : p.toInt = p.toInt) (kc_1 : (Int32.ofInt 1).toInt = 1) (by omega) (by omega)
              refine q_goto (tgt := 2) hM dX7_become_65 (by decide) ?_
              exact ih2 z97 _ _ _ _ (by omega) (by omega) (by omega) (lv_sub hl [1, 2, 0] rfl) hW
            · refine q_aload_n hM dX7_become_40 (lv_at hl 0 rfl) ?_
              refine w_get (v := .ref (ad 33)) hM hW FG_X7_20 lb_30 (rf_30_2 hW.2.1) dX7_become_41 ?_
              refine q_iload_n hM dX7_become_44 (lv_at hl 2 rfl) ?_
              refine w_aald hM hW lb_33 (Or.inl rfl) (i_in (by omega) (by omega)) (aq (aq_33 hW.2.1) (by omega) (by omega)) dX7_become_45 ?_
              refine q_iload_n hM dX7_become_46 (lv_at hl 3 rfl) ?_
              refine q_aload_n hM dX7_become_47 (lv_at hl 1 rfl) ?_
              refine w_get (v := .ref (ad 21)) hM hW FG_X7_20 lb_18 (rf_18_2 hW.2.1) dX7_become_48 ?_
              refine q_iload_n hM dX7_become_51 (lv_at hl 2 rfl) ?_
              refine w_aald hM hW lb_21 (Or.inl rfl) (i_in (by omega) (by omega)) (aq (aq_21 hW.2.1) (by omega) (by omega)) dX7_become_52 ?_
              refine q_iload_n hM dX7_become_53 (lv_at hl 3 rfl) ?_
              refine w_iald hM hW (lr_22 (by omega)) (i_in (by omega) (by omega)) dX7_become_54 ?_
              refine q_top (fun y98 hy98 => ?_)
              refine w_iast hM hW (lr_34 (by omega)) (by omega) (i_in (by omega) (by omega)) dX7_become_55 (fun g99 H locs hW e1 e2 => ?_)
              refine q_iinc (lv9 := fun z100 => [(3, .int z100), (0, .ref (ad 30)), (1, .ref (ad 18)), (2, .int p)]) hM dX7_become_56 hl (kq := 3) rfl (by decide) (fun _ => rfl) (fun z100 ls hz100 hl => ?_)
              have tz100 := i_addT hz100 (rfl : i.toInt = i.toInt) (kc_1 : (Int32.ofInt 1).toInt = 1) (by omega) (by omega)
              refine q_goto (tgt := 34) hM dX7_become_59 (by decide) ?_
              exact ih34 z100 _ _ _ _ (by omega) (by omega) (by omega) (lv_sub hl [1, 2, 3, 0] rfl) hW
        have := kc_0
        exact L34 _ (0 : Int32) _ _ _ _ (Nat.lt_succ_self _) (by omega) (by omega) (lv_sub hl [1, 2, 3, 0] rfl) hW
  have := kc_0
  exact L2 _ (0 : Int32) _ _ _ _ (Nat.lt_succ_self _) (by omega) (by omega) (lv_sub hl [1, 2, 0] rfl) hW

theorem dX3_become_0 : decode cX3_become 0 = .ok (.aload_n 0, 1) := by decide +kernel
theorem dX3_become_1 : decode cX3_become 1 = .ok (.aload_n 1, 1) := by decide +kernel
theorem dX3_become_2 : decode cX3_become 2 = .ok (.getfield 28, 3) := by decide +kernel
theorem dX3_become_5 : decode cX3_become 5 = .ok (.putfield 28, 3) := by decide +kernel
theorem dX3_become_8 : decode cX3_become 8 = .ok (.aload_n 0, 1) := by decide +kernel
theorem dX3_become_9 : decode cX3_become 9 = .ok (.aload_n 1, 1) := by decide +kernel
theorem dX3_become_10 : decode cX3_become 10 = .ok (.getfield 32, 3) := by decide +kernel
theorem dX3_become_13 : decode cX3_become 13 = .ok (.putfield 32, 3) := by decide +kernel
theorem dX3_become_16 : decode cX3_become 16 = .ok (.iconst 0, 1) := by decide +kernel
theorem dX3_become_17 : decode cX3_become 17 = .ok (.istore_n 2, 1) := by decide +kernel
theorem dX3_become_18 : decode cX3_become 18 = .ok (.iload_n 2, 1) := by decide +kernel
theorem dX3_become_19 : decode cX3_become 19 = .ok (.bipush 16, 2) := by decide +kernel
theorem dX3_become_21 : decode cX3_become 21 = .ok (.if_icmp .ge 45, 3) := by decide +kernel
theorem dX3_become_24 : decode cX3_become 24 = .ok (.aload_n 0, 1) := by decide +kernel
theorem dX3_become_25 : decode cX3_become 25 = .ok (.getfield 9, 3) := by decide +kernel
theorem dX3_become_28 : decode cX3_become 28 = .ok (.iload_n 2, 1) := by decide +kernel
theorem dX3_become_29 : decode cX3_become 29 = .ok (.aload_n 1, 1) := by decide +kernel
theorem dX3_become_30 : decode cX3_become 30 = .ok (.getfield 9, 3) := by decide +kernel
theorem dX3_become_33 : decode cX3_become 33 = .ok (.iload_n 2, 1) := by decide +kernel
theorem dX3_become_34 : decode cX3_become 34 = .ok (.iaload, 1) := by decide +kernel
theorem dX3_become_35 : decode cX3_become 35 = .ok (.iastore, 1) := by decide +kernel
theorem dX3_become_36 : decode cX3_become 36 = .ok (.aload_n 0, 1) := by decide +kernel
theorem dX3_become_37 : decode cX3_become 37 = .ok (.getfield 13, 3) := by decide +kernel
theorem dX3_become_40 : decode cX3_become 40 = .ok (.iload_n 2, 1) := by decide +kernel
theorem dX3_become_41 : decode cX3_become 41 = .ok (.aload_n 1, 1) := by decide +kernel
theorem dX3_become_42 : decode cX3_become 42 = .ok (.getfield 13, 3) := by decide +kernel
theorem dX3_become_45 : decode cX3_become 45 = .ok (.iload_n 2, 1) := by decide +kernel
theorem dX3_become_46 : decode cX3_become 46 = .ok (.iaload, 1) := by decide +kernel
theorem dX3_become_47 : decode cX3_become 47 = .ok (.iastore, 1) := by decide +kernel
theorem dX3_become_48 : decode cX3_become 48 = .ok (.aload_n 0, 1) := by decide +kernel
theorem dX3_become_49 : decode cX3_become 49 = .ok (.getfield 16, 3) := by decide +kernel
theorem dX3_become_52 : decode cX3_become 52 = .ok (.iload_n 2, 1) := by decide +kernel
theorem dX3_become_53 : decode cX3_become 53 = .ok (.aload_n 1, 1) := by decide +kernel
theorem dX3_become_54 : decode cX3_become 54 = .ok (.getfield 16, 3) := by decide +kernel
theorem dX3_become_57 : decode cX3_become 57 = .ok (.iload_n 2, 1) := by decide +kernel
theorem dX3_become_58 : decode cX3_become 58 = .ok (.iaload, 1) := by decide +kernel
theorem dX3_become_59 : decode cX3_become 59 = .ok (.iastore, 1) := by decide +kernel
theorem dX3_become_60 : decode cX3_become 60 = .ok (.iinc 2 1, 3) := by decide +kernel
theorem dX3_become_63 : decode cX3_become 63 = .ok (.goto (-45), 3) := by decide +kernel
theorem dX3_become_66 : decode cX3_become 66 = .ok (.iconst 0, 1) := by decide +kernel
theorem dX3_become_67 : decode cX3_become 67 = .ok (.istore_n 2, 1) := by decide +kernel
theorem dX3_become_68 : decode cX3_become 68 = .ok (.iload_n 2, 1) := by decide +kernel
theorem dX3_become_69 : decode cX3_become 69 = .ok (.sipush 256, 3) := by decide +kernel
theorem dX3_become_72 : decode cX3_become 72 = .ok (.if_icmp .ge 33, 3) := by decide +kernel
theorem dX3_become_75 : decode cX3_become 75 = .ok (.aload_n 0, 1) := by decide +kernel
theorem dX3_become_76 : decode cX3_become 76 = .ok (.getfield 19, 3) := by decide +kernel
theorem dX3_become_79 : decode cX3_become 79 = .ok (.iload_n 2, 1) := by decide +kernel
theorem dX3_become_80 : decode cX3_become 80 = .ok (.aload_n 1, 1) := by decide +kernel
theorem dX3_become_81 : decode cX3_become 81 = .ok (.getfield 19, 3) := by decide +kernel
theorem dX3_become_84 : decode cX3_become 84 = .ok (.iload_n 2, 1) := by decide +kernel
theorem dX3_become_85 : decode cX3_become 85 = .ok (.iaload, 1) := by decide +kernel
theorem dX3_become_86 : decode cX3_become 86 = .ok (.iastore, 1) := by decide +kernel
theorem dX3_become_87 : decode cX3_become 87 = .ok (.aload_n 0, 1) := by decide +kernel
theorem dX3_become_88 : decode cX3_become 88 = .ok (.getfield 22, 3) := by decide +kernel
theorem dX3_become_91 : decode cX3_become 91 = .ok (.iload_n 2, 1) := by decide +kernel
theorem dX3_become_92 : decode cX3_become 92 = .ok (.aload_n 1, 1) := by decide +kernel
theorem dX3_become_93 : decode cX3_become 93 = .ok (.getfield 22, 3) := by decide +kernel
theorem dX3_become_96 : decode cX3_become 96 = .ok (.iload_n 2, 1) := by decide +kernel
theorem dX3_become_97 : decode cX3_become 97 = .ok (.iaload, 1) := by decide +kernel
theorem dX3_become_98 : decode cX3_become 98 = .ok (.iastore, 1) := by decide +kernel
theorem dX3_become_99 : decode cX3_become 99 = .ok (.iinc 2 1, 3) := by decide +kernel
theorem dX3_become_102 : decode cX3_become 102 = .ok (.goto (-34), 3) := by decide +kernel
theorem dX3_become_105 : decode cX3_become 105 = .ok (.return_, 1) := by decide +kernel
theorem FG_X3_28 : FG RX3 28 3 8 6 := ⟨RX3, TX3, rfl, wX3, by decide, kAW (v_0_8 (List.mem_of_getElem? (i := 3) rfl)) rfl, rfl⟩
theorem FP_X3_28 : FPX RX3 28 3 8 6 .int := ⟨⟨RX3, TX3, tyX3, rfl, wX3, by decide, kAW (v_0_8 (List.mem_of_getElem? (i := 3) rfl)) rfl, rfl, tyX3_ok, nmX3, by decide +kernel, rfl⟩, by decide +kernel⟩
theorem FG_X3_32 : FG RX3 32 3 8 7 := ⟨RX3, TX3, rfl, wX3, by decide, kAW (v_0_8 (List.mem_of_getElem? (i := 6) rfl)) rfl, rfl⟩
theorem FP_X3_32 : FPX RX3 32 3 8 7 .int := ⟨⟨RX3, TX3, tyX3, rfl, wX3, by decide, kAW (v_0_8 (List.mem_of_getElem? (i := 6) rfl)) rfl, rfl, tyX3_ok, nmX3, by decide +kernel, rfl⟩, by decide +kernel⟩
theorem FG_X3_19 : FG RX3 19 3 8 3 := ⟨RX3, TX3, rfl, wX3, by decide, kAW (v_0_8 (List.mem_of_getElem? (i := 0) rfl)) rfl, rfl⟩
theorem FG_X3_22 : FG RX3 22 3 8 4 := ⟨RX3, TX3, rfl, wX3, by decide, kAW (v_0_8 (List.mem_of_getElem? (i := 1) rfl)) rfl, rfl⟩
theorem FG_X3_9 : FG RX3 9 3 8 0 := ⟨RX3, TX3, rfl, wX3, by decide, kAW (v_0_7 (List.mem_of_getElem? (i := 10) rfl)) rfl, rfl⟩
theorem FG_X3_13 : FG RX3 13 3 8 1 := ⟨RX3, TX3, rfl, wX3, by decide, kAW (v_0_7 (List.mem_of_getElem? (i := 12) rfl)) rfl, rfl⟩
theorem FG_X3_16 : FG RX3 16 3 8 2 := ⟨RX3, TX3, rfl, wX3, by decide, kAW (v_0_7 (List.mem_of_getElem? (i := 14) rfl)) rfl, rfl⟩
set_option maxRecDepth 100000 in
set_option maxHeartbeats 4000000 in
theorem c_X3_become (l : Launch) (D : va_G) (cA : Nat → ClassId) (ad : Nat → Nat) (g0 : Nat → va_E) (cl sz : Int32) (hSh : Shp ad cA g0) (hcl : fld g0 54 6 = .int cl) (hsz : fld g0 54 7 = .int sz) : CT l NN ad cA D yX3_become cX3_become 3 none (0, 0) [.ref (ad 61), .ref (ad 54)] g0 (fun v g' => v = none ∧ Shp ad cA g' ∧ FR (fun i k => (i = 61 ∧ (k = 6 ∨ k = 7)) ∨ (62 ≤ i ∧ i < 67)) g0 g' ∧ fld g' 61 6 = .int cl) := by
  refine q_enterV (by decide) (Nat.le_of_ble_eq_true rfl) (fun K H locs ls _ _ hM hW0 hR hC hE hl => ?_)
  have hl : lv_has ls 3 [(0, .ref (ad 61)), (1, .ref (ad 54))] := hl
  have hW : WS ad cA (fun i k => (i = 61 ∧ (k = 6 ∨ k = 7)) ∨ (62 ≤ i ∧ i < 67)) g0 K g0 H locs := ⟨hW0, hSh, FR.rf⟩
  refine q_aload_n hM dX3_become_0 (lv_at hl 0 rfl) ?_
  refine q_aload_n hM dX3_become_1 (lv_at hl 1 rfl) ?_
  refine w_get (v := .int cl) hM hW FG_X3_28 lb_54 ((hW.2.2.1 54 6 (by omega)).trans hcl) dX3_become_2 ?_
  refine w_put hM hW FP_X3_28 lb_61 (by omega) (Or.inl ⟨_, rfl⟩) rfl rfl dX3_become_5 (fun g101 H locs hW e1 e2 => ?_)
  have f102 : fld g101 61 6 = .int cl := e1
  refine q_aload_n hM dX3_become_8 (lv_at hl 0 rfl) ?_
  refine q_aload_n hM dX3_become_9 (lv_at hl 1 rfl) ?_
  refine w_get (v := .int sz) hM hW FG_X3_32 lb_54 ((hW.2.2.1 54 7 (by omega)).trans hsz) dX3_become_10 ?_
  refine w_put hM hW FP_X3_32 lb_61 (by omega) (Or.inl ⟨_, rfl⟩) rfl rfl dX3_become_13 (fun g103 H locs hW e1 e2 => ?_)
  have f104 : fld g103 61 6 = .int cl := (e2.1 61 6 (by unfold Only; omega)).trans f102
  have f105 : fld g103 61 7 = .int sz := e1
  refine q_iconst (v := (0 : Int32)) hM dX3_become_16 (by decide) ?_
  refine q_istore_n (lv9 := [(2, .int (0 : Int32)), (0, .ref (ad 61)), (1, .ref (ad 54))]) hM dX3_become_17 hl (by decide) rfl (fun ls hl => ?_)
  have L18 : ∀ (fu18 : Nat) (c : Int32) (g9 : Nat → va_E) (H : Heap) (locs : List Loc) (ls : Array Slot), (16 - c.toInt).toNat < fu18 → (0 ≤ c.toInt) → (c.toInt ≤ 16) → (fld g9 61 6 = .int cl) → (fld g9 61 7 = .int sz) → lv_has ls 3 [(0, .ref (ad 61)), (1, .ref (ad 54)), (2, .int c)] → WS ad cA (fun i k => (i = 61 ∧ (k = 6 ∨ k = 7)) ∨ (62 ≤ i ∧ i < 67)) g0 K g9 H locs → XX K 0 0 H locs 18 ls [] := by
    intro fu18
    induction fu18 with
    | zero => intro c g9 H locs ls h0; omega
    | succ fu18 ih18 =>
      intro c g9 H locs ls hm18 i18_0 i18_1 c18_61_6 c18_61_7 hl hW
      refine q_iload_n hM dX3_become_18 (lv_at hl 2 rfl) ?_
      refine q_bipush (v := (16 : Int32)) hM dX3_become_19 (by decide) ?_
      refine q_icmp_ge (tgt := 66) hM dX3_become_21 (by decide) (rfl : c.toInt = c.toInt) (kc_16 : (16 : Int32).toInt = 16) (fun h21 => ?_) (fun h21 => ?_)
      · refine q_iconst (v := (0 : Int32)) hM dX3_become_66 (by decide) ?_
        refine q_istore_n (lv9 := [(2, .int (0 : Int32)), (0, .ref (ad 61)), (1, .ref (ad 54))]) hM dX3_become_67 hl (by decide) rfl (fun ls hl => ?_)
        have L68 : ∀ (fu68 : Nat) (o : Int32) (g9 : Nat → va_E) (H : Heap) (locs : List Loc) (ls : Array Slot), (256 - o.toInt).toNat < fu68 → (0 ≤ o.toInt) → (o.toInt ≤ 256) → (fld g9 61 6 = .int cl) → (fld g9 61 7 = .int sz) → lv_has ls 3 [(0, .ref (ad 61)), (1, .ref (ad 54)), (2, .int o)] → WS ad cA (fun i k => (i = 61 ∧ (k = 6 ∨ k = 7)) ∨ (62 ≤ i ∧ i < 67)) g0 K g9 H locs → XX K 0 0 H locs 68 ls [] := by
          intro fu68
          induction fu68 with
          | zero => intro o g9 H locs ls h0; omega
          | succ fu68 ih68 =>
            intro o g9 H locs ls hm68 i68_0 i68_1 c68_61_6 c68_61_7 hl hW
            refine q_iload_n hM dX3_become_68 (lv_at hl 2 rfl) ?_
            refine q_sipush (v := (256 : Int32)) hM dX3_become_69 (by decide) ?_
            refine q_icmp_ge (tgt := 105) hM dX3_become_72 (by decide) (rfl : o.toInt = o.toInt) (kc_256 : (256 : Int32).toInt = 256) (fun h72 => ?_) (fun h72 => ?_)
            · exact hE _ _ _ _ _ hW.1 ⟨rfl, hW.2.1, hW.2.2, c68_61_6⟩ dX3_become_105
            · refine q_aload_n hM dX3_become_75 (lv_at hl 0 rfl) ?_
              refine w_get (v := .ref (ad 65)) hM hW FG_X3_19 lb_61 (rf_61_3 hW.2.1) dX3_become_76 ?_
              refine q_iload_n hM dX3_become_79 (lv_at hl 2 rfl) ?_
              refine q_aload_n hM dX3_become_80 (lv_at hl 1 rfl) ?_
              refine w_get (v := .ref (ad 58)) hM hW FG_X3_19 lb_54 (rf_54_3 hW.2.1) dX3_become_81 ?_
              refine q_iload_n hM dX3_become_84 (lv_at hl 2 rfl) ?_
              refine w_iald hM hW lb_58 (i_in (by omega) (by omega)) dX3_become_85 ?_
              refine q_top (fun y106 hy106 => ?_)
              refine w_iast hM hW lb_65 (by omega) (i_in (by omega) (by omega)) dX3_become_86 (fun g107 H locs hW e1 e2 => ?_)
              have f108 : fld g107 61 6 = .int cl := (e2.1 61 6 (by unfold Only; omega)).trans c68_61_6
              have f109 : fld g107 61 7 = .int sz := (e2.1 61 7 (by unfold Only; omega)).trans c68_61_7
              refine q_aload_n hM dX3_become_87 (lv_at hl 0 rfl) ?_
              refine w_get (v := .ref (ad 66)) hM hW FG_X3_22 lb_61 (rf_61_4 hW.2.1) dX3_become_88 ?_
              refine q_iload_n hM dX3_become_91 (lv_at hl 2 rfl) ?_
              refine q_aload_n hM dX3_become_92 (lv_at hl 1 rfl) ?_
              refine w_get (v := .ref (ad 59)) hM hW FG_X3_22 lb_54 (rf_54_4 hW.2.1) dX3_become_93 ?_
              refine q_iload_n hM dX3_become_96 (lv_at hl 2 rfl) ?_
              refine w_iald hM hW lb_59 (i_in (by omega) (by omega)) dX3_become_97 ?_
              refine q_top (fun y110 hy110 => ?_)
              refine w_iast hM hW lb_66 (by omega) (i_in (by omega) (by omega)) dX3_become_98 (fun g111 H locs hW e1 e2 => ?_)
              have f112 : fld g111 61 6 = .int cl := (e2.1 61 6 (by unfold Only; omega)).trans f108
              have f113 : fld g111 61 7 = .int sz := (e2.1 61 7 (by unfold Only; omega)).trans f109
              refine q_iinc (lv9 := fun z114 => [(2, .int z114), (0, .ref (ad 61)), (1, .ref (ad 54))]) hM dX3_become_99 hl (kq := 2) rfl (by decide) (fun _ => rfl) (fun z114 ls hz114 hl => ?_)
              have tz114 := i_addT hz114 (rfl : o.toInt = o.toInt) (kc_1 : (Int32.ofInt 1).toInt = 1) (by omega) (by omega)
              refine q_goto (tgt := 68) hM dX3_become_102 (by decide) ?_
              exact ih68 z114 _ _ _ _ (by omega) (by omega) (by omega) f112 f113 (lv_sub hl [1, 2, 0] rfl) hW
        have := kc_0
        exact L68 _ (0 : Int32) _ _ _ _ (Nat.lt_succ_self _) (by omega) (by omega) c18_61_6 c18_61_7 (lv_sub hl [1, 2, 0] rfl) hW
      · refine q_aload_n hM dX3_become_24 (lv_at hl 0 rfl) ?_
        refine w_get (v := .ref (ad 62)) hM hW FG_X3_9 lb_61 (rf_61_0 hW.2.1) dX3_become_25 ?_
        refine q_iload_n hM dX3_become_28 (lv_at hl 2 rfl) ?_
        refine q_aload_n hM dX3_become_29 (lv_at hl 1 rfl) ?_
        refine w_get (v := .ref (ad 55)) hM hW FG_X3_9 lb_54 (rf_54_0 hW.2.1) dX3_become_30 ?_
        refine q_iload_n hM dX3_become_33 (lv_at hl 2 rfl) ?_
        refine w_iald hM hW lb_55 (i_in (by omega) (by omega)) dX3_become_34 ?_
        refine q_top (fun y115 hy115 => ?_)
        refine w_iast hM hW lb_62 (by omega) (i_in (by omega) (by omega)) dX3_become_35 (fun g116 H locs hW e1 e2 => ?_)
        have f117 : fld g116 61 6 = .int cl := (e2.1 61 6 (by unfold Only; omega)).trans c18_61_6
        have f118 : fld g116 61 7 = .int sz := (e2.1 61 7 (by unfold Only; omega)).trans c18_61_7
        refine q_aload_n hM dX3_become_36 (lv_at hl 0 rfl) ?_
        refine w_get (v := .ref (ad 63)) hM hW FG_X3_13 lb_61 (rf_61_1 hW.2.1) dX3_become_37 ?_
        refine q_iload_n hM dX3_become_40 (lv_at hl 2 rfl) ?_
        refine q_aload_n hM dX3_become_41 (lv_at hl 1 rfl) ?_
        refine w_get (v := .ref (ad 56)) hM hW FG_X3_13 lb_54 (rf_54_1 hW.2.1) dX3_become_42 ?_
        refine q_iload_n hM dX3_become_45 (lv_at hl 2 rfl) ?_
        refine w_iald hM hW lb_56 (i_in (by omega) (by omega)) dX3_become_46 ?_
        refine q_top (fun y119 hy119 => ?_)
        refine w_iast hM hW lb_63 (by omega) (i_in (by omega) (by omega)) dX3_become_47 (fun g120 H locs hW e1 e2 => ?_)
        have f121 : fld g120 61 6 = .int cl := (e2.1 61 6 (by unfold Only; omega)).trans f117
        have f122 : fld g120 61 7 = .int sz := (e2.1 61 7 (by unfold Only; omega)).trans f118
        refine q_aload_n hM dX3_become_48 (lv_at hl 0 rfl) ?_
        refine w_get (v := .ref (ad 64)) hM hW FG_X3_16 lb_61 (rf_61_2 hW.2.1) dX3_become_49 ?_
        refine q_iload_n hM dX3_become_52 (lv_at hl 2 rfl) ?_
        refine q_aload_n hM dX3_become_53 (lv_at hl 1 rfl) ?_
        refine w_get (v := .ref (ad 57)) hM hW FG_X3_16 lb_54 (rf_54_2 hW.2.1) dX3_become_54 ?_
        refine q_iload_n hM dX3_become_57 (lv_at hl 2 rfl) ?_
        refine w_iald hM hW lb_57 (i_in (by omega) (by omega)) dX3_become_58 ?_
        refine q_top (fun y123 hy123 => ?_)
        refine w_iast hM hW lb_64 (by omega) (i_in (by omega) (by omega)) dX3_become_59 (fun g124 H locs hW e1 e2 => ?_)
        have f125 : fld g124 61 6 = .int cl := (e2.1 61 6 (by unfold Only; omega)).trans f121
        have f126 : fld g124 61 7 = .int sz := (e2.1 61 7 (by unfold Only; omega)).trans f122
        refine q_iinc (lv9 := fun z127 => [(2, .int z127), (0, .ref (ad 61)), (1, .ref (ad 54))]) hM dX3_become_60 hl (kq := 2) rfl (by decide) (fun _ => rfl) (fun z127 ls hz127 hl => ?_)
        have tz127 := i_addT hz127 (rfl : c.toInt = c.toInt) (kc_1 : (Int32.ofInt 1).toInt = 1) (by omega) (by omega)
        refine q_goto (tgt := 18) hM dX3_become_63 (by decide) ?_
        exact ih18 z127 _ _ _ _ (by omega) (by omega) (by omega) f125 f126 (lv_sub hl [1, 2, 0] rfl) hW
  have := kc_0
  exact L18 _ (0 : Int32) _ _ _ _ (Nat.lt_succ_self _) (by omega) (by omega) f104 f105 (lv_sub hl [1, 2, 0] rfl) hW

theorem dX2_go_0 : decode cX2_go 0 = .ok (.iconst 0, 1) := by decide +kernel
theorem dX2_go_1 : decode cX2_go 1 = .ok (.istore_n 2, 1) := by decide +kernel
theorem dX2_go_2 : decode cX2_go 2 = .ok (.iload_n 2, 1) := by decide +kernel
theorem dX2_go_3 : decode cX2_go 3 = .ok (.iload_n 1, 1) := by decide +kernel
theorem dX2_go_4 : decode cX2_go 4 = .ok (.if_icmp .ge 82, 3) := by decide +kernel
theorem dX2_go_7 : decode cX2_go 7 = .ok (.aload_n 0, 1) := by decide +kernel
theorem dX2_go_8 : decode cX2_go 8 = .ok (.getfield 19, 3) := by decide +kernel
theorem dX2_go_11 : decode cX2_go 11 = .ok (.getfield 53, 3) := by decide +kernel
theorem dX2_go_14 : decode cX2_go 14 = .ok (.sipush 9999, 3) := by decide +kernel
theorem dX2_go_17 : decode cX2_go 17 = .ok (.if_icmp .ge 69, 3) := by decide +kernel
theorem dX2_go_20 : decode cX2_go 20 = .ok (.iconst 0, 1) := by decide +kernel
theorem dX2_go_21 : decode cX2_go 21 = .ok (.istore_n 3, 1) := by decide +kernel
theorem dX2_go_22 : decode cX2_go 22 = .ok (.iload_n 3, 1) := by decide +kernel
theorem dX2_go_23 : decode cX2_go 23 = .ok (.bipush 8, 2) := by decide +kernel
theorem dX2_go_25 : decode cX2_go 25 = .ok (.if_icmp .ge 42, 3) := by decide +kernel
theorem dX2_go_28 : decode cX2_go 28 = .ok (.aload_n 0, 1) := by decide +kernel
theorem dX2_go_29 : decode cX2_go 29 = .ok (.getfield 19, 3) := by decide +kernel
theorem dX2_go_32 : decode cX2_go 32 = .ok (.getfield 58, 3) := by decide +kernel
theorem dX2_go_35 : decode cX2_go 35 = .ok (.iload_n 3, 1) := by decide +kernel
theorem dX2_go_36 : decode cX2_go 36 = .ok (.invokestatic 61, 3) := by decide +kernel
theorem dX2_go_39 : decode cX2_go 39 = .ok (.ifCond .eq 22, 3) := by decide +kernel
theorem dX2_go_61 : decode cX2_go 61 = .ok (.iinc 3 1, 3) := by decide +kernel
theorem dX2_go_64 : decode cX2_go 64 = .ok (.goto (-42), 3) := by decide +kernel
theorem dX2_go_67 : decode cX2_go 67 = .ok (.aload_n 0, 1) := by decide +kernel
theorem dX2_go_68 : decode cX2_go 68 = .ok (.getfield 19, 3) := by decide +kernel
theorem dX2_go_71 : decode cX2_go 71 = .ok (.dup, 1) := by decide +kernel
theorem dX2_go_72 : decode cX2_go 72 = .ok (.getfield 53, 3) := by decide +kernel
theorem dX2_go_75 : decode cX2_go 75 = .ok (.iconst 1, 1) := by decide +kernel
theorem dX2_go_76 : decode cX2_go 76 = .ok (.iadd, 1) := by decide +kernel
theorem dX2_go_77 : decode cX2_go 77 = .ok (.putfield 53, 3) := by decide +kernel
theorem dX2_go_80 : decode cX2_go 80 = .ok (.iinc 2 1, 3) := by decide +kernel
theorem dX2_go_83 : decode cX2_go 83 = .ok (.goto (-81), 3) := by decide +kernel
theorem dX2_go_86 : decode cX2_go 86 = .ok (.return_, 1) := by decide +kernel
theorem FG_X2_19 : FG RX2 19 2 11 10 := ⟨RX2, TX2, rfl, wX2, by decide, kAW (v_1_0 (List.mem_of_getElem? (i := 5) rfl)) rfl, rfl⟩
theorem FG_X2_53 : FG RX2 53 7 8 4 := ⟨RX7, TX7, rfl, wX7, by decide, kAW (v_0_5 (List.mem_of_getElem? (i := 9) rfl)) rfl, rfl⟩
theorem FP_X2_53 : FPX RX2 53 7 8 4 .int := ⟨⟨RX7, TX7, tyX7, rfl, wX7, by decide, kAW (v_0_5 (List.mem_of_getElem? (i := 9) rfl)) rfl, rfl, tyX7_ok, nmX7, by decide +kernel, rfl⟩, by decide +kernel⟩
theorem FG_X2_58 : FG RX2 58 7 8 3 := ⟨RX7, TX7, rfl, wX7, by decide, kAW (v_0_5 (List.mem_of_getElem? (i := 6) rfl)) rfl, rfl⟩
theorem myX11_has : MS yX11_has cX11_has 2 (some FieldType.boolean) 2 := ⟨kAW (v_1_10 (List.mem_of_getElem? (i := 10) rfl)) rfl, kAW (v_0_0 (List.mem_of_getElem? (i := 1) rfl)) rfl, kAW (v_1_10 (List.mem_of_getElem? (i := 9) rfl)) rfl, by decide, by decide, by decide +kernel⟩
set_option maxRecDepth 100000 in
set_option maxHeartbeats 4000000 in
theorem c_X2_go_18 (l : Launch) (D : va_G) (cA : Nat → ClassId) (ad : Nat → Nat) (g0 : Nat → va_E) (n wk : Int32) (hSh : Shp ad cA g0) (hp : fld g0 80 10 = .ref (ad 18)) (ht : fld g0 18 3 = .int 0) (hw : fld g0 18 4 = .int wk) (hw0 : 0 ≤ wk.toInt) : CT l NN ad cA D yX2_go cX2_go 4 none (1, 21) [.ref (ad 80), .int n] g0 (fun v g' => ∃ (w9 : Int32), v = none ∧ Shp ad cA g' ∧ FR (fun i k => (i = 18 ∧ (k = 4))) g0 g' ∧ fld g' 18 4 = .int w9) := by
  refine q_enterV (by decide) (Nat.le_of_ble_eq_true rfl) (fun K H locs ls _ _ hM hW0 hR hC hE hl => ?_)
  have hl : lv_has ls 4 [(0, .ref (ad 80)), (1, .int n)] := hl
  have hW : WS ad cA (fun i k => (i = 18 ∧ (k = 4))) g0 K g0 H locs := ⟨hW0, hSh, FR.rf⟩
  have := i_rng n
  have f128 : fld g0 18 4 = .int wk := hw
  refine q_iconst (v := (0 : Int32)) hM dX2_go_0 (by decide) ?_
  refine q_istore_n (lv9 := [(2, .int (0 : Int32)), (0, .ref (ad 80)), (1, .int n)]) hM dX2_go_1 hl (by decide) rfl (fun ls hl => ?_)
  have L2 : ∀ (fu2 : Nat) (w : Int32) (z : Int32) (g9 : Nat → va_E) (H : Heap) (locs : List Loc) (ls : Array Slot), (n.toInt - w.toInt).toNat < fu2 → (0 ≤ w.toInt) → (0 ≤ z.toInt) → (fld g9 18 4 = .int z) → lv_has ls 4 [(0, .ref (ad 80)), (1, .int n), (2, .int w)] → WS ad cA (fun i k => (i = 18 ∧ (k = 4))) g0 K g9 H locs → XX K 0 0 H locs 2 ls [] := by
    intro fu2
    induction fu2 with
    | zero => intro w z g9 H locs ls h0; omega
    | succ fu2 ih2 =>
      intro w z g9 H locs ls hm2 i2_0 i2_1 c2_18_4 hl hW
      refine q_iload_n hM dX2_go_2 (lv_at hl 2 rfl) ?_
      refine q_iload_n hM dX2_go_3 (lv_at hl 1 rfl) ?_
      refine q_icmp_ge (tgt := 86) hM dX2_go_4 (by decide) (rfl : w.toInt = w.toInt) (rfl : n.toInt = n.toInt) (fun h4 => ?_) (fun h4 => ?_)
      · exact hE _ _ _ _ _ hW.1 ⟨z, rfl, hW.2.1, hW.2.2, c2_18_4⟩ dX2_go_86
      · refine q_aload_n hM dX2_go_7 (lv_at hl 0 rfl) ?_
        refine w_get (v := .ref (ad 18)) hM hW FG_X2_19 lb_80 ((hW.2.2.1 80 10 (by omega)).trans hp) dX2_go_8 ?_
        refine w_get (v := .int z) hM hW FG_X2_53 lb_18 c2_18_4 dX2_go_11 ?_
        refine q_sipush (v := (9999 : Int32)) hM dX2_go_14 (by decide) ?_
        refine q_icmp_ge (tgt := 86) hM dX2_go_17 (by decide) (rfl : z.toInt = z.toInt) (kc_9999 : (9999 : Int32).toInt = 9999) (fun h17 => ?_) (fun h17 => ?_)
        · exact hE _ _ _ _ _ hW.1 ⟨z, rfl, hW.2.1, hW.2.2, c2_18_4⟩ dX2_go_86
        · refine q_iconst (v := (0 : Int32)) hM dX2_go_20 (by decide) ?_
          refine q_istore_n (lv9 := [(3, .int (0 : Int32)), (0, .ref (ad 80)), (1, .int n), (2, .int w)]) hM dX2_go_21 hl (by decide) rfl (fun ls hl => ?_)
          have L22 : ∀ (fu22 : Nat) (p : Int32) (H : Heap) (locs : List Loc) (ls : Array Slot), (8 - p.toInt).toNat < fu22 → (0 ≤ p.toInt) → (p.toInt ≤ 8) → lv_has ls 4 [(0, .ref (ad 80)), (1, .int n), (2, .int w), (3, .int p)] → WS ad cA (fun i k => (i = 18 ∧ (k = 4))) g0 K g9 H locs → XX K 0 0 H locs 22 ls [] := by
            intro fu22
            induction fu22 with
            | zero => intro p H locs ls h0; omega
            | succ fu22 ih22 =>
              intro p H locs ls hm22 i22_0 i22_1 hl hW
              refine q_iload_n hM dX2_go_22 (lv_at hl 3 rfl) ?_
              refine q_bipush (v := (8 : Int32)) hM dX2_go_23 (by decide) ?_
              refine q_icmp_ge (tgt := 67) hM dX2_go_25 (by decide) (rfl : p.toInt = p.toInt) (kc_8 : (8 : Int32).toInt = 8) (fun h25 => ?_) (fun h25 => ?_)
              · refine q_aload_n hM dX2_go_67 (lv_at hl 0 rfl) ?_
                refine w_get (v := .ref (ad 18)) hM hW FG_X2_19 lb_80 ((hW.2.2.1 80 10 (by omega)).trans hp) dX2_go_68 ?_
                refine q_dup hM dX2_go_71 rfl ?_
                refine w_get (v := .int z) hM hW FG_X2_53 lb_18 c2_18_4 dX2_go_72 ?_
                refine q_iconst (v := (1 : Int32)) hM dX2_go_75 (by decide) ?_
                refine q_iadd hM dX2_go_76 (fun z129 hz129 => ?_)
                have tz129 := i_addT hz129 (rfl : z.toInt = z.toInt) (kc_1 : (1 : Int32).toInt = 1) (by omega) (by omega)
                refine w_put hM hW FP_X2_53 lb_18 (by omega) (Or.inl ⟨_, rfl⟩) rfl rfl dX2_go_77 (fun g130 H locs hW e1 e2 => ?_)
                have f131 : fld g130 18 4 = .int z129 := e1
                refine q_iinc (lv9 := fun z132 => [(2, .int z132), (0, .ref (ad 80)), (1, .int n), (3, .int p)]) hM dX2_go_80 hl (kq := 2) rfl (by decide) (fun _ => rfl) (fun z132 ls hz132 hl => ?_)
                have tz132 := i_addT hz132 (rfl : w.toInt = w.toInt) (kc_1 : (Int32.ofInt 1).toInt = 1) (by omega) (by omega)
                refine q_goto (tgt := 2) hM dX2_go_83 (by decide) ?_
                exact ih2 z132 z129 _ _ _ _ (by omega) (by omega) (by omega) f131 (lv_sub hl [1, 2, 0] rfl) hW
              · refine q_aload_n hM dX2_go_28 (lv_at hl 0 rfl) ?_
                refine w_get (v := .ref (ad 18)) hM hW FG_X2_19 lb_80 ((hW.2.2.1 80 10 (by omega)).trans hp) dX2_go_29 ?_
                refine w_get (v := .int (0 : Int32)) hM hW FG_X2_58 lb_18 ((hW.2.2.1 18 3 (by omega)).trans ht) dX2_go_32 ?_
                refine q_iload_n hM dX2_go_35 (lv_at hl 3 rfl) ?_
                refine q_callN (host := "ForgetSchool") (As := [.int (0 : Int32), .int p]) (rest := []) hM hW.1 hR hC myX11_has (List.mem_of_getElem? (i := 3) rfl) (c_X11_has _ _ cA ad g9 (0 : Int32) p hW.2.1) ⟨by decide, by decide⟩ rfl rfl hl.1 (Nat.le_of_ble_eq_true rfl) dX2_go_36 (fun v g134 H locs hp hW1 => ?_)
                obtain ⟨r133, rfl, hr133, rfl⟩ := hp
                have hW : WS ad cA (fun i k => (i = 18 ∧ (k = 4))) g0 K g9 H locs := ⟨hW1, hW.2.1, hW.2.2⟩
                have kr133 : r133.toInt = 0 := has_r0 hr133
                refine q_if_eq (tgt := 61) hM dX2_go_39 (by decide) (kr133 : r133.toInt = 0) (fun h39 => ?_) (fun h39 => ?_)
                · refine q_iinc (lv9 := fun z135 => [(3, .int z135), (0, .ref (ad 80)), (1, .int n), (2, .int w)]) hM dX2_go_61 hl (kq := 3) rfl (by decide) (fun _ => rfl) (fun z135 ls hz135 hl => ?_)
                  have tz135 := i_addT hz135 (rfl : p.toInt = p.toInt) (kc_1 : (Int32.ofInt 1).toInt = 1) (by omega) (by omega)
                  refine q_goto (tgt := 22) hM dX2_go_64 (by decide) ?_
                  exact ih22 z135 _ _ _ (by omega) (by omega) (by omega) (lv_sub hl [1, 2, 3, 0] rfl) hW
                · omega
          have := kc_0
          exact L22 _ (0 : Int32) _ _ _ (Nat.lt_succ_self _) (by omega) (by omega) (lv_sub hl [1, 2, 3, 0] rfl) hW
  have := kc_0
  exact L2 _ (0 : Int32) wk _ _ _ _ (Nat.lt_succ_self _) (by omega) (by omega) f128 (lv_sub hl [1, 2, 0] rfl) hW


set_option maxRecDepth 100000 in
set_option maxHeartbeats 4000000 in
theorem c_X2_go_42 (l : Launch) (D : va_G) (cA : Nat → ClassId) (ad : Nat → Nat) (g0 : Nat → va_E) (n wk : Int32) (hSh : Shp ad cA g0) (hp : fld g0 80 10 = .ref (ad 42)) (ht : fld g0 42 3 = .int 0) (hw : fld g0 42 4 = .int wk) (hw0 : 0 ≤ wk.toInt) : CT l NN ad cA D yX2_go cX2_go 4 none (1, 21) [.ref (ad 80), .int n] g0 (fun v g' => ∃ (w9 : Int32), v = none ∧ Shp ad cA g' ∧ FR (fun i k => (i = 42 ∧ (k = 4))) g0 g' ∧ fld g' 42 4 = .int w9) := by
  refine q_enterV (by decide) (Nat.le_of_ble_eq_true rfl) (fun K H locs ls _ _ hM hW0 hR hC hE hl => ?_)
  have hl : lv_has ls 4 [(0, .ref (ad 80)), (1, .int n)] := hl
  have hW : WS ad cA (fun i k => (i = 42 ∧ (k = 4))) g0 K g0 H locs := ⟨hW0, hSh, FR.rf⟩
  have := i_rng n
  have f136 : fld g0 42 4 = .int wk := hw
  refine q_iconst (v := (0 : Int32)) hM dX2_go_0 (by decide) ?_
  refine q_istore_n (lv9 := [(2, .int (0 : Int32)), (0, .ref (ad 80)), (1, .int n)]) hM dX2_go_1 hl (by decide) rfl (fun ls hl => ?_)
  have L2 : ∀ (fu2 : Nat) (w : Int32) (z : Int32) (g9 : Nat → va_E) (H : Heap) (locs : List Loc) (ls : Array Slot), (n.toInt - w.toInt).toNat < fu2 → (0 ≤ w.toInt) → (0 ≤ z.toInt) → (fld g9 42 4 = .int z) → lv_has ls 4 [(0, .ref (ad 80)), (1, .int n), (2, .int w)] → WS ad cA (fun i k => (i = 42 ∧ (k = 4))) g0 K g9 H locs → XX K 0 0 H locs 2 ls [] := by
    intro fu2
    induction fu2 with
    | zero => intro w z g9 H locs ls h0; omega
    | succ fu2 ih2 =>
      intro w z g9 H locs ls hm2 i2_0 i2_1 c2_42_4 hl hW
      refine q_iload_n hM dX2_go_2 (lv_at hl 2 rfl) ?_
      refine q_iload_n hM dX2_go_3 (lv_at hl 1 rfl) ?_
      refine q_icmp_ge (tgt := 86) hM dX2_go_4 (by decide) (rfl : w.toInt = w.toInt) (rfl : n.toInt = n.toInt) (fun h4 => ?_) (fun h4 => ?_)
      · exact hE _ _ _ _ _ hW.1 ⟨z, rfl, hW.2.1, hW.2.2, c2_42_4⟩ dX2_go_86
      · refine q_aload_n hM dX2_go_7 (lv_at hl 0 rfl) ?_
        refine w_get (v := .ref (ad 42)) hM hW FG_X2_19 lb_80 ((hW.2.2.1 80 10 (by omega)).trans hp) dX2_go_8 ?_
        refine w_get (v := .int z) hM hW FG_X2_53 lb_42 c2_42_4 dX2_go_11 ?_
        refine q_sipush (v := (9999 : Int32)) hM dX2_go_14 (by decide) ?_
        refine q_icmp_ge (tgt := 86) hM dX2_go_17 (by decide) (rfl : z.toInt = z.toInt) (kc_9999 : (9999 : Int32).toInt = 9999) (fun h17 => ?_) (fun h17 => ?_)
        · exact hE _ _ _ _ _ hW.1 ⟨z, rfl, hW.2.1, hW.2.2, c2_42_4⟩ dX2_go_86
        · refine q_iconst (v := (0 : Int32)) hM dX2_go_20 (by decide) ?_
          refine q_istore_n (lv9 := [(3, .int (0 : Int32)), (0, .ref (ad 80)), (1, .int n), (2, .int w)]) hM dX2_go_21 hl (by decide) rfl (fun ls hl => ?_)
          have L22 : ∀ (fu22 : Nat) (p : Int32) (H : Heap) (locs : List Loc) (ls : Array Slot), (8 - p.toInt).toNat < fu22 → (0 ≤ p.toInt) → (p.toInt ≤ 8) → lv_has ls 4 [(0, .ref (ad 80)), (1, .int n), (2, .int w), (3, .int p)] → WS ad cA (fun i k => (i = 42 ∧ (k = 4))) g0 K g9 H locs → XX K 0 0 H locs 22 ls [] := by
            intro fu22
            induction fu22 with
            | zero => intro p H locs ls h0; omega
            | succ fu22 ih22 =>
              intro p H locs ls hm22 i22_0 i22_1 hl hW
              refine q_iload_n hM dX2_go_22 (lv_at hl 3 rfl) ?_
              refine q_bipush (v := (8 : Int32)) hM dX2_go_23 (by decide) ?_
              refine q_icmp_ge (tgt := 67) hM dX2_go_25 (by decide) (rfl : p.toInt = p.toInt) (kc_8 : (8 : Int32).toInt = 8) (fun h25 => ?_) (fun h25 => ?_)
              · refine q_aload_n hM dX2_go_67 (lv_at hl 0 rfl) ?_
                refine w_get (v := .ref (ad 42)) hM hW FG_X2_19 lb_80 ((hW.2.2.1 80 10 (by omega)).trans hp) dX2_go_68 ?_
                refine q_dup hM dX2_go_71 rfl ?_
                refine w_get (v := .int z) hM hW FG_X2_53 lb_42 c2_42_4 dX2_go_72 ?_
                refine q_iconst (v := (1 : Int32)) hM dX2_go_75 (by decide) ?_
                refine q_iadd hM dX2_go_76 (fun z137 hz137 => ?_)
                have tz137 := i_addT hz137 (rfl : z.toInt = z.toInt) (kc_1 : (1 : Int32).toInt = 1) (by omega) (by omega)
                refine w_put hM hW FP_X2_53 lb_42 (by omega) (Or.inl ⟨_, rfl⟩) rfl rfl dX2_go_77 (fun g138 H locs hW e1 e2 => ?_)
                have f139 : fld g138 42 4 = .int z137 := e1
                refine q_iinc (lv9 := fun z140 => [(2, .int z140), (0, .ref (ad 80)), (1, .int n), (3, .int p)]) hM dX2_go_80 hl (kq := 2) rfl (by decide) (fun _ => rfl) (fun z140 ls hz140 hl => ?_)
                have tz140 := i_addT hz140 (rfl : w.toInt = w.toInt) (kc_1 : (Int32.ofInt 1).toInt = 1) (by omega) (by omega)
                refine q_goto (tgt := 2) hM dX2_go_83 (by decide) ?_
                exact ih2 z140 z137 _ _ _ _ (by omega) (by omega) (by omega) f139 (lv_sub hl [1, 2, 0] rfl) hW
              · refine q_aload_n hM dX2_go_28 (lv_at hl 0 rfl) ?_
                refine w_get (v := .ref (ad 42)) hM hW FG_X2_19 lb_80 ((hW.2.2.1 80 10 (by omega)).trans hp) dX2_go_29 ?_
                refine w_get (v := .int (0 : Int32)) hM hW FG_X2_58 lb_42 ((hW.2.2.1 42 3 (by omega)).trans ht) dX2_go_32 ?_
                refine q_iload_n hM dX2_go_35 (lv_at hl 3 rfl) ?_
                refine q_callN (host := "ForgetSchool") (As := [.int (0 : Int32), .int p]) (rest := []) hM hW.1 hR hC myX11_has (List.mem_of_getElem? (i := 3) rfl) (c_X11_has _ _ cA ad g9 (0 : Int32) p hW.2.1) ⟨by decide, by decide⟩ rfl rfl hl.1 (Nat.le_of_ble_eq_true rfl) dX2_go_36 (fun v g142 H locs hp hW1 => ?_)
                obtain ⟨r141, rfl, hr141, rfl⟩ := hp
                have hW : WS ad cA (fun i k => (i = 42 ∧ (k = 4))) g0 K g9 H locs := ⟨hW1, hW.2.1, hW.2.2⟩
                have kr141 : r141.toInt = 0 := has_r0 hr141
                refine q_if_eq (tgt := 61) hM dX2_go_39 (by decide) (kr141 : r141.toInt = 0) (fun h39 => ?_) (fun h39 => ?_)
                · refine q_iinc (lv9 := fun z143 => [(3, .int z143), (0, .ref (ad 80)), (1, .int n), (2, .int w)]) hM dX2_go_61 hl (kq := 3) rfl (by decide) (fun _ => rfl) (fun z143 ls hz143 hl => ?_)
                  have tz143 := i_addT hz143 (rfl : p.toInt = p.toInt) (kc_1 : (Int32.ofInt 1).toInt = 1) (by omega) (by omega)
                  refine q_goto (tgt := 22) hM dX2_go_64 (by decide) ?_
                  exact ih22 z143 _ _ _ (by omega) (by omega) (by omega) (lv_sub hl [1, 2, 3, 0] rfl) hW
                · omega
          have := kc_0
          exact L22 _ (0 : Int32) _ _ _ (Nat.lt_succ_self _) (by omega) (by omega) (lv_sub hl [1, 2, 3, 0] rfl) hW
  have := kc_0
  exact L2 _ (0 : Int32) wk _ _ _ _ (Nat.lt_succ_self _) (by omega) (by omega) f136 (lv_sub hl [1, 2, 0] rfl) hW
