theorem dX10_init_0 : decode cX10_init 0 = .ok (.aload_n 0, 1) := by decide +kernel
theorem dX10_init_1 : decode cX10_init 1 = .ok (.invokespecial 3, 3) := by decide +kernel
theorem dX10_init_4 : decode cX10_init 4 = .ok (.aload_n 0, 1) := by decide +kernel
theorem dX10_init_5 : decode cX10_init 5 = .ok (.sipush 260, 3) := by decide +kernel
theorem dX10_init_8 : decode cX10_init 8 = .ok (.newarray .int, 2) := by decide +kernel
theorem dX10_init_10 : decode cX10_init 10 = .ok (.putfield 11, 3) := by decide +kernel
theorem dX10_init_13 : decode cX10_init 13 = .ok (.aload_n 0, 1) := by decide +kernel
theorem dX10_init_14 : decode cX10_init 14 = .ok (.iconst 0, 1) := by decide +kernel
theorem dX10_init_15 : decode cX10_init 15 = .ok (.putfield 15, 3) := by decide +kernel
theorem dX10_init_18 : decode cX10_init 18 = .ok (.return_, 1) := by decide +kernel
theorem FF_X10_11 : FF RX10 11 10 2 0 (.array .int) := ⟨RX10, TX10, tyX10, rfl, wX10, by decide, kAW (v_0_2 (List.mem_of_getElem? (i := 3) rfl)) rfl, rfl, tyX10_ok, nmX10, by decide +kernel, rfl, rfl⟩
theorem FQ_X10_15 : FP RX10 15 10 2 1 .int := ⟨RX10, TX10, tyX10, rfl, wX10, by decide, kAW (v_0_2 (List.mem_of_getElem? (i := 5) rfl)) rfl, rfl, tyX10_ok, nmX10, by decide +kernel, rfl⟩
set_option maxRecDepth 100000 in
set_option maxHeartbeats 8000000 in
theorem k_X10_init (l : Launch) (D : va_G) (cA : Nat → ClassId) (h0 : Nat) : CI l cA D yX10_init cX10_init 1 (1, 1, 260, 20) [.ref h0] [(h0, .inr (10, [.null, .int (0 : Int32)]))] (fun ws1 => ∃ (q1 : Nat), ws1 = [(h0, .inr (10, [.ref q1, .int (0 : Int32)])), (q1, ia (cA 0) 260 (fun _ => 0))]) := by
  refine q_enterL (by decide) rfl (Nat.le_of_ble_eq_true rfl) (fun K H locs ls _ _ hM hI hW hR hC hE hl => ?_)
  have hl : lv_has ls 1 [(0, .ref h0)] := hl
  have hW : WL K [(h0, .inr (10, [.null, .int (0 : Int32)]))] H locs := hW
  refine q_aload_n hM dX10_init_0 (lv_at hl 0 rfl) ?_
  refine l_obj hM hR (by decide) (kAW (v_0_2 (List.mem_of_getElem? (i := 2) rfl)) rfl) (kAW (v_0_1 (List.mem_of_getElem? (i := 11) rfl)) rfl) (kAW (v_0_1 (List.mem_of_getElem? (i := 12) rfl)) rfl) hl.1 dX10_init_1 ?_
  refine q_aload_n hM dX10_init_4 (lv_at hl 0 rfl) ?_
  refine q_sipush (v := (260 : Int32)) hM dX10_init_5 (by decide) ?_
  refine l_newI (N' := 260) hM hW ⟨Nat.le_trans (Nat.le_of_ble_eq_true rfl) hC.1, Nat.le_trans (Nat.le_of_ble_eq_true rfl) hC.2⟩ (kAW (v_0_2 (List.mem_of_getElem? (i := 12) rfl)) rfl) (by decide) (by decide) (Nat.le_of_ble_eq_true rfl) dX10_init_8 (fun q12141 H hW => ?_)
  have hW : WL K [(h0, .inr (10, [.null, .int (0 : Int32)])), (q12141, ia (cA 0) 260 (fun _ => 0))] H locs := hW
  refine (show XX K 1 260 H locs 10 ls [.ref q12141, .ref h0] from ?_)
  refine l_putf hM hW hI FF_X10_11 (q0 := 0) rfl rfl rfl (Nat.le_of_ble_eq_true rfl) dX10_init_10 (fun H locs hW => ?_)
  have hW : WL K [(h0, .inr (10, [.ref q12141, .int (0 : Int32)])), (q12141, ia (cA 0) 260 (fun _ => 0))] H locs := hW
  refine q_aload_n hM dX10_init_13 (lv_at hl 0 rfl) ?_
  refine q_iconst (v := (0 : Int32)) hM dX10_init_14 (by decide) ?_
  refine l_put hM hW FQ_X10_15 (q0 := 0) rfl rfl rfl (Nat.le_of_ble_eq_true rfl) dX10_init_15 (fun H locs hW => ?_)
  have hW : WL K [(h0, .inr (10, [.ref q12141, .int (0 : Int32)])), (q12141, ia (cA 0) 260 (fun _ => 0))] H locs := hW
  exact hE _ _ _ _ _ hW ⟨q12141, rfl⟩ dX10_init_18

theorem dX5_init_0 : decode cX5_init 0 = .ok (.aload_n 0, 1) := by decide +kernel
theorem dX5_init_1 : decode cX5_init 1 = .ok (.invokespecial 3, 3) := by decide +kernel
theorem dX5_init_4 : decode cX5_init 4 = .ok (.aload_n 0, 1) := by decide +kernel
theorem dX5_init_5 : decode cX5_init 5 = .ok (.bipush 12, 2) := by decide +kernel
theorem dX5_init_7 : decode cX5_init 7 = .ok (.newarray .int, 2) := by decide +kernel
theorem dX5_init_9 : decode cX5_init 9 = .ok (.putfield 9, 3) := by decide +kernel
theorem dX5_init_12 : decode cX5_init 12 = .ok (.aload_n 0, 1) := by decide +kernel
theorem dX5_init_13 : decode cX5_init 13 = .ok (.bipush 12, 2) := by decide +kernel
theorem dX5_init_15 : decode cX5_init 15 = .ok (.bipush 12, 2) := by decide +kernel
theorem dX5_init_17 : decode cX5_init 17 = .ok (.multianewarray 15 2, 4) := by decide +kernel
theorem dX5_init_21 : decode cX5_init 21 = .ok (.putfield 17, 3) := by decide +kernel
theorem dX5_init_24 : decode cX5_init 24 = .ok (.aload_n 0, 1) := by decide +kernel
theorem dX5_init_25 : decode cX5_init 25 = .ok (.iconst 0, 1) := by decide +kernel
theorem dX5_init_26 : decode cX5_init 26 = .ok (.putfield 20, 3) := by decide +kernel
theorem dX5_init_29 : decode cX5_init 29 = .ok (.return_, 1) := by decide +kernel
theorem FF_X5_9 : FF RX5 9 5 3 0 (.array .int) := ⟨RX5, TX5, tyX5, rfl, wX5, by decide, kAW (v_0_3 (List.mem_of_getElem? (i := 5) rfl)) rfl, rfl, tyX5_ok, nmX5, by decide +kernel, rfl, rfl⟩
theorem FF_X5_17 : FF RX5 17 5 3 1 (.array (.array .int)) := ⟨RX5, TX5, tyX5, rfl, wX5, by decide, kAW (v_0_3 (List.mem_of_getElem? (i := 8) rfl)) rfl, rfl, tyX5_ok, nmX5, by decide +kernel, rfl, rfl⟩
theorem FQ_X5_20 : FP RX5 20 5 3 2 .int := ⟨RX5, TX5, tyX5, rfl, wX5, by decide, kAW (v_0_3 (List.mem_of_getElem? (i := 10) rfl)) rfl, rfl, tyX5_ok, nmX5, by decide +kernel, rfl⟩
set_option maxRecDepth 100000 in
set_option maxHeartbeats 8000000 in
theorem k_X5_init (l : Launch) (D : va_G) (cA : Nat → ClassId) (h0 : Nat) : CI l cA D yX5_init cX5_init 1 (1, 14, 168, 20) [.ref h0] [(h0, .inr (5, [.null, .null, .int (0 : Int32)]))] (fun ws1 => ∃ (q1 : Nat) (q2 : Nat) (r1 : Nat → Nat), ws1 = [(h0, .inr (5, [.ref q1, .ref q2, .int (0 : Int32)])), (q1, ia (cA 0) 12 (fun _ => 0)), (q2, qa (cA 1) 12 (fun i => if i < 12 then some (r1 i) else none)), ((r1 0), ia (cA 0) 12 (fun _ => 0)), ((r1 1), ia (cA 0) 12 (fun _ => 0)), ((r1 2), ia (cA 0) 12 (fun _ => 0)), ((r1 3), ia (cA 0) 12 (fun _ => 0)), ((r1 4), ia (cA 0) 12 (fun _ => 0)), ((r1 5), ia (cA 0) 12 (fun _ => 0)), ((r1 6), ia (cA 0) 12 (fun _ => 0)), ((r1 7), ia (cA 0) 12 (fun _ => 0)), ((r1 8), ia (cA 0) 12 (fun _ => 0)), ((r1 9), ia (cA 0) 12 (fun _ => 0)), ((r1 10), ia (cA 0) 12 (fun _ => 0)), ((r1 11), ia (cA 0) 12 (fun _ => 0))]) := by
  refine q_enterL (by decide) rfl (Nat.le_of_ble_eq_true rfl) (fun K H locs ls _ _ hM hI hW hR hC hE hl => ?_)
  have hl : lv_has ls 1 [(0, .ref h0)] := hl
  have hW : WL K [(h0, .inr (5, [.null, .null, .int (0 : Int32)]))] H locs := hW
  refine q_aload_n hM dX5_init_0 (lv_at hl 0 rfl) ?_
  refine l_obj hM hR (by decide) (kAW (v_0_3 (List.mem_of_getElem? (i := 2) rfl)) rfl) (kAW (v_0_1 (List.mem_of_getElem? (i := 11) rfl)) rfl) (kAW (v_0_1 (List.mem_of_getElem? (i := 12) rfl)) rfl) hl.1 dX5_init_1 ?_
  refine q_aload_n hM dX5_init_4 (lv_at hl 0 rfl) ?_
  refine q_bipush (v := (12 : Int32)) hM dX5_init_5 (by decide) ?_
  refine l_newI (N' := 12) hM hW ⟨Nat.le_trans (Nat.le_of_ble_eq_true rfl) hC.1, Nat.le_trans (Nat.le_of_ble_eq_true rfl) hC.2⟩ (kAW (v_0_2 (List.mem_of_getElem? (i := 12) rfl)) rfl) (by decide) (by decide) (Nat.le_of_ble_eq_true rfl) dX5_init_7 (fun q12142 H hW => ?_)
  have hW : WL K [(h0, .inr (5, [.null, .null, .int (0 : Int32)])), (q12142, ia (cA 0) 12 (fun _ => 0))] H locs := hW
  refine (show XX K 1 12 H locs 9 ls [.ref q12142, .ref h0] from ?_)
  refine l_putf hM hW hI FF_X5_9 (q0 := 0) rfl rfl rfl (Nat.le_of_ble_eq_true rfl) dX5_init_9 (fun H locs hW => ?_)
  have hW : WL K [(h0, .inr (5, [.ref q12142, .null, .int (0 : Int32)])), (q12142, ia (cA 0) 12 (fun _ => 0))] H locs := hW
  refine q_aload_n hM dX5_init_12 (lv_at hl 0 rfl) ?_
  refine q_bipush (v := (12 : Int32)) hM dX5_init_13 (by decide) ?_
  refine q_bipush (v := (12 : Int32)) hM dX5_init_15 (by decide) ?_
  refine l_mna (N' := 12) (K' := 12) hM hW ⟨Nat.le_trans (Nat.le_of_ble_eq_true rfl) hC.1, Nat.le_trans (Nat.le_of_ble_eq_true rfl) hC.2⟩ (kAW (v_0_3 (List.mem_of_getElem? (i := 3) rfl)) rfl) (kAW (v_0_2 (List.mem_of_getElem? (i := 12) rfl)) rfl) (by decide) (by decide) (by decide) (by decide) (Nat.le_of_ble_eq_true rfl) (Nat.le_of_ble_eq_true rfl) dX5_init_17 (fun q12143 r12144 H hW => ?_)
  have hW : WL K [(h0, .inr (5, [.ref q12142, .null, .int (0 : Int32)])), (q12142, ia (cA 0) 12 (fun _ => 0)), (q12143, qa (cA 1) 12 (fun i => if i < 12 then some (r12144 i) else none)), ((r12144 0), ia (cA 0) 12 (fun _ => 0)), ((r12144 1), ia (cA 0) 12 (fun _ => 0)), ((r12144 2), ia (cA 0) 12 (fun _ => 0)), ((r12144 3), ia (cA 0) 12 (fun _ => 0)), ((r12144 4), ia (cA 0) 12 (fun _ => 0)), ((r12144 5), ia (cA 0) 12 (fun _ => 0)), ((r12144 6), ia (cA 0) 12 (fun _ => 0)), ((r12144 7), ia (cA 0) 12 (fun _ => 0)), ((r12144 8), ia (cA 0) 12 (fun _ => 0)), ((r12144 9), ia (cA 0) 12 (fun _ => 0)), ((r12144 10), ia (cA 0) 12 (fun _ => 0)), ((r12144 11), ia (cA 0) 12 (fun _ => 0))] H locs := hW
  refine (show XX K 14 168 H locs 21 ls [.ref q12143, .ref h0] from ?_)
  refine l_putf hM hW hI FF_X5_17 (q0 := 0) rfl rfl rfl (Nat.le_of_ble_eq_true rfl) dX5_init_21 (fun H locs hW => ?_)
  have hW : WL K [(h0, .inr (5, [.ref q12142, .ref q12143, .int (0 : Int32)])), (q12142, ia (cA 0) 12 (fun _ => 0)), (q12143, qa (cA 1) 12 (fun i => if i < 12 then some (r12144 i) else none)), ((r12144 0), ia (cA 0) 12 (fun _ => 0)), ((r12144 1), ia (cA 0) 12 (fun _ => 0)), ((r12144 2), ia (cA 0) 12 (fun _ => 0)), ((r12144 3), ia (cA 0) 12 (fun _ => 0)), ((r12144 4), ia (cA 0) 12 (fun _ => 0)), ((r12144 5), ia (cA 0) 12 (fun _ => 0)), ((r12144 6), ia (cA 0) 12 (fun _ => 0)), ((r12144 7), ia (cA 0) 12 (fun _ => 0)), ((r12144 8), ia (cA 0) 12 (fun _ => 0)), ((r12144 9), ia (cA 0) 12 (fun _ => 0)), ((r12144 10), ia (cA 0) 12 (fun _ => 0)), ((r12144 11), ia (cA 0) 12 (fun _ => 0))] H locs := hW
  refine q_aload_n hM dX5_init_24 (lv_at hl 0 rfl) ?_
  refine q_iconst (v := (0 : Int32)) hM dX5_init_25 (by decide) ?_
  refine l_put hM hW FQ_X5_20 (q0 := 0) rfl rfl rfl (Nat.le_of_ble_eq_true rfl) dX5_init_26 (fun H locs hW => ?_)
  have hW : WL K [(h0, .inr (5, [.ref q12142, .ref q12143, .int (0 : Int32)])), (q12142, ia (cA 0) 12 (fun _ => 0)), (q12143, qa (cA 1) 12 (fun i => if i < 12 then some (r12144 i) else none)), ((r12144 0), ia (cA 0) 12 (fun _ => 0)), ((r12144 1), ia (cA 0) 12 (fun _ => 0)), ((r12144 2), ia (cA 0) 12 (fun _ => 0)), ((r12144 3), ia (cA 0) 12 (fun _ => 0)), ((r12144 4), ia (cA 0) 12 (fun _ => 0)), ((r12144 5), ia (cA 0) 12 (fun _ => 0)), ((r12144 6), ia (cA 0) 12 (fun _ => 0)), ((r12144 7), ia (cA 0) 12 (fun _ => 0)), ((r12144 8), ia (cA 0) 12 (fun _ => 0)), ((r12144 9), ia (cA 0) 12 (fun _ => 0)), ((r12144 10), ia (cA 0) 12 (fun _ => 0)), ((r12144 11), ia (cA 0) 12 (fun _ => 0))] H locs := hW
  exact hE _ _ _ _ _ hW ⟨q12142, q12143, r12144, rfl⟩ dX5_init_29

theorem dX7_init_0 : decode cX7_init 0 = .ok (.aload_n 0, 1) := by decide +kernel
theorem dX7_init_1 : decode cX7_init 1 = .ok (.invokespecial 3, 3) := by decide +kernel
theorem dX7_init_4 : decode cX7_init 4 = .ok (.aload_n 0, 1) := by decide +kernel
theorem dX7_init_5 : decode cX7_init 5 = .ok (.bipush 8, 2) := by decide +kernel
theorem dX7_init_7 : decode cX7_init 7 = .ok (.newarray .int, 2) := by decide +kernel
theorem dX7_init_9 : decode cX7_init 9 = .ok (.putfield 9, 3) := by decide +kernel
theorem dX7_init_12 : decode cX7_init 12 = .ok (.aload_n 0, 1) := by decide +kernel
theorem dX7_init_13 : decode cX7_init 13 = .ok (.bipush 8, 2) := by decide +kernel
theorem dX7_init_15 : decode cX7_init 15 = .ok (.newarray .int, 2) := by decide +kernel
theorem dX7_init_17 : decode cX7_init 17 = .ok (.putfield 15, 3) := by decide +kernel
theorem dX7_init_20 : decode cX7_init 20 = .ok (.aload_n 0, 1) := by decide +kernel
theorem dX7_init_21 : decode cX7_init 21 = .ok (.bipush 8, 2) := by decide +kernel
theorem dX7_init_23 : decode cX7_init 23 = .ok (.bipush 12, 2) := by decide +kernel
theorem dX7_init_25 : decode cX7_init 25 = .ok (.multianewarray 18 2, 4) := by decide +kernel
theorem dX7_init_29 : decode cX7_init 29 = .ok (.putfield 20, 3) := by decide +kernel
theorem dX7_init_32 : decode cX7_init 32 = .ok (.aload_n 0, 1) := by decide +kernel
theorem dX7_init_33 : decode cX7_init 33 = .ok (.iconst 0, 1) := by decide +kernel
theorem dX7_init_34 : decode cX7_init 34 = .ok (.putfield 23, 3) := by decide +kernel
theorem dX7_init_37 : decode cX7_init 37 = .ok (.aload_n 0, 1) := by decide +kernel
theorem dX7_init_38 : decode cX7_init 38 = .ok (.iconst 0, 1) := by decide +kernel
theorem dX7_init_39 : decode cX7_init 39 = .ok (.putfield 27, 3) := by decide +kernel
theorem dX7_init_42 : decode cX7_init 42 = .ok (.aload_n 0, 1) := by decide +kernel
theorem dX7_init_43 : decode cX7_init 43 = .ok (.iconst 0, 1) := by decide +kernel
theorem dX7_init_44 : decode cX7_init 44 = .ok (.putfield 30, 3) := by decide +kernel
theorem dX7_init_47 : decode cX7_init 47 = .ok (.aload_n 0, 1) := by decide +kernel
theorem dX7_init_48 : decode cX7_init 48 = .ok (.iconst 0, 1) := by decide +kernel
theorem dX7_init_49 : decode cX7_init 49 = .ok (.putfield 33, 3) := by decide +kernel
theorem dX7_init_52 : decode cX7_init 52 = .ok (.aload_n 0, 1) := by decide +kernel
theorem dX7_init_53 : decode cX7_init 53 = .ok (.iconst 1, 1) := by decide +kernel
theorem dX7_init_54 : decode cX7_init 54 = .ok (.putfield 36, 3) := by decide +kernel
theorem dX7_init_57 : decode cX7_init 57 = .ok (.return_, 1) := by decide +kernel
theorem FF_X7_9 : FF RX7 9 7 8 0 (.array .int) := ⟨RX7, TX7, tyX7, rfl, wX7, by decide, kAW (v_0_4 (List.mem_of_getElem? (i := 11) rfl)) rfl, rfl, tyX7_ok, nmX7, by decide +kernel, rfl, rfl⟩
theorem FF_X7_15 : FF RX7 15 7 8 1 (.array .int) := ⟨RX7, TX7, tyX7, rfl, wX7, by decide, kAW (v_0_4 (List.mem_of_getElem? (i := 14) rfl)) rfl, rfl, tyX7_ok, nmX7, by decide +kernel, rfl, rfl⟩
theorem FF_X7_20 : FF RX7 20 7 8 2 (.array (.array .int)) := ⟨RX7, TX7, tyX7, rfl, wX7, by decide, kAW (v_0_5 (List.mem_of_getElem? (i := 1) rfl)) rfl, rfl, tyX7_ok, nmX7, by decide +kernel, rfl, rfl⟩
theorem FQ_X7_23 : FP RX7 23 7 8 3 .int := ⟨RX7, TX7, tyX7, rfl, wX7, by decide, kAW (v_0_5 (List.mem_of_getElem? (i := 5) rfl)) rfl, rfl, tyX7_ok, nmX7, by decide +kernel, rfl⟩
theorem FQ_X7_27 : FP RX7 27 7 8 4 .int := ⟨RX7, TX7, tyX7, rfl, wX7, by decide, kAW (v_0_5 (List.mem_of_getElem? (i := 8) rfl)) rfl, rfl, tyX7_ok, nmX7, by decide +kernel, rfl⟩
theorem FQ_X7_30 : FP RX7 30 7 8 5 .int := ⟨RX7, TX7, tyX7, rfl, wX7, by decide, kAW (v_0_5 (List.mem_of_getElem? (i := 11) rfl)) rfl, rfl, tyX7_ok, nmX7, by decide +kernel, rfl⟩
theorem FQ_X7_33 : FP RX7 33 7 8 6 .int := ⟨RX7, TX7, tyX7, rfl, wX7, by decide, kAW (v_0_5 (List.mem_of_getElem? (i := 14) rfl)) rfl, rfl, tyX7_ok, nmX7, by decide +kernel, rfl⟩
theorem FQ_X7_36 : FP RX7 36 7 8 7 .int := ⟨RX7, TX7, tyX7, rfl, wX7, by decide, kAW (v_0_6 (List.mem_of_getElem? (i := 1) rfl)) rfl, rfl, tyX7_ok, nmX7, by decide +kernel, rfl⟩
set_option maxRecDepth 100000 in
set_option maxHeartbeats 8000000 in
theorem k_X7_init (l : Launch) (D : va_G) (cA : Nat → ClassId) (h0 : Nat) : CI l cA D yX7_init cX7_init 1 (1, 11, 120, 20) [.ref h0] [(h0, .inr (7, [.null, .null, .null, .int (0 : Int32), .int (0 : Int32), .int (0 : Int32), .int (0 : Int32), .int (0 : Int32)]))] (fun ws1 => ∃ (q1 : Nat) (q2 : Nat) (q3 : Nat) (r1 : Nat → Nat), ws1 = [(h0, .inr (7, [.ref q1, .ref q2, .ref q3, .int (0 : Int32), .int (0 : Int32), .int (0 : Int32), .int (0 : Int32), .int (1 : Int32)])), (q1, ia (cA 0) 8 (fun _ => 0)), (q2, ia (cA 0) 8 (fun _ => 0)), (q3, qa (cA 1) 8 (fun i => if i < 8 then some (r1 i) else none)), ((r1 0), ia (cA 0) 12 (fun _ => 0)), ((r1 1), ia (cA 0) 12 (fun _ => 0)), ((r1 2), ia (cA 0) 12 (fun _ => 0)), ((r1 3), ia (cA 0) 12 (fun _ => 0)), ((r1 4), ia (cA 0) 12 (fun _ => 0)), ((r1 5), ia (cA 0) 12 (fun _ => 0)), ((r1 6), ia (cA 0) 12 (fun _ => 0)), ((r1 7), ia (cA 0) 12 (fun _ => 0))]) := by
  refine q_enterL (by decide) rfl (Nat.le_of_ble_eq_true rfl) (fun K H locs ls _ _ hM hI hW hR hC hE hl => ?_)
  have hl : lv_has ls 1 [(0, .ref h0)] := hl
  have hW : WL K [(h0, .inr (7, [.null, .null, .null, .int (0 : Int32), .int (0 : Int32), .int (0 : Int32), .int (0 : Int32), .int (0 : Int32)]))] H locs := hW
  refine q_aload_n hM dX7_init_0 (lv_at hl 0 rfl) ?_
  refine l_obj hM hR (by decide) (kAW (v_0_4 (List.mem_of_getElem? (i := 9) rfl)) rfl) (kAW (v_0_1 (List.mem_of_getElem? (i := 11) rfl)) rfl) (kAW (v_0_1 (List.mem_of_getElem? (i := 12) rfl)) rfl) hl.1 dX7_init_1 ?_
  refine q_aload_n hM dX7_init_4 (lv_at hl 0 rfl) ?_
  refine q_bipush (v := (8 : Int32)) hM dX7_init_5 (by decide) ?_
  refine l_newI (N' := 8) hM hW ⟨Nat.le_trans (Nat.le_of_ble_eq_true rfl) hC.1, Nat.le_trans (Nat.le_of_ble_eq_true rfl) hC.2⟩ (kAW (v_0_2 (List.mem_of_getElem? (i := 12) rfl)) rfl) (by decide) (by decide) (Nat.le_of_ble_eq_true rfl) dX7_init_7 (fun q12145 H hW => ?_)
  have hW : WL K [(h0, .inr (7, [.null, .null, .null, .int (0 : Int32), .int (0 : Int32), .int (0 : Int32), .int (0 : Int32), .int (0 : Int32)])), (q12145, ia (cA 0) 8 (fun _ => 0))] H locs := hW
  refine (show XX K 1 8 H locs 9 ls [.ref q12145, .ref h0] from ?_)
  refine l_putf hM hW hI FF_X7_9 (q0 := 0) rfl rfl rfl (Nat.le_of_ble_eq_true rfl) dX7_init_9 (fun H locs hW => ?_)
  have hW : WL K [(h0, .inr (7, [.ref q12145, .null, .null, .int (0 : Int32), .int (0 : Int32), .int (0 : Int32), .int (0 : Int32), .int (0 : Int32)])), (q12145, ia (cA 0) 8 (fun _ => 0))] H locs := hW
  refine q_aload_n hM dX7_init_12 (lv_at hl 0 rfl) ?_
  refine q_bipush (v := (8 : Int32)) hM dX7_init_13 (by decide) ?_
  refine l_newI (N' := 8) hM hW ⟨Nat.le_trans (Nat.le_of_ble_eq_true rfl) hC.1, Nat.le_trans (Nat.le_of_ble_eq_true rfl) hC.2⟩ (kAW (v_0_2 (List.mem_of_getElem? (i := 12) rfl)) rfl) (by decide) (by decide) (Nat.le_of_ble_eq_true rfl) dX7_init_15 (fun q12146 H hW => ?_)
  have hW : WL K [(h0, .inr (7, [.ref q12145, .null, .null, .int (0 : Int32), .int (0 : Int32), .int (0 : Int32), .int (0 : Int32), .int (0 : Int32)])), (q12145, ia (cA 0) 8 (fun _ => 0)), (q12146, ia (cA 0) 8 (fun _ => 0))] H locs := hW
  refine (show XX K 2 16 H locs 17 ls [.ref q12146, .ref h0] from ?_)
  refine l_putf hM hW hI FF_X7_15 (q0 := 0) rfl rfl rfl (Nat.le_of_ble_eq_true rfl) dX7_init_17 (fun H locs hW => ?_)
  have hW : WL K [(h0, .inr (7, [.ref q12145, .ref q12146, .null, .int (0 : Int32), .int (0 : Int32), .int (0 : Int32), .int (0 : Int32), .int (0 : Int32)])), (q12145, ia (cA 0) 8 (fun _ => 0)), (q12146, ia (cA 0) 8 (fun _ => 0))] H locs := hW
  refine q_aload_n hM dX7_init_20 (lv_at hl 0 rfl) ?_
  refine q_bipush (v := (8 : Int32)) hM dX7_init_21 (by decide) ?_
  refine q_bipush (v := (12 : Int32)) hM dX7_init_23 (by decide) ?_
  refine l_mna (N' := 8) (K' := 12) hM hW ⟨Nat.le_trans (Nat.le_of_ble_eq_true rfl) hC.1, Nat.le_trans (Nat.le_of_ble_eq_true rfl) hC.2⟩ (kAW (v_0_4 (List.mem_of_getElem? (i := 10) rfl)) rfl) (kAW (v_0_2 (List.mem_of_getElem? (i := 12) rfl)) rfl) (by decide) (by decide) (by decide) (by decide) (Nat.le_of_ble_eq_true rfl) (Nat.le_of_ble_eq_true rfl) dX7_init_25 (fun q12147 r12148 H hW => ?_)
  have hW : WL K [(h0, .inr (7, [.ref q12145, .ref q12146, .null, .int (0 : Int32), .int (0 : Int32), .int (0 : Int32), .int (0 : Int32), .int (0 : Int32)])), (q12145, ia (cA 0) 8 (fun _ => 0)), (q12146, ia (cA 0) 8 (fun _ => 0)), (q12147, qa (cA 1) 8 (fun i => if i < 8 then some (r12148 i) else none)), ((r12148 0), ia (cA 0) 12 (fun _ => 0)), ((r12148 1), ia (cA 0) 12 (fun _ => 0)), ((r12148 2), ia (cA 0) 12 (fun _ => 0)), ((r12148 3), ia (cA 0) 12 (fun _ => 0)), ((r12148 4), ia (cA 0) 12 (fun _ => 0)), ((r12148 5), ia (cA 0) 12 (fun _ => 0)), ((r12148 6), ia (cA 0) 12 (fun _ => 0)), ((r12148 7), ia (cA 0) 12 (fun _ => 0))] H locs := hW
  refine (show XX K 11 120 H locs 29 ls [.ref q12147, .ref h0] from ?_)
  refine l_putf hM hW hI FF_X7_20 (q0 := 0) rfl rfl rfl (Nat.le_of_ble_eq_true rfl) dX7_init_29 (fun H locs hW => ?_)
  have hW : WL K [(h0, .inr (7, [.ref q12145, .ref q12146, .ref q12147, .int (0 : Int32), .int (0 : Int32), .int (0 : Int32), .int (0 : Int32), .int (0 : Int32)])), (q12145, ia (cA 0) 8 (fun _ => 0)), (q12146, ia (cA 0) 8 (fun _ => 0)), (q12147, qa (cA 1) 8 (fun i => if i < 8 then some (r12148 i) else none)), ((r12148 0), ia (cA 0) 12 (fun _ => 0)), ((r12148 1), ia (cA 0) 12 (fun _ => 0)), ((r12148 2), ia (cA 0) 12 (fun _ => 0)), ((r12148 3), ia (cA 0) 12 (fun _ => 0)), ((r12148 4), ia (cA 0) 12 (fun _ => 0)), ((r12148 5), ia (cA 0) 12 (fun _ => 0)), ((r12148 6), ia (cA 0) 12 (fun _ => 0)), ((r12148 7), ia (cA 0) 12 (fun _ => 0))] H locs := hW
  refine q_aload_n hM dX7_init_32 (lv_at hl 0 rfl) ?_
  refine q_iconst (v := (0 : Int32)) hM dX7_init_33 (by decide) ?_
  refine l_put hM hW FQ_X7_23 (q0 := 0) rfl rfl rfl (Nat.le_of_ble_eq_true rfl) dX7_init_34 (fun H locs hW => ?_)
  have hW : WL K [(h0, .inr (7, [.ref q12145, .ref q12146, .ref q12147, .int (0 : Int32), .int (0 : Int32), .int (0 : Int32), .int (0 : Int32), .int (0 : Int32)])), (q12145, ia (cA 0) 8 (fun _ => 0)), (q12146, ia (cA 0) 8 (fun _ => 0)), (q12147, qa (cA 1) 8 (fun i => if i < 8 then some (r12148 i) else none)), ((r12148 0), ia (cA 0) 12 (fun _ => 0)), ((r12148 1), ia (cA 0) 12 (fun _ => 0)), ((r12148 2), ia (cA 0) 12 (fun _ => 0)), ((r12148 3), ia (cA 0) 12 (fun _ => 0)), ((r12148 4), ia (cA 0) 12 (fun _ => 0)), ((r12148 5), ia (cA 0) 12 (fun _ => 0)), ((r12148 6), ia (cA 0) 12 (fun _ => 0)), ((r12148 7), ia (cA 0) 12 (fun _ => 0))] H locs := hW
  refine q_aload_n hM dX7_init_37 (lv_at hl 0 rfl) ?_
  refine q_iconst (v := (0 : Int32)) hM dX7_init_38 (by decide) ?_
  refine l_put hM hW FQ_X7_27 (q0 := 0) rfl rfl rfl (Nat.le_of_ble_eq_true rfl) dX7_init_39 (fun H locs hW => ?_)
  have hW : WL K [(h0, .inr (7, [.ref q12145, .ref q12146, .ref q12147, .int (0 : Int32), .int (0 : Int32), .int (0 : Int32), .int (0 : Int32), .int (0 : Int32)])), (q12145, ia (cA 0) 8 (fun _ => 0)), (q12146, ia (cA 0) 8 (fun _ => 0)), (q12147, qa (cA 1) 8 (fun i => if i < 8 then some (r12148 i) else none)), ((r12148 0), ia (cA 0) 12 (fun _ => 0)), ((r12148 1), ia (cA 0) 12 (fun _ => 0)), ((r12148 2), ia (cA 0) 12 (fun _ => 0)), ((r12148 3), ia (cA 0) 12 (fun _ => 0)), ((r12148 4), ia (cA 0) 12 (fun _ => 0)), ((r12148 5), ia (cA 0) 12 (fun _ => 0)), ((r12148 6), ia (cA 0) 12 (fun _ => 0)), ((r12148 7), ia (cA 0) 12 (fun _ => 0))] H locs := hW
  refine q_aload_n hM dX7_init_42 (lv_at hl 0 rfl) ?_
  refine q_iconst (v := (0 : Int32)) hM dX7_init_43 (by decide) ?_
  refine l_put hM hW FQ_X7_30 (q0 := 0) rfl rfl rfl (Nat.le_of_ble_eq_true rfl) dX7_init_44 (fun H locs hW => ?_)
  have hW : WL K [(h0, .inr (7, [.ref q12145, .ref q12146, .ref q12147, .int (0 : Int32), .int (0 : Int32), .int (0 : Int32), .int (0 : Int32), .int (0 : Int32)])), (q12145, ia (cA 0) 8 (fun _ => 0)), (q12146, ia (cA 0) 8 (fun _ => 0)), (q12147, qa (cA 1) 8 (fun i => if i < 8 then some (r12148 i) else none)), ((r12148 0), ia (cA 0) 12 (fun _ => 0)), ((r12148 1), ia (cA 0) 12 (fun _ => 0)), ((r12148 2), ia (cA 0) 12 (fun _ => 0)), ((r12148 3), ia (cA 0) 12 (fun _ => 0)), ((r12148 4), ia (cA 0) 12 (fun _ => 0)), ((r12148 5), ia (cA 0) 12 (fun _ => 0)), ((r12148 6), ia (cA 0) 12 (fun _ => 0)), ((r12148 7), ia (cA 0) 12 (fun _ => 0))] H locs := hW
  refine q_aload_n hM dX7_init_47 (lv_at hl 0 rfl) ?_
  refine q_iconst (v := (0 : Int32)) hM dX7_init_48 (by decide) ?_
  refine l_put hM hW FQ_X7_33 (q0 := 0) rfl rfl rfl (Nat.le_of_ble_eq_true rfl) dX7_init_49 (fun H locs hW => ?_)
  have hW : WL K [(h0, .inr (7, [.ref q12145, .ref q12146, .ref q12147, .int (0 : Int32), .int (0 : Int32), .int (0 : Int32), .int (0 : Int32), .int (0 : Int32)])), (q12145, ia (cA 0) 8 (fun _ => 0)), (q12146, ia (cA 0) 8 (fun _ => 0)), (q12147, qa (cA 1) 8 (fun i => if i < 8 then some (r12148 i) else none)), ((r12148 0), ia (cA 0) 12 (fun _ => 0)), ((r12148 1), ia (cA 0) 12 (fun _ => 0)), ((r12148 2), ia (cA 0) 12 (fun _ => 0)), ((r12148 3), ia (cA 0) 12 (fun _ => 0)), ((r12148 4), ia (cA 0) 12 (fun _ => 0)), ((r12148 5), ia (cA 0) 12 (fun _ => 0)), ((r12148 6), ia (cA 0) 12 (fun _ => 0)), ((r12148 7), ia (cA 0) 12 (fun _ => 0))] H locs := hW
  refine q_aload_n hM dX7_init_52 (lv_at hl 0 rfl) ?_
  refine q_iconst (v := (1 : Int32)) hM dX7_init_53 (by decide) ?_
  refine l_put hM hW FQ_X7_36 (q0 := 0) rfl rfl rfl (Nat.le_of_ble_eq_true rfl) dX7_init_54 (fun H locs hW => ?_)
  have hW : WL K [(h0, .inr (7, [.ref q12145, .ref q12146, .ref q12147, .int (0 : Int32), .int (0 : Int32), .int (0 : Int32), .int (0 : Int32), .int (1 : Int32)])), (q12145, ia (cA 0) 8 (fun _ => 0)), (q12146, ia (cA 0) 8 (fun _ => 0)), (q12147, qa (cA 1) 8 (fun i => if i < 8 then some (r12148 i) else none)), ((r12148 0), ia (cA 0) 12 (fun _ => 0)), ((r12148 1), ia (cA 0) 12 (fun _ => 0)), ((r12148 2), ia (cA 0) 12 (fun _ => 0)), ((r12148 3), ia (cA 0) 12 (fun _ => 0)), ((r12148 4), ia (cA 0) 12 (fun _ => 0)), ((r12148 5), ia (cA 0) 12 (fun _ => 0)), ((r12148 6), ia (cA 0) 12 (fun _ => 0)), ((r12148 7), ia (cA 0) 12 (fun _ => 0))] H locs := hW
  exact hE _ _ _ _ _ hW ⟨q12145, q12146, q12147, r12148, rfl⟩ dX7_init_57

theorem dX3_init_0 : decode cX3_init 0 = .ok (.aload_n 0, 1) := by decide +kernel
theorem dX3_init_1 : decode cX3_init 1 = .ok (.invokespecial 1, 3) := by decide +kernel
theorem dX3_init_4 : decode cX3_init 4 = .ok (.aload_n 0, 1) := by decide +kernel
theorem dX3_init_5 : decode cX3_init 5 = .ok (.bipush 16, 2) := by decide +kernel
theorem dX3_init_7 : decode cX3_init 7 = .ok (.newarray .int, 2) := by decide +kernel
theorem dX3_init_9 : decode cX3_init 9 = .ok (.putfield 9, 3) := by decide +kernel
theorem dX3_init_12 : decode cX3_init 12 = .ok (.aload_n 0, 1) := by decide +kernel
theorem dX3_init_13 : decode cX3_init 13 = .ok (.bipush 16, 2) := by decide +kernel
theorem dX3_init_15 : decode cX3_init 15 = .ok (.newarray .int, 2) := by decide +kernel
theorem dX3_init_17 : decode cX3_init 17 = .ok (.putfield 13, 3) := by decide +kernel
theorem dX3_init_20 : decode cX3_init 20 = .ok (.aload_n 0, 1) := by decide +kernel
theorem dX3_init_21 : decode cX3_init 21 = .ok (.bipush 16, 2) := by decide +kernel
theorem dX3_init_23 : decode cX3_init 23 = .ok (.newarray .int, 2) := by decide +kernel
theorem dX3_init_25 : decode cX3_init 25 = .ok (.putfield 16, 3) := by decide +kernel
theorem dX3_init_28 : decode cX3_init 28 = .ok (.aload_n 0, 1) := by decide +kernel
theorem dX3_init_29 : decode cX3_init 29 = .ok (.sipush 256, 3) := by decide +kernel
theorem dX3_init_32 : decode cX3_init 32 = .ok (.newarray .int, 2) := by decide +kernel
theorem dX3_init_34 : decode cX3_init 34 = .ok (.putfield 19, 3) := by decide +kernel
theorem dX3_init_37 : decode cX3_init 37 = .ok (.aload_n 0, 1) := by decide +kernel
theorem dX3_init_38 : decode cX3_init 38 = .ok (.sipush 256, 3) := by decide +kernel
theorem dX3_init_41 : decode cX3_init 41 = .ok (.newarray .int, 2) := by decide +kernel
theorem dX3_init_43 : decode cX3_init 43 = .ok (.putfield 22, 3) := by decide +kernel
theorem dX3_init_46 : decode cX3_init 46 = .ok (.aload_n 0, 1) := by decide +kernel
theorem dX3_init_47 : decode cX3_init 47 = .ok (.bipush 64, 2) := by decide +kernel
theorem dX3_init_49 : decode cX3_init 49 = .ok (.newarray .int, 2) := by decide +kernel
theorem dX3_init_51 : decode cX3_init 51 = .ok (.putfield 25, 3) := by decide +kernel
theorem dX3_init_54 : decode cX3_init 54 = .ok (.aload_n 0, 1) := by decide +kernel
theorem dX3_init_55 : decode cX3_init 55 = .ok (.iconst 0, 1) := by decide +kernel
theorem dX3_init_56 : decode cX3_init 56 = .ok (.putfield 28, 3) := by decide +kernel
theorem dX3_init_59 : decode cX3_init 59 = .ok (.aload_n 0, 1) := by decide +kernel
theorem dX3_init_60 : decode cX3_init 60 = .ok (.iconst 0, 1) := by decide +kernel
theorem dX3_init_61 : decode cX3_init 61 = .ok (.putfield 32, 3) := by decide +kernel
theorem dX3_init_64 : decode cX3_init 64 = .ok (.return_, 1) := by decide +kernel
theorem FF_X3_9 : FF RX3 9 3 8 0 (.array .int) := ⟨RX3, TX3, tyX3, rfl, wX3, by decide, kAW (v_0_7 (List.mem_of_getElem? (i := 10) rfl)) rfl, rfl, tyX3_ok, nmX3, by decide +kernel, rfl, rfl⟩
theorem FF_X3_13 : FF RX3 13 3 8 1 (.array .int) := ⟨RX3, TX3, tyX3, rfl, wX3, by decide, kAW (v_0_7 (List.mem_of_getElem? (i := 12) rfl)) rfl, rfl, tyX3_ok, nmX3, by decide +kernel, rfl, rfl⟩
theorem FF_X3_16 : FF RX3 16 3 8 2 (.array .int) := ⟨RX3, TX3, tyX3, rfl, wX3, by decide, kAW (v_0_7 (List.mem_of_getElem? (i := 14) rfl)) rfl, rfl, tyX3_ok, nmX3, by decide +kernel, rfl, rfl⟩
theorem FF_X3_19 : FF RX3 19 3 8 3 (.array .int) := ⟨RX3, TX3, tyX3, rfl, wX3, by decide, kAW (v_0_8 (List.mem_of_getElem? (i := 0) rfl)) rfl, rfl, tyX3_ok, nmX3, by decide +kernel, rfl, rfl⟩
theorem FF_X3_22 : FF RX3 22 3 8 4 (.array .int) := ⟨RX3, TX3, tyX3, rfl, wX3, by decide, kAW (v_0_8 (List.mem_of_getElem? (i := 1) rfl)) rfl, rfl, tyX3_ok, nmX3, by decide +kernel, rfl, rfl⟩
theorem FF_X3_25 : FF RX3 25 3 8 5 (.array .int) := ⟨RX3, TX3, tyX3, rfl, wX3, by decide, kAW (v_0_8 (List.mem_of_getElem? (i := 2) rfl)) rfl, rfl, tyX3_ok, nmX3, by decide +kernel, rfl, rfl⟩
theorem FQ_X3_28 : FP RX3 28 3 8 6 .int := ⟨RX3, TX3, tyX3, rfl, wX3, by decide, kAW (v_0_8 (List.mem_of_getElem? (i := 3) rfl)) rfl, rfl, tyX3_ok, nmX3, by decide +kernel, rfl⟩
theorem FQ_X3_32 : FP RX3 32 3 8 7 .int := ⟨RX3, TX3, tyX3, rfl, wX3, by decide, kAW (v_0_8 (List.mem_of_getElem? (i := 6) rfl)) rfl, rfl, tyX3_ok, nmX3, by decide +kernel, rfl⟩
set_option maxRecDepth 100000 in
set_option maxHeartbeats 8000000 in
theorem k_X3_init (l : Launch) (D : va_G) (cA : Nat → ClassId) (h0 : Nat) : CI l cA D yX3_init cX3_init 1 (1, 6, 624, 20) [.ref h0] [(h0, .inr (3, [.null, .null, .null, .null, .null, .null, .int (0 : Int32), .int (0 : Int32)]))] (fun ws1 => ∃ (q1 : Nat) (q2 : Nat) (q3 : Nat) (q4 : Nat) (q5 : Nat) (q6 : Nat), ws1 = [(h0, .inr (3, [.ref q1, .ref q2, .ref q3, .ref q4, .ref q5, .ref q6, .int (0 : Int32), .int (0 : Int32)])), (q1, ia (cA 0) 16 (fun _ => 0)), (q2, ia (cA 0) 16 (fun _ => 0)), (q3, ia (cA 0) 16 (fun _ => 0)), (q4, ia (cA 0) 256 (fun _ => 0)), (q5, ia (cA 0) 256 (fun _ => 0)), (q6, ia (cA 0) 64 (fun _ => 0))]) := by
  refine q_enterL (by decide) rfl (Nat.le_of_ble_eq_true rfl) (fun K H locs ls _ _ hM hI hW hR hC hE hl => ?_)
  have hl : lv_has ls 1 [(0, .ref h0)] := hl
  have hW : WL K [(h0, .inr (3, [.null, .null, .null, .null, .null, .null, .int (0 : Int32), .int (0 : Int32)]))] H locs := hW
  refine q_aload_n hM dX3_init_0 (lv_at hl 0 rfl) ?_
  refine l_obj hM hR (by decide) (kAW (v_0_7 (List.mem_of_getElem? (i := 9) rfl)) rfl) (kAW (v_0_1 (List.mem_of_getElem? (i := 11) rfl)) rfl) (kAW (v_0_1 (List.mem_of_getElem? (i := 12) rfl)) rfl) hl.1 dX3_init_1 ?_
  refine q_aload_n hM dX3_init_4 (lv_at hl 0 rfl) ?_
  refine q_bipush (v := (16 : Int32)) hM dX3_init_5 (by decide) ?_
  refine l_newI (N' := 16) hM hW ⟨Nat.le_trans (Nat.le_of_ble_eq_true rfl) hC.1, Nat.le_trans (Nat.le_of_ble_eq_true rfl) hC.2⟩ (kAW (v_0_2 (List.mem_of_getElem? (i := 12) rfl)) rfl) (by decide) (by decide) (Nat.le_of_ble_eq_true rfl) dX3_init_7 (fun q12149 H hW => ?_)
  have hW : WL K [(h0, .inr (3, [.null, .null, .null, .null, .null, .null, .int (0 : Int32), .int (0 : Int32)])), (q12149, ia (cA 0) 16 (fun _ => 0))] H locs := hW
  refine (show XX K 1 16 H locs 9 ls [.ref q12149, .ref h0] from ?_)
  refine l_putf hM hW hI FF_X3_9 (q0 := 0) rfl rfl rfl (Nat.le_of_ble_eq_true rfl) dX3_init_9 (fun H locs hW => ?_)
  have hW : WL K [(h0, .inr (3, [.ref q12149, .null, .null, .null, .null, .null, .int (0 : Int32), .int (0 : Int32)])), (q12149, ia (cA 0) 16 (fun _ => 0))] H locs := hW
  refine q_aload_n hM dX3_init_12 (lv_at hl 0 rfl) ?_
  refine q_bipush (v := (16 : Int32)) hM dX3_init_13 (by decide) ?_
  refine l_newI (N' := 16) hM hW ⟨Nat.le_trans (Nat.le_of_ble_eq_true rfl) hC.1, Nat.le_trans (Nat.le_of_ble_eq_true rfl) hC.2⟩ (kAW (v_0_2 (List.mem_of_getElem? (i := 12) rfl)) rfl) (by decide) (by decide) (Nat.le_of_ble_eq_true rfl) dX3_init_15 (fun q12150 H hW => ?_)
  have hW : WL K [(h0, .inr (3, [.ref q12149, .null, .null, .null, .null, .null, .int (0 : Int32), .int (0 : Int32)])), (q12149, ia (cA 0) 16 (fun _ => 0)), (q12150, ia (cA 0) 16 (fun _ => 0))] H locs := hW
  refine (show XX K 2 32 H locs 17 ls [.ref q12150, .ref h0] from ?_)
  refine l_putf hM hW hI FF_X3_13 (q0 := 0) rfl rfl rfl (Nat.le_of_ble_eq_true rfl) dX3_init_17 (fun H locs hW => ?_)
  have hW : WL K [(h0, .inr (3, [.ref q12149, .ref q12150, .null, .null, .null, .null, .int (0 : Int32), .int (0 : Int32)])), (q12149, ia (cA 0) 16 (fun _ => 0)), (q12150, ia (cA 0) 16 (fun _ => 0))] H locs := hW
  refine q_aload_n hM dX3_init_20 (lv_at hl 0 rfl) ?_
  refine q_bipush (v := (16 : Int32)) hM dX3_init_21 (by decide) ?_
  refine l_newI (N' := 16) hM hW ⟨Nat.le_trans (Nat.le_of_ble_eq_true rfl) hC.1, Nat.le_trans (Nat.le_of_ble_eq_true rfl) hC.2⟩ (kAW (v_0_2 (List.mem_of_getElem? (i := 12) rfl)) rfl) (by decide) (by decide) (Nat.le_of_ble_eq_true rfl) dX3_init_23 (fun q12151 H hW => ?_)
  have hW : WL K [(h0, .inr (3, [.ref q12149, .ref q12150, .null, .null, .null, .null, .int (0 : Int32), .int (0 : Int32)])), (q12149, ia (cA 0) 16 (fun _ => 0)), (q12150, ia (cA 0) 16 (fun _ => 0)), (q12151, ia (cA 0) 16 (fun _ => 0))] H locs := hW
  refine (show XX K 3 48 H locs 25 ls [.ref q12151, .ref h0] from ?_)
  refine l_putf hM hW hI FF_X3_16 (q0 := 0) rfl rfl rfl (Nat.le_of_ble_eq_true rfl) dX3_init_25 (fun H locs hW => ?_)
  have hW : WL K [(h0, .inr (3, [.ref q12149, .ref q12150, .ref q12151, .null, .null, .null, .int (0 : Int32), .int (0 : Int32)])), (q12149, ia (cA 0) 16 (fun _ => 0)), (q12150, ia (cA 0) 16 (fun _ => 0)), (q12151, ia (cA 0) 16 (fun _ => 0))] H locs := hW
  refine q_aload_n hM dX3_init_28 (lv_at hl 0 rfl) ?_
  refine q_sipush (v := (256 : Int32)) hM dX3_init_29 (by decide) ?_
  refine l_newI (N' := 256) hM hW ⟨Nat.le_trans (Nat.le_of_ble_eq_true rfl) hC.1, Nat.le_trans (Nat.le_of_ble_eq_true rfl) hC.2⟩ (kAW (v_0_2 (List.mem_of_getElem? (i := 12) rfl)) rfl) (by decide) (by decide) (Nat.le_of_ble_eq_true rfl) dX3_init_32 (fun q12152 H hW => ?_)
  have hW : WL K [(h0, .inr (3, [.ref q12149, .ref q12150, .ref q12151, .null, .null, .null, .int (0 : Int32), .int (0 : Int32)])), (q12149, ia (cA 0) 16 (fun _ => 0)), (q12150, ia (cA 0) 16 (fun _ => 0)), (q12151, ia (cA 0) 16 (fun _ => 0)), (q12152, ia (cA 0) 256 (fun _ => 0))] H locs := hW
  refine (show XX K 4 304 H locs 34 ls [.ref q12152, .ref h0] from ?_)
  refine l_putf hM hW hI FF_X3_19 (q0 := 0) rfl rfl rfl (Nat.le_of_ble_eq_true rfl) dX3_init_34 (fun H locs hW => ?_)
  have hW : WL K [(h0, .inr (3, [.ref q12149, .ref q12150, .ref q12151, .ref q12152, .null, .null, .int (0 : Int32), .int (0 : Int32)])), (q12149, ia (cA 0) 16 (fun _ => 0)), (q12150, ia (cA 0) 16 (fun _ => 0)), (q12151, ia (cA 0) 16 (fun _ => 0)), (q12152, ia (cA 0) 256 (fun _ => 0))] H locs := hW
  refine q_aload_n hM dX3_init_37 (lv_at hl 0 rfl) ?_
  refine q_sipush (v := (256 : Int32)) hM dX3_init_38 (by decide) ?_
  refine l_newI (N' := 256) hM hW ⟨Nat.le_trans (Nat.le_of_ble_eq_true rfl) hC.1, Nat.le_trans (Nat.le_of_ble_eq_true rfl) hC.2⟩ (kAW (v_0_2 (List.mem_of_getElem? (i := 12) rfl)) rfl) (by decide) (by decide) (Nat.le_of_ble_eq_true rfl) dX3_init_41 (fun q12153 H hW => ?_)
  have hW : WL K [(h0, .inr (3, [.ref q12149, .ref q12150, .ref q12151, .ref q12152, .null, .null, .int (0 : Int32), .int (0 : Int32)])), (q12149, ia (cA 0) 16 (fun _ => 0)), (q12150, ia (cA 0) 16 (fun _ => 0)), (q12151, ia (cA 0) 16 (fun _ => 0)), (q12152, ia (cA 0) 256 (fun _ => 0)), (q12153, ia (cA 0) 256 (fun _ => 0))] H locs := hW
  refine (show XX K 5 560 H locs 43 ls [.ref q12153, .ref h0] from ?_)
  refine l_putf hM hW hI FF_X3_22 (q0 := 0) rfl rfl rfl (Nat.le_of_ble_eq_true rfl) dX3_init_43 (fun H locs hW => ?_)
  have hW : WL K [(h0, .inr (3, [.ref q12149, .ref q12150, .ref q12151, .ref q12152, .ref q12153, .null, .int (0 : Int32), .int (0 : Int32)])), (q12149, ia (cA 0) 16 (fun _ => 0)), (q12150, ia (cA 0) 16 (fun _ => 0)), (q12151, ia (cA 0) 16 (fun _ => 0)), (q12152, ia (cA 0) 256 (fun _ => 0)), (q12153, ia (cA 0) 256 (fun _ => 0))] H locs := hW
  refine q_aload_n hM dX3_init_46 (lv_at hl 0 rfl) ?_
  refine q_bipush (v := (64 : Int32)) hM dX3_init_47 (by decide) ?_
  refine l_newI (N' := 64) hM hW ⟨Nat.le_trans (Nat.le_of_ble_eq_true rfl) hC.1, Nat.le_trans (Nat.le_of_ble_eq_true rfl) hC.2⟩ (kAW (v_0_2 (List.mem_of_getElem? (i := 12) rfl)) rfl) (by decide) (by decide) (Nat.le_of_ble_eq_true rfl) dX3_init_49 (fun q12154 H hW => ?_)
  have hW : WL K [(h0, .inr (3, [.ref q12149, .ref q12150, .ref q12151, .ref q12152, .ref q12153, .null, .int (0 : Int32), .int (0 : Int32)])), (q12149, ia (cA 0) 16 (fun _ => 0)), (q12150, ia (cA 0) 16 (fun _ => 0)), (q12151, ia (cA 0) 16 (fun _ => 0)), (q12152, ia (cA 0) 256 (fun _ => 0)), (q12153, ia (cA 0) 256 (fun _ => 0)), (q12154, ia (cA 0) 64 (fun _ => 0))] H locs := hW
  refine (show XX K 6 624 H locs 51 ls [.ref q12154, .ref h0] from ?_)
  refine l_putf hM hW hI FF_X3_25 (q0 := 0) rfl rfl rfl (Nat.le_of_ble_eq_true rfl) dX3_init_51 (fun H locs hW => ?_)
  have hW : WL K [(h0, .inr (3, [.ref q12149, .ref q12150, .ref q12151, .ref q12152, .ref q12153, .ref q12154, .int (0 : Int32), .int (0 : Int32)])), (q12149, ia (cA 0) 16 (fun _ => 0)), (q12150, ia (cA 0) 16 (fun _ => 0)), (q12151, ia (cA 0) 16 (fun _ => 0)), (q12152, ia (cA 0) 256 (fun _ => 0)), (q12153, ia (cA 0) 256 (fun _ => 0)), (q12154, ia (cA 0) 64 (fun _ => 0))] H locs := hW
  refine q_aload_n hM dX3_init_54 (lv_at hl 0 rfl) ?_
  refine q_iconst (v := (0 : Int32)) hM dX3_init_55 (by decide) ?_
  refine l_put hM hW FQ_X3_28 (q0 := 0) rfl rfl rfl (Nat.le_of_ble_eq_true rfl) dX3_init_56 (fun H locs hW => ?_)
  have hW : WL K [(h0, .inr (3, [.ref q12149, .ref q12150, .ref q12151, .ref q12152, .ref q12153, .ref q12154, .int (0 : Int32), .int (0 : Int32)])), (q12149, ia (cA 0) 16 (fun _ => 0)), (q12150, ia (cA 0) 16 (fun _ => 0)), (q12151, ia (cA 0) 16 (fun _ => 0)), (q12152, ia (cA 0) 256 (fun _ => 0)), (q12153, ia (cA 0) 256 (fun _ => 0)), (q12154, ia (cA 0) 64 (fun _ => 0))] H locs := hW
  refine q_aload_n hM dX3_init_59 (lv_at hl 0 rfl) ?_
  refine q_iconst (v := (0 : Int32)) hM dX3_init_60 (by decide) ?_
  refine l_put hM hW FQ_X3_32 (q0 := 0) rfl rfl rfl (Nat.le_of_ble_eq_true rfl) dX3_init_61 (fun H locs hW => ?_)
  have hW : WL K [(h0, .inr (3, [.ref q12149, .ref q12150, .ref q12151, .ref q12152, .ref q12153, .ref q12154, .int (0 : Int32), .int (0 : Int32)])), (q12149, ia (cA 0) 16 (fun _ => 0)), (q12150, ia (cA 0) 16 (fun _ => 0)), (q12151, ia (cA 0) 16 (fun _ => 0)), (q12152, ia (cA 0) 256 (fun _ => 0)), (q12153, ia (cA 0) 256 (fun _ => 0)), (q12154, ia (cA 0) 64 (fun _ => 0))] H locs := hW
  exact hE _ _ _ _ _ hW ⟨q12149, q12150, q12151, q12152, q12153, q12154, rfl⟩ dX3_init_64

theorem dX0_init_0 : decode cX0_init 0 = .ok (.aload_n 0, 1) := by decide +kernel
theorem dX0_init_1 : decode cX0_init 1 = .ok (.invokespecial 1, 3) := by decide +kernel
theorem dX0_init_4 : decode cX0_init 4 = .ok (.aload_n 0, 1) := by decide +kernel
theorem dX0_init_5 : decode cX0_init 5 = .ok (.bipush 48, 2) := by decide +kernel
theorem dX0_init_7 : decode cX0_init 7 = .ok (.newarray .int, 2) := by decide +kernel
theorem dX0_init_9 : decode cX0_init 9 = .ok (.putfield 9, 3) := by decide +kernel
theorem dX0_init_12 : decode cX0_init 12 = .ok (.aload_n 0, 1) := by decide +kernel
theorem dX0_init_13 : decode cX0_init 13 = .ok (.bipush 48, 2) := by decide +kernel
theorem dX0_init_15 : decode cX0_init 15 = .ok (.newarray .int, 2) := by decide +kernel
theorem dX0_init_17 : decode cX0_init 17 = .ok (.putfield 13, 3) := by decide +kernel
theorem dX0_init_20 : decode cX0_init 20 = .ok (.aload_n 0, 1) := by decide +kernel
theorem dX0_init_21 : decode cX0_init 21 = .ok (.iconst 0, 1) := by decide +kernel
theorem dX0_init_22 : decode cX0_init 22 = .ok (.putfield 16, 3) := by decide +kernel
theorem dX0_init_25 : decode cX0_init 25 = .ok (.return_, 1) := by decide +kernel
theorem FF_X0_9 : FF RX0 9 0 3 0 (.array .int) := ⟨RX0, TX0, tyX0, rfl, wX0, by decide, kAW (v_0_9 (List.mem_of_getElem? (i := 15) rfl)) rfl, rfl, tyX0_ok, nmX0, by decide +kernel, rfl, rfl⟩
theorem FF_X0_13 : FF RX0 13 0 3 1 (.array .int) := ⟨RX0, TX0, tyX0, rfl, wX0, by decide, kAW (v_0_10 (List.mem_of_getElem? (i := 1) rfl)) rfl, rfl, tyX0_ok, nmX0, by decide +kernel, rfl, rfl⟩
theorem FQ_X0_16 : FP RX0 16 0 3 2 .int := ⟨RX0, TX0, tyX0, rfl, wX0, by decide, kAW (v_0_10 (List.mem_of_getElem? (i := 3) rfl)) rfl, rfl, tyX0_ok, nmX0, by decide +kernel, rfl⟩
set_option maxRecDepth 100000 in
set_option maxHeartbeats 8000000 in
theorem k_X0_init (l : Launch) (D : va_G) (cA : Nat → ClassId) (h0 : Nat) : CI l cA D yX0_init cX0_init 1 (1, 2, 96, 20) [.ref h0] [(h0, .inr (0, [.null, .null, .int (0 : Int32)]))] (fun ws1 => ∃ (q1 : Nat) (q2 : Nat), ws1 = [(h0, .inr (0, [.ref q1, .ref q2, .int (0 : Int32)])), (q1, ia (cA 0) 48 (fun _ => 0)), (q2, ia (cA 0) 48 (fun _ => 0))]) := by
  refine q_enterL (by decide) rfl (Nat.le_of_ble_eq_true rfl) (fun K H locs ls _ _ hM hI hW hR hC hE hl => ?_)
  have hl : lv_has ls 1 [(0, .ref h0)] := hl
  have hW : WL K [(h0, .inr (0, [.null, .null, .int (0 : Int32)]))] H locs := hW
  refine q_aload_n hM dX0_init_0 (lv_at hl 0 rfl) ?_
  refine l_obj hM hR (by decide) (kAW (v_0_9 (List.mem_of_getElem? (i := 14) rfl)) rfl) (kAW (v_0_1 (List.mem_of_getElem? (i := 11) rfl)) rfl) (kAW (v_0_1 (List.mem_of_getElem? (i := 12) rfl)) rfl) hl.1 dX0_init_1 ?_
  refine q_aload_n hM dX0_init_4 (lv_at hl 0 rfl) ?_
  refine q_bipush (v := (48 : Int32)) hM dX0_init_5 (by decide) ?_
  refine l_newI (N' := 48) hM hW ⟨Nat.le_trans (Nat.le_of_ble_eq_true rfl) hC.1, Nat.le_trans (Nat.le_of_ble_eq_true rfl) hC.2⟩ (kAW (v_0_2 (List.mem_of_getElem? (i := 12) rfl)) rfl) (by decide) (by decide) (Nat.le_of_ble_eq_true rfl) dX0_init_7 (fun q12155 H hW => ?_)
  have hW : WL K [(h0, .inr (0, [.null, .null, .int (0 : Int32)])), (q12155, ia (cA 0) 48 (fun _ => 0))] H locs := hW
  refine (show XX K 1 48 H locs 9 ls [.ref q12155, .ref h0] from ?_)
  refine l_putf hM hW hI FF_X0_9 (q0 := 0) rfl rfl rfl (Nat.le_of_ble_eq_true rfl) dX0_init_9 (fun H locs hW => ?_)
  have hW : WL K [(h0, .inr (0, [.ref q12155, .null, .int (0 : Int32)])), (q12155, ia (cA 0) 48 (fun _ => 0))] H locs := hW
  refine q_aload_n hM dX0_init_12 (lv_at hl 0 rfl) ?_
  refine q_bipush (v := (48 : Int32)) hM dX0_init_13 (by decide) ?_
  refine l_newI (N' := 48) hM hW ⟨Nat.le_trans (Nat.le_of_ble_eq_true rfl) hC.1, Nat.le_trans (Nat.le_of_ble_eq_true rfl) hC.2⟩ (kAW (v_0_2 (List.mem_of_getElem? (i := 12) rfl)) rfl) (by decide) (by decide) (Nat.le_of_ble_eq_true rfl) dX0_init_15 (fun q12156 H hW => ?_)
  have hW : WL K [(h0, .inr (0, [.ref q12155, .null, .int (0 : Int32)])), (q12155, ia (cA 0) 48 (fun _ => 0)), (q12156, ia (cA 0) 48 (fun _ => 0))] H locs := hW
  refine (show XX K 2 96 H locs 17 ls [.ref q12156, .ref h0] from ?_)
  refine l_putf hM hW hI FF_X0_13 (q0 := 0) rfl rfl rfl (Nat.le_of_ble_eq_true rfl) dX0_init_17 (fun H locs hW => ?_)
  have hW : WL K [(h0, .inr (0, [.ref q12155, .ref q12156, .int (0 : Int32)])), (q12155, ia (cA 0) 48 (fun _ => 0)), (q12156, ia (cA 0) 48 (fun _ => 0))] H locs := hW
  refine q_aload_n hM dX0_init_20 (lv_at hl 0 rfl) ?_
  refine q_iconst (v := (0 : Int32)) hM dX0_init_21 (by decide) ?_
  refine l_put hM hW FQ_X0_16 (q0 := 0) rfl rfl rfl (Nat.le_of_ble_eq_true rfl) dX0_init_22 (fun H locs hW => ?_)
  have hW : WL K [(h0, .inr (0, [.ref q12155, .ref q12156, .int (0 : Int32)])), (q12155, ia (cA 0) 48 (fun _ => 0)), (q12156, ia (cA 0) 48 (fun _ => 0))] H locs := hW
  exact hE _ _ _ _ _ hW ⟨q12155, q12156, rfl⟩ dX0_init_25

theorem dX1_init_0 : decode cX1_init 0 = .ok (.aload_n 0, 1) := by decide +kernel
theorem dX1_init_1 : decode cX1_init 1 = .ok (.invokespecial 3, 3) := by decide +kernel
theorem dX1_init_4 : decode cX1_init 4 = .ok (.aload_n 0, 1) := by decide +kernel
theorem dX1_init_5 : decode cX1_init 5 = .ok (.aload_n 1, 1) := by decide +kernel
theorem dX1_init_6 : decode cX1_init 6 = .ok (.putfield 9, 3) := by decide +kernel
theorem dX1_init_9 : decode cX1_init 9 = .ok (.aload_n 0, 1) := by decide +kernel
theorem dX1_init_10 : decode cX1_init 10 = .ok (.aload_n 2, 1) := by decide +kernel
theorem dX1_init_11 : decode cX1_init 11 = .ok (.putfield 15, 3) := by decide +kernel
theorem dX1_init_14 : decode cX1_init 14 = .ok (.aload_n 0, 1) := by decide +kernel
theorem dX1_init_15 : decode cX1_init 15 = .ok (.iconst 0, 1) := by decide +kernel
theorem dX1_init_16 : decode cX1_init 16 = .ok (.putfield 19, 3) := by decide +kernel
theorem dX1_init_19 : decode cX1_init 19 = .ok (.aload_n 0, 1) := by decide +kernel
theorem dX1_init_20 : decode cX1_init 20 = .ok (.iconst 0, 1) := by decide +kernel
theorem dX1_init_21 : decode cX1_init 21 = .ok (.putfield 23, 3) := by decide +kernel
theorem dX1_init_24 : decode cX1_init 24 = .ok (.aload_n 0, 1) := by decide +kernel
theorem dX1_init_25 : decode cX1_init 25 = .ok (.iconst 0, 1) := by decide +kernel
theorem dX1_init_26 : decode cX1_init 26 = .ok (.putfield 26, 3) := by decide +kernel
theorem dX1_init_29 : decode cX1_init 29 = .ok (.return_, 1) := by decide +kernel
theorem FF_X1_9 : FF RX1 9 1 5 0 (.array .int) := ⟨RX1, TX1, tyX1, rfl, wX1, by decide, kAW (v_0_11 (List.mem_of_getElem? (i := 4) rfl)) rfl, rfl, tyX1_ok, nmX1, by decide +kernel, rfl, rfl⟩
theorem FQ_X1_15 : FP RX1 15 1 5 4 (.object "ForgetSchool$Art") := ⟨RX1, TX1, tyX1, rfl, wX1, by decide, kAW (v_0_11 (List.mem_of_getElem? (i := 8) rfl)) rfl, rfl, tyX1_ok, nmX1, by decide +kernel, rfl⟩
theorem FQ_X1_19 : FP RX1 19 1 5 1 .int := ⟨RX1, TX1, tyX1, rfl, wX1, by decide, kAW (v_0_11 (List.mem_of_getElem? (i := 5) rfl)) rfl, rfl, tyX1_ok, nmX1, by decide +kernel, rfl⟩
theorem FQ_X1_23 : FP RX1 23 1 5 2 .int := ⟨RX1, TX1, tyX1, rfl, wX1, by decide, kAW (v_0_11 (List.mem_of_getElem? (i := 6) rfl)) rfl, rfl, tyX1_ok, nmX1, by decide +kernel, rfl⟩
theorem FQ_X1_26 : FP RX1 26 1 5 3 .int := ⟨RX1, TX1, tyX1, rfl, wX1, by decide, kAW (v_0_11 (List.mem_of_getElem? (i := 7) rfl)) rfl, rfl, tyX1_ok, nmX1, by decide +kernel, rfl⟩
set_option maxRecDepth 100000 in
set_option maxHeartbeats 8000000 in
theorem k_X1_init (l : Launch) (D : va_G) (cA : Nat → ClassId) (h0 t0 a0 : Nat) : CI l cA D yX1_init cX1_init 3 (1, 0, 0, 20) [.ref h0, .ref t0, .ref a0] [(h0, .inr (1, [.null, .int (0 : Int32), .int (0 : Int32), .int (0 : Int32), .null]))] (fun ws1 => ws1 = [(h0, .inr (1, [.ref t0, .int (0 : Int32), .int (0 : Int32), .int (0 : Int32), .ref a0]))]) := by
  refine q_enterL (by decide) rfl (Nat.le_of_ble_eq_true rfl) (fun K H locs ls _ _ hM hI hW hR hC hE hl => ?_)
  have hl : lv_has ls 3 [(0, .ref h0), (1, .ref t0), (2, .ref a0)] := hl
  have hW : WL K [(h0, .inr (1, [.null, .int (0 : Int32), .int (0 : Int32), .int (0 : Int32), .null]))] H locs := hW
  refine q_aload_n hM dX1_init_0 (lv_at hl 0 rfl) ?_
  refine l_obj hM hR (by decide) (kAW (v_0_11 (List.mem_of_getElem? (i := 3) rfl)) rfl) (kAW (v_0_1 (List.mem_of_getElem? (i := 11) rfl)) rfl) (kAW (v_0_1 (List.mem_of_getElem? (i := 12) rfl)) rfl) hl.1 dX1_init_1 ?_
  refine q_aload_n hM dX1_init_4 (lv_at hl 0 rfl) ?_
  refine q_aload_n hM dX1_init_5 (lv_at hl 1 rfl) ?_
  refine l_putf hM hW hI FF_X1_9 (q0 := 0) rfl rfl rfl (Nat.le_of_ble_eq_true rfl) dX1_init_6 (fun H locs hW => ?_)
  have hW : WL K [(h0, .inr (1, [.ref t0, .int (0 : Int32), .int (0 : Int32), .int (0 : Int32), .null]))] H locs := hW
  refine q_aload_n hM dX1_init_9 (lv_at hl 0 rfl) ?_
  refine q_aload_n hM dX1_init_10 (lv_at hl 2 rfl) ?_
  refine l_put hM hW FQ_X1_15 (q0 := 0) rfl rfl rfl (Nat.le_of_ble_eq_true rfl) dX1_init_11 (fun H locs hW => ?_)
  have hW : WL K [(h0, .inr (1, [.ref t0, .int (0 : Int32), .int (0 : Int32), .int (0 : Int32), .ref a0]))] H locs := hW
  refine q_aload_n hM dX1_init_14 (lv_at hl 0 rfl) ?_
  refine q_iconst (v := (0 : Int32)) hM dX1_init_15 (by decide) ?_
  refine l_put hM hW FQ_X1_19 (q0 := 0) rfl rfl rfl (Nat.le_of_ble_eq_true rfl) dX1_init_16 (fun H locs hW => ?_)
  have hW : WL K [(h0, .inr (1, [.ref t0, .int (0 : Int32), .int (0 : Int32), .int (0 : Int32), .ref a0]))] H locs := hW
  refine q_aload_n hM dX1_init_19 (lv_at hl 0 rfl) ?_
  refine q_iconst (v := (0 : Int32)) hM dX1_init_20 (by decide) ?_
  refine l_put hM hW FQ_X1_23 (q0 := 0) rfl rfl rfl (Nat.le_of_ble_eq_true rfl) dX1_init_21 (fun H locs hW => ?_)
  have hW : WL K [(h0, .inr (1, [.ref t0, .int (0 : Int32), .int (0 : Int32), .int (0 : Int32), .ref a0]))] H locs := hW
  refine q_aload_n hM dX1_init_24 (lv_at hl 0 rfl) ?_
  refine q_iconst (v := (0 : Int32)) hM dX1_init_25 (by decide) ?_
  refine l_put hM hW FQ_X1_26 (q0 := 0) rfl rfl rfl (Nat.le_of_ble_eq_true rfl) dX1_init_26 (fun H locs hW => ?_)
  have hW : WL K [(h0, .inr (1, [.ref t0, .int (0 : Int32), .int (0 : Int32), .int (0 : Int32), .ref a0]))] H locs := hW
  exact hE _ _ _ _ _ hW rfl dX1_init_29

theorem dX4_init_0 : decode cX4_init 0 = .ok (.aload_n 0, 1) := by decide +kernel
theorem dX4_init_1 : decode cX4_init 1 = .ok (.invokespecial 3, 3) := by decide +kernel
theorem dX4_init_4 : decode cX4_init 4 = .ok (.aload_n 0, 1) := by decide +kernel
theorem dX4_init_5 : decode cX4_init 5 = .ok (.aload_n 1, 1) := by decide +kernel
theorem dX4_init_6 : decode cX4_init 6 = .ok (.putfield 9, 3) := by decide +kernel
theorem dX4_init_9 : decode cX4_init 9 = .ok (.aload_n 0, 1) := by decide +kernel
theorem dX4_init_10 : decode cX4_init 10 = .ok (.aload_n 2, 1) := by decide +kernel
theorem dX4_init_11 : decode cX4_init 11 = .ok (.putfield 15, 3) := by decide +kernel
theorem dX4_init_14 : decode cX4_init 14 = .ok (.aload_n 0, 1) := by decide +kernel
theorem dX4_init_15 : decode cX4_init 15 = .ok (.iconst 0, 1) := by decide +kernel
theorem dX4_init_16 : decode cX4_init 16 = .ok (.putfield 19, 3) := by decide +kernel
theorem dX4_init_19 : decode cX4_init 19 = .ok (.aload_n 0, 1) := by decide +kernel
theorem dX4_init_20 : decode cX4_init 20 = .ok (.iconst 0, 1) := by decide +kernel
theorem dX4_init_21 : decode cX4_init 21 = .ok (.putfield 23, 3) := by decide +kernel
theorem dX4_init_24 : decode cX4_init 24 = .ok (.aload_n 0, 1) := by decide +kernel
theorem dX4_init_25 : decode cX4_init 25 = .ok (.iconst 0, 1) := by decide +kernel
theorem dX4_init_26 : decode cX4_init 26 = .ok (.putfield 26, 3) := by decide +kernel
theorem dX4_init_29 : decode cX4_init 29 = .ok (.return_, 1) := by decide +kernel
theorem FF_X4_9 : FF RX4 9 4 5 0 (.array .int) := ⟨RX4, TX4, tyX4, rfl, wX4, by decide, kAW (v_0_12 (List.mem_of_getElem? (i := 10) rfl)) rfl, rfl, tyX4_ok, nmX4, by decide +kernel, rfl, rfl⟩
theorem FQ_X4_15 : FP RX4 15 4 5 4 (.object "ForgetSchool$Law") := ⟨RX4, TX4, tyX4, rfl, wX4, by decide, kAW (v_0_12 (List.mem_of_getElem? (i := 14) rfl)) rfl, rfl, tyX4_ok, nmX4, by decide +kernel, rfl⟩
theorem FQ_X4_19 : FP RX4 19 4 5 1 .int := ⟨RX4, TX4, tyX4, rfl, wX4, by decide, kAW (v_0_12 (List.mem_of_getElem? (i := 11) rfl)) rfl, rfl, tyX4_ok, nmX4, by decide +kernel, rfl⟩
theorem FQ_X4_23 : FP RX4 23 4 5 2 .int := ⟨RX4, TX4, tyX4, rfl, wX4, by decide, kAW (v_0_12 (List.mem_of_getElem? (i := 12) rfl)) rfl, rfl, tyX4_ok, nmX4, by decide +kernel, rfl⟩
theorem FQ_X4_26 : FP RX4 26 4 5 3 .int := ⟨RX4, TX4, tyX4, rfl, wX4, by decide, kAW (v_0_12 (List.mem_of_getElem? (i := 13) rfl)) rfl, rfl, tyX4_ok, nmX4, by decide +kernel, rfl⟩
set_option maxRecDepth 100000 in
set_option maxHeartbeats 8000000 in
theorem k_X4_init (l : Launch) (D : va_G) (cA : Nat → ClassId) (h0 t0 a0 : Nat) : CI l cA D yX4_init cX4_init 3 (1, 0, 0, 20) [.ref h0, .ref t0, .ref a0] [(h0, .inr (4, [.null, .int (0 : Int32), .int (0 : Int32), .int (0 : Int32), .null]))] (fun ws1 => ws1 = [(h0, .inr (4, [.ref t0, .int (0 : Int32), .int (0 : Int32), .int (0 : Int32), .ref a0]))]) := by
  refine q_enterL (by decide) rfl (Nat.le_of_ble_eq_true rfl) (fun K H locs ls _ _ hM hI hW hR hC hE hl => ?_)
  have hl : lv_has ls 3 [(0, .ref h0), (1, .ref t0), (2, .ref a0)] := hl
  have hW : WL K [(h0, .inr (4, [.null, .int (0 : Int32), .int (0 : Int32), .int (0 : Int32), .null]))] H locs := hW
  refine q_aload_n hM dX4_init_0 (lv_at hl 0 rfl) ?_
  refine l_obj hM hR (by decide) (kAW (v_0_12 (List.mem_of_getElem? (i := 9) rfl)) rfl) (kAW (v_0_1 (List.mem_of_getElem? (i := 11) rfl)) rfl) (kAW (v_0_1 (List.mem_of_getElem? (i := 12) rfl)) rfl) hl.1 dX4_init_1 ?_
  refine q_aload_n hM dX4_init_4 (lv_at hl 0 rfl) ?_
  refine q_aload_n hM dX4_init_5 (lv_at hl 1 rfl) ?_
  refine l_putf hM hW hI FF_X4_9 (q0 := 0) rfl rfl rfl (Nat.le_of_ble_eq_true rfl) dX4_init_6 (fun H locs hW => ?_)
  have hW : WL K [(h0, .inr (4, [.ref t0, .int (0 : Int32), .int (0 : Int32), .int (0 : Int32), .null]))] H locs := hW
  refine q_aload_n hM dX4_init_9 (lv_at hl 0 rfl) ?_
  refine q_aload_n hM dX4_init_10 (lv_at hl 2 rfl) ?_
  refine l_put hM hW FQ_X4_15 (q0 := 0) rfl rfl rfl (Nat.le_of_ble_eq_true rfl) dX4_init_11 (fun H locs hW => ?_)
  have hW : WL K [(h0, .inr (4, [.ref t0, .int (0 : Int32), .int (0 : Int32), .int (0 : Int32), .ref a0]))] H locs := hW
  refine q_aload_n hM dX4_init_14 (lv_at hl 0 rfl) ?_
  refine q_iconst (v := (0 : Int32)) hM dX4_init_15 (by decide) ?_
  refine l_put hM hW FQ_X4_19 (q0 := 0) rfl rfl rfl (Nat.le_of_ble_eq_true rfl) dX4_init_16 (fun H locs hW => ?_)
  have hW : WL K [(h0, .inr (4, [.ref t0, .int (0 : Int32), .int (0 : Int32), .int (0 : Int32), .ref a0]))] H locs := hW
  refine q_aload_n hM dX4_init_19 (lv_at hl 0 rfl) ?_
  refine q_iconst (v := (0 : Int32)) hM dX4_init_20 (by decide) ?_
  refine l_put hM hW FQ_X4_23 (q0 := 0) rfl rfl rfl (Nat.le_of_ble_eq_true rfl) dX4_init_21 (fun H locs hW => ?_)
  have hW : WL K [(h0, .inr (4, [.ref t0, .int (0 : Int32), .int (0 : Int32), .int (0 : Int32), .ref a0]))] H locs := hW
  refine q_aload_n hM dX4_init_24 (lv_at hl 0 rfl) ?_
  refine q_iconst (v := (0 : Int32)) hM dX4_init_25 (by decide) ?_
  refine l_put hM hW FQ_X4_26 (q0 := 0) rfl rfl rfl (Nat.le_of_ble_eq_true rfl) dX4_init_26 (fun H locs hW => ?_)
  have hW : WL K [(h0, .inr (4, [.ref t0, .int (0 : Int32), .int (0 : Int32), .int (0 : Int32), .ref a0]))] H locs := hW
  exact hE _ _ _ _ _ hW rfl dX4_init_29

theorem dX9_init_0 : decode cX9_init 0 = .ok (.aload_n 0, 1) := by decide +kernel
theorem dX9_init_1 : decode cX9_init 1 = .ok (.invokespecial 3, 3) := by decide +kernel
theorem dX9_init_4 : decode cX9_init 4 = .ok (.aload_n 0, 1) := by decide +kernel
theorem dX9_init_5 : decode cX9_init 5 = .ok (.bipush 8, 2) := by decide +kernel
theorem dX9_init_7 : decode cX9_init 7 = .ok (.bipush 8, 2) := by decide +kernel
theorem dX9_init_9 : decode cX9_init 9 = .ok (.multianewarray 9 2, 4) := by decide +kernel
theorem dX9_init_13 : decode cX9_init 13 = .ok (.putfield 11, 3) := by decide +kernel
theorem dX9_init_16 : decode cX9_init 16 = .ok (.aload_n 0, 1) := by decide +kernel
theorem dX9_init_17 : decode cX9_init 17 = .ok (.iconst 5, 1) := by decide +kernel
theorem dX9_init_18 : decode cX9_init 18 = .ok (.bipush 6, 2) := by decide +kernel
theorem dX9_init_20 : decode cX9_init 20 = .ok (.multianewarray 9 2, 4) := by decide +kernel
theorem dX9_init_24 : decode cX9_init 24 = .ok (.putfield 16, 3) := by decide +kernel
theorem dX9_init_27 : decode cX9_init 27 = .ok (.aload_n 0, 1) := by decide +kernel
theorem dX9_init_28 : decode cX9_init 28 = .ok (.bipush 6, 2) := by decide +kernel
theorem dX9_init_30 : decode cX9_init 30 = .ok (.newarray .int, 2) := by decide +kernel
theorem dX9_init_32 : decode cX9_init 32 = .ok (.putfield 19, 3) := by decide +kernel
theorem dX9_init_35 : decode cX9_init 35 = .ok (.aload_n 0, 1) := by decide +kernel
theorem dX9_init_36 : decode cX9_init 36 = .ok (.bipush 6, 2) := by decide +kernel
theorem dX9_init_38 : decode cX9_init 38 = .ok (.newarray .int, 2) := by decide +kernel
theorem dX9_init_40 : decode cX9_init 40 = .ok (.putfield 23, 3) := by decide +kernel
theorem dX9_init_43 : decode cX9_init 43 = .ok (.aload_n 0, 1) := by decide +kernel
theorem dX9_init_44 : decode cX9_init 44 = .ok (.iconst 0, 1) := by decide +kernel
theorem dX9_init_45 : decode cX9_init 45 = .ok (.putfield 26, 3) := by decide +kernel
theorem dX9_init_48 : decode cX9_init 48 = .ok (.return_, 1) := by decide +kernel
theorem FF_X9_11 : FF RX9 11 9 5 0 (.array (.array .int)) := ⟨RX9, TX9, tyX9, rfl, wX9, by decide, kAW (v_1_2 (List.mem_of_getElem? (i := 5) rfl)) rfl, rfl, tyX9_ok, nmX9, by decide +kernel, rfl, rfl⟩
theorem FF_X9_16 : FF RX9 16 9 5 1 (.array (.array .int)) := ⟨RX9, TX9, tyX9, rfl, wX9, by decide, kAW (v_1_2 (List.mem_of_getElem? (i := 7) rfl)) rfl, rfl, tyX9_ok, nmX9, by decide +kernel, rfl, rfl⟩
theorem FF_X9_19 : FF RX9 19 9 5 2 (.array .int) := ⟨RX9, TX9, tyX9, rfl, wX9, by decide, kAW (v_1_2 (List.mem_of_getElem? (i := 9) rfl)) rfl, rfl, tyX9_ok, nmX9, by decide +kernel, rfl, rfl⟩
theorem FF_X9_23 : FF RX9 23 9 5 3 (.array .int) := ⟨RX9, TX9, tyX9, rfl, wX9, by decide, kAW (v_1_2 (List.mem_of_getElem? (i := 11) rfl)) rfl, rfl, tyX9_ok, nmX9, by decide +kernel, rfl, rfl⟩
theorem FQ_X9_26 : FP RX9 26 9 5 4 .int := ⟨RX9, TX9, tyX9, rfl, wX9, by decide, kAW (v_1_2 (List.mem_of_getElem? (i := 12) rfl)) rfl, rfl, tyX9_ok, nmX9, by decide +kernel, rfl⟩
set_option maxRecDepth 100000 in
set_option maxHeartbeats 8000000 in
theorem k_X9_init (l : Launch) (D : va_G) (cA : Nat → ClassId) (h0 : Nat) : CI l cA D yX9_init cX9_init 1 (1, 17, 119, 20) [.ref h0] [(h0, .inr (9, [.null, .null, .null, .null, .int (0 : Int32)]))] (fun ws1 => ∃ (q1 : Nat) (r1 : Nat → Nat) (q2 : Nat) (r2 : Nat → Nat) (q3 : Nat) (q4 : Nat), ws1 = [(h0, .inr (9, [.ref q1, .ref q2, .ref q3, .ref q4, .int (0 : Int32)])), (q1, qa (cA 1) 8 (fun i => if i < 8 then some (r1 i) else none)), ((r1 0), ia (cA 0) 8 (fun _ => 0)), ((r1 1), ia (cA 0) 8 (fun _ => 0)), ((r1 2), ia (cA 0) 8 (fun _ => 0)), ((r1 3), ia (cA 0) 8 (fun _ => 0)), ((r1 4), ia (cA 0) 8 (fun _ => 0)), ((r1 5), ia (cA 0) 8 (fun _ => 0)), ((r1 6), ia (cA 0) 8 (fun _ => 0)), ((r1 7), ia (cA 0) 8 (fun _ => 0)), (q2, qa (cA 1) 5 (fun i => if i < 5 then some (r2 i) else none)), ((r2 0), ia (cA 0) 6 (fun _ => 0)), ((r2 1), ia (cA 0) 6 (fun _ => 0)), ((r2 2), ia (cA 0) 6 (fun _ => 0)), ((r2 3), ia (cA 0) 6 (fun _ => 0)), ((r2 4), ia (cA 0) 6 (fun _ => 0)), (q3, ia (cA 0) 6 (fun _ => 0)), (q4, ia (cA 0) 6 (fun _ => 0))]) := by
  refine q_enterL (by decide) rfl (Nat.le_of_ble_eq_true rfl) (fun K H locs ls _ _ hM hI hW hR hC hE hl => ?_)
  have hl : lv_has ls 1 [(0, .ref h0)] := hl
  have hW : WL K [(h0, .inr (9, [.null, .null, .null, .null, .int (0 : Int32)]))] H locs := hW
  refine q_aload_n hM dX9_init_0 (lv_at hl 0 rfl) ?_
  refine l_obj hM hR (by decide) (kAW (v_1_2 (List.mem_of_getElem? (i := 3) rfl)) rfl) (kAW (v_0_1 (List.mem_of_getElem? (i := 11) rfl)) rfl) (kAW (v_0_1 (List.mem_of_getElem? (i := 12) rfl)) rfl) hl.1 dX9_init_1 ?_
  refine q_aload_n hM dX9_init_4 (lv_at hl 0 rfl) ?_
  refine q_bipush (v := (8 : Int32)) hM dX9_init_5 (by decide) ?_
  refine q_bipush (v := (8 : Int32)) hM dX9_init_7 (by decide) ?_
  refine l_mna (N' := 8) (K' := 8) hM hW ⟨Nat.le_trans (Nat.le_of_ble_eq_true rfl) hC.1, Nat.le_trans (Nat.le_of_ble_eq_true rfl) hC.2⟩ (kAW (v_1_2 (List.mem_of_getElem? (i := 4) rfl)) rfl) (kAW (v_0_2 (List.mem_of_getElem? (i := 12) rfl)) rfl) (by decide) (by decide) (by decide) (by decide) (Nat.le_of_ble_eq_true rfl) (Nat.le_of_ble_eq_true rfl) dX9_init_9 (fun q12157 r12158 H hW => ?_)
  have hW : WL K [(h0, .inr (9, [.null, .null, .null, .null, .int (0 : Int32)])), (q12157, qa (cA 1) 8 (fun i => if i < 8 then some (r12158 i) else none)), ((r12158 0), ia (cA 0) 8 (fun _ => 0)), ((r12158 1), ia (cA 0) 8 (fun _ => 0)), ((r12158 2), ia (cA 0) 8 (fun _ => 0)), ((r12158 3), ia (cA 0) 8 (fun _ => 0)), ((r12158 4), ia (cA 0) 8 (fun _ => 0)), ((r12158 5), ia (cA 0) 8 (fun _ => 0)), ((r12158 6), ia (cA 0) 8 (fun _ => 0)), ((r12158 7), ia (cA 0) 8 (fun _ => 0))] H locs := hW
  refine (show XX K 9 72 H locs 13 ls [.ref q12157, .ref h0] from ?_)
  refine l_putf hM hW hI FF_X9_11 (q0 := 0) rfl rfl rfl (Nat.le_of_ble_eq_true rfl) dX9_init_13 (fun H locs hW => ?_)
  have hW : WL K [(h0, .inr (9, [.ref q12157, .null, .null, .null, .int (0 : Int32)])), (q12157, qa (cA 1) 8 (fun i => if i < 8 then some (r12158 i) else none)), ((r12158 0), ia (cA 0) 8 (fun _ => 0)), ((r12158 1), ia (cA 0) 8 (fun _ => 0)), ((r12158 2), ia (cA 0) 8 (fun _ => 0)), ((r12158 3), ia (cA 0) 8 (fun _ => 0)), ((r12158 4), ia (cA 0) 8 (fun _ => 0)), ((r12158 5), ia (cA 0) 8 (fun _ => 0)), ((r12158 6), ia (cA 0) 8 (fun _ => 0)), ((r12158 7), ia (cA 0) 8 (fun _ => 0))] H locs := hW
  refine q_aload_n hM dX9_init_16 (lv_at hl 0 rfl) ?_
  refine q_iconst (v := (5 : Int32)) hM dX9_init_17 (by decide) ?_
  refine q_bipush (v := (6 : Int32)) hM dX9_init_18 (by decide) ?_
  refine l_mna (N' := 5) (K' := 6) hM hW ⟨Nat.le_trans (Nat.le_of_ble_eq_true rfl) hC.1, Nat.le_trans (Nat.le_of_ble_eq_true rfl) hC.2⟩ (kAW (v_1_2 (List.mem_of_getElem? (i := 4) rfl)) rfl) (kAW (v_0_2 (List.mem_of_getElem? (i := 12) rfl)) rfl) (by decide) (by decide) (by decide) (by decide) (Nat.le_of_ble_eq_true rfl) (Nat.le_of_ble_eq_true rfl) dX9_init_20 (fun q12159 r12160 H hW => ?_)
  have hW : WL K [(h0, .inr (9, [.ref q12157, .null, .null, .null, .int (0 : Int32)])), (q12157, qa (cA 1) 8 (fun i => if i < 8 then some (r12158 i) else none)), ((r12158 0), ia (cA 0) 8 (fun _ => 0)), ((r12158 1), ia (cA 0) 8 (fun _ => 0)), ((r12158 2), ia (cA 0) 8 (fun _ => 0)), ((r12158 3), ia (cA 0) 8 (fun _ => 0)), ((r12158 4), ia (cA 0) 8 (fun _ => 0)), ((r12158 5), ia (cA 0) 8 (fun _ => 0)), ((r12158 6), ia (cA 0) 8 (fun _ => 0)), ((r12158 7), ia (cA 0) 8 (fun _ => 0)), (q12159, qa (cA 1) 5 (fun i => if i < 5 then some (r12160 i) else none)), ((r12160 0), ia (cA 0) 6 (fun _ => 0)), ((r12160 1), ia (cA 0) 6 (fun _ => 0)), ((r12160 2), ia (cA 0) 6 (fun _ => 0)), ((r12160 3), ia (cA 0) 6 (fun _ => 0)), ((r12160 4), ia (cA 0) 6 (fun _ => 0))] H locs := hW
  refine (show XX K 15 107 H locs 24 ls [.ref q12159, .ref h0] from ?_)
  refine l_putf hM hW hI FF_X9_16 (q0 := 0) rfl rfl rfl (Nat.le_of_ble_eq_true rfl) dX9_init_24 (fun H locs hW => ?_)
  have hW : WL K [(h0, .inr (9, [.ref q12157, .ref q12159, .null, .null, .int (0 : Int32)])), (q12157, qa (cA 1) 8 (fun i => if i < 8 then some (r12158 i) else none)), ((r12158 0), ia (cA 0) 8 (fun _ => 0)), ((r12158 1), ia (cA 0) 8 (fun _ => 0)), ((r12158 2), ia (cA 0) 8 (fun _ => 0)), ((r12158 3), ia (cA 0) 8 (fun _ => 0)), ((r12158 4), ia (cA 0) 8 (fun _ => 0)), ((r12158 5), ia (cA 0) 8 (fun _ => 0)), ((r12158 6), ia (cA 0) 8 (fun _ => 0)), ((r12158 7), ia (cA 0) 8 (fun _ => 0)), (q12159, qa (cA 1) 5 (fun i => if i < 5 then some (r12160 i) else none)), ((r12160 0), ia (cA 0) 6 (fun _ => 0)), ((r12160 1), ia (cA 0) 6 (fun _ => 0)), ((r12160 2), ia (cA 0) 6 (fun _ => 0)), ((r12160 3), ia (cA 0) 6 (fun _ => 0)), ((r12160 4), ia (cA 0) 6 (fun _ => 0))] H locs := hW
  refine q_aload_n hM dX9_init_27 (lv_at hl 0 rfl) ?_
  refine q_bipush (v := (6 : Int32)) hM dX9_init_28 (by decide) ?_
  refine l_newI (N' := 6) hM hW ⟨Nat.le_trans (Nat.le_of_ble_eq_true rfl) hC.1, Nat.le_trans (Nat.le_of_ble_eq_true rfl) hC.2⟩ (kAW (v_0_2 (List.mem_of_getElem? (i := 12) rfl)) rfl) (by decide) (by decide) (Nat.le_of_ble_eq_true rfl) dX9_init_30 (fun q12161 H hW => ?_)
  have hW : WL K [(h0, .inr (9, [.ref q12157, .ref q12159, .null, .null, .int (0 : Int32)])), (q12157, qa (cA 1) 8 (fun i => if i < 8 then some (r12158 i) else none)), ((r12158 0), ia (cA 0) 8 (fun _ => 0)), ((r12158 1), ia (cA 0) 8 (fun _ => 0)), ((r12158 2), ia (cA 0) 8 (fun _ => 0)), ((r12158 3), ia (cA 0) 8 (fun _ => 0)), ((r12158 4), ia (cA 0) 8 (fun _ => 0)), ((r12158 5), ia (cA 0) 8 (fun _ => 0)), ((r12158 6), ia (cA 0) 8 (fun _ => 0)), ((r12158 7), ia (cA 0) 8 (fun _ => 0)), (q12159, qa (cA 1) 5 (fun i => if i < 5 then some (r12160 i) else none)), ((r12160 0), ia (cA 0) 6 (fun _ => 0)), ((r12160 1), ia (cA 0) 6 (fun _ => 0)), ((r12160 2), ia (cA 0) 6 (fun _ => 0)), ((r12160 3), ia (cA 0) 6 (fun _ => 0)), ((r12160 4), ia (cA 0) 6 (fun _ => 0)), (q12161, ia (cA 0) 6 (fun _ => 0))] H locs := hW
  refine (show XX K 16 113 H locs 32 ls [.ref q12161, .ref h0] from ?_)
  refine l_putf hM hW hI FF_X9_19 (q0 := 0) rfl rfl rfl (Nat.le_of_ble_eq_true rfl) dX9_init_32 (fun H locs hW => ?_)
  have hW : WL K [(h0, .inr (9, [.ref q12157, .ref q12159, .ref q12161, .null, .int (0 : Int32)])), (q12157, qa (cA 1) 8 (fun i => if i < 8 then some (r12158 i) else none)), ((r12158 0), ia (cA 0) 8 (fun _ => 0)), ((r12158 1), ia (cA 0) 8 (fun _ => 0)), ((r12158 2), ia (cA 0) 8 (fun _ => 0)), ((r12158 3), ia (cA 0) 8 (fun _ => 0)), ((r12158 4), ia (cA 0) 8 (fun _ => 0)), ((r12158 5), ia (cA 0) 8 (fun _ => 0)), ((r12158 6), ia (cA 0) 8 (fun _ => 0)), ((r12158 7), ia (cA 0) 8 (fun _ => 0)), (q12159, qa (cA 1) 5 (fun i => if i < 5 then some (r12160 i) else none)), ((r12160 0), ia (cA 0) 6 (fun _ => 0)), ((r12160 1), ia (cA 0) 6 (fun _ => 0)), ((r12160 2), ia (cA 0) 6 (fun _ => 0)), ((r12160 3), ia (cA 0) 6 (fun _ => 0)), ((r12160 4), ia (cA 0) 6 (fun _ => 0)), (q12161, ia (cA 0) 6 (fun _ => 0))] H locs := hW
  refine q_aload_n hM dX9_init_35 (lv_at hl 0 rfl) ?_
  refine q_bipush (v := (6 : Int32)) hM dX9_init_36 (by decide) ?_
  refine l_newI (N' := 6) hM hW ⟨Nat.le_trans (Nat.le_of_ble_eq_true rfl) hC.1, Nat.le_trans (Nat.le_of_ble_eq_true rfl) hC.2⟩ (kAW (v_0_2 (List.mem_of_getElem? (i := 12) rfl)) rfl) (by decide) (by decide) (Nat.le_of_ble_eq_true rfl) dX9_init_38 (fun q12162 H hW => ?_)
  have hW : WL K [(h0, .inr (9, [.ref q12157, .ref q12159, .ref q12161, .null, .int (0 : Int32)])), (q12157, qa (cA 1) 8 (fun i => if i < 8 then some (r12158 i) else none)), ((r12158 0), ia (cA 0) 8 (fun _ => 0)), ((r12158 1), ia (cA 0) 8 (fun _ => 0)), ((r12158 2), ia (cA 0) 8 (fun _ => 0)), ((r12158 3), ia (cA 0) 8 (fun _ => 0)), ((r12158 4), ia (cA 0) 8 (fun _ => 0)), ((r12158 5), ia (cA 0) 8 (fun _ => 0)), ((r12158 6), ia (cA 0) 8 (fun _ => 0)), ((r12158 7), ia (cA 0) 8 (fun _ => 0)), (q12159, qa (cA 1) 5 (fun i => if i < 5 then some (r12160 i) else none)), ((r12160 0), ia (cA 0) 6 (fun _ => 0)), ((r12160 1), ia (cA 0) 6 (fun _ => 0)), ((r12160 2), ia (cA 0) 6 (fun _ => 0)), ((r12160 3), ia (cA 0) 6 (fun _ => 0)), ((r12160 4), ia (cA 0) 6 (fun _ => 0)), (q12161, ia (cA 0) 6 (fun _ => 0)), (q12162, ia (cA 0) 6 (fun _ => 0))] H locs := hW
  refine (show XX K 17 119 H locs 40 ls [.ref q12162, .ref h0] from ?_)
  refine l_putf hM hW hI FF_X9_23 (q0 := 0) rfl rfl rfl (Nat.le_of_ble_eq_true rfl) dX9_init_40 (fun H locs hW => ?_)
  have hW : WL K [(h0, .inr (9, [.ref q12157, .ref q12159, .ref q12161, .ref q12162, .int (0 : Int32)])), (q12157, qa (cA 1) 8 (fun i => if i < 8 then some (r12158 i) else none)), ((r12158 0), ia (cA 0) 8 (fun _ => 0)), ((r12158 1), ia (cA 0) 8 (fun _ => 0)), ((r12158 2), ia (cA 0) 8 (fun _ => 0)), ((r12158 3), ia (cA 0) 8 (fun _ => 0)), ((r12158 4), ia (cA 0) 8 (fun _ => 0)), ((r12158 5), ia (cA 0) 8 (fun _ => 0)), ((r12158 6), ia (cA 0) 8 (fun _ => 0)), ((r12158 7), ia (cA 0) 8 (fun _ => 0)), (q12159, qa (cA 1) 5 (fun i => if i < 5 then some (r12160 i) else none)), ((r12160 0), ia (cA 0) 6 (fun _ => 0)), ((r12160 1), ia (cA 0) 6 (fun _ => 0)), ((r12160 2), ia (cA 0) 6 (fun _ => 0)), ((r12160 3), ia (cA 0) 6 (fun _ => 0)), ((r12160 4), ia (cA 0) 6 (fun _ => 0)), (q12161, ia (cA 0) 6 (fun _ => 0)), (q12162, ia (cA 0) 6 (fun _ => 0))] H locs := hW
  refine q_aload_n hM dX9_init_43 (lv_at hl 0 rfl) ?_
  refine q_iconst (v := (0 : Int32)) hM dX9_init_44 (by decide) ?_
  refine l_put hM hW FQ_X9_26 (q0 := 0) rfl rfl rfl (Nat.le_of_ble_eq_true rfl) dX9_init_45 (fun H locs hW => ?_)
  have hW : WL K [(h0, .inr (9, [.ref q12157, .ref q12159, .ref q12161, .ref q12162, .int (0 : Int32)])), (q12157, qa (cA 1) 8 (fun i => if i < 8 then some (r12158 i) else none)), ((r12158 0), ia (cA 0) 8 (fun _ => 0)), ((r12158 1), ia (cA 0) 8 (fun _ => 0)), ((r12158 2), ia (cA 0) 8 (fun _ => 0)), ((r12158 3), ia (cA 0) 8 (fun _ => 0)), ((r12158 4), ia (cA 0) 8 (fun _ => 0)), ((r12158 5), ia (cA 0) 8 (fun _ => 0)), ((r12158 6), ia (cA 0) 8 (fun _ => 0)), ((r12158 7), ia (cA 0) 8 (fun _ => 0)), (q12159, qa (cA 1) 5 (fun i => if i < 5 then some (r12160 i) else none)), ((r12160 0), ia (cA 0) 6 (fun _ => 0)), ((r12160 1), ia (cA 0) 6 (fun _ => 0)), ((r12160 2), ia (cA 0) 6 (fun _ => 0)), ((r12160 3), ia (cA 0) 6 (fun _ => 0)), ((r12160 4), ia (cA 0) 6 (fun _ => 0)), (q12161, ia (cA 0) 6 (fun _ => 0)), (q12162, ia (cA 0) 6 (fun _ => 0))] H locs := hW
  exact hE _ _ _ _ _ hW ⟨q12157, r12158, q12159, r12160, q12161, q12162, rfl⟩ dX9_init_48

theorem dX8_init_0 : decode cX8_init 0 = .ok (.aload_n 0, 1) := by decide +kernel
theorem dX8_init_1 : decode cX8_init 1 = .ok (.invokespecial 3, 3) := by decide +kernel
theorem dX8_init_4 : decode cX8_init 4 = .ok (.aload_n 0, 1) := by decide +kernel
theorem dX8_init_5 : decode cX8_init 5 = .ok (.iconst 5, 1) := by decide +kernel
theorem dX8_init_6 : decode cX8_init 6 = .ok (.newarray .int, 2) := by decide +kernel
theorem dX8_init_8 : decode cX8_init 8 = .ok (.putfield 11, 3) := by decide +kernel
theorem dX8_init_11 : decode cX8_init 11 = .ok (.aload_n 0, 1) := by decide +kernel
theorem dX8_init_12 : decode cX8_init 12 = .ok (.sipush 341, 3) := by decide +kernel
theorem dX8_init_15 : decode cX8_init 15 = .ok (.newarray .long, 2) := by decide +kernel
theorem dX8_init_17 : decode cX8_init 17 = .ok (.putfield 15, 3) := by decide +kernel
theorem dX8_init_20 : decode cX8_init 20 = .ok (.aload_n 0, 1) := by decide +kernel
theorem dX8_init_21 : decode cX8_init 21 = .ok (.sipush 341, 3) := by decide +kernel
theorem dX8_init_24 : decode cX8_init 24 = .ok (.newarray .long, 2) := by decide +kernel
theorem dX8_init_26 : decode cX8_init 26 = .ok (.putfield 19, 3) := by decide +kernel
theorem dX8_init_29 : decode cX8_init 29 = .ok (.aload_n 0, 1) := by decide +kernel
theorem dX8_init_30 : decode cX8_init 30 = .ok (.sipush 341, 3) := by decide +kernel
theorem dX8_init_33 : decode cX8_init 33 = .ok (.newarray .int, 2) := by decide +kernel
theorem dX8_init_35 : decode cX8_init 35 = .ok (.putfield 22, 3) := by decide +kernel
theorem dX8_init_38 : decode cX8_init 38 = .ok (.aload_n 0, 1) := by decide +kernel
theorem dX8_init_39 : decode cX8_init 39 = .ok (.sipush 341, 3) := by decide +kernel
theorem dX8_init_42 : decode cX8_init 42 = .ok (.newarray .int, 2) := by decide +kernel
theorem dX8_init_44 : decode cX8_init 44 = .ok (.putfield 25, 3) := by decide +kernel
theorem dX8_init_47 : decode cX8_init 47 = .ok (.aload_n 0, 1) := by decide +kernel
theorem dX8_init_48 : decode cX8_init 48 = .ok (.sipush 341, 3) := by decide +kernel
theorem dX8_init_51 : decode cX8_init 51 = .ok (.newarray .int, 2) := by decide +kernel
theorem dX8_init_53 : decode cX8_init 53 = .ok (.putfield 28, 3) := by decide +kernel
theorem dX8_init_56 : decode cX8_init 56 = .ok (.aload_n 0, 1) := by decide +kernel
theorem dX8_init_57 : decode cX8_init 57 = .ok (.iconst 0, 1) := by decide +kernel
theorem dX8_init_58 : decode cX8_init 58 = .ok (.putfield 31, 3) := by decide +kernel
theorem dX8_init_61 : decode cX8_init 61 = .ok (.return_, 1) := by decide +kernel
theorem FF_X8_11 : FF RX8 11 8 7 0 (.array .int) := ⟨RX8, TX8, tyX8, rfl, wX8, by decide, kAW (v_1_3 (List.mem_of_getElem? (i := 15) rfl)) rfl, rfl, tyX8_ok, nmX8, by decide +kernel, rfl, rfl⟩
theorem FF_X8_15 : FF RX8 15 8 7 1 (.array .long) := ⟨RX8, TX8, tyX8, rfl, wX8, by decide, kAW (v_1_4 (List.mem_of_getElem? (i := 1) rfl)) rfl, rfl, tyX8_ok, nmX8, by decide +kernel, rfl, rfl⟩
theorem FF_X8_19 : FF RX8 19 8 7 2 (.array .long) := ⟨RX8, TX8, tyX8, rfl, wX8, by decide, kAW (v_1_4 (List.mem_of_getElem? (i := 2) rfl)) rfl, rfl, tyX8_ok, nmX8, by decide +kernel, rfl, rfl⟩
theorem FF_X8_22 : FF RX8 22 8 7 3 (.array .int) := ⟨RX8, TX8, tyX8, rfl, wX8, by decide, kAW (v_1_4 (List.mem_of_getElem? (i := 3) rfl)) rfl, rfl, tyX8_ok, nmX8, by decide +kernel, rfl, rfl⟩
theorem FF_X8_25 : FF RX8 25 8 7 4 (.array .int) := ⟨RX8, TX8, tyX8, rfl, wX8, by decide, kAW (v_1_4 (List.mem_of_getElem? (i := 4) rfl)) rfl, rfl, tyX8_ok, nmX8, by decide +kernel, rfl, rfl⟩
theorem FF_X8_28 : FF RX8 28 8 7 5 (.array .int) := ⟨RX8, TX8, tyX8, rfl, wX8, by decide, kAW (v_1_4 (List.mem_of_getElem? (i := 5) rfl)) rfl, rfl, tyX8_ok, nmX8, by decide +kernel, rfl, rfl⟩
theorem FQ_X8_31 : FP RX8 31 8 7 6 .int := ⟨RX8, TX8, tyX8, rfl, wX8, by decide, kAW (v_1_4 (List.mem_of_getElem? (i := 6) rfl)) rfl, rfl, tyX8_ok, nmX8, by decide +kernel, rfl⟩
set_option maxRecDepth 100000 in
set_option maxHeartbeats 8000000 in
theorem k_X8_init (l : Launch) (D : va_G) (cA : Nat → ClassId) (h0 : Nat) : CI l cA D yX8_init cX8_init 1 (1, 6, 1710, 20) [.ref h0] [(h0, .inr (8, [.null, .null, .null, .null, .null, .null, .int (0 : Int32)]))] (fun ws1 => ∃ (q1 : Nat) (q2 : Nat) (q3 : Nat) (q4 : Nat) (q5 : Nat) (q6 : Nat), ws1 = [(h0, .inr (8, [.ref q1, .ref q2, .ref q3, .ref q4, .ref q5, .ref q6, .int (0 : Int32)])), (q1, ia (cA 0) 5 (fun _ => 0)), (q2, ja (cA 5) 341 (fun _ => 0)), (q3, ja (cA 5) 341 (fun _ => 0)), (q4, ia (cA 0) 341 (fun _ => 0)), (q5, ia (cA 0) 341 (fun _ => 0)), (q6, ia (cA 0) 341 (fun _ => 0))]) := by
  refine q_enterL (by decide) rfl (Nat.le_of_ble_eq_true rfl) (fun K H locs ls _ _ hM hI hW hR hC hE hl => ?_)
  have hl : lv_has ls 1 [(0, .ref h0)] := hl
  have hW : WL K [(h0, .inr (8, [.null, .null, .null, .null, .null, .null, .int (0 : Int32)]))] H locs := hW
  refine q_aload_n hM dX8_init_0 (lv_at hl 0 rfl) ?_
  refine l_obj hM hR (by decide) (kAW (v_1_3 (List.mem_of_getElem? (i := 14) rfl)) rfl) (kAW (v_0_1 (List.mem_of_getElem? (i := 11) rfl)) rfl) (kAW (v_0_1 (List.mem_of_getElem? (i := 12) rfl)) rfl) hl.1 dX8_init_1 ?_
  refine q_aload_n hM dX8_init_4 (lv_at hl 0 rfl) ?_
  refine q_iconst (v := (5 : Int32)) hM dX8_init_5 (by decide) ?_
  refine l_newI (N' := 5) hM hW ⟨Nat.le_trans (Nat.le_of_ble_eq_true rfl) hC.1, Nat.le_trans (Nat.le_of_ble_eq_true rfl) hC.2⟩ (kAW (v_0_2 (List.mem_of_getElem? (i := 12) rfl)) rfl) (by decide) (by decide) (Nat.le_of_ble_eq_true rfl) dX8_init_6 (fun q12163 H hW => ?_)
  have hW : WL K [(h0, .inr (8, [.null, .null, .null, .null, .null, .null, .int (0 : Int32)])), (q12163, ia (cA 0) 5 (fun _ => 0))] H locs := hW
  refine (show XX K 1 5 H locs 8 ls [.ref q12163, .ref h0] from ?_)
  refine l_putf hM hW hI FF_X8_11 (q0 := 0) rfl rfl rfl (Nat.le_of_ble_eq_true rfl) dX8_init_8 (fun H locs hW => ?_)
  have hW : WL K [(h0, .inr (8, [.ref q12163, .null, .null, .null, .null, .null, .int (0 : Int32)])), (q12163, ia (cA 0) 5 (fun _ => 0))] H locs := hW
  refine q_aload_n hM dX8_init_11 (lv_at hl 0 rfl) ?_
  refine q_sipush (v := (341 : Int32)) hM dX8_init_12 (by decide) ?_
  refine l_newJ (N' := 341) hM hW ⟨Nat.le_trans (Nat.le_of_ble_eq_true rfl) hC.1, Nat.le_trans (Nat.le_of_ble_eq_true rfl) hC.2⟩ (kAW (v_1_5 (List.mem_of_getElem? (i := 6) rfl)) rfl) (by decide) (by decide) (Nat.le_of_ble_eq_true rfl) dX8_init_15 (fun q12164 H hW => ?_)
  have hW : WL K [(h0, .inr (8, [.ref q12163, .null, .null, .null, .null, .null, .int (0 : Int32)])), (q12163, ia (cA 0) 5 (fun _ => 0)), (q12164, ja (cA 5) 341 (fun _ => 0))] H locs := hW
  refine (show XX K 2 346 H locs 17 ls [.ref q12164, .ref h0] from ?_)
  refine l_putf hM hW hI FF_X8_15 (q0 := 0) rfl rfl rfl (Nat.le_of_ble_eq_true rfl) dX8_init_17 (fun H locs hW => ?_)
  have hW : WL K [(h0, .inr (8, [.ref q12163, .ref q12164, .null, .null, .null, .null, .int (0 : Int32)])), (q12163, ia (cA 0) 5 (fun _ => 0)), (q12164, ja (cA 5) 341 (fun _ => 0))] H locs := hW
  refine q_aload_n hM dX8_init_20 (lv_at hl 0 rfl) ?_
  refine q_sipush (v := (341 : Int32)) hM dX8_init_21 (by decide) ?_
  refine l_newJ (N' := 341) hM hW ⟨Nat.le_trans (Nat.le_of_ble_eq_true rfl) hC.1, Nat.le_trans (Nat.le_of_ble_eq_true rfl) hC.2⟩ (kAW (v_1_5 (List.mem_of_getElem? (i := 6) rfl)) rfl) (by decide) (by decide) (Nat.le_of_ble_eq_true rfl) dX8_init_24 (fun q12165 H hW => ?_)
  have hW : WL K [(h0, .inr (8, [.ref q12163, .ref q12164, .null, .null, .null, .null, .int (0 : Int32)])), (q12163, ia (cA 0) 5 (fun _ => 0)), (q12164, ja (cA 5) 341 (fun _ => 0)), (q12165, ja (cA 5) 341 (fun _ => 0))] H locs := hW
  refine (show XX K 3 687 H locs 26 ls [.ref q12165, .ref h0] from ?_)
  refine l_putf hM hW hI FF_X8_19 (q0 := 0) rfl rfl rfl (Nat.le_of_ble_eq_true rfl) dX8_init_26 (fun H locs hW => ?_)
  have hW : WL K [(h0, .inr (8, [.ref q12163, .ref q12164, .ref q12165, .null, .null, .null, .int (0 : Int32)])), (q12163, ia (cA 0) 5 (fun _ => 0)), (q12164, ja (cA 5) 341 (fun _ => 0)), (q12165, ja (cA 5) 341 (fun _ => 0))] H locs := hW
  refine q_aload_n hM dX8_init_29 (lv_at hl 0 rfl) ?_
  refine q_sipush (v := (341 : Int32)) hM dX8_init_30 (by decide) ?_
  refine l_newI (N' := 341) hM hW ⟨Nat.le_trans (Nat.le_of_ble_eq_true rfl) hC.1, Nat.le_trans (Nat.le_of_ble_eq_true rfl) hC.2⟩ (kAW (v_0_2 (List.mem_of_getElem? (i := 12) rfl)) rfl) (by decide) (by decide) (Nat.le_of_ble_eq_true rfl) dX8_init_33 (fun q12166 H hW => ?_)
  have hW : WL K [(h0, .inr (8, [.ref q12163, .ref q12164, .ref q12165, .null, .null, .null, .int (0 : Int32)])), (q12163, ia (cA 0) 5 (fun _ => 0)), (q12164, ja (cA 5) 341 (fun _ => 0)), (q12165, ja (cA 5) 341 (fun _ => 0)), (q12166, ia (cA 0) 341 (fun _ => 0))] H locs := hW
  refine (show XX K 4 1028 H locs 35 ls [.ref q12166, .ref h0] from ?_)
  refine l_putf hM hW hI FF_X8_22 (q0 := 0) rfl rfl rfl (Nat.le_of_ble_eq_true rfl) dX8_init_35 (fun H locs hW => ?_)
  have hW : WL K [(h0, .inr (8, [.ref q12163, .ref q12164, .ref q12165, .ref q12166, .null, .null, .int (0 : Int32)])), (q12163, ia (cA 0) 5 (fun _ => 0)), (q12164, ja (cA 5) 341 (fun _ => 0)), (q12165, ja (cA 5) 341 (fun _ => 0)), (q12166, ia (cA 0) 341 (fun _ => 0))] H locs := hW
  refine q_aload_n hM dX8_init_38 (lv_at hl 0 rfl) ?_
  refine q_sipush (v := (341 : Int32)) hM dX8_init_39 (by decide) ?_
  refine l_newI (N' := 341) hM hW ⟨Nat.le_trans (Nat.le_of_ble_eq_true rfl) hC.1, Nat.le_trans (Nat.le_of_ble_eq_true rfl) hC.2⟩ (kAW (v_0_2 (List.mem_of_getElem? (i := 12) rfl)) rfl) (by decide) (by decide) (Nat.le_of_ble_eq_true rfl) dX8_init_42 (fun q12167 H hW => ?_)
  have hW : WL K [(h0, .inr (8, [.ref q12163, .ref q12164, .ref q12165, .ref q12166, .null, .null, .int (0 : Int32)])), (q12163, ia (cA 0) 5 (fun _ => 0)), (q12164, ja (cA 5) 341 (fun _ => 0)), (q12165, ja (cA 5) 341 (fun _ => 0)), (q12166, ia (cA 0) 341 (fun _ => 0)), (q12167, ia (cA 0) 341 (fun _ => 0))] H locs := hW
  refine (show XX K 5 1369 H locs 44 ls [.ref q12167, .ref h0] from ?_)
  refine l_putf hM hW hI FF_X8_25 (q0 := 0) rfl rfl rfl (Nat.le_of_ble_eq_true rfl) dX8_init_44 (fun H locs hW => ?_)
  have hW : WL K [(h0, .inr (8, [.ref q12163, .ref q12164, .ref q12165, .ref q12166, .ref q12167, .null, .int (0 : Int32)])), (q12163, ia (cA 0) 5 (fun _ => 0)), (q12164, ja (cA 5) 341 (fun _ => 0)), (q12165, ja (cA 5) 341 (fun _ => 0)), (q12166, ia (cA 0) 341 (fun _ => 0)), (q12167, ia (cA 0) 341 (fun _ => 0))] H locs := hW
  refine q_aload_n hM dX8_init_47 (lv_at hl 0 rfl) ?_
  refine q_sipush (v := (341 : Int32)) hM dX8_init_48 (by decide) ?_
  refine l_newI (N' := 341) hM hW ⟨Nat.le_trans (Nat.le_of_ble_eq_true rfl) hC.1, Nat.le_trans (Nat.le_of_ble_eq_true rfl) hC.2⟩ (kAW (v_0_2 (List.mem_of_getElem? (i := 12) rfl)) rfl) (by decide) (by decide) (Nat.le_of_ble_eq_true rfl) dX8_init_51 (fun q12168 H hW => ?_)
  have hW : WL K [(h0, .inr (8, [.ref q12163, .ref q12164, .ref q12165, .ref q12166, .ref q12167, .null, .int (0 : Int32)])), (q12163, ia (cA 0) 5 (fun _ => 0)), (q12164, ja (cA 5) 341 (fun _ => 0)), (q12165, ja (cA 5) 341 (fun _ => 0)), (q12166, ia (cA 0) 341 (fun _ => 0)), (q12167, ia (cA 0) 341 (fun _ => 0)), (q12168, ia (cA 0) 341 (fun _ => 0))] H locs := hW
  refine (show XX K 6 1710 H locs 53 ls [.ref q12168, .ref h0] from ?_)
  refine l_putf hM hW hI FF_X8_28 (q0 := 0) rfl rfl rfl (Nat.le_of_ble_eq_true rfl) dX8_init_53 (fun H locs hW => ?_)
  have hW : WL K [(h0, .inr (8, [.ref q12163, .ref q12164, .ref q12165, .ref q12166, .ref q12167, .ref q12168, .int (0 : Int32)])), (q12163, ia (cA 0) 5 (fun _ => 0)), (q12164, ja (cA 5) 341 (fun _ => 0)), (q12165, ja (cA 5) 341 (fun _ => 0)), (q12166, ia (cA 0) 341 (fun _ => 0)), (q12167, ia (cA 0) 341 (fun _ => 0)), (q12168, ia (cA 0) 341 (fun _ => 0))] H locs := hW
  refine q_aload_n hM dX8_init_56 (lv_at hl 0 rfl) ?_
  refine q_iconst (v := (0 : Int32)) hM dX8_init_57 (by decide) ?_
  refine l_put hM hW FQ_X8_31 (q0 := 0) rfl rfl rfl (Nat.le_of_ble_eq_true rfl) dX8_init_58 (fun H locs hW => ?_)
  have hW : WL K [(h0, .inr (8, [.ref q12163, .ref q12164, .ref q12165, .ref q12166, .ref q12167, .ref q12168, .int (0 : Int32)])), (q12163, ia (cA 0) 5 (fun _ => 0)), (q12164, ja (cA 5) 341 (fun _ => 0)), (q12165, ja (cA 5) 341 (fun _ => 0)), (q12166, ia (cA 0) 341 (fun _ => 0)), (q12167, ia (cA 0) 341 (fun _ => 0)), (q12168, ia (cA 0) 341 (fun _ => 0))] H locs := hW
  exact hE _ _ _ _ _ hW ⟨q12163, q12164, q12165, q12166, q12167, q12168, rfl⟩ dX8_init_61

theorem dX6_init_0 : decode cX6_init 0 = .ok (.aload_n 0, 1) := by decide +kernel
theorem dX6_init_1 : decode cX6_init 1 = .ok (.invokespecial 1, 3) := by decide +kernel
theorem dX6_init_4 : decode cX6_init 4 = .ok (.aload_n 0, 1) := by decide +kernel
theorem dX6_init_5 : decode cX6_init 5 = .ok (.bipush 9, 2) := by decide +kernel
theorem dX6_init_7 : decode cX6_init 7 = .ok (.newarray .int, 2) := by decide +kernel
theorem dX6_init_9 : decode cX6_init 9 = .ok (.putfield 9, 3) := by decide +kernel
theorem dX6_init_12 : decode cX6_init 12 = .ok (.aload_n 0, 1) := by decide +kernel
theorem dX6_init_13 : decode cX6_init 13 = .ok (.iconst 0, 1) := by decide +kernel
theorem dX6_init_14 : decode cX6_init 14 = .ok (.putfield 13, 3) := by decide +kernel
theorem dX6_init_17 : decode cX6_init 17 = .ok (.aload_n 0, 1) := by decide +kernel
theorem dX6_init_18 : decode cX6_init 18 = .ok (.iconst 0, 1) := by decide +kernel
theorem dX6_init_19 : decode cX6_init 19 = .ok (.putfield 17, 3) := by decide +kernel
theorem dX6_init_22 : decode cX6_init 22 = .ok (.aload_n 0, 1) := by decide +kernel
theorem dX6_init_23 : decode cX6_init 23 = .ok (.iconst 1, 1) := by decide +kernel
theorem dX6_init_24 : decode cX6_init 24 = .ok (.putfield 20, 3) := by decide +kernel
theorem dX6_init_27 : decode cX6_init 27 = .ok (.return_, 1) := by decide +kernel
theorem FF_X6_9 : FF RX6 9 6 4 0 (.array .int) := ⟨RX6, TX6, tyX6, rfl, wX6, by decide, kAW (v_1_5 (List.mem_of_getElem? (i := 13) rfl)) rfl, rfl, tyX6_ok, nmX6, by decide +kernel, rfl, rfl⟩
theorem FQ_X6_13 : FP RX6 13 6 4 1 .int := ⟨RX6, TX6, tyX6, rfl, wX6, by decide, kAW (v_1_5 (List.mem_of_getElem? (i := 14) rfl)) rfl, rfl, tyX6_ok, nmX6, by decide +kernel, rfl⟩
theorem FQ_X6_17 : FP RX6 17 6 4 2 .int := ⟨RX6, TX6, tyX6, rfl, wX6, by decide, kAW (v_1_5 (List.mem_of_getElem? (i := 15) rfl)) rfl, rfl, tyX6_ok, nmX6, by decide +kernel, rfl⟩
theorem FQ_X6_20 : FP RX6 20 6 4 3 .int := ⟨RX6, TX6, tyX6, rfl, wX6, by decide, kAW (v_1_6 (List.mem_of_getElem? (i := 1) rfl)) rfl, rfl, tyX6_ok, nmX6, by decide +kernel, rfl⟩
set_option maxRecDepth 100000 in
set_option maxHeartbeats 8000000 in
theorem k_X6_init (l : Launch) (D : va_G) (cA : Nat → ClassId) (h0 : Nat) : CI l cA D yX6_init cX6_init 1 (1, 1, 9, 20) [.ref h0] [(h0, .inr (6, [.null, .int (0 : Int32), .int (0 : Int32), .int (0 : Int32)]))] (fun ws1 => ∃ (q1 : Nat), ws1 = [(h0, .inr (6, [.ref q1, .int (0 : Int32), .int (0 : Int32), .int (1 : Int32)])), (q1, ia (cA 0) 9 (fun _ => 0))]) := by
  refine q_enterL (by decide) rfl (Nat.le_of_ble_eq_true rfl) (fun K H locs ls _ _ hM hI hW hR hC hE hl => ?_)
  have hl : lv_has ls 1 [(0, .ref h0)] := hl
  have hW : WL K [(h0, .inr (6, [.null, .int (0 : Int32), .int (0 : Int32), .int (0 : Int32)]))] H locs := hW
  refine q_aload_n hM dX6_init_0 (lv_at hl 0 rfl) ?_
  refine l_obj hM hR (by decide) (kAW (v_1_5 (List.mem_of_getElem? (i := 12) rfl)) rfl) (kAW (v_0_1 (List.mem_of_getElem? (i := 11) rfl)) rfl) (kAW (v_0_1 (List.mem_of_getElem? (i := 12) rfl)) rfl) hl.1 dX6_init_1 ?_
  refine q_aload_n hM dX6_init_4 (lv_at hl 0 rfl) ?_
  refine q_bipush (v := (9 : Int32)) hM dX6_init_5 (by decide) ?_
  refine l_newI (N' := 9) hM hW ⟨Nat.le_trans (Nat.le_of_ble_eq_true rfl) hC.1, Nat.le_trans (Nat.le_of_ble_eq_true rfl) hC.2⟩ (kAW (v_0_2 (List.mem_of_getElem? (i := 12) rfl)) rfl) (by decide) (by decide) (Nat.le_of_ble_eq_true rfl) dX6_init_7 (fun q12169 H hW => ?_)
  have hW : WL K [(h0, .inr (6, [.null, .int (0 : Int32), .int (0 : Int32), .int (0 : Int32)])), (q12169, ia (cA 0) 9 (fun _ => 0))] H locs := hW
  refine (show XX K 1 9 H locs 9 ls [.ref q12169, .ref h0] from ?_)
  refine l_putf hM hW hI FF_X6_9 (q0 := 0) rfl rfl rfl (Nat.le_of_ble_eq_true rfl) dX6_init_9 (fun H locs hW => ?_)
  have hW : WL K [(h0, .inr (6, [.ref q12169, .int (0 : Int32), .int (0 : Int32), .int (0 : Int32)])), (q12169, ia (cA 0) 9 (fun _ => 0))] H locs := hW
  refine q_aload_n hM dX6_init_12 (lv_at hl 0 rfl) ?_
  refine q_iconst (v := (0 : Int32)) hM dX6_init_13 (by decide) ?_
  refine l_put hM hW FQ_X6_13 (q0 := 0) rfl rfl rfl (Nat.le_of_ble_eq_true rfl) dX6_init_14 (fun H locs hW => ?_)
  have hW : WL K [(h0, .inr (6, [.ref q12169, .int (0 : Int32), .int (0 : Int32), .int (0 : Int32)])), (q12169, ia (cA 0) 9 (fun _ => 0))] H locs := hW
  refine q_aload_n hM dX6_init_17 (lv_at hl 0 rfl) ?_
  refine q_iconst (v := (0 : Int32)) hM dX6_init_18 (by decide) ?_
  refine l_put hM hW FQ_X6_17 (q0 := 0) rfl rfl rfl (Nat.le_of_ble_eq_true rfl) dX6_init_19 (fun H locs hW => ?_)
  have hW : WL K [(h0, .inr (6, [.ref q12169, .int (0 : Int32), .int (0 : Int32), .int (0 : Int32)])), (q12169, ia (cA 0) 9 (fun _ => 0))] H locs := hW
  refine q_aload_n hM dX6_init_22 (lv_at hl 0 rfl) ?_
  refine q_iconst (v := (1 : Int32)) hM dX6_init_23 (by decide) ?_
  refine l_put hM hW FQ_X6_20 (q0 := 0) rfl rfl rfl (Nat.le_of_ble_eq_true rfl) dX6_init_24 (fun H locs hW => ?_)
  have hW : WL K [(h0, .inr (6, [.ref q12169, .int (0 : Int32), .int (0 : Int32), .int (1 : Int32)])), (q12169, ia (cA 0) 9 (fun _ => 0))] H locs := hW
  exact hE _ _ _ _ _ hW ⟨q12169, rfl⟩ dX6_init_27
