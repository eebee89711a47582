theorem bt_z {x : Int32} (h : x.toInt = 0) (q : Nat) : bt x q = false := by
  have e : x = 0 := Int32.toInt_inj.mp (h.trans kc_0.symm)
  rw [e]
  exact b_0 q
theorem i_subW {x y z : Int32} (h : x - y = z) {a b : Int} (hx : x.toInt = a) (hy : y.toInt = b) : (z.toInt = a - b ∨ z.toInt = a - b + 4294967296 ∨ z.toInt = a - b - 4294967296) ∧ -2147483648 ≤ z.toInt ∧ z.toInt ≤ 2147483647 ∧ -2147483648 ≤ a ∧ a ≤ 2147483647 := by
  have rx := i_rng x
  have ry := i_rng y
  have rz := i_rng z
  refine ⟨?_, rz.1, rz.2, by omega, by omega⟩
  rw [← h, Int32.toInt_sub, Int.bmod_def]
  omega
theorem has_z {r x : Int32} {q : Nat} (h : (r.toInt = 1 ∧ bt x q = true) ∨ (r.toInt = 0 ∧ bt x q = false)) (hx : x.toInt = 0) : r.toInt = 0 := by
  rcases h with h | h
  · rw [bt_z hx] at h
    exact absurd h.2 (by decide)
  · exact h.1

theorem dX12_go_0 : decode cX12_go 0 = .ok (.aload_n 0, 1) := by decide +kernel
theorem dX12_go_1 : decode cX12_go 1 = .ok (.iconst 0, 1) := by decide +kernel
theorem dX12_go_2 : decode cX12_go 2 = .ok (.putfield 474, 3) := by decide +kernel
theorem dX12_go_5 : decode cX12_go 5 = .ok (.aload_n 0, 1) := by decide +kernel
theorem dX12_go_6 : decode cX12_go 6 = .ok (.iconst 0, 1) := by decide +kernel
theorem dX12_go_7 : decode cX12_go 7 = .ok (.putfield 477, 3) := by decide +kernel
theorem dX12_go_10 : decode cX12_go 10 = .ok (.aload_n 0, 1) := by decide +kernel
theorem dX12_go_11 : decode cX12_go 11 = .ok (.iconst 0, 1) := by decide +kernel
theorem dX12_go_12 : decode cX12_go 12 = .ok (.putfield 489, 3) := by decide +kernel
theorem dX12_go_15 : decode cX12_go 15 = .ok (.aload_n 0, 1) := by decide +kernel
theorem dX12_go_16 : decode cX12_go 16 = .ok (.iconst 0, 1) := by decide +kernel
theorem dX12_go_17 : decode cX12_go 17 = .ok (.putfield 468, 3) := by decide +kernel
theorem dX12_go_20 : decode cX12_go 20 = .ok (.aload_n 0, 1) := by decide +kernel
theorem dX12_go_21 : decode cX12_go 21 = .ok (.bipush (-2), 2) := by decide +kernel
theorem dX12_go_23 : decode cX12_go 23 = .ok (.putfield 495, 3) := by decide +kernel
theorem dX12_go_26 : decode cX12_go 26 = .ok (.aload_n 0, 1) := by decide +kernel
theorem dX12_go_27 : decode cX12_go 27 = .ok (.bipush (-2), 2) := by decide +kernel
theorem dX12_go_29 : decode cX12_go 29 = .ok (.putfield 498, 3) := by decide +kernel
theorem dX12_go_32 : decode cX12_go 32 = .ok (.iconst 0, 1) := by decide +kernel
theorem dX12_go_33 : decode cX12_go 33 = .ok (.istore_n 3, 1) := by decide +kernel
theorem dX12_go_34 : decode cX12_go 34 = .ok (.iconst 0, 1) := by decide +kernel
theorem dX12_go_35 : decode cX12_go 35 = .ok (.istore 4, 2) := by decide +kernel
theorem dX12_go_37 : decode cX12_go 37 = .ok (.iload 4, 2) := by decide +kernel
theorem dX12_go_39 : decode cX12_go 39 = .ok (.bipush 8, 2) := by decide +kernel
theorem dX12_go_41 : decode cX12_go 41 = .ok (.if_icmp .ge 46, 3) := by decide +kernel
theorem dX12_go_44 : decode cX12_go 44 = .ok (.aload_n 0, 1) := by decide +kernel
theorem dX12_go_45 : decode cX12_go 45 = .ok (.getfield 100, 3) := by decide +kernel
theorem dX12_go_48 : decode cX12_go 48 = .ok (.iload 4, 2) := by decide +kernel
theorem dX12_go_50 : decode cX12_go 50 = .ok (.baload, 1) := by decide +kernel
theorem dX12_go_51 : decode cX12_go 51 = .ok (.ifCond .eq 30, 3) := by decide +kernel
theorem dX12_go_54 : decode cX12_go 54 = .ok (.iload_n 2, 1) := by decide +kernel
theorem dX12_go_55 : decode cX12_go 55 = .ok (.iconst (-1), 1) := by decide +kernel
theorem dX12_go_56 : decode cX12_go 56 = .ok (.if_icmp .eq 25, 3) := by decide +kernel
theorem dX12_go_81 : decode cX12_go 81 = .ok (.iinc 4 1, 3) := by decide +kernel
theorem dX12_go_84 : decode cX12_go 84 = .ok (.goto (-47), 3) := by decide +kernel
theorem dX12_go_87 : decode cX12_go 87 = .ok (.iconst 1, 1) := by decide +kernel
theorem dX12_go_88 : decode cX12_go 88 = .ok (.istore 4, 2) := by decide +kernel
theorem dX12_go_90 : decode cX12_go 90 = .ok (.iload 4, 2) := by decide +kernel
theorem dX12_go_92 : decode cX12_go 92 = .ok (.iload_n 1, 1) := by decide +kernel
theorem dX12_go_93 : decode cX12_go 93 = .ok (.if_icmp .gt 137, 3) := by decide +kernel
theorem dX12_go_96 : decode cX12_go 96 = .ok (.aload_n 0, 1) := by decide +kernel
theorem dX12_go_97 : decode cX12_go 97 = .ok (.getfield 416, 3) := by decide +kernel
theorem dX12_go_100 : decode cX12_go 100 = .ok (.sipush 9999, 3) := by decide +kernel
theorem dX12_go_103 : decode cX12_go 103 = .ok (.if_icmp .ge 127, 3) := by decide +kernel
theorem dX12_go_106 : decode cX12_go 106 = .ok (.iconst 0, 1) := by decide +kernel
theorem dX12_go_107 : decode cX12_go 107 = .ok (.istore 5, 2) := by decide +kernel
theorem dX12_go_109 : decode cX12_go 109 = .ok (.iload 5, 2) := by decide +kernel
theorem dX12_go_111 : decode cX12_go 111 = .ok (.bipush 8, 2) := by decide +kernel
theorem dX12_go_113 : decode cX12_go 113 = .ok (.if_icmp .ge 37, 3) := by decide +kernel
theorem dX12_go_116 : decode cX12_go 116 = .ok (.aload_n 0, 1) := by decide +kernel
theorem dX12_go_117 : decode cX12_go 117 = .ok (.getfield 100, 3) := by decide +kernel
theorem dX12_go_120 : decode cX12_go 120 = .ok (.iload 5, 2) := by decide +kernel
theorem dX12_go_122 : decode cX12_go 122 = .ok (.baload, 1) := by decide +kernel
theorem dX12_go_123 : decode cX12_go 123 = .ok (.ifCond .eq 21, 3) := by decide +kernel
theorem dX12_go_126 : decode cX12_go 126 = .ok (.aload_n 0, 1) := by decide +kernel
theorem dX12_go_127 : decode cX12_go 127 = .ok (.getfield 103, 3) := by decide +kernel
theorem dX12_go_130 : decode cX12_go 130 = .ok (.iload 5, 2) := by decide +kernel
theorem dX12_go_132 : decode cX12_go 132 = .ok (.iaload, 1) := by decide +kernel
theorem dX12_go_133 : decode cX12_go 133 = .ok (.bipush 10, 2) := by decide +kernel
theorem dX12_go_135 : decode cX12_go 135 = .ok (.if_icmp .ge 9, 3) := by decide +kernel
theorem dX12_go_138 : decode cX12_go 138 = .ok (.aload_n 0, 1) := by decide +kernel
theorem dX12_go_139 : decode cX12_go 139 = .ok (.iload 5, 2) := by decide +kernel
theorem dX12_go_141 : decode cX12_go 141 = .ok (.invokevirtual 501, 3) := by decide +kernel
theorem dX12_go_144 : decode cX12_go 144 = .ok (.iinc 5 1, 3) := by decide +kernel
theorem dX12_go_147 : decode cX12_go 147 = .ok (.goto (-38), 3) := by decide +kernel
theorem dX12_go_150 : decode cX12_go 150 = .ok (.iconst 0, 1) := by decide +kernel
theorem dX12_go_151 : decode cX12_go 151 = .ok (.istore 5, 2) := by decide +kernel
theorem dX12_go_153 : decode cX12_go 153 = .ok (.iload 5, 2) := by decide +kernel
theorem dX12_go_155 : decode cX12_go 155 = .ok (.bipush 8, 2) := by decide +kernel
theorem dX12_go_157 : decode cX12_go 157 = .ok (.if_icmp .ge 57, 3) := by decide +kernel
theorem dX12_go_160 : decode cX12_go 160 = .ok (.aload_n 0, 1) := by decide +kernel
theorem dX12_go_161 : decode cX12_go 161 = .ok (.getfield 495, 3) := by decide +kernel
theorem dX12_go_164 : decode cX12_go 164 = .ok (.bipush (-2), 2) := by decide +kernel
theorem dX12_go_166 : decode cX12_go 166 = .ok (.if_icmp .ne 48, 3) := by decide +kernel
theorem dX12_go_169 : decode cX12_go 169 = .ok (.iload_n 3, 1) := by decide +kernel
theorem dX12_go_170 : decode cX12_go 170 = .ok (.iload 5, 2) := by decide +kernel
theorem dX12_go_172 : decode cX12_go 172 = .ok (.invokestatic 204, 3) := by decide +kernel
theorem dX12_go_175 : decode cX12_go 175 = .ok (.ifCond .eq 33, 3) := by decide +kernel
theorem dX12_go_208 : decode cX12_go 208 = .ok (.iinc 5 1, 3) := by decide +kernel
theorem dX12_go_211 : decode cX12_go 211 = .ok (.goto (-58), 3) := by decide +kernel
theorem dX12_go_214 : decode cX12_go 214 = .ok (.aload_n 0, 1) := by decide +kernel
theorem dX12_go_215 : decode cX12_go 215 = .ok (.dup, 1) := by decide +kernel
theorem dX12_go_216 : decode cX12_go 216 = .ok (.getfield 416, 3) := by decide +kernel
theorem dX12_go_219 : decode cX12_go 219 = .ok (.iconst 1, 1) := by decide +kernel
theorem dX12_go_220 : decode cX12_go 220 = .ok (.iadd, 1) := by decide +kernel
theorem dX12_go_221 : decode cX12_go 221 = .ok (.putfield 416, 3) := by decide +kernel
theorem dX12_go_224 : decode cX12_go 224 = .ok (.iinc 4 1, 3) := by decide +kernel
theorem dX12_go_227 : decode cX12_go 227 = .ok (.goto (-137), 3) := by decide +kernel
theorem dX12_go_230 : decode cX12_go 230 = .ok (.return_, 1) := by decide +kernel
theorem FP_X12_495 : FPX RX12 495 12 86 65 .int := ⟨⟨RX12, TX12, tyX12, rfl, wX12, by decide, kAW (v_4_6 (List.mem_of_getElem? (i := 14) rfl)) rfl, rfl, tyX12_ok, nmX12, by decide +kernel, rfl⟩, by decide +kernel⟩
theorem FP_X12_498 : FPX RX12 498 12 86 66 .int := ⟨⟨RX12, TX12, tyX12, rfl, wX12, by decide, kAW (v_4_6 (List.mem_of_getElem? (i := 15) rfl)) rfl, rfl, tyX12_ok, nmX12, by decide +kernel, rfl⟩, by decide +kernel⟩
theorem FP_X12_416 : FPX RX12 416 12 86 56 .int := ⟨⟨RX12, TX12, tyX12, rfl, wX12, by decide, kAW (v_4_6 (List.mem_of_getElem? (i := 5) rfl)) rfl, rfl, tyX12_ok, nmX12, by decide +kernel, rfl⟩, by decide +kernel⟩
theorem FG_X12_495 : FG RX12 495 12 86 65 := ⟨RX12, TX12, rfl, wX12, by decide, kAW (v_4_6 (List.mem_of_getElem? (i := 14) rfl)) rfl, rfl⟩
theorem myX12_weekOf : MI yX12_weekOf cX12_weekOf 4 none 1 := ⟨kAW (v_6_8 (List.mem_of_getElem? (i := 4) rfl)) rfl, kAW (v_0_0 (List.mem_of_getElem? (i := 13) rfl)) rfl, kAW (v_6_8 (List.mem_of_getElem? (i := 3) rfl)) rfl, kAW (tp_t4 (List.mem_of_getElem? (i := 15) rfl)) rfl, by decide, by decide, by decide +kernel⟩
set_option maxRecDepth 100000 in
set_option maxHeartbeats 4000000 in
theorem a_X12_go_m (l : Launch) (D : va_G) (cA : Nat → ClassId) (ad : Nat → Nat) (g0 : Nat → va_E) (n : Int32)   (hSh : Shp ad cA g0) (hG : Rng g0) (n60 : n.toInt ≤ 60) (hL : LawOK g0) : CT l NN ad cA D yX12_go cX12_go 6 none (9, 207) [.ref (ad 129), .int n, .int ((-1) : Int32)] g0 (fun v g' => v = none ∧ Shp ad cA g' ∧ Rng g' ∧ FR (fun i k => i = 161 ∨ i = 156 ∨ i = 157 ∨ (i = 129 ∧ (k = 42 ∨ k = 43 ∨ k = 44 ∨ k = 45 ∨ k = 46 ∨ k = 47 ∨ k = 48 ∨ k = 49)) ∨ (i = 129 ∧ (k = 2 ∨ k = 57 ∨ k = 58 ∨ k = 61 ∨ k = 62 ∨ k = 63 ∨ k = 64)) ∨ i = 159 ∨ (i = 129 ∧ (k = 56 ∨ k = 65 ∨ k = 66))) g0 g') := by
  refine q_enterV (by decide) (Nat.le_of_ble_eq_true rfl) (fun K H locs ls _ _ hM hW0 hR hC hE hl => ?_)
  have hl : lv_has ls 6 [(0, .ref (ad 129)), (1, .int n), (2, .int ((-1) : Int32))] := hl
  have hW : WS ad cA (fun i k => i = 161 ∨ i = 156 ∨ i = 157 ∨ (i = 129 ∧ (k = 42 ∨ k = 43 ∨ k = 44 ∨ k = 45 ∨ k = 46 ∨ k = 47 ∨ k = 48 ∨ k = 49)) ∨ (i = 129 ∧ (k = 2 ∨ k = 57 ∨ k = 58 ∨ k = 61 ∨ k = 62 ∨ k = 63 ∨ k = 64)) ∨ i = 159 ∨ (i = 129 ∧ (k = 56 ∨ k = 65 ∨ k = 66))) g0 K g0 H locs := ⟨hW0, hSh, FR.rf⟩
  have := i_rng n
  refine q_aload_n hM dX12_go_0 (lv_at hl 0 rfl) ?_
  refine q_iconst (v := (0 : Int32)) hM dX12_go_1 (by decide) ?_
  refine w_put hM hW FP_X12_474 lb_129 (by omega) (Or.inl ⟨_, rfl⟩) rfl rfl dX12_go_2 (fun g6360 H locs hW e1 e2 => ?_)
  have f6361 : fld g6360 129 61 = .int (0 : Int32) := e1
  have hG := hG.put e1 e2 (rfl : rF 129 61 = (-2147483648, 2147483647)) (by decide) (by have := kc_0; have := i_rng (0 : Int32); omega) (by have := kc_0; have := i_rng (0 : Int32); omega)
  refine q_aload_n hM dX12_go_5 (lv_at hl 0 rfl) ?_
  refine q_iconst (v := (0 : Int32)) hM dX12_go_6 (by decide) ?_
  refine w_put hM hW FP_X12_477 lb_129 (by omega) (Or.inl ⟨_, rfl⟩) rfl rfl dX12_go_7 (fun g6362 H locs hW e1 e2 => ?_)
  have f6363 : fld g6362 129 61 = .int (0 : Int32) := (e2.1 129 61 (by unfold Only; omega)).trans f6361
  have f6364 : fld g6362 129 62 = .int (0 : Int32) := e1
  have hG := hG.put e1 e2 (rfl : rF 129 62 = (-2147483648, 2147483647)) (by decide) (by have := kc_0; have := i_rng (0 : Int32); omega) (by have := kc_0; have := i_rng (0 : Int32); omega)
  refine q_aload_n hM dX12_go_10 (lv_at hl 0 rfl) ?_
  refine q_iconst (v := (0 : Int32)) hM dX12_go_11 (by decide) ?_
  refine w_put hM hW FP_X12_489 lb_129 (by omega) (Or.inl ⟨_, rfl⟩) rfl rfl dX12_go_12 (fun g6365 H locs hW e1 e2 => ?_)
  have f6366 : fld g6365 129 61 = .int (0 : Int32) := (e2.1 129 61 (by unfold Only; omega)).trans f6363
  have f6367 : fld g6365 129 62 = .int (0 : Int32) := (e2.1 129 62 (by unfold Only; omega)).trans f6364
  have f6368 : fld g6365 129 63 = .int (0 : Int32) := e1
  have hG := hG.put e1 e2 (rfl : rF 129 63 = (-2147483648, 2147483647)) (by decide) (by have := kc_0; have := i_rng (0 : Int32); omega) (by have := kc_0; have := i_rng (0 : Int32); omega)
  refine q_aload_n hM dX12_go_15 (lv_at hl 0 rfl) ?_
  refine q_iconst (v := (0 : Int32)) hM dX12_go_16 (by decide) ?_
  refine w_put hM hW FP_X12_468 lb_129 (by omega) (Or.inl ⟨_, rfl⟩) rfl rfl dX12_go_17 (fun g6369 H locs hW e1 e2 => ?_)
  have f6370 : fld g6369 129 61 = .int (0 : Int32) := (e2.1 129 61 (by unfold Only; omega)).trans f6366
  have f6371 : fld g6369 129 62 = .int (0 : Int32) := (e2.1 129 62 (by unfold Only; omega)).trans f6367
  have f6372 : fld g6369 129 63 = .int (0 : Int32) := (e2.1 129 63 (by unfold Only; omega)).trans f6368
  have f6373 : fld g6369 129 64 = .int (0 : Int32) := e1
  have hG := hG.put e1 e2 (rfl : rF 129 64 = (-2147483648, 2147483647)) (by decide) (by have := kc_0; have := i_rng (0 : Int32); omega) (by have := kc_0; have := i_rng (0 : Int32); omega)
  refine q_aload_n hM dX12_go_20 (lv_at hl 0 rfl) ?_
  refine q_bipush (v := ((-2) : Int32)) hM dX12_go_21 (by decide) ?_
  refine w_put hM hW FP_X12_495 lb_129 (by omega) (Or.inl ⟨_, rfl⟩) rfl rfl dX12_go_23 (fun g6374 H locs hW e1 e2 => ?_)
  have f6375 : fld g6374 129 61 = .int (0 : Int32) := (e2.1 129 61 (by unfold Only; omega)).trans f6370
  have f6376 : fld g6374 129 62 = .int (0 : Int32) := (e2.1 129 62 (by unfold Only; omega)).trans f6371
  have f6377 : fld g6374 129 63 = .int (0 : Int32) := (e2.1 129 63 (by unfold Only; omega)).trans f6372
  have f6378 : fld g6374 129 64 = .int (0 : Int32) := (e2.1 129 64 (by unfold Only; omega)).trans f6373
  have f6379 : fld g6374 129 65 = .int ((-2) : Int32) := e1
  have hG := hG.put e1 e2 (rfl : rF 129 65 = (-2147483648, 2147483647)) (by decide) (by have := kc_m2; have := i_rng ((-2) : Int32); omega) (by have := kc_m2; have := i_rng ((-2) : Int32); omega)
  refine q_aload_n hM dX12_go_26 (lv_at hl 0 rfl) ?_
  refine q_bipush (v := ((-2) : Int32)) hM dX12_go_27 (by decide) ?_
  refine w_put hM hW FP_X12_498 lb_129 (by omega) (Or.inl ⟨_, rfl⟩) rfl rfl dX12_go_29 (fun g6380 H locs hW e1 e2 => ?_)
  have f6381 : fld g6380 129 61 = .int (0 : Int32) := (e2.1 129 61 (by unfold Only; omega)).trans f6375
  have f6382 : fld g6380 129 62 = .int (0 : Int32) := (e2.1 129 62 (by unfold Only; omega)).trans f6376
  have f6383 : fld g6380 129 63 = .int (0 : Int32) := (e2.1 129 63 (by unfold Only; omega)).trans f6377
  have f6384 : fld g6380 129 64 = .int (0 : Int32) := (e2.1 129 64 (by unfold Only; omega)).trans f6378
  have f6385 : fld g6380 129 65 = .int ((-2) : Int32) := (e2.1 129 65 (by unfold Only; omega)).trans f6379
  have f6386 : fld g6380 129 66 = .int ((-2) : Int32) := e1
  have hG := hG.put e1 e2 (rfl : rF 129 66 = (-2147483648, 2147483647)) (by decide) (by have := kc_m2; have := i_rng ((-2) : Int32); omega) (by have := kc_m2; have := i_rng ((-2) : Int32); omega)
  refine q_iconst (v := (0 : Int32)) hM dX12_go_32 (by decide) ?_
  refine q_istore_n (lv9 := [(3, .int (0 : Int32)), (0, .ref (ad 129)), (1, .int n), (2, .int ((-1) : Int32))]) hM dX12_go_33 hl (by decide) rfl (fun ls hl => ?_)
  refine q_iconst (v := (0 : Int32)) hM dX12_go_34 (by decide) ?_
  refine q_istore (lv9 := [(4, .int (0 : Int32)), (3, .int (0 : Int32)), (0, .ref (ad 129)), (1, .int n), (2, .int ((-1) : Int32))]) hM dX12_go_35 hl (by decide) rfl (fun ls hl => ?_)
  have L37 : ∀ (fu37 : Nat) (w37_3 : Int32) (w37_4 : Int32) (g9 : Nat → va_E) (H : Heap) (locs : List Loc) (ls : Array Slot), (8 - w37_4.toInt).toNat < fu37 → (Rng g9) → (0 ≤ w37_4.toInt) → (w37_4.toInt ≤ 8) → (w37_3.toInt = 0) → lv_has ls 6 [(0, .ref (ad 129)), (1, .int n), (2, .int ((-1) : Int32)), (3, .int w37_3), (4, .int w37_4)] → WS ad cA (fun i k => i = 161 ∨ i = 156 ∨ i = 157 ∨ (i = 129 ∧ (k = 42 ∨ k = 43 ∨ k = 44 ∨ k = 45 ∨ k = 46 ∨ k = 47 ∨ k = 48 ∨ k = 49)) ∨ (i = 129 ∧ (k = 2 ∨ k = 57 ∨ k = 58 ∨ k = 61 ∨ k = 62 ∨ k = 63 ∨ k = 64)) ∨ i = 159 ∨ (i = 129 ∧ (k = 56 ∨ k = 65 ∨ k = 66))) g0 K g9 H locs → XX K 0 0 H locs 37 ls [] := by
    intro fu37
    induction fu37 with
    | zero => intro w37_3 w37_4 g9 H locs ls h0; omega
    | succ fu37 ih37 =>
      intro w37_3 w37_4 g9 H locs ls hm37 i37_0 i37_1 i37_2 i37_3 hl hW
      have hG := i37_0
      refine q_iload hM dX12_go_37 (lv_at hl 4 rfl) ?_
      refine q_bipush (v := (8 : Int32)) hM dX12_go_39 (by decide) ?_
      refine q_icmp_ge (tgt := 87) hM dX12_go_41 (by decide) (rfl : w37_4.toInt = w37_4.toInt) (kc_8 : (8 : Int32).toInt = 8) (fun h41 => ?_) (fun h41 => ?_)
      · refine q_iconst (v := (1 : Int32)) hM dX12_go_87 (by decide) ?_
        refine q_istore (lv9 := [(4, .int (1 : Int32)), (0, .ref (ad 129)), (1, .int n), (2, .int ((-1) : Int32)), (3, .int w37_3)]) hM dX12_go_88 hl (by decide) rfl (fun ls hl => ?_)
        have L90 : ∀ (fu90 : Nat) (w90_4 : Int32) (g9 : Nat → va_E) (H : Heap) (locs : List Loc) (ls : Array Slot), (n.toInt - w90_4.toInt + 1).toNat < fu90 → (Rng g9) → (1 ≤ w90_4.toInt) → lv_has ls 6 [(0, .ref (ad 129)), (1, .int n), (2, .int ((-1) : Int32)), (3, .int w37_3), (4, .int w90_4)] → WS ad cA (fun i k => i = 161 ∨ i = 156 ∨ i = 157 ∨ (i = 129 ∧ (k = 42 ∨ k = 43 ∨ k = 44 ∨ k = 45 ∨ k = 46 ∨ k = 47 ∨ k = 48 ∨ k = 49)) ∨ (i = 129 ∧ (k = 2 ∨ k = 57 ∨ k = 58 ∨ k = 61 ∨ k = 62 ∨ k = 63 ∨ k = 64)) ∨ i = 159 ∨ (i = 129 ∧ (k = 56 ∨ k = 65 ∨ k = 66))) g0 K g9 H locs → XX K 0 0 H locs 90 ls [] := by
          intro fu90
          induction fu90 with
          | zero => intro w90_4 g9 H locs ls h0; omega
          | succ fu90 ih90 =>
            intro w90_4 g9 H locs ls hm90 i90_0 i90_1 hl hW
            have hG := i90_0
            have := i_rng n
            refine q_iload hM dX12_go_90 (lv_at hl 4 rfl) ?_
            refine q_iload_n hM dX12_go_92 (lv_at hl 1 rfl) ?_
            refine q_icmp_gt (tgt := 230) hM dX12_go_93 (by decide) (rfl : w90_4.toInt = w90_4.toInt) (rfl : n.toInt = n.toInt) (fun h93 => ?_) (fun h93 => ?_)
            · exact hE _ _ _ _ _ hW.1 ⟨rfl, hW.2.1, hG, hW.2.2⟩ dX12_go_230
            · refine q_aload_n hM dX12_go_96 (lv_at hl 0 rfl) ?_
              refine w_getI hM hW FG_X12_416 lb_129 (by decide) (by decide) dX12_go_97 (fun x6392 fx6392 => ?_)
              refine q_sipush (v := (9999 : Int32)) hM dX12_go_100 (by decide) ?_
              refine q_icmp_ge (tgt := 230) hM dX12_go_103 (by decide) (rfl : x6392.toInt = x6392.toInt) (kc_9999 : (9999 : Int32).toInt = 9999) (fun h103 => ?_) (fun h103 => ?_)
              · exact hE _ _ _ _ _ hW.1 ⟨rfl, hW.2.1, hG, hW.2.2⟩ dX12_go_230
              · refine q_iconst (v := (0 : Int32)) hM dX12_go_106 (by decide) ?_
                refine q_istore (lv9 := [(5, .int (0 : Int32)), (0, .ref (ad 129)), (1, .int n), (2, .int ((-1) : Int32)), (3, .int w37_3), (4, .int w90_4)]) hM dX12_go_107 hl (by decide) rfl (fun ls hl => ?_)
                have L109 : ∀ (fu109 : Nat) (w109_5 : Int32) (g9 : Nat → va_E) (H : Heap) (locs : List Loc) (ls : Array Slot), (8 - w109_5.toInt).toNat < fu109 → (Rng g9) → (0 ≤ w109_5.toInt) → (w109_5.toInt ≤ 8) → lv_has ls 6 [(0, .ref (ad 129)), (1, .int n), (2, .int ((-1) : Int32)), (3, .int w37_3), (4, .int w90_4), (5, .int w109_5)] → WS ad cA (fun i k => i = 161 ∨ i = 156 ∨ i = 157 ∨ (i = 129 ∧ (k = 42 ∨ k = 43 ∨ k = 44 ∨ k = 45 ∨ k = 46 ∨ k = 47 ∨ k = 48 ∨ k = 49)) ∨ (i = 129 ∧ (k = 2 ∨ k = 57 ∨ k = 58 ∨ k = 61 ∨ k = 62 ∨ k = 63 ∨ k = 64)) ∨ i = 159 ∨ (i = 129 ∧ (k = 56 ∨ k = 65 ∨ k = 66))) g0 K g9 H locs → XX K 0 0 H locs 109 ls [] := by
                  intro fu109
                  induction fu109 with
                  | zero => intro w109_5 g9 H locs ls h0; omega
                  | succ fu109 ih109 =>
                    intro w109_5 g9 H locs ls hm109 i109_0 i109_1 i109_2 hl hW
                    have hG := i109_0
                    refine q_iload hM dX12_go_109 (lv_at hl 5 rfl) ?_
                    refine q_bipush (v := (8 : Int32)) hM dX12_go_111 (by decide) ?_
                    refine q_icmp_ge (tgt := 150) hM dX12_go_113 (by decide) (rfl : w109_5.toInt = w109_5.toInt) (kc_8 : (8 : Int32).toInt = 8) (fun h113 => ?_) (fun h113 => ?_)
                    · refine q_iconst (v := (0 : Int32)) hM dX12_go_150 (by decide) ?_
                      refine q_istore (lv9 := [(5, .int (0 : Int32)), (0, .ref (ad 129)), (1, .int n), (2, .int ((-1) : Int32)), (3, .int w37_3), (4, .int w90_4)]) hM dX12_go_151 hl (by decide) rfl (fun ls hl => ?_)
                      have L153 : ∀ (fu153 : Nat) (w153_5 : Int32) (g9 : Nat → va_E) (H : Heap) (locs : List Loc) (ls : Array Slot), (8 - w153_5.toInt).toNat < fu153 → (Rng g9) → (0 ≤ w153_5.toInt) → (w153_5.toInt ≤ 8) → lv_has ls 6 [(0, .ref (ad 129)), (1, .int n), (2, .int ((-1) : Int32)), (3, .int w37_3), (4, .int w90_4), (5, .int w153_5)] → WS ad cA (fun i k => i = 161 ∨ i = 156 ∨ i = 157 ∨ (i = 129 ∧ (k = 42 ∨ k = 43 ∨ k = 44 ∨ k = 45 ∨ k = 46 ∨ k = 47 ∨ k = 48 ∨ k = 49)) ∨ (i = 129 ∧ (k = 2 ∨ k = 57 ∨ k = 58 ∨ k = 61 ∨ k = 62 ∨ k = 63 ∨ k = 64)) ∨ i = 159 ∨ (i = 129 ∧ (k = 56 ∨ k = 65 ∨ k = 66))) g0 K g9 H locs → XX K 0 0 H locs 153 ls [] := by
                        intro fu153
                        induction fu153 with
                        | zero => intro w153_5 g9 H locs ls h0; omega
                        | succ fu153 ih153 =>
                          intro w153_5 g9 H locs ls hm153 i153_0 i153_1 i153_2 hl hW
                          have hG := i153_0
                          refine q_iload hM dX12_go_153 (lv_at hl 5 rfl) ?_
                          refine q_bipush (v := (8 : Int32)) hM dX12_go_155 (by decide) ?_
                          refine q_icmp_ge (tgt := 214) hM dX12_go_157 (by decide) (rfl : w153_5.toInt = w153_5.toInt) (kc_8 : (8 : Int32).toInt = 8) (fun h157 => ?_) (fun h157 => ?_)
                          · refine q_aload_n hM dX12_go_214 (lv_at hl 0 rfl) ?_
                            refine q_dup hM dX12_go_215 rfl ?_
                            refine w_getI hM hW FG_X12_416 lb_129 (by decide) (by decide) dX12_go_216 (fun x6399 fx6399 => ?_)
                            refine q_iconst (v := (1 : Int32)) hM dX12_go_219 (by decide) ?_
                            refine q_iadd hM dX12_go_220 (fun z6400 hz6400 => ?_)
                            first | have tz6400 := i_addT hz6400 (rfl : x6399.toInt = x6399.toInt) (kc_1 : (1 : Int32).toInt = 1) (by omega) (by omega) | skip
                            refine w_put hM hW FP_X12_416 lb_129 (by omega) (Or.inl ⟨_, rfl⟩) rfl rfl dX12_go_221 (fun g6401 H locs hW e1 e2 => ?_)
                            have f6402 : fld g6401 129 56 = .int z6400 := e1
                            have hG := hG.put e1 e2 (rfl : rF 129 56 = (-2147483648, 2147483647)) (by decide) (by have := i_rng z6400; omega) (by have := i_rng z6400; omega)
                            refine q_iinc (lv9 := fun z6403 => [(4, .int z6403), (0, .ref (ad 129)), (1, .int n), (2, .int ((-1) : Int32)), (3, .int w37_3), (5, .int w153_5)]) hM dX12_go_224 hl (kq := 4) rfl (by decide) (fun _ => rfl) (fun z6403 ls hz6403 hl => ?_)
                            first | have tz6403 := i_addT hz6403 (rfl : w90_4.toInt = w90_4.toInt) (kc_1 : (Int32.ofInt 1).toInt = 1) (by omega) (by omega) | skip
                            refine q_goto (tgt := 90) hM dX12_go_227 (by decide) ?_
                            exact ih90 z6403 _ _ _ _ (by omega) hG (by omega) (lv_sub hl [1, 2, 3, 4, 0] rfl) hW
                          · refine q_aload_n hM dX12_go_160 (lv_at hl 0 rfl) ?_
                            refine w_getI hM hW FG_X12_495 lb_129 (by decide) (by decide) dX12_go_161 (fun x6405 fx6405 => ?_)
                            refine q_bipush (v := ((-2) : Int32)) hM dX12_go_164 (by decide) ?_
                            refine q_icmp_ne (tgt := 214) hM dX12_go_166 (by decide) (rfl : x6405.toInt = x6405.toInt) (kc_m2 : ((-2) : Int32).toInt = (-2)) (fun h166 => ?_) (fun h166 => ?_)
                            · refine q_aload_n hM dX12_go_214 (lv_at hl 0 rfl) ?_
                              refine q_dup hM dX12_go_215 rfl ?_
                              refine w_getI hM hW FG_X12_416 lb_129 (by decide) (by decide) dX12_go_216 (fun x6407 fx6407 => ?_)
                              refine q_iconst (v := (1 : Int32)) hM dX12_go_219 (by decide) ?_
                              refine q_iadd hM dX12_go_220 (fun z6408 hz6408 => ?_)
                              first | have tz6408 := i_addT hz6408 (rfl : x6407.toInt = x6407.toInt) (kc_1 : (1 : Int32).toInt = 1) (by omega) (by omega) | skip
                              refine w_put hM hW FP_X12_416 lb_129 (by omega) (Or.inl ⟨_, rfl⟩) rfl rfl dX12_go_221 (fun g6409 H locs hW e1 e2 => ?_)
                              have f6410 : fld g6409 129 65 = .int x6405 := (e2.1 129 65 (by unfold Only; omega)).trans fx6405
                              have f6411 : fld g6409 129 56 = .int z6408 := e1
                              have hG := hG.put e1 e2 (rfl : rF 129 56 = (-2147483648, 2147483647)) (by decide) (by have := i_rng z6408; omega) (by have := i_rng z6408; omega)
                              refine q_iinc (lv9 := fun z6412 => [(4, .int z6412), (0, .ref (ad 129)), (1, .int n), (2, .int ((-1) : Int32)), (3, .int w37_3), (5, .int w153_5)]) hM dX12_go_224 hl (kq := 4) rfl (by decide) (fun _ => rfl) (fun z6412 ls hz6412 hl => ?_)
                              first | have tz6412 := i_addT hz6412 (rfl : w90_4.toInt = w90_4.toInt) (kc_1 : (Int32.ofInt 1).toInt = 1) (by omega) (by omega) | skip
                              refine q_goto (tgt := 90) hM dX12_go_227 (by decide) ?_
                              exact ih90 z6412 _ _ _ _ (by omega) hG (by omega) (lv_sub hl [1, 2, 3, 4, 0] rfl) hW
                            · refine q_iload_n hM dX12_go_169 (lv_at hl 3 rfl) ?_
                              refine q_iload hM dX12_go_170 (lv_at hl 5 rfl) ?_
                              refine q_callS (As := [.int w37_3, .int w153_5]) (rest := []) hM hW.1 hR hC myX12_has (kAW (v_5_6 (List.mem_of_getElem? (i := 7) rfl)) rfl) (c_X12_has _ _ cA ad g9 w37_3 w153_5 hW.2.1 (by omega) (by omega)) ⟨by decide, by decide⟩ rfl rfl hl.1 (Nat.le_of_ble_eq_true rfl) dX12_go_172 (fun v g6415 H locs hp hW1 => ?_)
                              obtain ⟨r6414, rfl, hr6414, rfl⟩ := hp
                              have hW : WS ad cA (fun i k => i = 161 ∨ i = 156 ∨ i = 157 ∨ (i = 129 ∧ (k = 42 ∨ k = 43 ∨ k = 44 ∨ k = 45 ∨ k = 46 ∨ k = 47 ∨ k = 48 ∨ k = 49)) ∨ (i = 129 ∧ (k = 2 ∨ k = 57 ∨ k = 58 ∨ k = 61 ∨ k = 62 ∨ k = 63 ∨ k = 64)) ∨ i = 159 ∨ (i = 129 ∧ (k = 56 ∨ k = 65 ∨ k = 66))) g0 K g9 H locs := ⟨hW1, hW.2.1, hW.2.2⟩
                              have kz := has_z hr6414 (by omega)
                              refine q_if_eq (tgt := 208) hM dX12_go_175 (by decide) (rfl : r6414.toInt = r6414.toInt) (fun h175 => ?_) (fun h175 => ?_)
                              · refine q_iinc (lv9 := fun z6417 => [(5, .int z6417), (0, .ref (ad 129)), (1, .int n), (2, .int ((-1) : Int32)), (3, .int w37_3), (4, .int w90_4)]) hM dX12_go_208 hl (kq := 5) rfl (by decide) (fun _ => rfl) (fun z6417 ls hz6417 hl => ?_)
                                first | have tz6417 := i_addT hz6417 (rfl : w153_5.toInt = w153_5.toInt) (kc_1 : (Int32.ofInt 1).toInt = 1) (by omega) (by omega) | skip
                                refine q_goto (tgt := 153) hM dX12_go_211 (by decide) ?_
                                exact ih153 z6417 _ _ _ _ (by omega) hG (by omega) (by omega) (lv_sub hl [1, 2, 3, 4, 5, 0] rfl) hW
                              · omega
                      have := kc_0
                      exact L153 _ (0 : Int32) _ _ _ _ (Nat.lt_succ_self _) hG (by omega) (by omega) (lv_sub hl [1, 2, 3, 4, 5, 0] rfl) hW
                    · refine q_aload_n hM dX12_go_116 (lv_at hl 0 rfl) ?_
                      refine w_get (v := .ref (ad 158)) hM hW FG_X12_100 lb_129 (rf_129_52 hW.2.1) dX12_go_117 ?_
                      refine q_iload hM dX12_go_120 (lv_at hl 5 rfl) ?_
                      refine w_zald hM hW lb_158 (i_in (by omega) (by omega)) dX12_go_122 ?_
                      refine q_top (fun y6420 hy6420 => ?_)
                      refine q_if_eq (tgt := 144) hM dX12_go_123 (by decide) (rfl : y6420.toInt = y6420.toInt) (fun h123 => ?_) (fun h123 => ?_)
                      · refine q_iinc (lv9 := fun z6422 => [(5, .int z6422), (0, .ref (ad 129)), (1, .int n), (2, .int ((-1) : Int32)), (3, .int w37_3), (4, .int w90_4)]) hM dX12_go_144 hl (kq := 5) rfl (by decide) (fun _ => rfl) (fun z6422 ls hz6422 hl => ?_)
                        first | have tz6422 := i_addT hz6422 (rfl : w109_5.toInt = w109_5.toInt) (kc_1 : (Int32.ofInt 1).toInt = 1) (by omega) (by omega) | skip
                        refine q_goto (tgt := 109) hM dX12_go_147 (by decide) ?_
                        exact ih109 z6422 _ _ _ _ (by omega) hG (by omega) (by omega) (lv_sub hl [1, 2, 3, 4, 5, 0] rfl) hW
                      · refine q_aload_n hM dX12_go_126 (lv_at hl 0 rfl) ?_
                        refine w_get (v := .ref (ad 159)) hM hW FG_X12_103 lb_129 (rf_129_53 hW.2.1) dX12_go_127 ?_
                        refine q_iload hM dX12_go_130 (lv_at hl 5 rfl) ?_
                        refine w_iald hM hW lb_159 (i_in (by omega) (by omega)) dX12_go_132 ?_
                        refine q_top (fun y6424 hy6424 => ?_)
                        have by6424 := hG.a hy6424 rA_159
                        refine q_bipush (v := (10 : Int32)) hM dX12_go_133 (by decide) ?_
                        refine q_icmp_ge (tgt := 144) hM dX12_go_135 (by decide) (rfl : y6424.toInt = y6424.toInt) (kc_10 : (10 : Int32).toInt = 10) (fun h135 => ?_) (fun h135 => ?_)
                        · refine q_iinc (lv9 := fun z6426 => [(5, .int z6426), (0, .ref (ad 129)), (1, .int n), (2, .int ((-1) : Int32)), (3, .int w37_3), (4, .int w90_4)]) hM dX12_go_144 hl (kq := 5) rfl (by decide) (fun _ => rfl) (fun z6426 ls hz6426 hl => ?_)
                          first | have tz6426 := i_addT hz6426 (rfl : w109_5.toInt = w109_5.toInt) (kc_1 : (Int32.ofInt 1).toInt = 1) (by omega) (by omega) | skip
                          refine q_goto (tgt := 109) hM dX12_go_147 (by decide) ?_
                          exact ih109 z6426 _ _ _ _ (by omega) hG (by omega) (by omega) (lv_sub hl [1, 2, 3, 4, 5, 0] rfl) hW
                        · refine q_aload_n hM dX12_go_138 (lv_at hl 0 rfl) ?_
                          refine q_iload hM dX12_go_139 (lv_at hl 5 rfl) ?_
                          refine q_callV (As := [.int w109_5]) (rest := []) hM hW.1 hR hC myX12_weekOf (kAW (v_6_8 (List.mem_of_getElem? (i := 1) rfl)) rfl) (rfl : vwCl[12]? = some (RX12, TX12, 86)) rfl lb_129.1 (shO hW.2.1 lb_129) (a_X12_weekOf _ _ cA ad g9 w109_5 hW.2.1 hG (by  omega) (by  omega) (LawOK_fr hL hW.2.2 (by omega) (by omega) (by omega) (by omega) (by omega)) (by rw [← hy6424]; omega)) ⟨by decide, by decide⟩ rfl rfl hl.1 (Nat.le_of_ble_eq_true rfl) dX12_go_141 (fun v g6428 H locs hp hW1 => ?_)
                          obtain ⟨rfl, hs1, hG, hf1⟩ := hp
                          have hW : WS ad cA (fun i k => i = 161 ∨ i = 156 ∨ i = 157 ∨ (i = 129 ∧ (k = 42 ∨ k = 43 ∨ k = 44 ∨ k = 45 ∨ k = 46 ∨ k = 47 ∨ k = 48 ∨ k = 49)) ∨ (i = 129 ∧ (k = 2 ∨ k = 57 ∨ k = 58 ∨ k = 61 ∨ k = 62 ∨ k = 63 ∨ k = 64)) ∨ i = 159 ∨ (i = 129 ∧ (k = 56 ∨ k = 65 ∨ k = 66))) g0 K g6428 H locs := ⟨hW1, hs1, hW.2.2.tr hf1 (fun i k h => h.elim (fun h => (Or.inl h)) (fun h => h.elim (fun h => (Or.inr (Or.inl h))) (fun h => h.elim (fun h => (Or.inr (Or.inr (Or.inl h)))) (fun h => h.elim (fun h => (Or.inr (Or.inr (Or.inr (Or.inl h))))) (fun h => h.elim (fun h => (Or.inr (Or.inr (Or.inr (Or.inr (Or.inl h)))))) (fun h => (Or.inr (Or.inr (Or.inr (Or.inr (Or.inr (Or.inl h))))))))))))⟩
                          refine q_iinc (lv9 := fun z6429 => [(5, .int z6429), (0, .ref (ad 129)), (1, .int n), (2, .int ((-1) : Int32)), (3, .int w37_3), (4, .int w90_4)]) hM dX12_go_144 hl (kq := 5) rfl (by decide) (fun _ => rfl) (fun z6429 ls hz6429 hl => ?_)
                          first | have tz6429 := i_addT hz6429 (rfl : w109_5.toInt = w109_5.toInt) (kc_1 : (Int32.ofInt 1).toInt = 1) (by omega) (by omega) | skip
                          refine q_goto (tgt := 109) hM dX12_go_147 (by decide) ?_
                          exact ih109 z6429 _ _ _ _ (by omega) hG (by omega) (by omega) (lv_sub hl [1, 2, 3, 4, 5, 0] rfl) hW
                have := kc_0
                exact L109 _ (0 : Int32) _ _ _ _ (Nat.lt_succ_self _) hG (by omega) (by omega) (lv_sub hl [1, 2, 3, 4, 5, 0] rfl) hW
        have := kc_1
        exact L90 _ (1 : Int32) _ _ _ _ (Nat.lt_succ_self _) hG (by omega) (lv_sub hl [1, 2, 3, 4, 0] rfl) hW
      · refine q_aload_n hM dX12_go_44 (lv_at hl 0 rfl) ?_
        refine w_get (v := .ref (ad 158)) hM hW FG_X12_100 lb_129 (rf_129_52 hW.2.1) dX12_go_45 ?_
        refine q_iload hM dX12_go_48 (lv_at hl 4 rfl) ?_
        refine w_zald hM hW lb_158 (i_in (by omega) (by omega)) dX12_go_50 ?_
        refine q_top (fun y6431 hy6431 => ?_)
        refine q_if_eq (tgt := 81) hM dX12_go_51 (by decide) (rfl : y6431.toInt = y6431.toInt) (fun h51 => ?_) (fun h51 => ?_)
        · refine q_iinc (lv9 := fun z6433 => [(4, .int z6433), (0, .ref (ad 129)), (1, .int n), (2, .int ((-1) : Int32)), (3, .int w37_3)]) hM dX12_go_81 hl (kq := 4) rfl (by decide) (fun _ => rfl) (fun z6433 ls hz6433 hl => ?_)
          first | have tz6433 := i_addT hz6433 (rfl : w37_4.toInt = w37_4.toInt) (kc_1 : (Int32.ofInt 1).toInt = 1) (by omega) (by omega) | skip
          refine q_goto (tgt := 37) hM dX12_go_84 (by decide) ?_
          exact ih37 w37_3 z6433 _ _ _ _ (by omega) hG (by omega) (by omega) (by omega) (lv_sub hl [1, 2, 3, 4, 0] rfl) hW
        · refine q_iload_n hM dX12_go_54 (lv_at hl 2 rfl) ?_
          refine q_iconst (v := ((-1) : Int32)) hM dX12_go_55 (by decide) ?_
          refine q_icmp_eq (tgt := 81) hM dX12_go_56 (by decide) (kc_m1 : ((-1) : Int32).toInt = (-1)) (kc_m1 : ((-1) : Int32).toInt = (-1)) (fun h56 => ?_) (fun h56 => ?_)
          · refine q_iinc (lv9 := fun z6436 => [(4, .int z6436), (0, .ref (ad 129)), (1, .int n), (2, .int ((-1) : Int32)), (3, .int w37_3)]) hM dX12_go_81 hl (kq := 4) rfl (by decide) (fun _ => rfl) (fun z6436 ls hz6436 hl => ?_)
            first | have tz6436 := i_addT hz6436 (rfl : w37_4.toInt = w37_4.toInt) (kc_1 : (Int32.ofInt 1).toInt = 1) (by omega) (by omega) | skip
            refine q_goto (tgt := 37) hM dX12_go_84 (by decide) ?_
            exact ih37 w37_3 z6436 _ _ _ _ (by omega) hG (by omega) (by omega) (by omega) (lv_sub hl [1, 2, 3, 4, 0] rfl) hW
          · omega
  have := kc_0
  have := kc_0
  exact L37 _ (0 : Int32) (0 : Int32) _ _ _ _ (Nat.lt_succ_self _) hG (by omega) (by omega) (by omega) (lv_sub hl [2, 3, 4, 1, 0] rfl) hW

theorem dX12_go_59 : decode cX12_go 59 = .ok (.aload_n 0, 1) := by decide +kernel
theorem dX12_go_60 : decode cX12_go 60 = .ok (.getfield 109, 3) := by decide +kernel
theorem dX12_go_63 : decode cX12_go 63 = .ok (.bipush 12, 2) := by decide +kernel
theorem dX12_go_65 : decode cX12_go 65 = .ok (.iload 4, 2) := by decide +kernel
theorem dX12_go_67 : decode cX12_go 67 = .ok (.imul, 1) := by decide +kernel
theorem dX12_go_68 : decode cX12_go 68 = .ok (.iload_n 2, 1) := by decide +kernel
theorem dX12_go_69 : decode cX12_go 69 = .ok (.iadd, 1) := by decide +kernel
theorem dX12_go_70 : decode cX12_go 70 = .ok (.iaload, 1) := by decide +kernel
theorem dX12_go_71 : decode cX12_go 71 = .ok (.ifCond .le 10, 3) := by decide +kernel
theorem dX12_go_74 : decode cX12_go 74 = .ok (.iload_n 3, 1) := by decide +kernel
theorem dX12_go_75 : decode cX12_go 75 = .ok (.iconst 1, 1) := by decide +kernel
theorem dX12_go_76 : decode cX12_go 76 = .ok (.iload 4, 2) := by decide +kernel
theorem dX12_go_78 : decode cX12_go 78 = .ok (.ishl, 1) := by decide +kernel
theorem dX12_go_79 : decode cX12_go 79 = .ok (.ior, 1) := by decide +kernel
theorem dX12_go_80 : decode cX12_go 80 = .ok (.istore_n 3, 1) := by decide +kernel
theorem dX12_go_178 : decode cX12_go 178 = .ok (.aload_n 0, 1) := by decide +kernel
theorem dX12_go_179 : decode cX12_go 179 = .ok (.getfield 109, 3) := by decide +kernel
theorem dX12_go_182 : decode cX12_go 182 = .ok (.bipush 12, 2) := by decide +kernel
theorem dX12_go_184 : decode cX12_go 184 = .ok (.iload 5, 2) := by decide +kernel
theorem dX12_go_186 : decode cX12_go 186 = .ok (.imul, 1) := by decide +kernel
theorem dX12_go_187 : decode cX12_go 187 = .ok (.iload_n 2, 1) := by decide +kernel
theorem dX12_go_188 : decode cX12_go 188 = .ok (.iadd, 1) := by decide +kernel
theorem dX12_go_189 : decode cX12_go 189 = .ok (.iaload, 1) := by decide +kernel
theorem dX12_go_190 : decode cX12_go 190 = .ok (.ifCond .le 6, 3) := by decide +kernel
theorem dX12_go_193 : decode cX12_go 193 = .ok (.goto 15, 3) := by decide +kernel
theorem dX12_go_196 : decode cX12_go 196 = .ok (.aload_n 0, 1) := by decide +kernel
theorem dX12_go_197 : decode cX12_go 197 = .ok (.iload 5, 2) := by decide +kernel
theorem dX12_go_199 : decode cX12_go 199 = .ok (.putfield 495, 3) := by decide +kernel
theorem dX12_go_202 : decode cX12_go 202 = .ok (.aload_n 0, 1) := by decide +kernel
theorem dX12_go_203 : decode cX12_go 203 = .ok (.iload 4, 2) := by decide +kernel
theorem dX12_go_205 : decode cX12_go 205 = .ok (.putfield 498, 3) := by decide +kernel
set_option maxRecDepth 100000 in
set_option maxHeartbeats 4000000 in
theorem a_X12_go (l : Launch) (D : va_G) (cA : Nat → ClassId) (ad : Nat → Nat) (g0 : Nat → va_E) (n : Int32) (wa : Int32)   (hSh : Shp ad cA g0) (hG : Rng g0) (wa0 : 0 ≤ wa.toInt) (wa1 : wa.toInt ≤ 11) (n60 : n.toInt ≤ 60) (hL : LawOK g0) : CT l NN ad cA D yX12_go cX12_go 6 none (9, 207) [.ref (ad 129), .int n, .int wa] g0 (fun v g' => v = none ∧ Shp ad cA g' ∧ Rng g' ∧ FR (fun i k => i = 161 ∨ i = 156 ∨ i = 157 ∨ (i = 129 ∧ (k = 42 ∨ k = 43 ∨ k = 44 ∨ k = 45 ∨ k = 46 ∨ k = 47 ∨ k = 48 ∨ k = 49)) ∨ (i = 129 ∧ (k = 2 ∨ k = 57 ∨ k = 58 ∨ k = 61 ∨ k = 62 ∨ k = 63 ∨ k = 64)) ∨ i = 159 ∨ (i = 129 ∧ (k = 56 ∨ k = 65 ∨ k = 66))) g0 g') := by
  refine q_enterV (by decide) (Nat.le_of_ble_eq_true rfl) (fun K H locs ls _ _ hM hW0 hR hC hE hl => ?_)
  have hl : lv_has ls 6 [(0, .ref (ad 129)), (1, .int n), (2, .int wa)] := hl
  have hW : WS ad cA (fun i k => i = 161 ∨ i = 156 ∨ i = 157 ∨ (i = 129 ∧ (k = 42 ∨ k = 43 ∨ k = 44 ∨ k = 45 ∨ k = 46 ∨ k = 47 ∨ k = 48 ∨ k = 49)) ∨ (i = 129 ∧ (k = 2 ∨ k = 57 ∨ k = 58 ∨ k = 61 ∨ k = 62 ∨ k = 63 ∨ k = 64)) ∨ i = 159 ∨ (i = 129 ∧ (k = 56 ∨ k = 65 ∨ k = 66))) g0 K g0 H locs := ⟨hW0, hSh, FR.rf⟩
  have := i_rng n
  refine q_aload_n hM dX12_go_0 (lv_at hl 0 rfl) ?_
  refine q_iconst (v := (0 : Int32)) hM dX12_go_1 (by decide) ?_
  refine w_put hM hW FP_X12_474 lb_129 (by omega) (Or.inl ⟨_, rfl⟩) rfl rfl dX12_go_2 (fun g6438 H locs hW e1 e2 => ?_)
  have f6439 : fld g6438 129 61 = .int (0 : Int32) := e1
  have hG := hG.put e1 e2 (rfl : rF 129 61 = (-2147483648, 2147483647)) (by decide) (by have := kc_0; have := i_rng (0 : Int32); omega) (by have := kc_0; have := i_rng (0 : Int32); omega)
  refine q_aload_n hM dX12_go_5 (lv_at hl 0 rfl) ?_
  refine q_iconst (v := (0 : Int32)) hM dX12_go_6 (by decide) ?_
  refine w_put hM hW FP_X12_477 lb_129 (by omega) (Or.inl ⟨_, rfl⟩) rfl rfl dX12_go_7 (fun g6440 H locs hW e1 e2 => ?_)
  have f6441 : fld g6440 129 61 = .int (0 : Int32) := (e2.1 129 61 (by unfold Only; omega)).trans f6439
  have f6442 : fld g6440 129 62 = .int (0 : Int32) := e1
  have hG := hG.put e1 e2 (rfl : rF 129 62 = (-2147483648, 2147483647)) (by decide) (by have := kc_0; have := i_rng (0 : Int32); omega) (by have := kc_0; have := i_rng (0 : Int32); omega)
  refine q_aload_n hM dX12_go_10 (lv_at hl 0 rfl) ?_
  refine q_iconst (v := (0 : Int32)) hM dX12_go_11 (by decide) ?_
  refine w_put hM hW FP_X12_489 lb_129 (by omega) (Or.inl ⟨_, rfl⟩) rfl rfl dX12_go_12 (fun g6443 H locs hW e1 e2 => ?_)
  have f6444 : fld g6443 129 61 = .int (0 : Int32) := (e2.1 129 61 (by unfold Only; omega)).trans f6441
  have f6445 : fld g6443 129 62 = .int (0 : Int32) := (e2.1 129 62 (by unfold Only; omega)).trans f6442
  have f6446 : fld g6443 129 63 = .int (0 : Int32) := e1
  have hG := hG.put e1 e2 (rfl : rF 129 63 = (-2147483648, 2147483647)) (by decide) (by have := kc_0; have := i_rng (0 : Int32); omega) (by have := kc_0; have := i_rng (0 : Int32); omega)
  refine q_aload_n hM dX12_go_15 (lv_at hl 0 rfl) ?_
  refine q_iconst (v := (0 : Int32)) hM dX12_go_16 (by decide) ?_
  refine w_put hM hW FP_X12_468 lb_129 (by omega) (Or.inl ⟨_, rfl⟩) rfl rfl dX12_go_17 (fun g6447 H locs hW e1 e2 => ?_)
  have f6448 : fld g6447 129 61 = .int (0 : Int32) := (e2.1 129 61 (by unfold Only; omega)).trans f6444
  have f6449 : fld g6447 129 62 = .int (0 : Int32) := (e2.1 129 62 (by unfold Only; omega)).trans f6445
  have f6450 : fld g6447 129 63 = .int (0 : Int32) := (e2.1 129 63 (by unfold Only; omega)).trans f6446
  have f6451 : fld g6447 129 64 = .int (0 : Int32) := e1
  have hG := hG.put e1 e2 (rfl : rF 129 64 = (-2147483648, 2147483647)) (by decide) (by have := kc_0; have := i_rng (0 : Int32); omega) (by have := kc_0; have := i_rng (0 : Int32); omega)
  refine q_aload_n hM dX12_go_20 (lv_at hl 0 rfl) ?_
  refine q_bipush (v := ((-2) : Int32)) hM dX12_go_21 (by decide) ?_
  refine w_put hM hW FP_X12_495 lb_129 (by omega) (Or.inl ⟨_, rfl⟩) rfl rfl dX12_go_23 (fun g6452 H locs hW e1 e2 => ?_)
  have f6453 : fld g6452 129 61 = .int (0 : Int32) := (e2.1 129 61 (by unfold Only; omega)).trans f6448
  have f6454 : fld g6452 129 62 = .int (0 : Int32) := (e2.1 129 62 (by unfold Only; omega)).trans f6449
  have f6455 : fld g6452 129 63 = .int (0 : Int32) := (e2.1 129 63 (by unfold Only; omega)).trans f6450
  have f6456 : fld g6452 129 64 = .int (0 : Int32) := (e2.1 129 64 (by unfold Only; omega)).trans f6451
  have f6457 : fld g6452 129 65 = .int ((-2) : Int32) := e1
  have hG := hG.put e1 e2 (rfl : rF 129 65 = (-2147483648, 2147483647)) (by decide) (by have := kc_m2; have := i_rng ((-2) : Int32); omega) (by have := kc_m2; have := i_rng ((-2) : Int32); omega)
  refine q_aload_n hM dX12_go_26 (lv_at hl 0 rfl) ?_
  refine q_bipush (v := ((-2) : Int32)) hM dX12_go_27 (by decide) ?_
  refine w_put hM hW FP_X12_498 lb_129 (by omega) (Or.inl ⟨_, rfl⟩) rfl rfl dX12_go_29 (fun g6458 H locs hW e1 e2 => ?_)
  have f6459 : fld g6458 129 61 = .int (0 : Int32) := (e2.1 129 61 (by unfold Only; omega)).trans f6453
  have f6460 : fld g6458 129 62 = .int (0 : Int32) := (e2.1 129 62 (by unfold Only; omega)).trans f6454
  have f6461 : fld g6458 129 63 = .int (0 : Int32) := (e2.1 129 63 (by unfold Only; omega)).trans f6455
  have f6462 : fld g6458 129 64 = .int (0 : Int32) := (e2.1 129 64 (by unfold Only; omega)).trans f6456
  have f6463 : fld g6458 129 65 = .int ((-2) : Int32) := (e2.1 129 65 (by unfold Only; omega)).trans f6457
  have f6464 : fld g6458 129 66 = .int ((-2) : Int32) := e1
  have hG := hG.put e1 e2 (rfl : rF 129 66 = (-2147483648, 2147483647)) (by decide) (by have := kc_m2; have := i_rng ((-2) : Int32); omega) (by have := kc_m2; have := i_rng ((-2) : Int32); omega)
  refine q_iconst (v := (0 : Int32)) hM dX12_go_32 (by decide) ?_
  refine q_istore_n (lv9 := [(3, .int (0 : Int32)), (0, .ref (ad 129)), (1, .int n), (2, .int wa)]) hM dX12_go_33 hl (by decide) rfl (fun ls hl => ?_)
  refine q_iconst (v := (0 : Int32)) hM dX12_go_34 (by decide) ?_
  refine q_istore (lv9 := [(4, .int (0 : Int32)), (3, .int (0 : Int32)), (0, .ref (ad 129)), (1, .int n), (2, .int wa)]) hM dX12_go_35 hl (by decide) rfl (fun ls hl => ?_)
  have L37 : ∀ (fu37 : Nat) (w37_3 : Int32) (w37_4 : Int32) (g9 : Nat → va_E) (H : Heap) (locs : List Loc) (ls : Array Slot), (8 - w37_4.toInt).toNat < fu37 → (Rng g9) → (0 ≤ w37_4.toInt) → (w37_4.toInt ≤ 8) → lv_has ls 6 [(0, .ref (ad 129)), (1, .int n), (2, .int wa), (3, .int w37_3), (4, .int w37_4)] → WS ad cA (fun i k => i = 161 ∨ i = 156 ∨ i = 157 ∨ (i = 129 ∧ (k = 42 ∨ k = 43 ∨ k = 44 ∨ k = 45 ∨ k = 46 ∨ k = 47 ∨ k = 48 ∨ k = 49)) ∨ (i = 129 ∧ (k = 2 ∨ k = 57 ∨ k = 58 ∨ k = 61 ∨ k = 62 ∨ k = 63 ∨ k = 64)) ∨ i = 159 ∨ (i = 129 ∧ (k = 56 ∨ k = 65 ∨ k = 66))) g0 K g9 H locs → XX K 0 0 H locs 37 ls [] := by
    intro fu37
    induction fu37 with
    | zero => intro w37_3 w37_4 g9 H locs ls h0; omega
    | succ fu37 ih37 =>
      intro w37_3 w37_4 g9 H locs ls hm37 i37_0 i37_1 i37_2 hl hW
      have hG := i37_0
      refine q_iload hM dX12_go_37 (lv_at hl 4 rfl) ?_
      refine q_bipush (v := (8 : Int32)) hM dX12_go_39 (by decide) ?_
      refine q_icmp_ge (tgt := 87) hM dX12_go_41 (by decide) (rfl : w37_4.toInt = w37_4.toInt) (kc_8 : (8 : Int32).toInt = 8) (fun h41 => ?_) (fun h41 => ?_)
      · refine q_iconst (v := (1 : Int32)) hM dX12_go_87 (by decide) ?_
        refine q_istore (lv9 := [(4, .int (1 : Int32)), (0, .ref (ad 129)), (1, .int n), (2, .int wa), (3, .int w37_3)]) hM dX12_go_88 hl (by decide) rfl (fun ls hl => ?_)
        have L90 : ∀ (fu90 : Nat) (w90_4 : Int32) (g9 : Nat → va_E) (H : Heap) (locs : List Loc) (ls : Array Slot), (n.toInt - w90_4.toInt + 1).toNat < fu90 → (Rng g9) → (1 ≤ w90_4.toInt) → lv_has ls 6 [(0, .ref (ad 129)), (1, .int n), (2, .int wa), (3, .int w37_3), (4, .int w90_4)] → WS ad cA (fun i k => i = 161 ∨ i = 156 ∨ i = 157 ∨ (i = 129 ∧ (k = 42 ∨ k = 43 ∨ k = 44 ∨ k = 45 ∨ k = 46 ∨ k = 47 ∨ k = 48 ∨ k = 49)) ∨ (i = 129 ∧ (k = 2 ∨ k = 57 ∨ k = 58 ∨ k = 61 ∨ k = 62 ∨ k = 63 ∨ k = 64)) ∨ i = 159 ∨ (i = 129 ∧ (k = 56 ∨ k = 65 ∨ k = 66))) g0 K g9 H locs → XX K 0 0 H locs 90 ls [] := by
          intro fu90
          induction fu90 with
          | zero => intro w90_4 g9 H locs ls h0; omega
          | succ fu90 ih90 =>
            intro w90_4 g9 H locs ls hm90 i90_0 i90_1 hl hW
            have hG := i90_0
            have := i_rng n
            refine q_iload hM dX12_go_90 (lv_at hl 4 rfl) ?_
            refine q_iload_n hM dX12_go_92 (lv_at hl 1 rfl) ?_
            refine q_icmp_gt (tgt := 230) hM dX12_go_93 (by decide) (rfl : w90_4.toInt = w90_4.toInt) (rfl : n.toInt = n.toInt) (fun h93 => ?_) (fun h93 => ?_)
            · exact hE _ _ _ _ _ hW.1 ⟨rfl, hW.2.1, hG, hW.2.2⟩ dX12_go_230
            · refine q_aload_n hM dX12_go_96 (lv_at hl 0 rfl) ?_
              refine w_getI hM hW FG_X12_416 lb_129 (by decide) (by decide) dX12_go_97 (fun x6470 fx6470 => ?_)
              refine q_sipush (v := (9999 : Int32)) hM dX12_go_100 (by decide) ?_
              refine q_icmp_ge (tgt := 230) hM dX12_go_103 (by decide) (rfl : x6470.toInt = x6470.toInt) (kc_9999 : (9999 : Int32).toInt = 9999) (fun h103 => ?_) (fun h103 => ?_)
              · exact hE _ _ _ _ _ hW.1 ⟨rfl, hW.2.1, hG, hW.2.2⟩ dX12_go_230
              · refine q_iconst (v := (0 : Int32)) hM dX12_go_106 (by decide) ?_
                refine q_istore (lv9 := [(5, .int (0 : Int32)), (0, .ref (ad 129)), (1, .int n), (2, .int wa), (3, .int w37_3), (4, .int w90_4)]) hM dX12_go_107 hl (by decide) rfl (fun ls hl => ?_)
                have L109 : ∀ (fu109 : Nat) (w109_5 : Int32) (g9 : Nat → va_E) (H : Heap) (locs : List Loc) (ls : Array Slot), (8 - w109_5.toInt).toNat < fu109 → (Rng g9) → (0 ≤ w109_5.toInt) → (w109_5.toInt ≤ 8) → lv_has ls 6 [(0, .ref (ad 129)), (1, .int n), (2, .int wa), (3, .int w37_3), (4, .int w90_4), (5, .int w109_5)] → WS ad cA (fun i k => i = 161 ∨ i = 156 ∨ i = 157 ∨ (i = 129 ∧ (k = 42 ∨ k = 43 ∨ k = 44 ∨ k = 45 ∨ k = 46 ∨ k = 47 ∨ k = 48 ∨ k = 49)) ∨ (i = 129 ∧ (k = 2 ∨ k = 57 ∨ k = 58 ∨ k = 61 ∨ k = 62 ∨ k = 63 ∨ k = 64)) ∨ i = 159 ∨ (i = 129 ∧ (k = 56 ∨ k = 65 ∨ k = 66))) g0 K g9 H locs → XX K 0 0 H locs 109 ls [] := by
                  intro fu109
                  induction fu109 with
                  | zero => intro w109_5 g9 H locs ls h0; omega
                  | succ fu109 ih109 =>
                    intro w109_5 g9 H locs ls hm109 i109_0 i109_1 i109_2 hl hW
                    have hG := i109_0
                    refine q_iload hM dX12_go_109 (lv_at hl 5 rfl) ?_
                    refine q_bipush (v := (8 : Int32)) hM dX12_go_111 (by decide) ?_
                    refine q_icmp_ge (tgt := 150) hM dX12_go_113 (by decide) (rfl : w109_5.toInt = w109_5.toInt) (kc_8 : (8 : Int32).toInt = 8) (fun h113 => ?_) (fun h113 => ?_)
                    · refine q_iconst (v := (0 : Int32)) hM dX12_go_150 (by decide) ?_
                      refine q_istore (lv9 := [(5, .int (0 : Int32)), (0, .ref (ad 129)), (1, .int n), (2, .int wa), (3, .int w37_3), (4, .int w90_4)]) hM dX12_go_151 hl (by decide) rfl (fun ls hl => ?_)
                      have L153 : ∀ (fu153 : Nat) (w153_5 : Int32) (g9 : Nat → va_E) (H : Heap) (locs : List Loc) (ls : Array Slot), (8 - w153_5.toInt).toNat < fu153 → (Rng g9) → (0 ≤ w153_5.toInt) → (w153_5.toInt ≤ 8) → lv_has ls 6 [(0, .ref (ad 129)), (1, .int n), (2, .int wa), (3, .int w37_3), (4, .int w90_4), (5, .int w153_5)] → WS ad cA (fun i k => i = 161 ∨ i = 156 ∨ i = 157 ∨ (i = 129 ∧ (k = 42 ∨ k = 43 ∨ k = 44 ∨ k = 45 ∨ k = 46 ∨ k = 47 ∨ k = 48 ∨ k = 49)) ∨ (i = 129 ∧ (k = 2 ∨ k = 57 ∨ k = 58 ∨ k = 61 ∨ k = 62 ∨ k = 63 ∨ k = 64)) ∨ i = 159 ∨ (i = 129 ∧ (k = 56 ∨ k = 65 ∨ k = 66))) g0 K g9 H locs → XX K 0 0 H locs 153 ls [] := by
                        intro fu153
                        induction fu153 with
                        | zero => intro w153_5 g9 H locs ls h0; omega
                        | succ fu153 ih153 =>
                          intro w153_5 g9 H locs ls hm153 i153_0 i153_1 i153_2 hl hW
                          have hG := i153_0
                          refine q_iload hM dX12_go_153 (lv_at hl 5 rfl) ?_
                          refine q_bipush (v := (8 : Int32)) hM dX12_go_155 (by decide) ?_
                          refine q_icmp_ge (tgt := 214) hM dX12_go_157 (by decide) (rfl : w153_5.toInt = w153_5.toInt) (kc_8 : (8 : Int32).toInt = 8) (fun h157 => ?_) (fun h157 => ?_)
                          · refine q_aload_n hM dX12_go_214 (lv_at hl 0 rfl) ?_
                            refine q_dup hM dX12_go_215 rfl ?_
                            refine w_getI hM hW FG_X12_416 lb_129 (by decide) (by decide) dX12_go_216 (fun x6477 fx6477 => ?_)
                            refine q_iconst (v := (1 : Int32)) hM dX12_go_219 (by decide) ?_
                            refine q_iadd hM dX12_go_220 (fun z6478 hz6478 => ?_)
                            first | have tz6478 := i_addT hz6478 (rfl : x6477.toInt = x6477.toInt) (kc_1 : (1 : Int32).toInt = 1) (by omega) (by omega) | skip
                            refine w_put hM hW FP_X12_416 lb_129 (by omega) (Or.inl ⟨_, rfl⟩) rfl rfl dX12_go_221 (fun g6479 H locs hW e1 e2 => ?_)
                            have f6480 : fld g6479 129 56 = .int z6478 := e1
                            have hG := hG.put e1 e2 (rfl : rF 129 56 = (-2147483648, 2147483647)) (by decide) (by have := i_rng z6478; omega) (by have := i_rng z6478; omega)
                            refine q_iinc (lv9 := fun z6481 => [(4, .int z6481), (0, .ref (ad 129)), (1, .int n), (2, .int wa), (3, .int w37_3), (5, .int w153_5)]) hM dX12_go_224 hl (kq := 4) rfl (by decide) (fun _ => rfl) (fun z6481 ls hz6481 hl => ?_)
                            first | have tz6481 := i_addT hz6481 (rfl : w90_4.toInt = w90_4.toInt) (kc_1 : (Int32.ofInt 1).toInt = 1) (by omega) (by omega) | skip
                            refine q_goto (tgt := 90) hM dX12_go_227 (by decide) ?_
                            exact ih90 z6481 _ _ _ _ (by omega) hG (by omega) (lv_sub hl [1, 2, 3, 4, 0] rfl) hW
                          · refine q_aload_n hM dX12_go_160 (lv_at hl 0 rfl) ?_
                            refine w_getI hM hW FG_X12_495 lb_129 (by decide) (by decide) dX12_go_161 (fun x6483 fx6483 => ?_)
                            refine q_bipush (v := ((-2) : Int32)) hM dX12_go_164 (by decide) ?_
                            refine q_icmp_ne (tgt := 214) hM dX12_go_166 (by decide) (rfl : x6483.toInt = x6483.toInt) (kc_m2 : ((-2) : Int32).toInt = (-2)) (fun h166 => ?_) (fun h166 => ?_)
                            · refine q_aload_n hM dX12_go_214 (lv_at hl 0 rfl) ?_
                              refine q_dup hM dX12_go_215 rfl ?_
                              refine w_getI hM hW FG_X12_416 lb_129 (by decide) (by decide) dX12_go_216 (fun x6485 fx6485 => ?_)
                              refine q_iconst (v := (1 : Int32)) hM dX12_go_219 (by decide) ?_
                              refine q_iadd hM dX12_go_220 (fun z6486 hz6486 => ?_)
                              first | have tz6486 := i_addT hz6486 (rfl : x6485.toInt = x6485.toInt) (kc_1 : (1 : Int32).toInt = 1) (by omega) (by omega) | skip
                              refine w_put hM hW FP_X12_416 lb_129 (by omega) (Or.inl ⟨_, rfl⟩) rfl rfl dX12_go_221 (fun g6487 H locs hW e1 e2 => ?_)
                              have f6488 : fld g6487 129 65 = .int x6483 := (e2.1 129 65 (by unfold Only; omega)).trans fx6483
                              have f6489 : fld g6487 129 56 = .int z6486 := e1
                              have hG := hG.put e1 e2 (rfl : rF 129 56 = (-2147483648, 2147483647)) (by decide) (by have := i_rng z6486; omega) (by have := i_rng z6486; omega)
                              refine q_iinc (lv9 := fun z6490 => [(4, .int z6490), (0, .ref (ad 129)), (1, .int n), (2, .int wa), (3, .int w37_3), (5, .int w153_5)]) hM dX12_go_224 hl (kq := 4) rfl (by decide) (fun _ => rfl) (fun z6490 ls hz6490 hl => ?_)
                              first | have tz6490 := i_addT hz6490 (rfl : w90_4.toInt = w90_4.toInt) (kc_1 : (Int32.ofInt 1).toInt = 1) (by omega) (by omega) | skip
                              refine q_goto (tgt := 90) hM dX12_go_227 (by decide) ?_
                              exact ih90 z6490 _ _ _ _ (by omega) hG (by omega) (lv_sub hl [1, 2, 3, 4, 0] rfl) hW
                            · refine q_iload_n hM dX12_go_169 (lv_at hl 3 rfl) ?_
                              refine q_iload hM dX12_go_170 (lv_at hl 5 rfl) ?_
                              refine q_callS (As := [.int w37_3, .int w153_5]) (rest := []) hM hW.1 hR hC myX12_has (kAW (v_5_6 (List.mem_of_getElem? (i := 7) rfl)) rfl) (c_X12_has _ _ cA ad g9 w37_3 w153_5 hW.2.1 (by omega) (by omega)) ⟨by decide, by decide⟩ rfl rfl hl.1 (Nat.le_of_ble_eq_true rfl) dX12_go_172 (fun v g6493 H locs hp hW1 => ?_)
                              obtain ⟨r6492, rfl, hr6492, rfl⟩ := hp
                              have hW : WS ad cA (fun i k => i = 161 ∨ i = 156 ∨ i = 157 ∨ (i = 129 ∧ (k = 42 ∨ k = 43 ∨ k = 44 ∨ k = 45 ∨ k = 46 ∨ k = 47 ∨ k = 48 ∨ k = 49)) ∨ (i = 129 ∧ (k = 2 ∨ k = 57 ∨ k = 58 ∨ k = 61 ∨ k = 62 ∨ k = 63 ∨ k = 64)) ∨ i = 159 ∨ (i = 129 ∧ (k = 56 ∨ k = 65 ∨ k = 66))) g0 K g9 H locs := ⟨hW1, hW.2.1, hW.2.2⟩
                              refine q_if_eq (tgt := 208) hM dX12_go_175 (by decide) (rfl : r6492.toInt = r6492.toInt) (fun h175 => ?_) (fun h175 => ?_)
                              · refine q_iinc (lv9 := fun z6495 => [(5, .int z6495), (0, .ref (ad 129)), (1, .int n), (2, .int wa), (3, .int w37_3), (4, .int w90_4)]) hM dX12_go_208 hl (kq := 5) rfl (by decide) (fun _ => rfl) (fun z6495 ls hz6495 hl => ?_)
                                first | have tz6495 := i_addT hz6495 (rfl : w153_5.toInt = w153_5.toInt) (kc_1 : (Int32.ofInt 1).toInt = 1) (by omega) (by omega) | skip
                                refine q_goto (tgt := 153) hM dX12_go_211 (by decide) ?_
                                exact ih153 z6495 _ _ _ _ (by omega) hG (by omega) (by omega) (lv_sub hl [1, 2, 3, 4, 5, 0] rfl) hW
                              · refine q_aload_n hM dX12_go_178 (lv_at hl 0 rfl) ?_
                                refine w_get (v := .ref (ad 161)) hM hW FG_X12_109 lb_129 (rf_129_55 hW.2.1) dX12_go_179 ?_
                                refine q_bipush (v := (12 : Int32)) hM dX12_go_182 (by decide) ?_
                                refine q_iload hM dX12_go_184 (lv_at hl 5 rfl) ?_
                                refine q_imul hM dX12_go_186 (fun z6497 hz6497 => ?_)
                                first | have tz6497 := i_mulT hz6497 (kc_12 : (12 : Int32).toInt = 12) (rfl : w153_5.toInt = w153_5.toInt) (by omega) (by omega) | skip
                                refine q_iload_n hM dX12_go_187 (lv_at hl 2 rfl) ?_
                                refine q_iadd hM dX12_go_188 (fun z6498 hz6498 => ?_)
                                first | have tz6498 := i_addT hz6498 (rfl : z6497.toInt = z6497.toInt) (rfl : wa.toInt = wa.toInt) (by omega) (by omega) | skip
                                refine w_iald hM hW lb_161 (i_in (by omega) (by omega)) dX12_go_189 ?_
                                refine q_top (fun y6499 hy6499 => ?_)
                                refine q_if_le (tgt := 196) hM dX12_go_190 (by decide) (rfl : y6499.toInt = y6499.toInt) (fun h190 => ?_) (fun h190 => ?_)
                                · refine q_aload_n hM dX12_go_196 (lv_at hl 0 rfl) ?_
                                  refine q_iload hM dX12_go_197 (lv_at hl 5 rfl) ?_
                                  refine w_put hM hW FP_X12_495 lb_129 (by omega) (Or.inl ⟨_, rfl⟩) rfl rfl dX12_go_199 (fun g6501 H locs hW e1 e2 => ?_)
                                  have f6502 : fld g6501 129 65 = .int w153_5 := e1
                                  have hG := hG.put e1 e2 (rfl : rF 129 65 = (-2147483648, 2147483647)) (by decide) (by have := i_rng w153_5; omega) (by have := i_rng w153_5; omega)
                                  refine q_aload_n hM dX12_go_202 (lv_at hl 0 rfl) ?_
                                  refine q_iload hM dX12_go_203 (lv_at hl 4 rfl) ?_
                                  refine w_put hM hW FP_X12_498 lb_129 (by omega) (Or.inl ⟨_, rfl⟩) rfl rfl dX12_go_205 (fun g6503 H locs hW e1 e2 => ?_)
                                  have f6504 : fld g6503 129 65 = .int w153_5 := (e2.1 129 65 (by unfold Only; omega)).trans f6502
                                  have f6505 : fld g6503 129 66 = .int w90_4 := e1
                                  have hG := hG.put e1 e2 (rfl : rF 129 66 = (-2147483648, 2147483647)) (by decide) (by have := i_rng w90_4; omega) (by have := i_rng w90_4; omega)
                                  refine q_iinc (lv9 := fun z6506 => [(5, .int z6506), (0, .ref (ad 129)), (1, .int n), (2, .int wa), (3, .int w37_3), (4, .int w90_4)]) hM dX12_go_208 hl (kq := 5) rfl (by decide) (fun _ => rfl) (fun z6506 ls hz6506 hl => ?_)
                                  first | have tz6506 := i_addT hz6506 (rfl : w153_5.toInt = w153_5.toInt) (kc_1 : (Int32.ofInt 1).toInt = 1) (by omega) (by omega) | skip
                                  refine q_goto (tgt := 153) hM dX12_go_211 (by decide) ?_
                                  exact ih153 z6506 _ _ _ _ (by omega) hG (by omega) (by omega) (lv_sub hl [1, 2, 3, 4, 5, 0] rfl) hW
                                · refine q_goto (tgt := 208) hM dX12_go_193 (by decide) ?_
                                  refine q_iinc (lv9 := fun z6508 => [(5, .int z6508), (0, .ref (ad 129)), (1, .int n), (2, .int wa), (3, .int w37_3), (4, .int w90_4)]) hM dX12_go_208 hl (kq := 5) rfl (by decide) (fun _ => rfl) (fun z6508 ls hz6508 hl => ?_)
                                  first | have tz6508 := i_addT hz6508 (rfl : w153_5.toInt = w153_5.toInt) (kc_1 : (Int32.ofInt 1).toInt = 1) (by omega) (by omega) | skip
                                  refine q_goto (tgt := 153) hM dX12_go_211 (by decide) ?_
                                  exact ih153 z6508 _ _ _ _ (by omega) hG (by omega) (by omega) (lv_sub hl [1, 2, 3, 4, 5, 0] rfl) hW
                      have := kc_0
                      exact L153 _ (0 : Int32) _ _ _ _ (Nat.lt_succ_self _) hG (by omega) (by omega) (lv_sub hl [1, 2, 3, 4, 5, 0] rfl) hW
                    · refine q_aload_n hM dX12_go_116 (lv_at hl 0 rfl) ?_
                      refine w_get (v := .ref (ad 158)) hM hW FG_X12_100 lb_129 (rf_129_52 hW.2.1) dX12_go_117 ?_
                      refine q_iload hM dX12_go_120 (lv_at hl 5 rfl) ?_
                      refine w_zald hM hW lb_158 (i_in (by omega) (by omega)) dX12_go_122 ?_
                      refine q_top (fun y6510 hy6510 => ?_)
                      refine q_if_eq (tgt := 144) hM dX12_go_123 (by decide) (rfl : y6510.toInt = y6510.toInt) (fun h123 => ?_) (fun h123 => ?_)
                      · refine q_iinc (lv9 := fun z6512 => [(5, .int z6512), (0, .ref (ad 129)), (1, .int n), (2, .int wa), (3, .int w37_3), (4, .int w90_4)]) hM dX12_go_144 hl (kq := 5) rfl (by decide) (fun _ => rfl) (fun z6512 ls hz6512 hl => ?_)
                        first | have tz6512 := i_addT hz6512 (rfl : w109_5.toInt = w109_5.toInt) (kc_1 : (Int32.ofInt 1).toInt = 1) (by omega) (by omega) | skip
                        refine q_goto (tgt := 109) hM dX12_go_147 (by decide) ?_
                        exact ih109 z6512 _ _ _ _ (by omega) hG (by omega) (by omega) (lv_sub hl [1, 2, 3, 4, 5, 0] rfl) hW
                      · refine q_aload_n hM dX12_go_126 (lv_at hl 0 rfl) ?_
                        refine w_get (v := .ref (ad 159)) hM hW FG_X12_103 lb_129 (rf_129_53 hW.2.1) dX12_go_127 ?_
                        refine q_iload hM dX12_go_130 (lv_at hl 5 rfl) ?_
                        refine w_iald hM hW lb_159 (i_in (by omega) (by omega)) dX12_go_132 ?_
                        refine q_top (fun y6514 hy6514 => ?_)
                        have by6514 := hG.a hy6514 rA_159
                        refine q_bipush (v := (10 : Int32)) hM dX12_go_133 (by decide) ?_
                        refine q_icmp_ge (tgt := 144) hM dX12_go_135 (by decide) (rfl : y6514.toInt = y6514.toInt) (kc_10 : (10 : Int32).toInt = 10) (fun h135 => ?_) (fun h135 => ?_)
                        · refine q_iinc (lv9 := fun z6516 => [(5, .int z6516), (0, .ref (ad 129)), (1, .int n), (2, .int wa), (3, .int w37_3), (4, .int w90_4)]) hM dX12_go_144 hl (kq := 5) rfl (by decide) (fun _ => rfl) (fun z6516 ls hz6516 hl => ?_)
                          first | have tz6516 := i_addT hz6516 (rfl : w109_5.toInt = w109_5.toInt) (kc_1 : (Int32.ofInt 1).toInt = 1) (by omega) (by omega) | skip
                          refine q_goto (tgt := 109) hM dX12_go_147 (by decide) ?_
                          exact ih109 z6516 _ _ _ _ (by omega) hG (by omega) (by omega) (lv_sub hl [1, 2, 3, 4, 5, 0] rfl) hW
                        · refine q_aload_n hM dX12_go_138 (lv_at hl 0 rfl) ?_
                          refine q_iload hM dX12_go_139 (lv_at hl 5 rfl) ?_
                          refine q_callV (As := [.int w109_5]) (rest := []) hM hW.1 hR hC myX12_weekOf (kAW (v_6_8 (List.mem_of_getElem? (i := 1) rfl)) rfl) (rfl : vwCl[12]? = some (RX12, TX12, 86)) rfl lb_129.1 (shO hW.2.1 lb_129) (a_X12_weekOf _ _ cA ad g9 w109_5 hW.2.1 hG (by  omega) (by  omega) (LawOK_fr hL hW.2.2 (by omega) (by omega) (by omega) (by omega) (by omega)) (by rw [← hy6514]; omega)) ⟨by decide, by decide⟩ rfl rfl hl.1 (Nat.le_of_ble_eq_true rfl) dX12_go_141 (fun v g6518 H locs hp hW1 => ?_)
                          obtain ⟨rfl, hs1, hG, hf1⟩ := hp
                          have hW : WS ad cA (fun i k => i = 161 ∨ i = 156 ∨ i = 157 ∨ (i = 129 ∧ (k = 42 ∨ k = 43 ∨ k = 44 ∨ k = 45 ∨ k = 46 ∨ k = 47 ∨ k = 48 ∨ k = 49)) ∨ (i = 129 ∧ (k = 2 ∨ k = 57 ∨ k = 58 ∨ k = 61 ∨ k = 62 ∨ k = 63 ∨ k = 64)) ∨ i = 159 ∨ (i = 129 ∧ (k = 56 ∨ k = 65 ∨ k = 66))) g0 K g6518 H locs := ⟨hW1, hs1, hW.2.2.tr hf1 (fun i k h => h.elim (fun h => (Or.inl h)) (fun h => h.elim (fun h => (Or.inr (Or.inl h))) (fun h => h.elim (fun h => (Or.inr (Or.inr (Or.inl h)))) (fun h => h.elim (fun h => (Or.inr (Or.inr (Or.inr (Or.inl h))))) (fun h => h.elim (fun h => (Or.inr (Or.inr (Or.inr (Or.inr (Or.inl h)))))) (fun h => (Or.inr (Or.inr (Or.inr (Or.inr (Or.inr (Or.inl h))))))))))))⟩
                          refine q_iinc (lv9 := fun z6519 => [(5, .int z6519), (0, .ref (ad 129)), (1, .int n), (2, .int wa), (3, .int w37_3), (4, .int w90_4)]) hM dX12_go_144 hl (kq := 5) rfl (by decide) (fun _ => rfl) (fun z6519 ls hz6519 hl => ?_)
                          first | have tz6519 := i_addT hz6519 (rfl : w109_5.toInt = w109_5.toInt) (kc_1 : (Int32.ofInt 1).toInt = 1) (by omega) (by omega) | skip
                          refine q_goto (tgt := 109) hM dX12_go_147 (by decide) ?_
                          exact ih109 z6519 _ _ _ _ (by omega) hG (by omega) (by omega) (lv_sub hl [1, 2, 3, 4, 5, 0] rfl) hW
                have := kc_0
                exact L109 _ (0 : Int32) _ _ _ _ (Nat.lt_succ_self _) hG (by omega) (by omega) (lv_sub hl [1, 2, 3, 4, 5, 0] rfl) hW
        have := kc_1
        exact L90 _ (1 : Int32) _ _ _ _ (Nat.lt_succ_self _) hG (by omega) (lv_sub hl [1, 2, 3, 4, 0] rfl) hW
      · refine q_aload_n hM dX12_go_44 (lv_at hl 0 rfl) ?_
        refine w_get (v := .ref (ad 158)) hM hW FG_X12_100 lb_129 (rf_129_52 hW.2.1) dX12_go_45 ?_
        refine q_iload hM dX12_go_48 (lv_at hl 4 rfl) ?_
        refine w_zald hM hW lb_158 (i_in (by omega) (by omega)) dX12_go_50 ?_
        refine q_top (fun y6521 hy6521 => ?_)
        refine q_if_eq (tgt := 81) hM dX12_go_51 (by decide) (rfl : y6521.toInt = y6521.toInt) (fun h51 => ?_) (fun h51 => ?_)
        · refine q_iinc (lv9 := fun z6523 => [(4, .int z6523), (0, .ref (ad 129)), (1, .int n), (2, .int wa), (3, .int w37_3)]) hM dX12_go_81 hl (kq := 4) rfl (by decide) (fun _ => rfl) (fun z6523 ls hz6523 hl => ?_)
          first | have tz6523 := i_addT hz6523 (rfl : w37_4.toInt = w37_4.toInt) (kc_1 : (Int32.ofInt 1).toInt = 1) (by omega) (by omega) | skip
          refine q_goto (tgt := 37) hM dX12_go_84 (by decide) ?_
          exact ih37 w37_3 z6523 _ _ _ _ (by omega) hG (by omega) (by omega) (lv_sub hl [1, 2, 3, 4, 0] rfl) hW
        · refine q_iload_n hM dX12_go_54 (lv_at hl 2 rfl) ?_
          refine q_iconst (v := ((-1) : Int32)) hM dX12_go_55 (by decide) ?_
          refine q_icmp_eq (tgt := 81) hM dX12_go_56 (by decide) (rfl : wa.toInt = wa.toInt) (kc_m1 : ((-1) : Int32).toInt = (-1)) (fun h56 => ?_) (fun h56 => ?_)
          · refine q_iinc (lv9 := fun z6526 => [(4, .int z6526), (0, .ref (ad 129)), (1, .int n), (2, .int wa), (3, .int w37_3)]) hM dX12_go_81 hl (kq := 4) rfl (by decide) (fun _ => rfl) (fun z6526 ls hz6526 hl => ?_)
            first | have tz6526 := i_addT hz6526 (rfl : w37_4.toInt = w37_4.toInt) (kc_1 : (Int32.ofInt 1).toInt = 1) (by omega) (by omega) | skip
            refine q_goto (tgt := 37) hM dX12_go_84 (by decide) ?_
            exact ih37 w37_3 z6526 _ _ _ _ (by omega) hG (by omega) (by omega) (lv_sub hl [1, 2, 3, 4, 0] rfl) hW
          · refine q_aload_n hM dX12_go_59 (lv_at hl 0 rfl) ?_
            refine w_get (v := .ref (ad 161)) hM hW FG_X12_109 lb_129 (rf_129_55 hW.2.1) dX12_go_60 ?_
            refine q_bipush (v := (12 : Int32)) hM dX12_go_63 (by decide) ?_
            refine q_iload hM dX12_go_65 (lv_at hl 4 rfl) ?_
            refine q_imul hM dX12_go_67 (fun z6528 hz6528 => ?_)
            first | have tz6528 := i_mulT hz6528 (kc_12 : (12 : Int32).toInt = 12) (rfl : w37_4.toInt = w37_4.toInt) (by omega) (by omega) | skip
            refine q_iload_n hM dX12_go_68 (lv_at hl 2 rfl) ?_
            refine q_iadd hM dX12_go_69 (fun z6529 hz6529 => ?_)
            first | have tz6529 := i_addT hz6529 (rfl : z6528.toInt = z6528.toInt) (rfl : wa.toInt = wa.toInt) (by omega) (by omega) | skip
            refine w_iald hM hW lb_161 (i_in (by omega) (by omega)) dX12_go_70 ?_
            refine q_top (fun y6530 hy6530 => ?_)
            refine q_if_le (tgt := 81) hM dX12_go_71 (by decide) (rfl : y6530.toInt = y6530.toInt) (fun h71 => ?_) (fun h71 => ?_)
            · refine q_iinc (lv9 := fun z6532 => [(4, .int z6532), (0, .ref (ad 129)), (1, .int n), (2, .int wa), (3, .int w37_3)]) hM dX12_go_81 hl (kq := 4) rfl (by decide) (fun _ => rfl) (fun z6532 ls hz6532 hl => ?_)
              first | have tz6532 := i_addT hz6532 (rfl : w37_4.toInt = w37_4.toInt) (kc_1 : (Int32.ofInt 1).toInt = 1) (by omega) (by omega) | skip
              refine q_goto (tgt := 37) hM dX12_go_84 (by decide) ?_
              exact ih37 w37_3 z6532 _ _ _ _ (by omega) hG (by omega) (by omega) (lv_sub hl [1, 2, 3, 4, 0] rfl) hW
            · refine q_iload_n hM dX12_go_74 (lv_at hl 3 rfl) ?_
              refine q_iconst (v := (1 : Int32)) hM dX12_go_75 (by decide) ?_
              refine q_iload hM dX12_go_76 (lv_at hl 4 rfl) ?_
              refine q_ishl hM dX12_go_78 (fun z6534 hz6534 => ?_)
              refine q_ior hM dX12_go_79 (fun z6535 hz6535 => ?_)
              refine q_istore_n (lv9 := [(3, .int z6535), (0, .ref (ad 129)), (1, .int n), (2, .int wa), (4, .int w37_4)]) hM dX12_go_80 hl (by decide) rfl (fun ls hl => ?_)
              refine q_iinc (lv9 := fun z6536 => [(4, .int z6536), (3, .int z6535), (0, .ref (ad 129)), (1, .int n), (2, .int wa)]) hM dX12_go_81 hl (kq := 4) rfl (by decide) (fun _ => rfl) (fun z6536 ls hz6536 hl => ?_)
              first | have tz6536 := i_addT hz6536 (rfl : w37_4.toInt = w37_4.toInt) (kc_1 : (Int32.ofInt 1).toInt = 1) (by omega) (by omega) | skip
              refine q_goto (tgt := 37) hM dX12_go_84 (by decide) ?_
              exact ih37 z6535 z6536 _ _ _ _ (by omega) hG (by omega) (by omega) (lv_sub hl [2, 3, 4, 1, 0] rfl) hW
  have := kc_0
  have := kc_0
  exact L37 _ (0 : Int32) (0 : Int32) _ _ _ _ (Nat.lt_succ_self _) hG (by omega) (by omega) (lv_sub hl [2, 3, 4, 1, 0] rfl) hW

theorem dX12_laysAside_0 : decode cX12_laysAside 0 = .ok (.iconst 0, 1) := by decide +kernel
theorem dX12_laysAside_1 : decode cX12_laysAside 1 = .ok (.istore_n 2, 1) := by decide +kernel
theorem dX12_laysAside_2 : decode cX12_laysAside 2 = .ok (.iload_n 2, 1) := by decide +kernel
theorem dX12_laysAside_3 : decode cX12_laysAside 3 = .ok (.bipush 8, 2) := by decide +kernel
theorem dX12_laysAside_5 : decode cX12_laysAside 5 = .ok (.if_icmp .ge 60, 3) := by decide +kernel
theorem dX12_laysAside_8 : decode cX12_laysAside 8 = .ok (.aload_n 0, 1) := by decide +kernel
theorem dX12_laysAside_9 : decode cX12_laysAside 9 = .ok (.getfield 112, 3) := by decide +kernel
theorem dX12_laysAside_12 : decode cX12_laysAside 12 = .ok (.bipush 8, 2) := by decide +kernel
theorem dX12_laysAside_14 : decode cX12_laysAside 14 = .ok (.iload_n 1, 1) := by decide +kernel
theorem dX12_laysAside_15 : decode cX12_laysAside 15 = .ok (.imul, 1) := by decide +kernel
theorem dX12_laysAside_16 : decode cX12_laysAside 16 = .ok (.iload_n 2, 1) := by decide +kernel
theorem dX12_laysAside_17 : decode cX12_laysAside 17 = .ok (.iadd, 1) := by decide +kernel
theorem dX12_laysAside_18 : decode cX12_laysAside 18 = .ok (.aload_n 0, 1) := by decide +kernel
theorem dX12_laysAside_19 : decode cX12_laysAside 19 = .ok (.getfield 100, 3) := by decide +kernel
theorem dX12_laysAside_22 : decode cX12_laysAside 22 = .ok (.iload_n 2, 1) := by decide +kernel
theorem dX12_laysAside_23 : decode cX12_laysAside 23 = .ok (.baload, 1) := by decide +kernel
theorem dX12_laysAside_24 : decode cX12_laysAside 24 = .ok (.bastore, 1) := by decide +kernel
theorem dX12_laysAside_25 : decode cX12_laysAside 25 = .ok (.aload_n 0, 1) := by decide +kernel
theorem dX12_laysAside_26 : decode cX12_laysAside 26 = .ok (.getfield 115, 3) := by decide +kernel
theorem dX12_laysAside_29 : decode cX12_laysAside 29 = .ok (.bipush 8, 2) := by decide +kernel
theorem dX12_laysAside_31 : decode cX12_laysAside 31 = .ok (.iload_n 1, 1) := by decide +kernel
theorem dX12_laysAside_32 : decode cX12_laysAside 32 = .ok (.imul, 1) := by decide +kernel
theorem dX12_laysAside_33 : decode cX12_laysAside 33 = .ok (.iload_n 2, 1) := by decide +kernel
theorem dX12_laysAside_34 : decode cX12_laysAside 34 = .ok (.iadd, 1) := by decide +kernel
theorem dX12_laysAside_35 : decode cX12_laysAside 35 = .ok (.aload_n 0, 1) := by decide +kernel
theorem dX12_laysAside_36 : decode cX12_laysAside 36 = .ok (.getfield 103, 3) := by decide +kernel
theorem dX12_laysAside_39 : decode cX12_laysAside 39 = .ok (.iload_n 2, 1) := by decide +kernel
theorem dX12_laysAside_40 : decode cX12_laysAside 40 = .ok (.iaload, 1) := by decide +kernel
theorem dX12_laysAside_41 : decode cX12_laysAside 41 = .ok (.iastore, 1) := by decide +kernel
theorem dX12_laysAside_42 : decode cX12_laysAside 42 = .ok (.aload_n 0, 1) := by decide +kernel
theorem dX12_laysAside_43 : decode cX12_laysAside 43 = .ok (.getfield 118, 3) := by decide +kernel
theorem dX12_laysAside_46 : decode cX12_laysAside 46 = .ok (.bipush 8, 2) := by decide +kernel
theorem dX12_laysAside_48 : decode cX12_laysAside 48 = .ok (.iload_n 1, 1) := by decide +kernel
theorem dX12_laysAside_49 : decode cX12_laysAside 49 = .ok (.imul, 1) := by decide +kernel
theorem dX12_laysAside_50 : decode cX12_laysAside 50 = .ok (.iload_n 2, 1) := by decide +kernel
theorem dX12_laysAside_51 : decode cX12_laysAside 51 = .ok (.iadd, 1) := by decide +kernel
theorem dX12_laysAside_52 : decode cX12_laysAside 52 = .ok (.aload_n 0, 1) := by decide +kernel
theorem dX12_laysAside_53 : decode cX12_laysAside 53 = .ok (.getfield 106, 3) := by decide +kernel
theorem dX12_laysAside_56 : decode cX12_laysAside 56 = .ok (.iload_n 2, 1) := by decide +kernel
theorem dX12_laysAside_57 : decode cX12_laysAside 57 = .ok (.iaload, 1) := by decide +kernel
theorem dX12_laysAside_58 : decode cX12_laysAside 58 = .ok (.iastore, 1) := by decide +kernel
theorem dX12_laysAside_59 : decode cX12_laysAside 59 = .ok (.iinc 2 1, 3) := by decide +kernel
theorem dX12_laysAside_62 : decode cX12_laysAside 62 = .ok (.goto (-60), 3) := by decide +kernel
theorem dX12_laysAside_65 : decode cX12_laysAside 65 = .ok (.iconst 0, 1) := by decide +kernel
theorem dX12_laysAside_66 : decode cX12_laysAside 66 = .ok (.istore_n 2, 1) := by decide +kernel
theorem dX12_laysAside_67 : decode cX12_laysAside 67 = .ok (.iload_n 2, 1) := by decide +kernel
theorem dX12_laysAside_68 : decode cX12_laysAside 68 = .ok (.bipush 96, 2) := by decide +kernel
theorem dX12_laysAside_70 : decode cX12_laysAside 70 = .ok (.if_icmp .ge 26, 3) := by decide +kernel
theorem dX12_laysAside_73 : decode cX12_laysAside 73 = .ok (.aload_n 0, 1) := by decide +kernel
theorem dX12_laysAside_74 : decode cX12_laysAside 74 = .ok (.getfield 121, 3) := by decide +kernel
theorem dX12_laysAside_77 : decode cX12_laysAside 77 = .ok (.bipush 96, 2) := by decide +kernel
theorem dX12_laysAside_79 : decode cX12_laysAside 79 = .ok (.iload_n 1, 1) := by decide +kernel
theorem dX12_laysAside_80 : decode cX12_laysAside 80 = .ok (.imul, 1) := by decide +kernel
theorem dX12_laysAside_81 : decode cX12_laysAside 81 = .ok (.iload_n 2, 1) := by decide +kernel
theorem dX12_laysAside_82 : decode cX12_laysAside 82 = .ok (.iadd, 1) := by decide +kernel
theorem dX12_laysAside_83 : decode cX12_laysAside 83 = .ok (.aload_n 0, 1) := by decide +kernel
theorem dX12_laysAside_84 : decode cX12_laysAside 84 = .ok (.getfield 109, 3) := by decide +kernel
theorem dX12_laysAside_87 : decode cX12_laysAside 87 = .ok (.iload_n 2, 1) := by decide +kernel
theorem dX12_laysAside_88 : decode cX12_laysAside 88 = .ok (.iaload, 1) := by decide +kernel
theorem dX12_laysAside_89 : decode cX12_laysAside 89 = .ok (.iastore, 1) := by decide +kernel
theorem dX12_laysAside_90 : decode cX12_laysAside 90 = .ok (.iinc 2 1, 3) := by decide +kernel
theorem dX12_laysAside_93 : decode cX12_laysAside 93 = .ok (.goto (-26), 3) := by decide +kernel
theorem dX12_laysAside_96 : decode cX12_laysAside 96 = .ok (.aload_n 0, 1) := by decide +kernel
theorem dX12_laysAside_97 : decode cX12_laysAside 97 = .ok (.getfield 124, 3) := by decide +kernel
theorem dX12_laysAside_100 : decode cX12_laysAside 100 = .ok (.iload_n 1, 1) := by decide +kernel
theorem dX12_laysAside_101 : decode cX12_laysAside 101 = .ok (.aload_n 0, 1) := by decide +kernel
theorem dX12_laysAside_102 : decode cX12_laysAside 102 = .ok (.getfield 416, 3) := by decide +kernel
theorem dX12_laysAside_105 : decode cX12_laysAside 105 = .ok (.iastore, 1) := by decide +kernel
theorem dX12_laysAside_106 : decode cX12_laysAside 106 = .ok (.aload_n 0, 1) := by decide +kernel
theorem dX12_laysAside_107 : decode cX12_laysAside 107 = .ok (.getfield 127, 3) := by decide +kernel
theorem dX12_laysAside_110 : decode cX12_laysAside 110 = .ok (.iload_n 1, 1) := by decide +kernel
theorem dX12_laysAside_111 : decode cX12_laysAside 111 = .ok (.aload_n 0, 1) := by decide +kernel
theorem dX12_laysAside_112 : decode cX12_laysAside 112 = .ok (.getfield 471, 3) := by decide +kernel
theorem dX12_laysAside_115 : decode cX12_laysAside 115 = .ok (.iastore, 1) := by decide +kernel
theorem dX12_laysAside_116 : decode cX12_laysAside 116 = .ok (.aload_n 0, 1) := by decide +kernel
theorem dX12_laysAside_117 : decode cX12_laysAside 117 = .ok (.getfield 130, 3) := by decide +kernel
theorem dX12_laysAside_120 : decode cX12_laysAside 120 = .ok (.iload_n 1, 1) := by decide +kernel
theorem dX12_laysAside_121 : decode cX12_laysAside 121 = .ok (.aload_n 0, 1) := by decide +kernel
theorem dX12_laysAside_122 : decode cX12_laysAside 122 = .ok (.getfield 486, 3) := by decide +kernel
theorem dX12_laysAside_125 : decode cX12_laysAside 125 = .ok (.iastore, 1) := by decide +kernel
theorem dX12_laysAside_126 : decode cX12_laysAside 126 = .ok (.aload_n 0, 1) := by decide +kernel
theorem dX12_laysAside_127 : decode cX12_laysAside 127 = .ok (.getfield 133, 3) := by decide +kernel
theorem dX12_laysAside_130 : decode cX12_laysAside 130 = .ok (.iload_n 1, 1) := by decide +kernel
theorem dX12_laysAside_131 : decode cX12_laysAside 131 = .ok (.aload_n 0, 1) := by decide +kernel
theorem dX12_laysAside_132 : decode cX12_laysAside 132 = .ok (.getfield 13, 3) := by decide +kernel
theorem dX12_laysAside_135 : decode cX12_laysAside 135 = .ok (.iastore, 1) := by decide +kernel
theorem dX12_laysAside_136 : decode cX12_laysAside 136 = .ok (.return_, 1) := by decide +kernel
theorem FG_X12_124 : FG RX12 124 12 86 71 := ⟨RX12, TX12, rfl, wX12, by decide, kAW (v_4_7 (List.mem_of_getElem? (i := 4) rfl)) rfl, rfl⟩
theorem FG_X12_127 : FG RX12 127 12 86 72 := ⟨RX12, TX12, rfl, wX12, by decide, kAW (v_4_7 (List.mem_of_getElem? (i := 5) rfl)) rfl, rfl⟩
theorem FG_X12_130 : FG RX12 130 12 86 73 := ⟨RX12, TX12, rfl, wX12, by decide, kAW (v_4_7 (List.mem_of_getElem? (i := 6) rfl)) rfl, rfl⟩
theorem FG_X12_133 : FG RX12 133 12 86 74 := ⟨RX12, TX12, rfl, wX12, by decide, kAW (v_4_7 (List.mem_of_getElem? (i := 7) rfl)) rfl, rfl⟩
theorem FG_X12_121 : FG RX12 121 12 86 70 := ⟨RX12, TX12, rfl, wX12, by decide, kAW (v_4_7 (List.mem_of_getElem? (i := 3) rfl)) rfl, rfl⟩
theorem FG_X12_112 : FG RX12 112 12 86 67 := ⟨RX12, TX12, rfl, wX12, by decide, kAW (v_4_7 (List.mem_of_getElem? (i := 0) rfl)) rfl, rfl⟩
theorem FG_X12_115 : FG RX12 115 12 86 68 := ⟨RX12, TX12, rfl, wX12, by decide, kAW (v_4_7 (List.mem_of_getElem? (i := 1) rfl)) rfl, rfl⟩
theorem FG_X12_118 : FG RX12 118 12 86 69 := ⟨RX12, TX12, rfl, wX12, by decide, kAW (v_4_7 (List.mem_of_getElem? (i := 2) rfl)) rfl, rfl⟩
set_option maxRecDepth 100000 in
set_option maxHeartbeats 4000000 in
theorem a_X12_laysAside (l : Launch) (D : va_G) (cA : Nat → ClassId) (ad : Nat → Nat) (g0 : Nat → va_E) (rr : Int32)   (hSh : Shp ad cA g0) (hG : Rng g0) (r0 : 0 ≤ rr.toInt) (r1 : rr.toInt ≤ 1) : CT l NN ad cA D yX12_laysAside cX12_laysAside 3 none (0, 0) [.ref (ad 129), .int rr] g0 (fun v g' => v = none ∧ Shp ad cA g' ∧ Rng g' ∧ FR (fun i k => (162 ≤ i ∧ i < 170)) g0 g') := by
  refine q_enterV (by decide) (Nat.le_of_ble_eq_true rfl) (fun K H locs ls _ _ hM hW0 hR hC hE hl => ?_)
  have hl : lv_has ls 3 [(0, .ref (ad 129)), (1, .int rr)] := hl
  have hW : WS ad cA (fun i k => (162 ≤ i ∧ i < 170)) g0 K g0 H locs := ⟨hW0, hSh, FR.rf⟩
  refine q_iconst (v := (0 : Int32)) hM dX12_laysAside_0 (by decide) ?_
  refine q_istore_n (lv9 := [(2, .int (0 : Int32)), (0, .ref (ad 129)), (1, .int rr)]) hM dX12_laysAside_1 hl (by decide) rfl (fun ls hl => ?_)
  have L2 : ∀ (fu2 : Nat) (w2_2 : Int32) (g9 : Nat → va_E) (H : Heap) (locs : List Loc) (ls : Array Slot), (8 - w2_2.toInt).toNat < fu2 → (Rng g9) → (0 ≤ w2_2.toInt) → (w2_2.toInt ≤ 8) → lv_has ls 3 [(0, .ref (ad 129)), (1, .int rr), (2, .int w2_2)] → WS ad cA (fun i k => (162 ≤ i ∧ i < 170)) g0 K g9 H locs → XX K 0 0 H locs 2 ls [] := by
    intro fu2
    induction fu2 with
    | zero => intro w2_2 g9 H locs ls h0; omega
    | succ fu2 ih2 =>
      intro w2_2 g9 H locs ls hm2 i2_0 i2_1 i2_2 hl hW
      have hG := i2_0
      refine q_iload_n hM dX12_laysAside_2 (lv_at hl 2 rfl) ?_
      refine q_bipush (v := (8 : Int32)) hM dX12_laysAside_3 (by decide) ?_
      refine q_icmp_ge (tgt := 65) hM dX12_laysAside_5 (by decide) (rfl : w2_2.toInt = w2_2.toInt) (kc_8 : (8 : Int32).toInt = 8) (fun h5 => ?_) (fun h5 => ?_)
      · refine q_iconst (v := (0 : Int32)) hM dX12_laysAside_65 (by decide) ?_
        refine q_istore_n (lv9 := [(2, .int (0 : Int32)), (0, .ref (ad 129)), (1, .int rr)]) hM dX12_laysAside_66 hl (by decide) rfl (fun ls hl => ?_)
        have L67 : ∀ (fu67 : Nat) (w67_2 : Int32) (g9 : Nat → va_E) (H : Heap) (locs : List Loc) (ls : Array Slot), (96 - w67_2.toInt).toNat < fu67 → (Rng g9) → (0 ≤ w67_2.toInt) → (w67_2.toInt ≤ 96) → lv_has ls 3 [(0, .ref (ad 129)), (1, .int rr), (2, .int w67_2)] → WS ad cA (fun i k => (162 ≤ i ∧ i < 170)) g0 K g9 H locs → XX K 0 0 H locs 67 ls [] := by
          intro fu67
          induction fu67 with
          | zero => intro w67_2 g9 H locs ls h0; omega
          | succ fu67 ih67 =>
            intro w67_2 g9 H locs ls hm67 i67_0 i67_1 i67_2 hl hW
            have hG := i67_0
            refine q_iload_n hM dX12_laysAside_67 (lv_at hl 2 rfl) ?_
            refine q_bipush (v := (96 : Int32)) hM dX12_laysAside_68 (by decide) ?_
            refine q_icmp_ge (tgt := 96) hM dX12_laysAside_70 (by decide) (rfl : w67_2.toInt = w67_2.toInt) (kc_96 : (96 : Int32).toInt = 96) (fun h70 => ?_) (fun h70 => ?_)
            · refine q_aload_n hM dX12_laysAside_96 (lv_at hl 0 rfl) ?_
              refine w_get (v := .ref (ad 166)) hM hW FG_X12_124 lb_129 (rf_129_71 hW.2.1) dX12_laysAside_97 ?_
              refine q_iload_n hM dX12_laysAside_100 (lv_at hl 1 rfl) ?_
              refine q_aload_n hM dX12_laysAside_101 (lv_at hl 0 rfl) ?_
              refine w_getI hM hW FG_X12_416 lb_129 (by decide) (by decide) dX12_laysAside_102 (fun x6541 fx6541 => ?_)
              refine w_iast hM hW lb_166 (by omega) (i_in (by omega) (by omega)) dX12_laysAside_105 (fun g6542 H locs hW e1 e2 => ?_)
              have f6543 : fld g6542 129 56 = .int x6541 := (e2.1 129 56 (by unfold Only; omega)).trans fx6541
              have hG := hG.st e1 e2 (rfl : rA 166 = (-2147483648, 2147483647)) (by have := i_rng x6541; omega) (by have := i_rng x6541; omega)
              refine q_aload_n hM dX12_laysAside_106 (lv_at hl 0 rfl) ?_
              refine w_get (v := .ref (ad 167)) hM hW FG_X12_127 lb_129 (rf_129_72 hW.2.1) dX12_laysAside_107 ?_
              refine q_iload_n hM dX12_laysAside_110 (lv_at hl 1 rfl) ?_
              refine q_aload_n hM dX12_laysAside_111 (lv_at hl 0 rfl) ?_
              refine w_getI hM hW FG_X12_471 lb_129 (by decide) (by decide) dX12_laysAside_112 (fun x6544 fx6544 => ?_)
              refine w_iast hM hW lb_167 (by omega) (i_in (by omega) (by omega)) dX12_laysAside_115 (fun g6545 H locs hW e1 e2 => ?_)
              have f6546 : fld g6545 129 56 = .int x6541 := (e2.1 129 56 (by unfold Only; omega)).trans f6543
              have f6547 : fld g6545 129 57 = .int x6544 := (e2.1 129 57 (by unfold Only; omega)).trans fx6544
              have hG := hG.st e1 e2 (rfl : rA 167 = (-2147483648, 2147483647)) (by have := i_rng x6544; omega) (by have := i_rng x6544; omega)
              refine q_aload_n hM dX12_laysAside_116 (lv_at hl 0 rfl) ?_
              refine w_get (v := .ref (ad 168)) hM hW FG_X12_130 lb_129 (rf_129_73 hW.2.1) dX12_laysAside_117 ?_
              refine q_iload_n hM dX12_laysAside_120 (lv_at hl 1 rfl) ?_
              refine q_aload_n hM dX12_laysAside_121 (lv_at hl 0 rfl) ?_
              refine w_getI hM hW FG_X12_486 lb_129 (by decide) (by decide) dX12_laysAside_122 (fun x6548 fx6548 => ?_)
              refine w_iast hM hW lb_168 (by omega) (i_in (by omega) (by omega)) dX12_laysAside_125 (fun g6549 H locs hW e1 e2 => ?_)
              have f6550 : fld g6549 129 56 = .int x6541 := (e2.1 129 56 (by unfold Only; omega)).trans f6546
              have f6551 : fld g6549 129 57 = .int x6544 := (e2.1 129 57 (by unfold Only; omega)).trans f6547
              have f6552 : fld g6549 129 58 = .int x6548 := (e2.1 129 58 (by unfold Only; omega)).trans fx6548
              have hG := hG.st e1 e2 (rfl : rA 168 = (-2147483648, 2147483647)) (by have := i_rng x6548; omega) (by have := i_rng x6548; omega)
              refine q_aload_n hM dX12_laysAside_126 (lv_at hl 0 rfl) ?_
              refine w_get (v := .ref (ad 169)) hM hW FG_X12_133 lb_129 (rf_129_74 hW.2.1) dX12_laysAside_127 ?_
              refine q_iload_n hM dX12_laysAside_130 (lv_at hl 1 rfl) ?_
              refine q_aload_n hM dX12_laysAside_131 (lv_at hl 0 rfl) ?_
              refine w_getI hM hW FG_X12_13 lb_129 (by decide) (by decide) dX12_laysAside_132 (fun x6553 fx6553 => ?_)
              refine w_iast hM hW lb_169 (by omega) (i_in (by omega) (by omega)) dX12_laysAside_135 (fun g6554 H locs hW e1 e2 => ?_)
              have f6555 : fld g6554 129 56 = .int x6541 := (e2.1 129 56 (by unfold Only; omega)).trans f6550
              have f6556 : fld g6554 129 57 = .int x6544 := (e2.1 129 57 (by unfold Only; omega)).trans f6551
              have f6557 : fld g6554 129 58 = .int x6548 := (e2.1 129 58 (by unfold Only; omega)).trans f6552
              have f6558 : fld g6554 129 2 = .int x6553 := (e2.1 129 2 (by unfold Only; omega)).trans fx6553
              have hG := hG.st e1 e2 (rfl : rA 169 = (-2147483648, 2147483647)) (by have := i_rng x6553; omega) (by have := i_rng x6553; omega)
              exact hE _ _ _ _ _ hW.1 ⟨rfl, hW.2.1, hG, hW.2.2⟩ dX12_laysAside_136
            · refine q_aload_n hM dX12_laysAside_73 (lv_at hl 0 rfl) ?_
              refine w_get (v := .ref (ad 165)) hM hW FG_X12_121 lb_129 (rf_129_70 hW.2.1) dX12_laysAside_74 ?_
              refine q_bipush (v := (96 : Int32)) hM dX12_laysAside_77 (by decide) ?_
              refine q_iload_n hM dX12_laysAside_79 (lv_at hl 1 rfl) ?_
              refine q_imul hM dX12_laysAside_80 (fun z6560 hz6560 => ?_)
              first | have tz6560 := i_mulT hz6560 (kc_96 : (96 : Int32).toInt = 96) (rfl : rr.toInt = rr.toInt) (by omega) (by omega) | skip
              refine q_iload_n hM dX12_laysAside_81 (lv_at hl 2 rfl) ?_
              refine q_iadd hM dX12_laysAside_82 (fun z6561 hz6561 => ?_)
              first | have tz6561 := i_addT hz6561 (rfl : z6560.toInt = z6560.toInt) (rfl : w67_2.toInt = w67_2.toInt) (by omega) (by omega) | skip
              refine q_aload_n hM dX12_laysAside_83 (lv_at hl 0 rfl) ?_
              refine w_get (v := .ref (ad 161)) hM hW FG_X12_109 lb_129 (rf_129_55 hW.2.1) dX12_laysAside_84 ?_
              refine q_iload_n hM dX12_laysAside_87 (lv_at hl 2 rfl) ?_
              refine w_iald hM hW lb_161 (i_in (by omega) (by omega)) dX12_laysAside_88 ?_
              refine q_top (fun y6562 hy6562 => ?_)
              refine w_iast hM hW lb_165 (by omega) (i_in (by omega) (by omega)) dX12_laysAside_89 (fun g6563 H locs hW e1 e2 => ?_)
              have hG := hG.st e1 e2 (rfl : rA 165 = (-2147483648, 2147483647)) (by have := i_rng y6562; omega) (by have := i_rng y6562; omega)
              refine q_iinc (lv9 := fun z6564 => [(2, .int z6564), (0, .ref (ad 129)), (1, .int rr)]) hM dX12_laysAside_90 hl (kq := 2) rfl (by decide) (fun _ => rfl) (fun z6564 ls hz6564 hl => ?_)
              first | have tz6564 := i_addT hz6564 (rfl : w67_2.toInt = w67_2.toInt) (kc_1 : (Int32.ofInt 1).toInt = 1) (by omega) (by omega) | skip
              refine q_goto (tgt := 67) hM dX12_laysAside_93 (by decide) ?_
              exact ih67 z6564 _ _ _ _ (by omega) hG (by omega) (by omega) (lv_sub hl [1, 2, 0] rfl) hW
        have := kc_0
        exact L67 _ (0 : Int32) _ _ _ _ (Nat.lt_succ_self _) hG (by omega) (by omega) (lv_sub hl [1, 2, 0] rfl) hW
      · refine q_aload_n hM dX12_laysAside_8 (lv_at hl 0 rfl) ?_
        refine w_get (v := .ref (ad 162)) hM hW FG_X12_112 lb_129 (rf_129_67 hW.2.1) dX12_laysAside_9 ?_
        refine q_bipush (v := (8 : Int32)) hM dX12_laysAside_12 (by decide) ?_
        refine q_iload_n hM dX12_laysAside_14 (lv_at hl 1 rfl) ?_
        refine q_imul hM dX12_laysAside_15 (fun z6566 hz6566 => ?_)
        first | have tz6566 := i_mulT hz6566 (kc_8 : (8 : Int32).toInt = 8) (rfl : rr.toInt = rr.toInt) (by omega) (by omega) | skip
        refine q_iload_n hM dX12_laysAside_16 (lv_at hl 2 rfl) ?_
        refine q_iadd hM dX12_laysAside_17 (fun z6567 hz6567 => ?_)
        first | have tz6567 := i_addT hz6567 (rfl : z6566.toInt = z6566.toInt) (rfl : w2_2.toInt = w2_2.toInt) (by omega) (by omega) | skip
        refine q_aload_n hM dX12_laysAside_18 (lv_at hl 0 rfl) ?_
        refine w_get (v := .ref (ad 158)) hM hW FG_X12_100 lb_129 (rf_129_52 hW.2.1) dX12_laysAside_19 ?_
        refine q_iload_n hM dX12_laysAside_22 (lv_at hl 2 rfl) ?_
        refine w_zald hM hW lb_158 (i_in (by omega) (by omega)) dX12_laysAside_23 ?_
        refine q_top (fun y6568 hy6568 => ?_)
        refine w_zast hM hW lb_162 (by omega) (i_in (by omega) (by omega)) dX12_laysAside_24 (fun g6569 H locs hW e1 e2 => ?_)
        have hG := hG.st e1 e2 (rfl : rA 162 = (-2147483648, 2147483647)) (by have := i_rng (vp_nar .boolean y6568); omega) (by have := i_rng (vp_nar .boolean y6568); omega)
        refine q_aload_n hM dX12_laysAside_25 (lv_at hl 0 rfl) ?_
        refine w_get (v := .ref (ad 163)) hM hW FG_X12_115 lb_129 (rf_129_68 hW.2.1) dX12_laysAside_26 ?_
        refine q_bipush (v := (8 : Int32)) hM dX12_laysAside_29 (by decide) ?_
        refine q_iload_n hM dX12_laysAside_31 (lv_at hl 1 rfl) ?_
        refine q_imul hM dX12_laysAside_32 (fun z6570 hz6570 => ?_)
        first | have tz6570 := i_mulT hz6570 (kc_8 : (8 : Int32).toInt = 8) (rfl : rr.toInt = rr.toInt) (by omega) (by omega) | skip
        refine q_iload_n hM dX12_laysAside_33 (lv_at hl 2 rfl) ?_
        refine q_iadd hM dX12_laysAside_34 (fun z6571 hz6571 => ?_)
        first | have tz6571 := i_addT hz6571 (rfl : z6570.toInt = z6570.toInt) (rfl : w2_2.toInt = w2_2.toInt) (by omega) (by omega) | skip
        refine q_aload_n hM dX12_laysAside_35 (lv_at hl 0 rfl) ?_
        refine w_get (v := .ref (ad 159)) hM hW FG_X12_103 lb_129 (rf_129_53 hW.2.1) dX12_laysAside_36 ?_
        refine q_iload_n hM dX12_laysAside_39 (lv_at hl 2 rfl) ?_
        refine w_iald hM hW lb_159 (i_in (by omega) (by omega)) dX12_laysAside_40 ?_
        refine q_top (fun y6572 hy6572 => ?_)
        have by6572 := hG.a hy6572 rA_159
        refine w_iast hM hW lb_163 (by omega) (i_in (by omega) (by omega)) dX12_laysAside_41 (fun g6573 H locs hW e1 e2 => ?_)
        have hG := hG.st e1 e2 rA_163 (by have := i_rng y6572; omega) (by have := i_rng y6572; omega)
        refine q_aload_n hM dX12_laysAside_42 (lv_at hl 0 rfl) ?_
        refine w_get (v := .ref (ad 164)) hM hW FG_X12_118 lb_129 (rf_129_69 hW.2.1) dX12_laysAside_43 ?_
        refine q_bipush (v := (8 : Int32)) hM dX12_laysAside_46 (by decide) ?_
        refine q_iload_n hM dX12_laysAside_48 (lv_at hl 1 rfl) ?_
        refine q_imul hM dX12_laysAside_49 (fun z6574 hz6574 => ?_)
        first | have tz6574 := i_mulT hz6574 (kc_8 : (8 : Int32).toInt = 8) (rfl : rr.toInt = rr.toInt) (by omega) (by omega) | skip
        refine q_iload_n hM dX12_laysAside_50 (lv_at hl 2 rfl) ?_
        refine q_iadd hM dX12_laysAside_51 (fun z6575 hz6575 => ?_)
        first | have tz6575 := i_addT hz6575 (rfl : z6574.toInt = z6574.toInt) (rfl : w2_2.toInt = w2_2.toInt) (by omega) (by omega) | skip
        refine q_aload_n hM dX12_laysAside_52 (lv_at hl 0 rfl) ?_
        refine w_get (v := .ref (ad 160)) hM hW FG_X12_106 lb_129 (rf_129_54 hW.2.1) dX12_laysAside_53 ?_
        refine q_iload_n hM dX12_laysAside_56 (lv_at hl 2 rfl) ?_
        refine w_iald hM hW lb_160 (i_in (by omega) (by omega)) dX12_laysAside_57 ?_
        refine q_top (fun y6576 hy6576 => ?_)
        refine w_iast hM hW lb_164 (by omega) (i_in (by omega) (by omega)) dX12_laysAside_58 (fun g6577 H locs hW e1 e2 => ?_)
        have hG := hG.st e1 e2 (rfl : rA 164 = (-2147483648, 2147483647)) (by have := i_rng y6576; omega) (by have := i_rng y6576; omega)
        refine q_iinc (lv9 := fun z6578 => [(2, .int z6578), (0, .ref (ad 129)), (1, .int rr)]) hM dX12_laysAside_59 hl (kq := 2) rfl (by decide) (fun _ => rfl) (fun z6578 ls hz6578 hl => ?_)
        first | have tz6578 := i_addT hz6578 (rfl : w2_2.toInt = w2_2.toInt) (kc_1 : (Int32.ofInt 1).toInt = 1) (by omega) (by omega) | skip
        refine q_goto (tgt := 2) hM dX12_laysAside_62 (by decide) ?_
        exact ih2 z6578 _ _ _ _ (by omega) hG (by omega) (by omega) (lv_sub hl [1, 2, 0] rfl) hW
  have := kc_0
  exact L2 _ (0 : Int32) _ _ _ _ (Nat.lt_succ_self _) hG (by omega) (by omega) (lv_sub hl [1, 2, 0] rfl) hW

theorem dX12_bringsBack_0 : decode cX12_bringsBack 0 = .ok (.iconst 0, 1) := by decide +kernel
theorem dX12_bringsBack_1 : decode cX12_bringsBack 1 = .ok (.istore_n 2, 1) := by decide +kernel
theorem dX12_bringsBack_2 : decode cX12_bringsBack 2 = .ok (.iload_n 2, 1) := by decide +kernel
theorem dX12_bringsBack_3 : decode cX12_bringsBack 3 = .ok (.bipush 8, 2) := by decide +kernel
theorem dX12_bringsBack_5 : decode cX12_bringsBack 5 = .ok (.if_icmp .ge 60, 3) := by decide +kernel
theorem dX12_bringsBack_8 : decode cX12_bringsBack 8 = .ok (.aload_n 0, 1) := by decide +kernel
theorem dX12_bringsBack_9 : decode cX12_bringsBack 9 = .ok (.getfield 100, 3) := by decide +kernel
theorem dX12_bringsBack_12 : decode cX12_bringsBack 12 = .ok (.iload_n 2, 1) := by decide +kernel
theorem dX12_bringsBack_13 : decode cX12_bringsBack 13 = .ok (.aload_n 0, 1) := by decide +kernel
theorem dX12_bringsBack_14 : decode cX12_bringsBack 14 = .ok (.getfield 112, 3) := by decide +kernel
theorem dX12_bringsBack_17 : decode cX12_bringsBack 17 = .ok (.bipush 8, 2) := by decide +kernel
theorem dX12_bringsBack_19 : decode cX12_bringsBack 19 = .ok (.iload_n 1, 1) := by decide +kernel
theorem dX12_bringsBack_20 : decode cX12_bringsBack 20 = .ok (.imul, 1) := by decide +kernel
theorem dX12_bringsBack_21 : decode cX12_bringsBack 21 = .ok (.iload_n 2, 1) := by decide +kernel
theorem dX12_bringsBack_22 : decode cX12_bringsBack 22 = .ok (.iadd, 1) := by decide +kernel
theorem dX12_bringsBack_23 : decode cX12_bringsBack 23 = .ok (.baload, 1) := by decide +kernel
theorem dX12_bringsBack_24 : decode cX12_bringsBack 24 = .ok (.bastore, 1) := by decide +kernel
theorem dX12_bringsBack_25 : decode cX12_bringsBack 25 = .ok (.aload_n 0, 1) := by decide +kernel
theorem dX12_bringsBack_26 : decode cX12_bringsBack 26 = .ok (.getfield 103, 3) := by decide +kernel
theorem dX12_bringsBack_29 : decode cX12_bringsBack 29 = .ok (.iload_n 2, 1) := by decide +kernel
theorem dX12_bringsBack_30 : decode cX12_bringsBack 30 = .ok (.aload_n 0, 1) := by decide +kernel
theorem dX12_bringsBack_31 : decode cX12_bringsBack 31 = .ok (.getfield 115, 3) := by decide +kernel
theorem dX12_bringsBack_34 : decode cX12_bringsBack 34 = .ok (.bipush 8, 2) := by decide +kernel
theorem dX12_bringsBack_36 : decode cX12_bringsBack 36 = .ok (.iload_n 1, 1) := by decide +kernel
theorem dX12_bringsBack_37 : decode cX12_bringsBack 37 = .ok (.imul, 1) := by decide +kernel
theorem dX12_bringsBack_38 : decode cX12_bringsBack 38 = .ok (.iload_n 2, 1) := by decide +kernel
theorem dX12_bringsBack_39 : decode cX12_bringsBack 39 = .ok (.iadd, 1) := by decide +kernel
theorem dX12_bringsBack_40 : decode cX12_bringsBack 40 = .ok (.iaload, 1) := by decide +kernel
theorem dX12_bringsBack_41 : decode cX12_bringsBack 41 = .ok (.iastore, 1) := by decide +kernel
theorem dX12_bringsBack_42 : decode cX12_bringsBack 42 = .ok (.aload_n 0, 1) := by decide +kernel
theorem dX12_bringsBack_43 : decode cX12_bringsBack 43 = .ok (.getfield 106, 3) := by decide +kernel
theorem dX12_bringsBack_46 : decode cX12_bringsBack 46 = .ok (.iload_n 2, 1) := by decide +kernel
theorem dX12_bringsBack_47 : decode cX12_bringsBack 47 = .ok (.aload_n 0, 1) := by decide +kernel
theorem dX12_bringsBack_48 : decode cX12_bringsBack 48 = .ok (.getfield 118, 3) := by decide +kernel
theorem dX12_bringsBack_51 : decode cX12_bringsBack 51 = .ok (.bipush 8, 2) := by decide +kernel
theorem dX12_bringsBack_53 : decode cX12_bringsBack 53 = .ok (.iload_n 1, 1) := by decide +kernel
theorem dX12_bringsBack_54 : decode cX12_bringsBack 54 = .ok (.imul, 1) := by decide +kernel
theorem dX12_bringsBack_55 : decode cX12_bringsBack 55 = .ok (.iload_n 2, 1) := by decide +kernel
theorem dX12_bringsBack_56 : decode cX12_bringsBack 56 = .ok (.iadd, 1) := by decide +kernel
theorem dX12_bringsBack_57 : decode cX12_bringsBack 57 = .ok (.iaload, 1) := by decide +kernel
theorem dX12_bringsBack_58 : decode cX12_bringsBack 58 = .ok (.iastore, 1) := by decide +kernel
theorem dX12_bringsBack_59 : decode cX12_bringsBack 59 = .ok (.iinc 2 1, 3) := by decide +kernel
theorem dX12_bringsBack_62 : decode cX12_bringsBack 62 = .ok (.goto (-60), 3) := by decide +kernel
theorem dX12_bringsBack_65 : decode cX12_bringsBack 65 = .ok (.iconst 0, 1) := by decide +kernel
theorem dX12_bringsBack_66 : decode cX12_bringsBack 66 = .ok (.istore_n 2, 1) := by decide +kernel
theorem dX12_bringsBack_67 : decode cX12_bringsBack 67 = .ok (.iload_n 2, 1) := by decide +kernel
theorem dX12_bringsBack_68 : decode cX12_bringsBack 68 = .ok (.bipush 96, 2) := by decide +kernel
theorem dX12_bringsBack_70 : decode cX12_bringsBack 70 = .ok (.if_icmp .ge 26, 3) := by decide +kernel
theorem dX12_bringsBack_73 : decode cX12_bringsBack 73 = .ok (.aload_n 0, 1) := by decide +kernel
theorem dX12_bringsBack_74 : decode cX12_bringsBack 74 = .ok (.getfield 109, 3) := by decide +kernel
theorem dX12_bringsBack_77 : decode cX12_bringsBack 77 = .ok (.iload_n 2, 1) := by decide +kernel
theorem dX12_bringsBack_78 : decode cX12_bringsBack 78 = .ok (.aload_n 0, 1) := by decide +kernel
theorem dX12_bringsBack_79 : decode cX12_bringsBack 79 = .ok (.getfield 121, 3) := by decide +kernel
theorem dX12_bringsBack_82 : decode cX12_bringsBack 82 = .ok (.bipush 96, 2) := by decide +kernel
theorem dX12_bringsBack_84 : decode cX12_bringsBack 84 = .ok (.iload_n 1, 1) := by decide +kernel
theorem dX12_bringsBack_85 : decode cX12_bringsBack 85 = .ok (.imul, 1) := by decide +kernel
theorem dX12_bringsBack_86 : decode cX12_bringsBack 86 = .ok (.iload_n 2, 1) := by decide +kernel
theorem dX12_bringsBack_87 : decode cX12_bringsBack 87 = .ok (.iadd, 1) := by decide +kernel
theorem dX12_bringsBack_88 : decode cX12_bringsBack 88 = .ok (.iaload, 1) := by decide +kernel
theorem dX12_bringsBack_89 : decode cX12_bringsBack 89 = .ok (.iastore, 1) := by decide +kernel
theorem dX12_bringsBack_90 : decode cX12_bringsBack 90 = .ok (.iinc 2 1, 3) := by decide +kernel
theorem dX12_bringsBack_93 : decode cX12_bringsBack 93 = .ok (.goto (-26), 3) := by decide +kernel
theorem dX12_bringsBack_96 : decode cX12_bringsBack 96 = .ok (.aload_n 0, 1) := by decide +kernel
theorem dX12_bringsBack_97 : decode cX12_bringsBack 97 = .ok (.aload_n 0, 1) := by decide +kernel
theorem dX12_bringsBack_98 : decode cX12_bringsBack 98 = .ok (.getfield 124, 3) := by decide +kernel
theorem dX12_bringsBack_101 : decode cX12_bringsBack 101 = .ok (.iload_n 1, 1) := by decide +kernel
theorem dX12_bringsBack_102 : decode cX12_bringsBack 102 = .ok (.iaload, 1) := by decide +kernel
theorem dX12_bringsBack_103 : decode cX12_bringsBack 103 = .ok (.putfield 416, 3) := by decide +kernel
theorem dX12_bringsBack_106 : decode cX12_bringsBack 106 = .ok (.aload_n 0, 1) := by decide +kernel
theorem dX12_bringsBack_107 : decode cX12_bringsBack 107 = .ok (.aload_n 0, 1) := by decide +kernel
theorem dX12_bringsBack_108 : decode cX12_bringsBack 108 = .ok (.getfield 127, 3) := by decide +kernel
theorem dX12_bringsBack_111 : decode cX12_bringsBack 111 = .ok (.iload_n 1, 1) := by decide +kernel
theorem dX12_bringsBack_112 : decode cX12_bringsBack 112 = .ok (.iaload, 1) := by decide +kernel
theorem dX12_bringsBack_113 : decode cX12_bringsBack 113 = .ok (.putfield 471, 3) := by decide +kernel
theorem dX12_bringsBack_116 : decode cX12_bringsBack 116 = .ok (.aload_n 0, 1) := by decide +kernel
theorem dX12_bringsBack_117 : decode cX12_bringsBack 117 = .ok (.aload_n 0, 1) := by decide +kernel
theorem dX12_bringsBack_118 : decode cX12_bringsBack 118 = .ok (.getfield 130, 3) := by decide +kernel
theorem dX12_bringsBack_121 : decode cX12_bringsBack 121 = .ok (.iload_n 1, 1) := by decide +kernel
theorem dX12_bringsBack_122 : decode cX12_bringsBack 122 = .ok (.iaload, 1) := by decide +kernel
theorem dX12_bringsBack_123 : decode cX12_bringsBack 123 = .ok (.putfield 486, 3) := by decide +kernel
theorem dX12_bringsBack_126 : decode cX12_bringsBack 126 = .ok (.aload_n 0, 1) := by decide +kernel
theorem dX12_bringsBack_127 : decode cX12_bringsBack 127 = .ok (.aload_n 0, 1) := by decide +kernel
theorem dX12_bringsBack_128 : decode cX12_bringsBack 128 = .ok (.getfield 133, 3) := by decide +kernel
theorem dX12_bringsBack_131 : decode cX12_bringsBack 131 = .ok (.iload_n 1, 1) := by decide +kernel
theorem dX12_bringsBack_132 : decode cX12_bringsBack 132 = .ok (.iaload, 1) := by decide +kernel
theorem dX12_bringsBack_133 : decode cX12_bringsBack 133 = .ok (.putfield 13, 3) := by decide +kernel
theorem dX12_bringsBack_136 : decode cX12_bringsBack 136 = .ok (.return_, 1) := by decide +kernel
set_option maxRecDepth 100000 in
set_option maxHeartbeats 4000000 in
theorem a_X12_bringsBack (l : Launch) (D : va_G) (cA : Nat → ClassId) (ad : Nat → Nat) (g0 : Nat → va_E) (rr : Int32)   (hSh : Shp ad cA g0) (hG : Rng g0) (r0 : 0 ≤ rr.toInt) (r1 : rr.toInt ≤ 1) : CT l NN ad cA D yX12_bringsBack cX12_bringsBack 3 none (0, 0) [.ref (ad 129), .int rr] g0 (fun v g' => v = none ∧ Shp ad cA g' ∧ Rng g' ∧ FR (fun i k => (158 ≤ i ∧ i < 162) ∨ (i = 129 ∧ (k = 2 ∨ k = 56 ∨ k = 57 ∨ k = 58))) g0 g') := by
  refine q_enterV (by decide) (Nat.le_of_ble_eq_true rfl) (fun K H locs ls _ _ hM hW0 hR hC hE hl => ?_)
  have hl : lv_has ls 3 [(0, .ref (ad 129)), (1, .int rr)] := hl
  have hW : WS ad cA (fun i k => (158 ≤ i ∧ i < 162) ∨ (i = 129 ∧ (k = 2 ∨ k = 56 ∨ k = 57 ∨ k = 58))) g0 K g0 H locs := ⟨hW0, hSh, FR.rf⟩
  refine q_iconst (v := (0 : Int32)) hM dX12_bringsBack_0 (by decide) ?_
  refine q_istore_n (lv9 := [(2, .int (0 : Int32)), (0, .ref (ad 129)), (1, .int rr)]) hM dX12_bringsBack_1 hl (by decide) rfl (fun ls hl => ?_)
  have L2 : ∀ (fu2 : Nat) (w2_2 : Int32) (g9 : Nat → va_E) (H : Heap) (locs : List Loc) (ls : Array Slot), (8 - w2_2.toInt).toNat < fu2 → (Rng g9) → (0 ≤ w2_2.toInt) → (w2_2.toInt ≤ 8) → lv_has ls 3 [(0, .ref (ad 129)), (1, .int rr), (2, .int w2_2)] → WS ad cA (fun i k => (158 ≤ i ∧ i < 162) ∨ (i = 129 ∧ (k = 2 ∨ k = 56 ∨ k = 57 ∨ k = 58))) g0 K g9 H locs → XX K 0 0 H locs 2 ls [] := by
    intro fu2
    induction fu2 with
    | zero => intro w2_2 g9 H locs ls h0; omega
    | succ fu2 ih2 =>
      intro w2_2 g9 H locs ls hm2 i2_0 i2_1 i2_2 hl hW
      have hG := i2_0
      refine q_iload_n hM dX12_bringsBack_2 (lv_at hl 2 rfl) ?_
      refine q_bipush (v := (8 : Int32)) hM dX12_bringsBack_3 (by decide) ?_
      refine q_icmp_ge (tgt := 65) hM dX12_bringsBack_5 (by decide) (rfl : w2_2.toInt = w2_2.toInt) (kc_8 : (8 : Int32).toInt = 8) (fun h5 => ?_) (fun h5 => ?_)
      · refine q_iconst (v := (0 : Int32)) hM dX12_bringsBack_65 (by decide) ?_
        refine q_istore_n (lv9 := [(2, .int (0 : Int32)), (0, .ref (ad 129)), (1, .int rr)]) hM dX12_bringsBack_66 hl (by decide) rfl (fun ls hl => ?_)
        have L67 : ∀ (fu67 : Nat) (w67_2 : Int32) (g9 : Nat → va_E) (H : Heap) (locs : List Loc) (ls : Array Slot), (96 - w67_2.toInt).toNat < fu67 → (Rng g9) → (0 ≤ w67_2.toInt) → (w67_2.toInt ≤ 96) → lv_has ls 3 [(0, .ref (ad 129)), (1, .int rr), (2, .int w67_2)] → WS ad cA (fun i k => (158 ≤ i ∧ i < 162) ∨ (i = 129 ∧ (k = 2 ∨ k = 56 ∨ k = 57 ∨ k = 58))) g0 K g9 H locs → XX K 0 0 H locs 67 ls [] := by
          intro fu67
          induction fu67 with
          | zero => intro w67_2 g9 H locs ls h0; omega
          | succ fu67 ih67 =>
            intro w67_2 g9 H locs ls hm67 i67_0 i67_1 i67_2 hl hW
            have hG := i67_0
            refine q_iload_n hM dX12_bringsBack_67 (lv_at hl 2 rfl) ?_
            refine q_bipush (v := (96 : Int32)) hM dX12_bringsBack_68 (by decide) ?_
            refine q_icmp_ge (tgt := 96) hM dX12_bringsBack_70 (by decide) (rfl : w67_2.toInt = w67_2.toInt) (kc_96 : (96 : Int32).toInt = 96) (fun h70 => ?_) (fun h70 => ?_)
            · refine q_aload_n hM dX12_bringsBack_96 (lv_at hl 0 rfl) ?_
              refine q_aload_n hM dX12_bringsBack_97 (lv_at hl 0 rfl) ?_
              refine w_get (v := .ref (ad 166)) hM hW FG_X12_124 lb_129 (rf_129_71 hW.2.1) dX12_bringsBack_98 ?_
              refine q_iload_n hM dX12_bringsBack_101 (lv_at hl 1 rfl) ?_
              refine w_iald hM hW lb_166 (i_in (by omega) (by omega)) dX12_bringsBack_102 ?_
              refine q_top (fun y6583 hy6583 => ?_)
              refine w_put hM hW FP_X12_416 lb_129 (by omega) (Or.inl ⟨_, rfl⟩) rfl rfl dX12_bringsBack_103 (fun g6584 H locs hW e1 e2 => ?_)
              have f6585 : fld g6584 129 56 = .int y6583 := e1
              have hG := hG.put e1 e2 (rfl : rF 129 56 = (-2147483648, 2147483647)) (by decide) (by have := i_rng y6583; omega) (by have := i_rng y6583; omega)
              refine q_aload_n hM dX12_bringsBack_106 (lv_at hl 0 rfl) ?_
              refine q_aload_n hM dX12_bringsBack_107 (lv_at hl 0 rfl) ?_
              refine w_get (v := .ref (ad 167)) hM hW FG_X12_127 lb_129 (rf_129_72 hW.2.1) dX12_bringsBack_108 ?_
              refine q_iload_n hM dX12_bringsBack_111 (lv_at hl 1 rfl) ?_
              refine w_iald hM hW lb_167 (i_in (by omega) (by omega)) dX12_bringsBack_112 ?_
              refine q_top (fun y6586 hy6586 => ?_)
              refine w_put hM hW FP_X12_471 lb_129 (by omega) (Or.inl ⟨_, rfl⟩) rfl rfl dX12_bringsBack_113 (fun g6587 H locs hW e1 e2 => ?_)
              have f6588 : fld g6587 129 56 = .int y6583 := (e2.1 129 56 (by unfold Only; omega)).trans f6585
              have f6589 : fld g6587 129 57 = .int y6586 := e1
              have hG := hG.put e1 e2 (rfl : rF 129 57 = (-2147483648, 2147483647)) (by decide) (by have := i_rng y6586; omega) (by have := i_rng y6586; omega)
              refine q_aload_n hM dX12_bringsBack_116 (lv_at hl 0 rfl) ?_
              refine q_aload_n hM dX12_bringsBack_117 (lv_at hl 0 rfl) ?_
              refine w_get (v := .ref (ad 168)) hM hW FG_X12_130 lb_129 (rf_129_73 hW.2.1) dX12_bringsBack_118 ?_
              refine q_iload_n hM dX12_bringsBack_121 (lv_at hl 1 rfl) ?_
              refine w_iald hM hW lb_168 (i_in (by omega) (by omega)) dX12_bringsBack_122 ?_
              refine q_top (fun y6590 hy6590 => ?_)
              refine w_put hM hW FP_X12_486 lb_129 (by omega) (Or.inl ⟨_, rfl⟩) rfl rfl dX12_bringsBack_123 (fun g6591 H locs hW e1 e2 => ?_)
              have f6592 : fld g6591 129 56 = .int y6583 := (e2.1 129 56 (by unfold Only; omega)).trans f6588
              have f6593 : fld g6591 129 57 = .int y6586 := (e2.1 129 57 (by unfold Only; omega)).trans f6589
              have f6594 : fld g6591 129 58 = .int y6590 := e1
              have hG := hG.put e1 e2 (rfl : rF 129 58 = (-2147483648, 2147483647)) (by decide) (by have := i_rng y6590; omega) (by have := i_rng y6590; omega)
              refine q_aload_n hM dX12_bringsBack_126 (lv_at hl 0 rfl) ?_
              refine q_aload_n hM dX12_bringsBack_127 (lv_at hl 0 rfl) ?_
              refine w_get (v := .ref (ad 169)) hM hW FG_X12_133 lb_129 (rf_129_74 hW.2.1) dX12_bringsBack_128 ?_
              refine q_iload_n hM dX12_bringsBack_131 (lv_at hl 1 rfl) ?_
              refine w_iald hM hW lb_169 (i_in (by omega) (by omega)) dX12_bringsBack_132 ?_
              refine q_top (fun y6595 hy6595 => ?_)
              refine w_put hM hW FP_X12_13 lb_129 (by omega) (Or.inl ⟨_, rfl⟩) rfl rfl dX12_bringsBack_133 (fun g6596 H locs hW e1 e2 => ?_)
              have f6597 : fld g6596 129 56 = .int y6583 := (e2.1 129 56 (by unfold Only; omega)).trans f6592
              have f6598 : fld g6596 129 57 = .int y6586 := (e2.1 129 57 (by unfold Only; omega)).trans f6593
              have f6599 : fld g6596 129 58 = .int y6590 := (e2.1 129 58 (by unfold Only; omega)).trans f6594
              have f6600 : fld g6596 129 2 = .int y6595 := e1
              have hG := hG.put e1 e2 (rfl : rF 129 2 = (-2147483648, 2147483647)) (by decide) (by have := i_rng y6595; omega) (by have := i_rng y6595; omega)
              exact hE _ _ _ _ _ hW.1 ⟨rfl, hW.2.1, hG, hW.2.2⟩ dX12_bringsBack_136
            · refine q_aload_n hM dX12_bringsBack_73 (lv_at hl 0 rfl) ?_
              refine w_get (v := .ref (ad 161)) hM hW FG_X12_109 lb_129 (rf_129_55 hW.2.1) dX12_bringsBack_74 ?_
              refine q_iload_n hM dX12_bringsBack_77 (lv_at hl 2 rfl) ?_
              refine q_aload_n hM dX12_bringsBack_78 (lv_at hl 0 rfl) ?_
              refine w_get (v := .ref (ad 165)) hM hW FG_X12_121 lb_129 (rf_129_70 hW.2.1) dX12_bringsBack_79 ?_
              refine q_bipush (v := (96 : Int32)) hM dX12_bringsBack_82 (by decide) ?_
              refine q_iload_n hM dX12_bringsBack_84 (lv_at hl 1 rfl) ?_
              refine q_imul hM dX12_bringsBack_85 (fun z6602 hz6602 => ?_)
              first | have tz6602 := i_mulT hz6602 (kc_96 : (96 : Int32).toInt = 96) (rfl : rr.toInt = rr.toInt) (by omega) (by omega) | skip
              refine q_iload_n hM dX12_bringsBack_86 (lv_at hl 2 rfl) ?_
              refine q_iadd hM dX12_bringsBack_87 (fun z6603 hz6603 => ?_)
              first | have tz6603 := i_addT hz6603 (rfl : z6602.toInt = z6602.toInt) (rfl : w67_2.toInt = w67_2.toInt) (by omega) (by omega) | skip
              refine w_iald hM hW lb_165 (i_in (by omega) (by omega)) dX12_bringsBack_88 ?_
              refine q_top (fun y6604 hy6604 => ?_)
              refine w_iast hM hW lb_161 (by omega) (i_in (by omega) (by omega)) dX12_bringsBack_89 (fun g6605 H locs hW e1 e2 => ?_)
              have hG := hG.st e1 e2 (rfl : rA 161 = (-2147483648, 2147483647)) (by have := i_rng y6604; omega) (by have := i_rng y6604; omega)
              refine q_iinc (lv9 := fun z6606 => [(2, .int z6606), (0, .ref (ad 129)), (1, .int rr)]) hM dX12_bringsBack_90 hl (kq := 2) rfl (by decide) (fun _ => rfl) (fun z6606 ls hz6606 hl => ?_)
              first | have tz6606 := i_addT hz6606 (rfl : w67_2.toInt = w67_2.toInt) (kc_1 : (Int32.ofInt 1).toInt = 1) (by omega) (by omega) | skip
              refine q_goto (tgt := 67) hM dX12_bringsBack_93 (by decide) ?_
              exact ih67 z6606 _ _ _ _ (by omega) hG (by omega) (by omega) (lv_sub hl [1, 2, 0] rfl) hW
        have := kc_0
        exact L67 _ (0 : Int32) _ _ _ _ (Nat.lt_succ_self _) hG (by omega) (by omega) (lv_sub hl [1, 2, 0] rfl) hW
      · refine q_aload_n hM dX12_bringsBack_8 (lv_at hl 0 rfl) ?_
        refine w_get (v := .ref (ad 158)) hM hW FG_X12_100 lb_129 (rf_129_52 hW.2.1) dX12_bringsBack_9 ?_
        refine q_iload_n hM dX12_bringsBack_12 (lv_at hl 2 rfl) ?_
        refine q_aload_n hM dX12_bringsBack_13 (lv_at hl 0 rfl) ?_
        refine w_get (v := .ref (ad 162)) hM hW FG_X12_112 lb_129 (rf_129_67 hW.2.1) dX12_bringsBack_14 ?_
        refine q_bipush (v := (8 : Int32)) hM dX12_bringsBack_17 (by decide) ?_
        refine q_iload_n hM dX12_bringsBack_19 (lv_at hl 1 rfl) ?_
        refine q_imul hM dX12_bringsBack_20 (fun z6608 hz6608 => ?_)
        first | have tz6608 := i_mulT hz6608 (kc_8 : (8 : Int32).toInt = 8) (rfl : rr.toInt = rr.toInt) (by omega) (by omega) | skip
        refine q_iload_n hM dX12_bringsBack_21 (lv_at hl 2 rfl) ?_
        refine q_iadd hM dX12_bringsBack_22 (fun z6609 hz6609 => ?_)
        first | have tz6609 := i_addT hz6609 (rfl : z6608.toInt = z6608.toInt) (rfl : w2_2.toInt = w2_2.toInt) (by omega) (by omega) | skip
        refine w_zald hM hW lb_162 (i_in (by omega) (by omega)) dX12_bringsBack_23 ?_
        refine q_top (fun y6610 hy6610 => ?_)
        refine w_zast hM hW lb_158 (by omega) (i_in (by omega) (by omega)) dX12_bringsBack_24 (fun g6611 H locs hW e1 e2 => ?_)
        have hG := hG.st e1 e2 (rfl : rA 158 = (-2147483648, 2147483647)) (by have := i_rng (vp_nar .boolean y6610); omega) (by have := i_rng (vp_nar .boolean y6610); omega)
        refine q_aload_n hM dX12_bringsBack_25 (lv_at hl 0 rfl) ?_
        refine w_get (v := .ref (ad 159)) hM hW FG_X12_103 lb_129 (rf_129_53 hW.2.1) dX12_bringsBack_26 ?_
        refine q_iload_n hM dX12_bringsBack_29 (lv_at hl 2 rfl) ?_
        refine q_aload_n hM dX12_bringsBack_30 (lv_at hl 0 rfl) ?_
        refine w_get (v := .ref (ad 163)) hM hW FG_X12_115 lb_129 (rf_129_68 hW.2.1) dX12_bringsBack_31 ?_
        refine q_bipush (v := (8 : Int32)) hM dX12_bringsBack_34 (by decide) ?_
        refine q_iload_n hM dX12_bringsBack_36 (lv_at hl 1 rfl) ?_
        refine q_imul hM dX12_bringsBack_37 (fun z6612 hz6612 => ?_)
        first | have tz6612 := i_mulT hz6612 (kc_8 : (8 : Int32).toInt = 8) (rfl : rr.toInt = rr.toInt) (by omega) (by omega) | skip
        refine q_iload_n hM dX12_bringsBack_38 (lv_at hl 2 rfl) ?_
        refine q_iadd hM dX12_bringsBack_39 (fun z6613 hz6613 => ?_)
        first | have tz6613 := i_addT hz6613 (rfl : z6612.toInt = z6612.toInt) (rfl : w2_2.toInt = w2_2.toInt) (by omega) (by omega) | skip
        refine w_iald hM hW lb_163 (i_in (by omega) (by omega)) dX12_bringsBack_40 ?_
        refine q_top (fun y6614 hy6614 => ?_)
        have by6614 := hG.a hy6614 rA_163
        refine w_iast hM hW lb_159 (by omega) (i_in (by omega) (by omega)) dX12_bringsBack_41 (fun g6615 H locs hW e1 e2 => ?_)
        have hG := hG.st e1 e2 rA_159 (by have := i_rng y6614; omega) (by have := i_rng y6614; omega)
        refine q_aload_n hM dX12_bringsBack_42 (lv_at hl 0 rfl) ?_
        refine w_get (v := .ref (ad 160)) hM hW FG_X12_106 lb_129 (rf_129_54 hW.2.1) dX12_bringsBack_43 ?_
        refine q_iload_n hM dX12_bringsBack_46 (lv_at hl 2 rfl) ?_
        refine q_aload_n hM dX12_bringsBack_47 (lv_at hl 0 rfl) ?_
        refine w_get (v := .ref (ad 164)) hM hW FG_X12_118 lb_129 (rf_129_69 hW.2.1) dX12_bringsBack_48 ?_
        refine q_bipush (v := (8 : Int32)) hM dX12_bringsBack_51 (by decide) ?_
        refine q_iload_n hM dX12_bringsBack_53 (lv_at hl 1 rfl) ?_
        refine q_imul hM dX12_bringsBack_54 (fun z6616 hz6616 => ?_)
        first | have tz6616 := i_mulT hz6616 (kc_8 : (8 : Int32).toInt = 8) (rfl : rr.toInt = rr.toInt) (by omega) (by omega) | skip
        refine q_iload_n hM dX12_bringsBack_55 (lv_at hl 2 rfl) ?_
        refine q_iadd hM dX12_bringsBack_56 (fun z6617 hz6617 => ?_)
        first | have tz6617 := i_addT hz6617 (rfl : z6616.toInt = z6616.toInt) (rfl : w2_2.toInt = w2_2.toInt) (by omega) (by omega) | skip
        refine w_iald hM hW lb_164 (i_in (by omega) (by omega)) dX12_bringsBack_57 ?_
        refine q_top (fun y6618 hy6618 => ?_)
        refine w_iast hM hW lb_160 (by omega) (i_in (by omega) (by omega)) dX12_bringsBack_58 (fun g6619 H locs hW e1 e2 => ?_)
        have hG := hG.st e1 e2 (rfl : rA 160 = (-2147483648, 2147483647)) (by have := i_rng y6618; omega) (by have := i_rng y6618; omega)
        refine q_iinc (lv9 := fun z6620 => [(2, .int z6620), (0, .ref (ad 129)), (1, .int rr)]) hM dX12_bringsBack_59 hl (kq := 2) rfl (by decide) (fun _ => rfl) (fun z6620 ls hz6620 hl => ?_)
        first | have tz6620 := i_addT hz6620 (rfl : w2_2.toInt = w2_2.toInt) (kc_1 : (Int32.ofInt 1).toInt = 1) (by omega) (by omega) | skip
        refine q_goto (tgt := 2) hM dX12_bringsBack_62 (by decide) ?_
        exact ih2 z6620 _ _ _ _ (by omega) hG (by omega) (by omega) (lv_sub hl [1, 2, 0] rfl) hW
  have := kc_0
  exact L2 _ (0 : Int32) _ _ _ _ (Nat.lt_succ_self _) hG (by omega) (by omega) (lv_sub hl [1, 2, 0] rfl) hW

theorem dX12_keepsOwn_0 : decode cX12_keepsOwn 0 = .ok (.iconst 0, 1) := by decide +kernel
theorem dX12_keepsOwn_1 : decode cX12_keepsOwn 1 = .ok (.istore_n 2, 1) := by decide +kernel
theorem dX12_keepsOwn_2 : decode cX12_keepsOwn 2 = .ok (.iload_n 2, 1) := by decide +kernel
theorem dX12_keepsOwn_3 : decode cX12_keepsOwn 3 = .ok (.bipush 12, 2) := by decide +kernel
theorem dX12_keepsOwn_5 : decode cX12_keepsOwn 5 = .ok (.if_icmp .ge 26, 3) := by decide +kernel
theorem dX12_keepsOwn_8 : decode cX12_keepsOwn 8 = .ok (.aload_n 0, 1) := by decide +kernel
theorem dX12_keepsOwn_9 : decode cX12_keepsOwn 9 = .ok (.getfield 136, 3) := by decide +kernel
theorem dX12_keepsOwn_12 : decode cX12_keepsOwn 12 = .ok (.iload_n 2, 1) := by decide +kernel
theorem dX12_keepsOwn_13 : decode cX12_keepsOwn 13 = .ok (.aload_n 0, 1) := by decide +kernel
theorem dX12_keepsOwn_14 : decode cX12_keepsOwn 14 = .ok (.getfield 109, 3) := by decide +kernel
theorem dX12_keepsOwn_17 : decode cX12_keepsOwn 17 = .ok (.bipush 12, 2) := by decide +kernel
theorem dX12_keepsOwn_19 : decode cX12_keepsOwn 19 = .ok (.iload_n 1, 1) := by decide +kernel
theorem dX12_keepsOwn_20 : decode cX12_keepsOwn 20 = .ok (.imul, 1) := by decide +kernel
theorem dX12_keepsOwn_21 : decode cX12_keepsOwn 21 = .ok (.iload_n 2, 1) := by decide +kernel
theorem dX12_keepsOwn_22 : decode cX12_keepsOwn 22 = .ok (.iadd, 1) := by decide +kernel
theorem dX12_keepsOwn_23 : decode cX12_keepsOwn 23 = .ok (.iaload, 1) := by decide +kernel
theorem dX12_keepsOwn_24 : decode cX12_keepsOwn 24 = .ok (.iastore, 1) := by decide +kernel
theorem dX12_keepsOwn_25 : decode cX12_keepsOwn 25 = .ok (.iinc 2 1, 3) := by decide +kernel
theorem dX12_keepsOwn_28 : decode cX12_keepsOwn 28 = .ok (.goto (-26), 3) := by decide +kernel
theorem dX12_keepsOwn_31 : decode cX12_keepsOwn 31 = .ok (.return_, 1) := by decide +kernel
theorem FG_X12_136 : FG RX12 136 12 86 76 := ⟨RX12, TX12, rfl, wX12, by decide, kAW (v_4_7 (List.mem_of_getElem? (i := 9) rfl)) rfl, rfl⟩
set_option maxRecDepth 100000 in
set_option maxHeartbeats 4000000 in
theorem a_X12_keepsOwn (l : Launch) (D : va_G) (cA : Nat → ClassId) (ad : Nat → Nat) (g0 : Nat → va_E) (p : Int32)   (hSh : Shp ad cA g0) (hG : Rng g0) (p0 : 0 ≤ p.toInt) (p7 : p.toInt < 8) : CT l NN ad cA D yX12_keepsOwn cX12_keepsOwn 3 none (0, 0) [.ref (ad 129), .int p] g0 (fun v g' => v = none ∧ Shp ad cA g' ∧ Rng g' ∧ FR (fun i k => i = 170) g0 g') := by
  refine q_enterV (by decide) (Nat.le_of_ble_eq_true rfl) (fun K H locs ls _ _ hM hW0 hR hC hE hl => ?_)
  have hl : lv_has ls 3 [(0, .ref (ad 129)), (1, .int p)] := hl
  have hW : WS ad cA (fun i k => i = 170) g0 K g0 H locs := ⟨hW0, hSh, FR.rf⟩
  refine q_iconst (v := (0 : Int32)) hM dX12_keepsOwn_0 (by decide) ?_
  refine q_istore_n (lv9 := [(2, .int (0 : Int32)), (0, .ref (ad 129)), (1, .int p)]) hM dX12_keepsOwn_1 hl (by decide) rfl (fun ls hl => ?_)
  have L2 : ∀ (fu2 : Nat) (w2_2 : Int32) (g9 : Nat → va_E) (H : Heap) (locs : List Loc) (ls : Array Slot), (12 - w2_2.toInt).toNat < fu2 → (Rng g9) → (0 ≤ w2_2.toInt) → (w2_2.toInt ≤ 12) → lv_has ls 3 [(0, .ref (ad 129)), (1, .int p), (2, .int w2_2)] → WS ad cA (fun i k => i = 170) g0 K g9 H locs → XX K 0 0 H locs 2 ls [] := by
    intro fu2
    induction fu2 with
    | zero => intro w2_2 g9 H locs ls h0; omega
    | succ fu2 ih2 =>
      intro w2_2 g9 H locs ls hm2 i2_0 i2_1 i2_2 hl hW
      have hG := i2_0
      refine q_iload_n hM dX12_keepsOwn_2 (lv_at hl 2 rfl) ?_
      refine q_bipush (v := (12 : Int32)) hM dX12_keepsOwn_3 (by decide) ?_
      refine q_icmp_ge (tgt := 31) hM dX12_keepsOwn_5 (by decide) (rfl : w2_2.toInt = w2_2.toInt) (kc_12 : (12 : Int32).toInt = 12) (fun h5 => ?_) (fun h5 => ?_)
      · exact hE _ _ _ _ _ hW.1 ⟨rfl, hW.2.1, hG, hW.2.2⟩ dX12_keepsOwn_31
      · refine q_aload_n hM dX12_keepsOwn_8 (lv_at hl 0 rfl) ?_
        refine w_get (v := .ref (ad 170)) hM hW FG_X12_136 lb_129 (rf_129_76 hW.2.1) dX12_keepsOwn_9 ?_
        refine q_iload_n hM dX12_keepsOwn_12 (lv_at hl 2 rfl) ?_
        refine q_aload_n hM dX12_keepsOwn_13 (lv_at hl 0 rfl) ?_
        refine w_get (v := .ref (ad 161)) hM hW FG_X12_109 lb_129 (rf_129_55 hW.2.1) dX12_keepsOwn_14 ?_
        refine q_bipush (v := (12 : Int32)) hM dX12_keepsOwn_17 (by decide) ?_
        refine q_iload_n hM dX12_keepsOwn_19 (lv_at hl 1 rfl) ?_
        refine q_imul hM dX12_keepsOwn_20 (fun z6624 hz6624 => ?_)
        first | have tz6624 := i_mulT hz6624 (kc_12 : (12 : Int32).toInt = 12) (rfl : p.toInt = p.toInt) (by omega) (by omega) | skip
        refine q_iload_n hM dX12_keepsOwn_21 (lv_at hl 2 rfl) ?_
        refine q_iadd hM dX12_keepsOwn_22 (fun z6625 hz6625 => ?_)
        first | have tz6625 := i_addT hz6625 (rfl : z6624.toInt = z6624.toInt) (rfl : w2_2.toInt = w2_2.toInt) (by omega) (by omega) | skip
        refine w_iald hM hW lb_161 (i_in (by omega) (by omega)) dX12_keepsOwn_23 ?_
        refine q_top (fun y6626 hy6626 => ?_)
        refine w_iast hM hW lb_170 (by omega) (i_in (by omega) (by omega)) dX12_keepsOwn_24 (fun g6627 H locs hW e1 e2 => ?_)
        have hG := hG.st e1 e2 (rfl : rA 170 = (-2147483648, 2147483647)) (by have := i_rng y6626; omega) (by have := i_rng y6626; omega)
        refine q_iinc (lv9 := fun z6628 => [(2, .int z6628), (0, .ref (ad 129)), (1, .int p)]) hM dX12_keepsOwn_25 hl (kq := 2) rfl (by decide) (fun _ => rfl) (fun z6628 ls hz6628 hl => ?_)
        first | have tz6628 := i_addT hz6628 (rfl : w2_2.toInt = w2_2.toInt) (kc_1 : (Int32.ofInt 1).toInt = 1) (by omega) (by omega) | skip
        refine q_goto (tgt := 2) hM dX12_keepsOwn_28 (by decide) ?_
        exact ih2 z6628 _ _ _ _ (by omega) hG (by omega) (by omega) (lv_sub hl [1, 2, 0] rfl) hW
  have := kc_0
  exact L2 _ (0 : Int32) _ _ _ _ (Nat.lt_succ_self _) hG (by omega) (by omega) (lv_sub hl [1, 2, 0] rfl) hW

theorem dX12_givesBack_0 : decode cX12_givesBack 0 = .ok (.iconst 0, 1) := by decide +kernel
theorem dX12_givesBack_1 : decode cX12_givesBack 1 = .ok (.istore_n 2, 1) := by decide +kernel
theorem dX12_givesBack_2 : decode cX12_givesBack 2 = .ok (.iload_n 2, 1) := by decide +kernel
theorem dX12_givesBack_3 : decode cX12_givesBack 3 = .ok (.bipush 12, 2) := by decide +kernel
theorem dX12_givesBack_5 : decode cX12_givesBack 5 = .ok (.if_icmp .ge 26, 3) := by decide +kernel
theorem dX12_givesBack_8 : decode cX12_givesBack 8 = .ok (.aload_n 0, 1) := by decide +kernel
theorem dX12_givesBack_9 : decode cX12_givesBack 9 = .ok (.getfield 109, 3) := by decide +kernel
theorem dX12_givesBack_12 : decode cX12_givesBack 12 = .ok (.bipush 12, 2) := by decide +kernel
theorem dX12_givesBack_14 : decode cX12_givesBack 14 = .ok (.iload_n 1, 1) := by decide +kernel
theorem dX12_givesBack_15 : decode cX12_givesBack 15 = .ok (.imul, 1) := by decide +kernel
theorem dX12_givesBack_16 : decode cX12_givesBack 16 = .ok (.iload_n 2, 1) := by decide +kernel
theorem dX12_givesBack_17 : decode cX12_givesBack 17 = .ok (.iadd, 1) := by decide +kernel
theorem dX12_givesBack_18 : decode cX12_givesBack 18 = .ok (.aload_n 0, 1) := by decide +kernel
theorem dX12_givesBack_19 : decode cX12_givesBack 19 = .ok (.getfield 136, 3) := by decide +kernel
theorem dX12_givesBack_22 : decode cX12_givesBack 22 = .ok (.iload_n 2, 1) := by decide +kernel
theorem dX12_givesBack_23 : decode cX12_givesBack 23 = .ok (.iaload, 1) := by decide +kernel
theorem dX12_givesBack_24 : decode cX12_givesBack 24 = .ok (.iastore, 1) := by decide +kernel
theorem dX12_givesBack_25 : decode cX12_givesBack 25 = .ok (.iinc 2 1, 3) := by decide +kernel
theorem dX12_givesBack_28 : decode cX12_givesBack 28 = .ok (.goto (-26), 3) := by decide +kernel
theorem dX12_givesBack_31 : decode cX12_givesBack 31 = .ok (.return_, 1) := by decide +kernel
set_option maxRecDepth 100000 in
set_option maxHeartbeats 4000000 in
theorem a_X12_givesBack (l : Launch) (D : va_G) (cA : Nat → ClassId) (ad : Nat → Nat) (g0 : Nat → va_E) (p : Int32)   (hSh : Shp ad cA g0) (hG : Rng g0) (p0 : 0 ≤ p.toInt) (p7 : p.toInt < 8) : CT l NN ad cA D yX12_givesBack cX12_givesBack 3 none (0, 0) [.ref (ad 129), .int p] g0 (fun v g' => v = none ∧ Shp ad cA g' ∧ Rng g' ∧ FR (fun i k => i = 161) g0 g') := by
  refine q_enterV (by decide) (Nat.le_of_ble_eq_true rfl) (fun K H locs ls _ _ hM hW0 hR hC hE hl => ?_)
  have hl : lv_has ls 3 [(0, .ref (ad 129)), (1, .int p)] := hl
  have hW : WS ad cA (fun i k => i = 161) g0 K g0 H locs := ⟨hW0, hSh, FR.rf⟩
  refine q_iconst (v := (0 : Int32)) hM dX12_givesBack_0 (by decide) ?_
  refine q_istore_n (lv9 := [(2, .int (0 : Int32)), (0, .ref (ad 129)), (1, .int p)]) hM dX12_givesBack_1 hl (by decide) rfl (fun ls hl => ?_)
  have L2 : ∀ (fu2 : Nat) (w2_2 : Int32) (g9 : Nat → va_E) (H : Heap) (locs : List Loc) (ls : Array Slot), (12 - w2_2.toInt).toNat < fu2 → (Rng g9) → (0 ≤ w2_2.toInt) → (w2_2.toInt ≤ 12) → lv_has ls 3 [(0, .ref (ad 129)), (1, .int p), (2, .int w2_2)] → WS ad cA (fun i k => i = 161) g0 K g9 H locs → XX K 0 0 H locs 2 ls [] := by
    intro fu2
    induction fu2 with
    | zero => intro w2_2 g9 H locs ls h0; omega
    | succ fu2 ih2 =>
      intro w2_2 g9 H locs ls hm2 i2_0 i2_1 i2_2 hl hW
      have hG := i2_0
      refine q_iload_n hM dX12_givesBack_2 (lv_at hl 2 rfl) ?_
      refine q_bipush (v := (12 : Int32)) hM dX12_givesBack_3 (by decide) ?_
      refine q_icmp_ge (tgt := 31) hM dX12_givesBack_5 (by decide) (rfl : w2_2.toInt = w2_2.toInt) (kc_12 : (12 : Int32).toInt = 12) (fun h5 => ?_) (fun h5 => ?_)
      · exact hE _ _ _ _ _ hW.1 ⟨rfl, hW.2.1, hG, hW.2.2⟩ dX12_givesBack_31
      · refine q_aload_n hM dX12_givesBack_8 (lv_at hl 0 rfl) ?_
        refine w_get (v := .ref (ad 161)) hM hW FG_X12_109 lb_129 (rf_129_55 hW.2.1) dX12_givesBack_9 ?_
        refine q_bipush (v := (12 : Int32)) hM dX12_givesBack_12 (by decide) ?_
        refine q_iload_n hM dX12_givesBack_14 (lv_at hl 1 rfl) ?_
        refine q_imul hM dX12_givesBack_15 (fun z6632 hz6632 => ?_)
        first | have tz6632 := i_mulT hz6632 (kc_12 : (12 : Int32).toInt = 12) (rfl : p.toInt = p.toInt) (by omega) (by omega) | skip
        refine q_iload_n hM dX12_givesBack_16 (lv_at hl 2 rfl) ?_
        refine q_iadd hM dX12_givesBack_17 (fun z6633 hz6633 => ?_)
        first | have tz6633 := i_addT hz6633 (rfl : z6632.toInt = z6632.toInt) (rfl : w2_2.toInt = w2_2.toInt) (by omega) (by omega) | skip
        refine q_aload_n hM dX12_givesBack_18 (lv_at hl 0 rfl) ?_
        refine w_get (v := .ref (ad 170)) hM hW FG_X12_136 lb_129 (rf_129_76 hW.2.1) dX12_givesBack_19 ?_
        refine q_iload_n hM dX12_givesBack_22 (lv_at hl 2 rfl) ?_
        refine w_iald hM hW lb_170 (i_in (by omega) (by omega)) dX12_givesBack_23 ?_
        refine q_top (fun y6634 hy6634 => ?_)
        refine w_iast hM hW lb_161 (by omega) (i_in (by omega) (by omega)) dX12_givesBack_24 (fun g6635 H locs hW e1 e2 => ?_)
        have hG := hG.st e1 e2 (rfl : rA 161 = (-2147483648, 2147483647)) (by have := i_rng y6634; omega) (by have := i_rng y6634; omega)
        refine q_iinc (lv9 := fun z6636 => [(2, .int z6636), (0, .ref (ad 129)), (1, .int p)]) hM dX12_givesBack_25 hl (kq := 2) rfl (by decide) (fun _ => rfl) (fun z6636 ls hz6636 hl => ?_)
        first | have tz6636 := i_addT hz6636 (rfl : w2_2.toInt = w2_2.toInt) (kc_1 : (Int32.ofInt 1).toInt = 1) (by omega) (by omega) | skip
        refine q_goto (tgt := 2) hM dX12_givesBack_28 (by decide) ?_
        exact ih2 z6636 _ _ _ _ (by omega) hG (by omega) (by omega) (lv_sub hl [1, 2, 0] rfl) hW
  have := kc_0
  exact L2 _ (0 : Int32) _ _ _ _ (Nat.lt_succ_self _) hG (by omega) (by omega) (lv_sub hl [1, 2, 0] rfl) hW

theorem dX12_changes_0 : decode cX12_changes 0 = .ok (.iconst 0, 1) := by decide +kernel
theorem dX12_changes_1 : decode cX12_changes 1 = .ok (.istore_n 3, 1) := by decide +kernel
theorem dX12_changes_2 : decode cX12_changes 2 = .ok (.iload_n 3, 1) := by decide +kernel
theorem dX12_changes_3 : decode cX12_changes 3 = .ok (.bipush 12, 2) := by decide +kernel
theorem dX12_changes_5 : decode cX12_changes 5 = .ok (.if_icmp .ge 26, 3) := by decide +kernel
theorem dX12_changes_8 : decode cX12_changes 8 = .ok (.aload_n 0, 1) := by decide +kernel
theorem dX12_changes_9 : decode cX12_changes 9 = .ok (.getfield 148, 3) := by decide +kernel
theorem dX12_changes_12 : decode cX12_changes 12 = .ok (.iload_n 3, 1) := by decide +kernel
theorem dX12_changes_13 : decode cX12_changes 13 = .ok (.aload_n 0, 1) := by decide +kernel
theorem dX12_changes_14 : decode cX12_changes 14 = .ok (.getfield 109, 3) := by decide +kernel
theorem dX12_changes_17 : decode cX12_changes 17 = .ok (.bipush 12, 2) := by decide +kernel
theorem dX12_changes_19 : decode cX12_changes 19 = .ok (.iload_n 1, 1) := by decide +kernel
theorem dX12_changes_20 : decode cX12_changes 20 = .ok (.imul, 1) := by decide +kernel
theorem dX12_changes_21 : decode cX12_changes 21 = .ok (.iload_n 3, 1) := by decide +kernel
theorem dX12_changes_22 : decode cX12_changes 22 = .ok (.iadd, 1) := by decide +kernel
theorem dX12_changes_23 : decode cX12_changes 23 = .ok (.iaload, 1) := by decide +kernel
theorem dX12_changes_24 : decode cX12_changes 24 = .ok (.iastore, 1) := by decide +kernel
theorem dX12_changes_25 : decode cX12_changes 25 = .ok (.iinc 3 1, 3) := by decide +kernel
theorem dX12_changes_28 : decode cX12_changes 28 = .ok (.goto (-26), 3) := by decide +kernel
theorem dX12_changes_31 : decode cX12_changes 31 = .ok (.aload_n 0, 1) := by decide +kernel
theorem dX12_changes_32 : decode cX12_changes 32 = .ok (.iload_n 1, 1) := by decide +kernel
theorem dX12_changes_33 : decode cX12_changes 33 = .ok (.iload_n 2, 1) := by decide +kernel
theorem dX12_changes_34 : decode cX12_changes 34 = .ok (.invokevirtual 455, 3) := by decide +kernel
theorem dX12_changes_37 : decode cX12_changes 37 = .ok (.aload_n 0, 1) := by decide +kernel
theorem dX12_changes_38 : decode cX12_changes 38 = .ok (.iload_n 1, 1) := by decide +kernel
theorem dX12_changes_39 : decode cX12_changes 39 = .ok (.invokevirtual 483, 3) := by decide +kernel
theorem dX12_changes_42 : decode cX12_changes 42 = .ok (.istore_n 3, 1) := by decide +kernel
theorem dX12_changes_43 : decode cX12_changes 43 = .ok (.iconst 0, 1) := by decide +kernel
theorem dX12_changes_44 : decode cX12_changes 44 = .ok (.istore 4, 2) := by decide +kernel
theorem dX12_changes_46 : decode cX12_changes 46 = .ok (.iload 4, 2) := by decide +kernel
theorem dX12_changes_48 : decode cX12_changes 48 = .ok (.bipush 12, 2) := by decide +kernel
theorem dX12_changes_50 : decode cX12_changes 50 = .ok (.if_icmp .ge 33, 3) := by decide +kernel
theorem dX12_changes_53 : decode cX12_changes 53 = .ok (.aload_n 0, 1) := by decide +kernel
theorem dX12_changes_54 : decode cX12_changes 54 = .ok (.getfield 148, 3) := by decide +kernel
theorem dX12_changes_57 : decode cX12_changes 57 = .ok (.iload 4, 2) := by decide +kernel
theorem dX12_changes_59 : decode cX12_changes 59 = .ok (.iaload, 1) := by decide +kernel
theorem dX12_changes_60 : decode cX12_changes 60 = .ok (.aload_n 0, 1) := by decide +kernel
theorem dX12_changes_61 : decode cX12_changes 61 = .ok (.getfield 109, 3) := by decide +kernel
theorem dX12_changes_64 : decode cX12_changes 64 = .ok (.bipush 12, 2) := by decide +kernel
theorem dX12_changes_66 : decode cX12_changes 66 = .ok (.iload_n 1, 1) := by decide +kernel
theorem dX12_changes_67 : decode cX12_changes 67 = .ok (.imul, 1) := by decide +kernel
theorem dX12_changes_68 : decode cX12_changes 68 = .ok (.iload 4, 2) := by decide +kernel
theorem dX12_changes_70 : decode cX12_changes 70 = .ok (.iadd, 1) := by decide +kernel
theorem dX12_changes_71 : decode cX12_changes 71 = .ok (.iaload, 1) := by decide +kernel
theorem dX12_changes_72 : decode cX12_changes 72 = .ok (.if_icmp .eq 5, 3) := by decide +kernel
theorem dX12_changes_75 : decode cX12_changes 75 = .ok (.iconst 1, 1) := by decide +kernel
theorem dX12_changes_76 : decode cX12_changes 76 = .ok (.ireturn, 1) := by decide +kernel
theorem dX12_changes_77 : decode cX12_changes 77 = .ok (.iinc 4 1, 3) := by decide +kernel
theorem dX12_changes_80 : decode cX12_changes 80 = .ok (.goto (-34), 3) := by decide +kernel
theorem dX12_changes_83 : decode cX12_changes 83 = .ok (.iconst 0, 1) := by decide +kernel
theorem dX12_changes_84 : decode cX12_changes 84 = .ok (.ireturn, 1) := by decide +kernel
theorem FG_X12_148 : FG RX12 148 12 86 80 := ⟨RX12, TX12, rfl, wX12, by decide, kAW (v_4_7 (List.mem_of_getElem? (i := 13) rfl)) rfl, rfl⟩
set_option maxRecDepth 100000 in
set_option maxHeartbeats 4000000 in
theorem a_X12_changes (l : Launch) (D : va_G) (cA : Nat → ClassId) (ad : Nat → Nat) (g0 : Nat → va_E) (p : Int32) (k : Int32)   (hSh : Shp ad cA g0) (hG : Rng g0) (p0 : 0 ≤ p.toInt) (p7 : p.toInt < 8) (k0 : 0 ≤ k.toInt) (k1 : k.toInt ≤ 5) (hL : LawOK g0) : CT l NN ad cA D yX12_changes cX12_changes 5 (some FieldType.boolean) (8, 184) [.ref (ad 129), .int p, .int k] g0 (fun v g' => ∃ (r : Int32), v = some (.int r) ∧ Shp ad cA g' ∧ Rng g' ∧ FR (fun i k => i = 161 ∨ i = 156 ∨ i = 157 ∨ (i = 129 ∧ (k = 42 ∨ k = 43 ∨ k = 44 ∨ k = 45 ∨ k = 46 ∨ k = 47 ∨ k = 48 ∨ k = 49)) ∨ i = 174) g0 g' ∧ (r.toInt = 0 ∨ r.toInt = 1)) := by
  refine q_enterZ (by decide) (Nat.le_of_ble_eq_true rfl) (fun K H locs ls _ _ hM hW0 hR hC hE hl => ?_)
  have hl : lv_has ls 5 [(0, .ref (ad 129)), (1, .int p), (2, .int k)] := hl
  have hW : WS ad cA (fun i k => i = 161 ∨ i = 156 ∨ i = 157 ∨ (i = 129 ∧ (k = 42 ∨ k = 43 ∨ k = 44 ∨ k = 45 ∨ k = 46 ∨ k = 47 ∨ k = 48 ∨ k = 49)) ∨ i = 174) g0 K g0 H locs := ⟨hW0, hSh, FR.rf⟩
  refine q_iconst (v := (0 : Int32)) hM dX12_changes_0 (by decide) ?_
  refine q_istore_n (lv9 := [(3, .int (0 : Int32)), (0, .ref (ad 129)), (1, .int p), (2, .int k)]) hM dX12_changes_1 hl (by decide) rfl (fun ls hl => ?_)
  have L2 : ∀ (fu2 : Nat) (w2_3 : Int32) (g9 : Nat → va_E) (H : Heap) (locs : List Loc) (ls : Array Slot), (12 - w2_3.toInt).toNat < fu2 → (Rng g9) → (0 ≤ w2_3.toInt) → (w2_3.toInt ≤ 12) → lv_has ls 5 [(0, .ref (ad 129)), (1, .int p), (2, .int k), (3, .int w2_3)] → WS ad cA (fun i k => i = 161 ∨ i = 156 ∨ i = 157 ∨ (i = 129 ∧ (k = 42 ∨ k = 43 ∨ k = 44 ∨ k = 45 ∨ k = 46 ∨ k = 47 ∨ k = 48 ∨ k = 49)) ∨ i = 174) g0 K g9 H locs → XX K 0 0 H locs 2 ls [] := by
    intro fu2
    induction fu2 with
    | zero => intro w2_3 g9 H locs ls h0; omega
    | succ fu2 ih2 =>
      intro w2_3 g9 H locs ls hm2 i2_0 i2_1 i2_2 hl hW
      have hG := i2_0
      refine q_iload_n hM dX12_changes_2 (lv_at hl 3 rfl) ?_
      refine q_bipush (v := (12 : Int32)) hM dX12_changes_3 (by decide) ?_
      refine q_icmp_ge (tgt := 31) hM dX12_changes_5 (by decide) (rfl : w2_3.toInt = w2_3.toInt) (kc_12 : (12 : Int32).toInt = 12) (fun h5 => ?_) (fun h5 => ?_)
      · refine q_aload_n hM dX12_changes_31 (lv_at hl 0 rfl) ?_
        refine q_iload_n hM dX12_changes_32 (lv_at hl 1 rfl) ?_
        refine q_iload_n hM dX12_changes_33 (lv_at hl 2 rfl) ?_
        refine q_callV (As := [.int p, .int k]) (rest := []) hM hW.1 hR hC myX12_doesArt (kAW (v_6_3 (List.mem_of_getElem? (i := 11) rfl)) rfl) (rfl : vwCl[12]? = some (RX12, TX12, 86)) rfl lb_129.1 (shO hW.2.1 lb_129) (a_X12_doesArt _ _ cA ad g9 p k hW.2.1 hG (by  omega) (by  omega) (by  omega) (by  omega) (LawOK_fr hL hW.2.2 (by omega) (by omega) (by omega) (by omega) (by omega))) ⟨by decide, by decide⟩ rfl rfl hl.1 (Nat.le_of_ble_eq_true rfl) dX12_changes_34 (fun v g6639 H locs hp hW1 => ?_)
        obtain ⟨rfl, hs1, hG, hf1⟩ := hp
        have hW : WS ad cA (fun i k => i = 161 ∨ i = 156 ∨ i = 157 ∨ (i = 129 ∧ (k = 42 ∨ k = 43 ∨ k = 44 ∨ k = 45 ∨ k = 46 ∨ k = 47 ∨ k = 48 ∨ k = 49)) ∨ i = 174) g0 K g6639 H locs := ⟨hW1, hs1, hW.2.2.tr hf1 (fun i k h => h.elim (fun h => (Or.inl h)) (fun h => h.elim (fun h => (Or.inr (Or.inl h))) (fun h => h.elim (fun h => (Or.inr (Or.inr (Or.inl h)))) (fun h => (Or.inr (Or.inr (Or.inr (Or.inl h))))))))⟩
        refine q_aload_n hM dX12_changes_37 (lv_at hl 0 rfl) ?_
        refine q_iload_n hM dX12_changes_38 (lv_at hl 1 rfl) ?_
        refine q_callV (As := [.int p]) (rest := []) hM hW.1 hR hC myX12_recallsAll (kAW (v_6_8 (List.mem_of_getElem? (i := 9) rfl)) rfl) (rfl : vwCl[12]? = some (RX12, TX12, 86)) rfl lb_129.1 (shO hW.2.1 lb_129) (a_X12_recallsAll _ _ cA ad g6639 p hW.2.1 hG (by  omega) (by  omega) (LawOK_fr hL hW.2.2 (by omega) (by omega) (by omega) (by omega) (by omega))) ⟨by decide, by decide⟩ rfl rfl hl.1 (Nat.le_of_ble_eq_true rfl) dX12_changes_39 (fun v g6641 H locs hp hW1 => ?_)
        obtain ⟨r6640, rfl, hs1, hG, hf1⟩ := hp
        have hW : WS ad cA (fun i k => i = 161 ∨ i = 156 ∨ i = 157 ∨ (i = 129 ∧ (k = 42 ∨ k = 43 ∨ k = 44 ∨ k = 45 ∨ k = 46 ∨ k = 47 ∨ k = 48 ∨ k = 49)) ∨ i = 174) g0 K g6641 H locs := ⟨hW1, hs1, hW.2.2.tr hf1 (fun i k h => h.elim (fun h => (Or.inl h)) (fun h => h.elim (fun h => (Or.inr (Or.inl h))) (fun h => h.elim (fun h => (Or.inr (Or.inr (Or.inl h)))) (fun h => (Or.inr (Or.inr (Or.inr (Or.inl h))))))))⟩
        refine q_istore_n (lv9 := [(3, .int r6640), (0, .ref (ad 129)), (1, .int p), (2, .int k)]) hM dX12_changes_42 hl (by decide) rfl (fun ls hl => ?_)
        refine q_iconst (v := (0 : Int32)) hM dX12_changes_43 (by decide) ?_
        refine q_istore (lv9 := [(4, .int (0 : Int32)), (3, .int r6640), (0, .ref (ad 129)), (1, .int p), (2, .int k)]) hM dX12_changes_44 hl (by decide) rfl (fun ls hl => ?_)
        have L46 : ∀ (fu46 : Nat) (w46_4 : Int32) (g9 : Nat → va_E) (H : Heap) (locs : List Loc) (ls : Array Slot), (12 - w46_4.toInt).toNat < fu46 → (Rng g9) → (0 ≤ w46_4.toInt) → (w46_4.toInt ≤ 12) → lv_has ls 5 [(0, .ref (ad 129)), (1, .int p), (2, .int k), (3, .int r6640), (4, .int w46_4)] → WS ad cA (fun i k => i = 161 ∨ i = 156 ∨ i = 157 ∨ (i = 129 ∧ (k = 42 ∨ k = 43 ∨ k = 44 ∨ k = 45 ∨ k = 46 ∨ k = 47 ∨ k = 48 ∨ k = 49)) ∨ i = 174) g0 K g9 H locs → XX K 0 0 H locs 46 ls [] := by
          intro fu46
          induction fu46 with
          | zero => intro w46_4 g9 H locs ls h0; omega
          | succ fu46 ih46 =>
            intro w46_4 g9 H locs ls hm46 i46_0 i46_1 i46_2 hl hW
            have hG := i46_0
            refine q_iload hM dX12_changes_46 (lv_at hl 4 rfl) ?_
            refine q_bipush (v := (12 : Int32)) hM dX12_changes_48 (by decide) ?_
            refine q_icmp_ge (tgt := 83) hM dX12_changes_50 (by decide) (rfl : w46_4.toInt = w46_4.toInt) (kc_12 : (12 : Int32).toInt = 12) (fun h50 => ?_) (fun h50 => ?_)
            · refine q_iconst (v := (0 : Int32)) hM dX12_changes_83 (by decide) ?_
              exact hE _ _ _ _ _ _ hW.1 nz_0 ⟨_, rfl, hW.2.1, hG, hW.2.2, (by have := kc_0; omega)⟩ dX12_changes_84
            · refine q_aload_n hM dX12_changes_53 (lv_at hl 0 rfl) ?_
              refine w_get (v := .ref (ad 174)) hM hW FG_X12_148 lb_129 (rf_129_80 hW.2.1) dX12_changes_54 ?_
              refine q_iload hM dX12_changes_57 (lv_at hl 4 rfl) ?_
              refine w_iald hM hW lb_174 (i_in (by omega) (by omega)) dX12_changes_59 ?_
              refine q_top (fun y6645 hy6645 => ?_)
              refine q_aload_n hM dX12_changes_60 (lv_at hl 0 rfl) ?_
              refine w_get (v := .ref (ad 161)) hM hW FG_X12_109 lb_129 (rf_129_55 hW.2.1) dX12_changes_61 ?_
              refine q_bipush (v := (12 : Int32)) hM dX12_changes_64 (by decide) ?_
              refine q_iload_n hM dX12_changes_66 (lv_at hl 1 rfl) ?_
              refine q_imul hM dX12_changes_67 (fun z6646 hz6646 => ?_)
              first | have tz6646 := i_mulT hz6646 (kc_12 : (12 : Int32).toInt = 12) (rfl : p.toInt = p.toInt) (by omega) (by omega) | skip
              refine q_iload hM dX12_changes_68 (lv_at hl 4 rfl) ?_
              refine q_iadd hM dX12_changes_70 (fun z6647 hz6647 => ?_)
              first | have tz6647 := i_addT hz6647 (rfl : z6646.toInt = z6646.toInt) (rfl : w46_4.toInt = w46_4.toInt) (by omega) (by omega) | skip
              refine w_iald hM hW lb_161 (i_in (by omega) (by omega)) dX12_changes_71 ?_
              refine q_top (fun y6648 hy6648 => ?_)
              refine q_icmp_eq (tgt := 77) hM dX12_changes_72 (by decide) (rfl : y6645.toInt = y6645.toInt) (rfl : y6648.toInt = y6648.toInt) (fun h72 => ?_) (fun h72 => ?_)
              · refine q_iinc (lv9 := fun z6650 => [(4, .int z6650), (0, .ref (ad 129)), (1, .int p), (2, .int k), (3, .int r6640)]) hM dX12_changes_77 hl (kq := 4) rfl (by decide) (fun _ => rfl) (fun z6650 ls hz6650 hl => ?_)
                first | have tz6650 := i_addT hz6650 (rfl : w46_4.toInt = w46_4.toInt) (kc_1 : (Int32.ofInt 1).toInt = 1) (by omega) (by omega) | skip
                refine q_goto (tgt := 46) hM dX12_changes_80 (by decide) ?_
                exact ih46 z6650 _ _ _ _ (by omega) hG (by omega) (by omega) (lv_sub hl [1, 2, 3, 4, 0] rfl) hW
              · refine q_iconst (v := (1 : Int32)) hM dX12_changes_75 (by decide) ?_
                exact hE _ _ _ _ _ _ hW.1 nz_1 ⟨_, rfl, hW.2.1, hG, hW.2.2, (by have := kc_1; omega)⟩ dX12_changes_76
        have := kc_0
        exact L46 _ (0 : Int32) _ _ _ _ (Nat.lt_succ_self _) hG (by omega) (by omega) (lv_sub hl [2, 3, 4, 1, 0] rfl) hW
      · refine q_aload_n hM dX12_changes_8 (lv_at hl 0 rfl) ?_
        refine w_get (v := .ref (ad 174)) hM hW FG_X12_148 lb_129 (rf_129_80 hW.2.1) dX12_changes_9 ?_
        refine q_iload_n hM dX12_changes_12 (lv_at hl 3 rfl) ?_
        refine q_aload_n hM dX12_changes_13 (lv_at hl 0 rfl) ?_
        refine w_get (v := .ref (ad 161)) hM hW FG_X12_109 lb_129 (rf_129_55 hW.2.1) dX12_changes_14 ?_
        refine q_bipush (v := (12 : Int32)) hM dX12_changes_17 (by decide) ?_
        refine q_iload_n hM dX12_changes_19 (lv_at hl 1 rfl) ?_
        refine q_imul hM dX12_changes_20 (fun z6653 hz6653 => ?_)
        first | have tz6653 := i_mulT hz6653 (kc_12 : (12 : Int32).toInt = 12) (rfl : p.toInt = p.toInt) (by omega) (by omega) | skip
        refine q_iload_n hM dX12_changes_21 (lv_at hl 3 rfl) ?_
        refine q_iadd hM dX12_changes_22 (fun z6654 hz6654 => ?_)
        first | have tz6654 := i_addT hz6654 (rfl : z6653.toInt = z6653.toInt) (rfl : w2_3.toInt = w2_3.toInt) (by omega) (by omega) | skip
        refine w_iald hM hW lb_161 (i_in (by omega) (by omega)) dX12_changes_23 ?_
        refine q_top (fun y6655 hy6655 => ?_)
        refine w_iast hM hW lb_174 (by omega) (i_in (by omega) (by omega)) dX12_changes_24 (fun g6656 H locs hW e1 e2 => ?_)
        have hG := hG.st e1 e2 (rfl : rA 174 = (-2147483648, 2147483647)) (by have := i_rng y6655; omega) (by have := i_rng y6655; omega)
        refine q_iinc (lv9 := fun z6657 => [(3, .int z6657), (0, .ref (ad 129)), (1, .int p), (2, .int k)]) hM dX12_changes_25 hl (kq := 3) rfl (by decide) (fun _ => rfl) (fun z6657 ls hz6657 hl => ?_)
        first | have tz6657 := i_addT hz6657 (rfl : w2_3.toInt = w2_3.toInt) (kc_1 : (Int32.ofInt 1).toInt = 1) (by omega) (by omega) | skip
        refine q_goto (tgt := 2) hM dX12_changes_28 (by decide) ?_
        exact ih2 z6657 _ _ _ _ (by omega) hG (by omega) (by omega) (lv_sub hl [1, 2, 3, 0] rfl) hW
  have := kc_0
  exact L2 _ (0 : Int32) _ _ _ _ (Nat.lt_succ_self _) hG (by omega) (by omega) (lv_sub hl [1, 2, 3, 0] rfl) hW

theorem dX12_recalledBy_0 : decode cX12_recalledBy 0 = .ok (.aload_n 0, 1) := by decide +kernel
theorem dX12_recalledBy_1 : decode cX12_recalledBy 1 = .ok (.iload_n 1, 1) := by decide +kernel
theorem dX12_recalledBy_2 : decode cX12_recalledBy 2 = .ok (.invokevirtual 530, 3) := by decide +kernel
theorem dX12_recalledBy_5 : decode cX12_recalledBy 5 = .ok (.aload_n 0, 1) := by decide +kernel
theorem dX12_recalledBy_6 : decode cX12_recalledBy 6 = .ok (.getfield 109, 3) := by decide +kernel
theorem dX12_recalledBy_9 : decode cX12_recalledBy 9 = .ok (.bipush 12, 2) := by decide +kernel
theorem dX12_recalledBy_11 : decode cX12_recalledBy 11 = .ok (.iload_n 1, 1) := by decide +kernel
theorem dX12_recalledBy_12 : decode cX12_recalledBy 12 = .ok (.imul, 1) := by decide +kernel
theorem dX12_recalledBy_13 : decode cX12_recalledBy 13 = .ok (.iload_n 2, 1) := by decide +kernel
theorem dX12_recalledBy_14 : decode cX12_recalledBy 14 = .ok (.iadd, 1) := by decide +kernel
theorem dX12_recalledBy_15 : decode cX12_recalledBy 15 = .ok (.bipush 99, 2) := by decide +kernel
theorem dX12_recalledBy_17 : decode cX12_recalledBy 17 = .ok (.iastore, 1) := by decide +kernel
theorem dX12_recalledBy_18 : decode cX12_recalledBy 18 = .ok (.aload_n 0, 1) := by decide +kernel
theorem dX12_recalledBy_19 : decode cX12_recalledBy 19 = .ok (.iload_n 1, 1) := by decide +kernel
theorem dX12_recalledBy_20 : decode cX12_recalledBy 20 = .ok (.invokevirtual 483, 3) := by decide +kernel
theorem dX12_recalledBy_23 : decode cX12_recalledBy 23 = .ok (.istore_n 3, 1) := by decide +kernel
theorem dX12_recalledBy_24 : decode cX12_recalledBy 24 = .ok (.aload_n 0, 1) := by decide +kernel
theorem dX12_recalledBy_25 : decode cX12_recalledBy 25 = .ok (.iload_n 1, 1) := by decide +kernel
theorem dX12_recalledBy_26 : decode cX12_recalledBy 26 = .ok (.invokevirtual 527, 3) := by decide +kernel
theorem dX12_recalledBy_29 : decode cX12_recalledBy 29 = .ok (.iload_n 3, 1) := by decide +kernel
theorem dX12_recalledBy_30 : decode cX12_recalledBy 30 = .ok (.ireturn, 1) := by decide +kernel
theorem myX12_keepsOwn : MI yX12_keepsOwn cX12_keepsOwn 3 none 1 := ⟨kAW (v_6_13 (List.mem_of_getElem? (i := 14) rfl)) rfl, kAW (v_0_0 (List.mem_of_getElem? (i := 13) rfl)) rfl, kAW (v_6_13 (List.mem_of_getElem? (i := 13) rfl)) rfl, kAW (tp_t5 (List.mem_of_getElem? (i := 14) rfl)) rfl, by decide, by decide, by decide +kernel⟩
theorem myX12_givesBack : MI yX12_givesBack cX12_givesBack 3 none 1 := ⟨kAW (v_6_14 (List.mem_of_getElem? (i := 13) rfl)) rfl, kAW (v_0_0 (List.mem_of_getElem? (i := 13) rfl)) rfl, kAW (v_6_14 (List.mem_of_getElem? (i := 12) rfl)) rfl, kAW (tp_t6 (List.mem_of_getElem? (i := 1) rfl)) rfl, by decide, by decide, by decide +kernel⟩
set_option maxRecDepth 100000 in
set_option maxHeartbeats 4000000 in
theorem a_X12_recalledBy (l : Launch) (D : va_G) (cA : Nat → ClassId) (ad : Nat → Nat) (g0 : Nat → va_E) (p : Int32) (i : Int32)   (hSh : Shp ad cA g0) (hG : Rng g0) (p0 : 0 ≤ p.toInt) (p7 : p.toInt < 8) (i0 : 0 ≤ i.toInt) (i12 : i.toInt < 12) (hL : LawOK g0) : CT l NN ad cA D yX12_recalledBy cX12_recalledBy 4 (some FieldType.int) (6, 138) [.ref (ad 129), .int p, .int i] g0 (fun v g' => ∃ (r : Int32), v = some (.int r) ∧ Shp ad cA g' ∧ Rng g' ∧ FR (fun i k => i = 161 ∨ i = 156 ∨ i = 157 ∨ (i = 129 ∧ (k = 42 ∨ k = 43 ∨ k = 44 ∨ k = 45 ∨ k = 46 ∨ k = 47 ∨ k = 48 ∨ k = 49)) ∨ i = 170) g0 g') := by
  refine q_enterI (by decide) (Nat.le_of_ble_eq_true rfl) rfl (fun K H locs ls _ _ hM hW0 hR hC hE hl => ?_)
  have hl : lv_has ls 4 [(0, .ref (ad 129)), (1, .int p), (2, .int i)] := hl
  have hW : WS ad cA (fun i k => i = 161 ∨ i = 156 ∨ i = 157 ∨ (i = 129 ∧ (k = 42 ∨ k = 43 ∨ k = 44 ∨ k = 45 ∨ k = 46 ∨ k = 47 ∨ k = 48 ∨ k = 49)) ∨ i = 170) g0 K g0 H locs := ⟨hW0, hSh, FR.rf⟩
  refine q_aload_n hM dX12_recalledBy_0 (lv_at hl 0 rfl) ?_
  refine q_iload_n hM dX12_recalledBy_1 (lv_at hl 1 rfl) ?_
  refine q_callV (As := [.int p]) (rest := []) hM hW.1 hR hC myX12_keepsOwn (kAW (v_6_13 (List.mem_of_getElem? (i := 11) rfl)) rfl) (rfl : vwCl[12]? = some (RX12, TX12, 86)) rfl lb_129.1 (shO hW.2.1 lb_129) (a_X12_keepsOwn _ _ cA ad g0 p hW.2.1 hG (by  omega) (by  omega)) ⟨by decide, by decide⟩ rfl rfl hl.1 (Nat.le_of_ble_eq_true rfl) dX12_recalledBy_2 (fun v g6658 H locs hp hW1 => ?_)
  obtain ⟨rfl, hs1, hG, hf1⟩ := hp
  have hW : WS ad cA (fun i k => i = 161 ∨ i = 156 ∨ i = 157 ∨ (i = 129 ∧ (k = 42 ∨ k = 43 ∨ k = 44 ∨ k = 45 ∨ k = 46 ∨ k = 47 ∨ k = 48 ∨ k = 49)) ∨ i = 170) g0 K g6658 H locs := ⟨hW1, hs1, hW.2.2.tr hf1 (fun i k h => (Or.inr (Or.inr (Or.inr (Or.inr h)))))⟩
  refine q_aload_n hM dX12_recalledBy_5 (lv_at hl 0 rfl) ?_
  refine w_get (v := .ref (ad 161)) hM hW FG_X12_109 lb_129 (rf_129_55 hW.2.1) dX12_recalledBy_6 ?_
  refine q_bipush (v := (12 : Int32)) hM dX12_recalledBy_9 (by decide) ?_
  refine q_iload_n hM dX12_recalledBy_11 (lv_at hl 1 rfl) ?_
  refine q_imul hM dX12_recalledBy_12 (fun z6659 hz6659 => ?_)
  first | have tz6659 := i_mulT hz6659 (kc_12 : (12 : Int32).toInt = 12) (rfl : p.toInt = p.toInt) (by omega) (by omega) | skip
  refine q_iload_n hM dX12_recalledBy_13 (lv_at hl 2 rfl) ?_
  refine q_iadd hM dX12_recalledBy_14 (fun z6660 hz6660 => ?_)
  first | have tz6660 := i_addT hz6660 (rfl : z6659.toInt = z6659.toInt) (rfl : i.toInt = i.toInt) (by omega) (by omega) | skip
  refine q_bipush (v := (99 : Int32)) hM dX12_recalledBy_15 (by decide) ?_
  refine w_iast hM hW lb_161 (by omega) (i_in (by omega) (by omega)) dX12_recalledBy_17 (fun g6661 H locs hW e1 e2 => ?_)
  have hG := hG.st e1 e2 (rfl : rA 161 = (-2147483648, 2147483647)) (by have := kc_99; have := i_rng (99 : Int32); omega) (by have := kc_99; have := i_rng (99 : Int32); omega)
  refine q_aload_n hM dX12_recalledBy_18 (lv_at hl 0 rfl) ?_
  refine q_iload_n hM dX12_recalledBy_19 (lv_at hl 1 rfl) ?_
  refine q_callV (As := [.int p]) (rest := []) hM hW.1 hR hC myX12_recallsAll (kAW (v_6_8 (List.mem_of_getElem? (i := 9) rfl)) rfl) (rfl : vwCl[12]? = some (RX12, TX12, 86)) rfl lb_129.1 (shO hW.2.1 lb_129) (a_X12_recallsAll _ _ cA ad g6661 p hW.2.1 hG (by  omega) (by  omega) (LawOK_fr hL hW.2.2 (by omega) (by omega) (by omega) (by omega) (by omega))) ⟨by decide, by decide⟩ rfl rfl hl.1 (Nat.le_of_ble_eq_true rfl) dX12_recalledBy_20 (fun v g6663 H locs hp hW1 => ?_)
  obtain ⟨r6662, rfl, hs1, hG, hf1⟩ := hp
  have hW : WS ad cA (fun i k => i = 161 ∨ i = 156 ∨ i = 157 ∨ (i = 129 ∧ (k = 42 ∨ k = 43 ∨ k = 44 ∨ k = 45 ∨ k = 46 ∨ k = 47 ∨ k = 48 ∨ k = 49)) ∨ i = 170) g0 K g6663 H locs := ⟨hW1, hs1, hW.2.2.tr hf1 (fun i k h => h.elim (fun h => (Or.inl h)) (fun h => h.elim (fun h => (Or.inr (Or.inl h))) (fun h => h.elim (fun h => (Or.inr (Or.inr (Or.inl h)))) (fun h => (Or.inr (Or.inr (Or.inr (Or.inl h))))))))⟩
  refine q_istore_n (lv9 := [(3, .int r6662), (0, .ref (ad 129)), (1, .int p), (2, .int i)]) hM dX12_recalledBy_23 hl (by decide) rfl (fun ls hl => ?_)
  refine q_aload_n hM dX12_recalledBy_24 (lv_at hl 1 rfl) ?_
  refine q_iload_n hM dX12_recalledBy_25 (lv_at hl 2 rfl) ?_
  refine q_callV (As := [.int p]) (rest := []) hM hW.1 hR hC myX12_givesBack (kAW (v_6_14 (List.mem_of_getElem? (i := 10) rfl)) rfl) (rfl : vwCl[12]? = some (RX12, TX12, 86)) rfl lb_129.1 (shO hW.2.1 lb_129) (a_X12_givesBack _ _ cA ad g6663 p hW.2.1 hG (by  omega) (by  omega)) ⟨by decide, by decide⟩ rfl rfl hl.1 (Nat.le_of_ble_eq_true rfl) dX12_recalledBy_26 (fun v g6664 H locs hp hW1 => ?_)
  obtain ⟨rfl, hs1, hG, hf1⟩ := hp
  have hW : WS ad cA (fun i k => i = 161 ∨ i = 156 ∨ i = 157 ∨ (i = 129 ∧ (k = 42 ∨ k = 43 ∨ k = 44 ∨ k = 45 ∨ k = 46 ∨ k = 47 ∨ k = 48 ∨ k = 49)) ∨ i = 170) g0 K g6664 H locs := ⟨hW1, hs1, hW.2.2.tr hf1 (fun i k h => (Or.inl h))⟩
  refine q_iload_n hM dX12_recalledBy_29 (lv_at hl 0 rfl) ?_
  exact hE _ _ _ _ _ _ hW.1 ⟨_, rfl, hW.2.1, hG, hW.2.2⟩ dX12_recalledBy_30

theorem dX12_triedBy_0 : decode cX12_triedBy 0 = .ok (.iload_n 2, 1) := by decide +kernel
theorem dX12_triedBy_1 : decode cX12_triedBy 1 = .ok (.i2l, 1) := by decide +kernel
theorem dX12_triedBy_2 : decode cX12_triedBy 2 = .ok (.lconst 1, 1) := by decide +kernel
theorem dX12_triedBy_3 : decode cX12_triedBy 3 = .ok (.ldc2_w 268, 3) := by decide +kernel
theorem dX12_triedBy_6 : decode cX12_triedBy 6 = .ok (.invokestatic 190, 3) := by decide +kernel
theorem dX12_triedBy_9 : decode cX12_triedBy 9 = .ok (.ifCond .eq 48, 3) := by decide +kernel
theorem dX12_triedBy_12 : decode cX12_triedBy 12 = .ok (.iload_n 3, 1) := by decide +kernel
theorem dX12_triedBy_13 : decode cX12_triedBy 13 = .ok (.i2l, 1) := by decide +kernel
theorem dX12_triedBy_14 : decode cX12_triedBy 14 = .ok (.lconst 0, 1) := by decide +kernel
theorem dX12_triedBy_15 : decode cX12_triedBy 15 = .ok (.ldc2_w 507, 3) := by decide +kernel
theorem dX12_triedBy_18 : decode cX12_triedBy 18 = .ok (.invokestatic 190, 3) := by decide +kernel
theorem dX12_triedBy_21 : decode cX12_triedBy 21 = .ok (.ifCond .ne 38, 3) := by decide +kernel
theorem dX12_triedBy_24 : decode cX12_triedBy 24 = .ok (.aload_n 0, 1) := by decide +kernel
theorem dX12_triedBy_25 : decode cX12_triedBy 25 = .ok (.iload_n 3, 1) := by decide +kernel
theorem dX12_triedBy_26 : decode cX12_triedBy 26 = .ok (.bipush 10, 2) := by decide +kernel
theorem dX12_triedBy_28 : decode cX12_triedBy 28 = .ok (.isub, 1) := by decide +kernel
theorem dX12_triedBy_29 : decode cX12_triedBy 29 = .ok (.invokevirtual 421, 3) := by decide +kernel
theorem dX12_triedBy_32 : decode cX12_triedBy 32 = .ok (.ifCond .ne 27, 3) := by decide +kernel
theorem dX12_triedBy_35 : decode cX12_triedBy 35 = .ok (.aload_n 0, 1) := by decide +kernel
theorem dX12_triedBy_36 : decode cX12_triedBy 36 = .ok (.iload_n 3, 1) := by decide +kernel
theorem dX12_triedBy_37 : decode cX12_triedBy 37 = .ok (.bipush 20, 2) := by decide +kernel
theorem dX12_triedBy_39 : decode cX12_triedBy 39 = .ok (.isub, 1) := by decide +kernel
theorem dX12_triedBy_40 : decode cX12_triedBy 40 = .ok (.invokevirtual 421, 3) := by decide +kernel
theorem dX12_triedBy_43 : decode cX12_triedBy 43 = .ok (.ifCond .ne 16, 3) := by decide +kernel
theorem dX12_triedBy_46 : decode cX12_triedBy 46 = .ok (.aload_n 0, 1) := by decide +kernel
theorem dX12_triedBy_47 : decode cX12_triedBy 47 = .ok (.iload_n 3, 1) := by decide +kernel
theorem dX12_triedBy_48 : decode cX12_triedBy 48 = .ok (.bipush 30, 2) := by decide +kernel
theorem dX12_triedBy_50 : decode cX12_triedBy 50 = .ok (.isub, 1) := by decide +kernel
theorem dX12_triedBy_51 : decode cX12_triedBy 51 = .ok (.invokevirtual 198, 3) := by decide +kernel
theorem dX12_triedBy_54 : decode cX12_triedBy 54 = .ok (.ifCond .ne 5, 3) := by decide +kernel
theorem dX12_triedBy_57 : decode cX12_triedBy 57 = .ok (.iconst (-1), 1) := by decide +kernel
theorem dX12_triedBy_58 : decode cX12_triedBy 58 = .ok (.ireturn, 1) := by decide +kernel
theorem dX12_triedBy_59 : decode cX12_triedBy 59 = .ok (.aload_n 0, 1) := by decide +kernel
theorem dX12_triedBy_60 : decode cX12_triedBy 60 = .ok (.iconst 0, 1) := by decide +kernel
theorem dX12_triedBy_61 : decode cX12_triedBy 61 = .ok (.invokevirtual 509, 3) := by decide +kernel
theorem dX12_triedBy_64 : decode cX12_triedBy 64 = .ok (.aload_n 0, 1) := by decide +kernel
theorem dX12_triedBy_65 : decode cX12_triedBy 65 = .ok (.iload_n 1, 1) := by decide +kernel
theorem dX12_triedBy_66 : decode cX12_triedBy 66 = .ok (.putfield 402, 3) := by decide +kernel
theorem dX12_triedBy_69 : decode cX12_triedBy 69 = .ok (.aload_n 0, 1) := by decide +kernel
theorem dX12_triedBy_70 : decode cX12_triedBy 70 = .ok (.iload_n 2, 1) := by decide +kernel
theorem dX12_triedBy_71 : decode cX12_triedBy 71 = .ok (.iconst (-1), 1) := by decide +kernel
theorem dX12_triedBy_72 : decode cX12_triedBy 72 = .ok (.invokevirtual 504, 3) := by decide +kernel
theorem dX12_triedBy_75 : decode cX12_triedBy 75 = .ok (.aload_n 0, 1) := by decide +kernel
theorem dX12_triedBy_76 : decode cX12_triedBy 76 = .ok (.iconst 0, 1) := by decide +kernel
theorem dX12_triedBy_77 : decode cX12_triedBy 77 = .ok (.putfield 402, 3) := by decide +kernel
theorem dX12_triedBy_80 : decode cX12_triedBy 80 = .ok (.iload_n 3, 1) := by decide +kernel
theorem dX12_triedBy_81 : decode cX12_triedBy 81 = .ok (.tableswitch 67 0 3 #[31, 40, 49, 58], 31) := by decide +kernel
theorem dX12_triedBy_112 : decode cX12_triedBy 112 = .ok (.aload_n 0, 1) := by decide +kernel
theorem dX12_triedBy_113 : decode cX12_triedBy 113 = .ok (.getfield 474, 3) := by decide +kernel
theorem dX12_triedBy_116 : decode cX12_triedBy 116 = .ok (.istore 4, 2) := by decide +kernel
theorem dX12_triedBy_118 : decode cX12_triedBy 118 = .ok (.goto 78, 3) := by decide +kernel
theorem dX12_triedBy_121 : decode cX12_triedBy 121 = .ok (.aload_n 0, 1) := by decide +kernel
theorem dX12_triedBy_122 : decode cX12_triedBy 122 = .ok (.getfield 477, 3) := by decide +kernel
theorem dX12_triedBy_125 : decode cX12_triedBy 125 = .ok (.istore 4, 2) := by decide +kernel
theorem dX12_triedBy_127 : decode cX12_triedBy 127 = .ok (.goto 69, 3) := by decide +kernel
theorem dX12_triedBy_130 : decode cX12_triedBy 130 = .ok (.aload_n 0, 1) := by decide +kernel
theorem dX12_triedBy_131 : decode cX12_triedBy 131 = .ok (.getfield 489, 3) := by decide +kernel
theorem dX12_triedBy_134 : decode cX12_triedBy 134 = .ok (.istore 4, 2) := by decide +kernel
theorem dX12_triedBy_136 : decode cX12_triedBy 136 = .ok (.goto 60, 3) := by decide +kernel
theorem dX12_triedBy_139 : decode cX12_triedBy 139 = .ok (.aload_n 0, 1) := by decide +kernel
theorem dX12_triedBy_140 : decode cX12_triedBy 140 = .ok (.getfield 468, 3) := by decide +kernel
theorem dX12_triedBy_143 : decode cX12_triedBy 143 = .ok (.istore 4, 2) := by decide +kernel
theorem dX12_triedBy_145 : decode cX12_triedBy 145 = .ok (.goto 51, 3) := by decide +kernel
theorem dX12_triedBy_148 : decode cX12_triedBy 148 = .ok (.iload_n 3, 1) := by decide +kernel
theorem dX12_triedBy_149 : decode cX12_triedBy 149 = .ok (.bipush 20, 2) := by decide +kernel
theorem dX12_triedBy_151 : decode cX12_triedBy 151 = .ok (.if_icmp .ge 17, 3) := by decide +kernel
theorem dX12_triedBy_154 : decode cX12_triedBy 154 = .ok (.aload_n 0, 1) := by decide +kernel
theorem dX12_triedBy_155 : decode cX12_triedBy 155 = .ok (.iload_n 3, 1) := by decide +kernel
theorem dX12_triedBy_156 : decode cX12_triedBy 156 = .ok (.bipush 10, 2) := by decide +kernel
theorem dX12_triedBy_158 : decode cX12_triedBy 158 = .ok (.isub, 1) := by decide +kernel
theorem dX12_triedBy_159 : decode cX12_triedBy 159 = .ok (.invokevirtual 413, 3) := by decide +kernel
theorem dX12_triedBy_162 : decode cX12_triedBy 162 = .ok (.invokestatic 215, 3) := by decide +kernel
theorem dX12_triedBy_165 : decode cX12_triedBy 165 = .ok (.goto 29, 3) := by decide +kernel
theorem dX12_triedBy_168 : decode cX12_triedBy 168 = .ok (.iload_n 3, 1) := by decide +kernel
theorem dX12_triedBy_169 : decode cX12_triedBy 169 = .ok (.bipush 30, 2) := by decide +kernel
theorem dX12_triedBy_171 : decode cX12_triedBy 171 = .ok (.if_icmp .ge 15, 3) := by decide +kernel
theorem dX12_triedBy_174 : decode cX12_triedBy 174 = .ok (.aload_n 0, 1) := by decide +kernel
theorem dX12_triedBy_175 : decode cX12_triedBy 175 = .ok (.getfield 103, 3) := by decide +kernel
theorem dX12_triedBy_178 : decode cX12_triedBy 178 = .ok (.iload_n 3, 1) := by decide +kernel
theorem dX12_triedBy_179 : decode cX12_triedBy 179 = .ok (.bipush 20, 2) := by decide +kernel
theorem dX12_triedBy_181 : decode cX12_triedBy 181 = .ok (.isub, 1) := by decide +kernel
theorem dX12_triedBy_182 : decode cX12_triedBy 182 = .ok (.iaload, 1) := by decide +kernel
theorem dX12_triedBy_183 : decode cX12_triedBy 183 = .ok (.goto 11, 3) := by decide +kernel
theorem dX12_triedBy_186 : decode cX12_triedBy 186 = .ok (.aload_n 0, 1) := by decide +kernel
theorem dX12_triedBy_187 : decode cX12_triedBy 187 = .ok (.iload_n 3, 1) := by decide +kernel
theorem dX12_triedBy_188 : decode cX12_triedBy 188 = .ok (.bipush 30, 2) := by decide +kernel
theorem dX12_triedBy_190 : decode cX12_triedBy 190 = .ok (.isub, 1) := by decide +kernel
theorem dX12_triedBy_191 : decode cX12_triedBy 191 = .ok (.invokevirtual 512, 3) := by decide +kernel
theorem dX12_triedBy_194 : decode cX12_triedBy 194 = .ok (.istore 4, 2) := by decide +kernel
theorem dX12_triedBy_196 : decode cX12_triedBy 196 = .ok (.aload_n 0, 1) := by decide +kernel
theorem dX12_triedBy_197 : decode cX12_triedBy 197 = .ok (.iconst 0, 1) := by decide +kernel
theorem dX12_triedBy_198 : decode cX12_triedBy 198 = .ok (.invokevirtual 515, 3) := by decide +kernel
theorem dX12_triedBy_201 : decode cX12_triedBy 201 = .ok (.iload 4, 2) := by decide +kernel
theorem dX12_triedBy_203 : decode cX12_triedBy 203 = .ok (.ireturn, 1) := by decide +kernel
theorem myX12_laysAside : MI yX12_laysAside cX12_laysAside 3 none 1 := ⟨kAW (v_6_10 (List.mem_of_getElem? (i := 5) rfl)) rfl, kAW (v_0_0 (List.mem_of_getElem? (i := 13) rfl)) rfl, kAW (v_6_10 (List.mem_of_getElem? (i := 4) rfl)) rfl, kAW (tp_t5 (List.mem_of_getElem? (i := 5) rfl)) rfl, by decide, by decide, by decide +kernel⟩
theorem FP_X12_402 : FPX RX12 402 12 86 31 .int := ⟨⟨RX12, TX12, tyX12, rfl, wX12, by decide, kAW (v_4_4 (List.mem_of_getElem? (i := 12) rfl)) rfl, rfl, tyX12_ok, nmX12, by decide +kernel, rfl⟩, by decide +kernel⟩
theorem myX12_go : MI yX12_go cX12_go 6 none 2 := ⟨kAW (v_6_8 (List.mem_of_getElem? (i := 0) rfl)) rfl, kAW (v_0_0 (List.mem_of_getElem? (i := 13) rfl)) rfl, kAW (v_6_7 (List.mem_of_getElem? (i := 15) rfl)) rfl, kAW (tp_t4 (List.mem_of_getElem? (i := 14) rfl)) rfl, by decide, by decide, by decide +kernel⟩
theorem myX12_whoKnows : MI yX12_whoKnows cX12_whoKnows 4 (some FieldType.int) 1 := ⟨kAW (v_6_10 (List.mem_of_getElem? (i := 9) rfl)) rfl, kAW (v_0_0 (List.mem_of_getElem? (i := 13) rfl)) rfl, kAW (v_6_10 (List.mem_of_getElem? (i := 8) rfl)) rfl, kAW (tp_t5 (List.mem_of_getElem? (i := 6) rfl)) rfl, by decide, by decide, by decide +kernel⟩
theorem myX12_bringsBack : MI yX12_bringsBack cX12_bringsBack 3 none 1 := ⟨kAW (v_6_10 (List.mem_of_getElem? (i := 13) rfl)) rfl, kAW (v_0_0 (List.mem_of_getElem? (i := 13) rfl)) rfl, kAW (v_6_10 (List.mem_of_getElem? (i := 12) rfl)) rfl, kAW (tp_t5 (List.mem_of_getElem? (i := 7) rfl)) rfl, by decide, by decide, by decide +kernel⟩
theorem myX12_isThat : MI yX12_isThat cX12_isThat 2 (some FieldType.boolean) 1 := ⟨kAW (v_6_2 (List.mem_of_getElem? (i := 12) rfl)) rfl, kAW (v_0_0 (List.mem_of_getElem? (i := 13) rfl)) rfl, kAW (v_6_2 (List.mem_of_getElem? (i := 11) rfl)) rfl, kAW (tp_t3 (List.mem_of_getElem? (i := 15) rfl)) rfl, by decide, by decide, by decide +kernel⟩
theorem myX12_isTold : MI yX12_isTold cX12_isTold 2 (some FieldType.boolean) 1 := ⟨kAW (v_5_5 (List.mem_of_getElem? (i := 9) rfl)) rfl, kAW (v_0_0 (List.mem_of_getElem? (i := 13) rfl)) rfl, kAW (v_5_5 (List.mem_of_getElem? (i := 8) rfl)) rfl, kAW (tp_t2 (List.mem_of_getElem? (i := 1) rfl)) rfl, by decide, by decide, by decide +kernel⟩
set_option maxRecDepth 100000 in
set_option maxHeartbeats 4000000 in
theorem a_X12_triedBy (l : Launch) (D : va_G) (cA : Nat → ClassId) (ad : Nat → Nat) (g0 : Nat → va_E) (wh : Int32) (n : Int32) (what : Int32)   (hSh : Shp ad cA g0) (hG : Rng g0) (wh0 : 0 ≤ wh.toInt) (wh1 : wh.toInt ≤ 1) (hL : LawOK g0) : CT l NN ad cA D yX12_triedBy cX12_triedBy 5 (some FieldType.int) (10, 232) [.ref (ad 129), .int wh, .int n, .int what] g0 (fun v g' => ∃ (r : Int32), v = some (.int r) ∧ Shp ad cA g' ∧ Rng g' ∧ FR (fun i k => i = 161 ∨ i = 156 ∨ i = 157 ∨ (i = 129 ∧ (k = 42 ∨ k = 43 ∨ k = 44 ∨ k = 45 ∨ k = 46 ∨ k = 47 ∨ k = 48 ∨ k = 49)) ∨ (i = 129 ∧ (k = 2 ∨ k = 57 ∨ k = 58 ∨ k = 61 ∨ k = 62 ∨ k = 63 ∨ k = 64)) ∨ i = 159 ∨ (i = 129 ∧ (k = 56 ∨ k = 65 ∨ k = 66)) ∨ (162 ≤ i ∧ i < 170) ∨ (158 ≤ i ∧ i < 162) ∨ (i = 129 ∧ (k = 31))) g0 g') := by
  refine q_enterI (by decide) (Nat.le_of_ble_eq_true rfl) rfl (fun K H locs ls _ _ hM hW0 hR hC hE hl => ?_)
  have hl : lv_has ls 5 [(0, .ref (ad 129)), (1, .int wh), (2, .int n), (3, .int what)] := hl
  have hW : WS ad cA (fun i k => i = 161 ∨ i = 156 ∨ i = 157 ∨ (i = 129 ∧ (k = 42 ∨ k = 43 ∨ k = 44 ∨ k = 45 ∨ k = 46 ∨ k = 47 ∨ k = 48 ∨ k = 49)) ∨ (i = 129 ∧ (k = 2 ∨ k = 57 ∨ k = 58 ∨ k = 61 ∨ k = 62 ∨ k = 63 ∨ k = 64)) ∨ i = 159 ∨ (i = 129 ∧ (k = 56 ∨ k = 65 ∨ k = 66)) ∨ (162 ≤ i ∧ i < 170) ∨ (158 ≤ i ∧ i < 162) ∨ (i = 129 ∧ (k = 31))) g0 K g0 H locs := ⟨hW0, hSh, FR.rf⟩
  refine q_iload_n hM dX12_triedBy_0 (lv_at hl 2 rfl) ?_
  refine q_i2l hM dX12_triedBy_1 ?_
  have := l_i2l n
  refine q_lconst (v := 1) hM dX12_triedBy_2 (by decide) ?_
  have := kl_1
  refine q_ldc2 (v := 60) hM (kAW (v_5_8 (List.mem_of_getElem? (i := 6) rfl)) rfl) dX12_triedBy_3 ?_
  have := kl_60
  refine q_callS (As := [.long n.toInt64, .long (1 : Int64), .long (60 : Int64)]) (rest := []) hM hW.1 hR hC myX12_lies (kAW (v_5_4 (List.mem_of_getElem? (i := 14) rfl)) rfl) (c_X12_lies _ _ cA ad g0 n.toInt64 (1 : Int64) (60 : Int64) hW.2.1) ⟨by decide, by decide⟩ rfl rfl hl.1 (Nat.le_of_ble_eq_true rfl) dX12_triedBy_6 (fun v g6666 H locs hp hW1 => ?_)
  obtain ⟨r6665, rfl, hr6665, rfl⟩ := hp
  have hW : WS ad cA (fun i k => i = 161 ∨ i = 156 ∨ i = 157 ∨ (i = 129 ∧ (k = 42 ∨ k = 43 ∨ k = 44 ∨ k = 45 ∨ k = 46 ∨ k = 47 ∨ k = 48 ∨ k = 49)) ∨ (i = 129 ∧ (k = 2 ∨ k = 57 ∨ k = 58 ∨ k = 61 ∨ k = 62 ∨ k = 63 ∨ k = 64)) ∨ i = 159 ∨ (i = 129 ∧ (k = 56 ∨ k = 65 ∨ k = 66)) ∨ (162 ≤ i ∧ i < 170) ∨ (158 ≤ i ∧ i < 162) ∨ (i = 129 ∧ (k = 31))) g0 K g0 H locs := ⟨hW1, hW.2.1, hW.2.2⟩
  refine q_if_eq (tgt := 57) hM dX12_triedBy_9 (by decide) (rfl : r6665.toInt = r6665.toInt) (fun h9 => ?_) (fun h9 => ?_)
  · refine q_iconst (v := ((-1) : Int32)) hM dX12_triedBy_57 (by decide) ?_
    exact hE _ _ _ _ _ _ hW.1 ⟨_, rfl, hW.2.1, hG, hW.2.2⟩ dX12_triedBy_58
  · refine q_iload_n hM dX12_triedBy_12 (lv_at hl 3 rfl) ?_
    refine q_i2l hM dX12_triedBy_13 ?_
    have := l_i2l what
    refine q_lconst (v := 0) hM dX12_triedBy_14 (by decide) ?_
    have := kl_0
    refine q_ldc2 (v := 3) hM (kAW (v_6_10 (List.mem_of_getElem? (i := 1) rfl)) rfl) dX12_triedBy_15 ?_
    have := kl_3
    refine q_callS (As := [.long what.toInt64, .long (0 : Int64), .long (3 : Int64)]) (rest := []) hM hW.1 hR hC myX12_lies (kAW (v_5_4 (List.mem_of_getElem? (i := 14) rfl)) rfl) (c_X12_lies _ _ cA ad g0 what.toInt64 (0 : Int64) (3 : Int64) hW.2.1) ⟨by decide, by decide⟩ rfl rfl hl.1 (Nat.le_of_ble_eq_true rfl) dX12_triedBy_18 (fun v g6670 H locs hp hW1 => ?_)
    obtain ⟨r6669, rfl, hr6669, rfl⟩ := hp
    have hW : WS ad cA (fun i k => i = 161 ∨ i = 156 ∨ i = 157 ∨ (i = 129 ∧ (k = 42 ∨ k = 43 ∨ k = 44 ∨ k = 45 ∨ k = 46 ∨ k = 47 ∨ k = 48 ∨ k = 49)) ∨ (i = 129 ∧ (k = 2 ∨ k = 57 ∨ k = 58 ∨ k = 61 ∨ k = 62 ∨ k = 63 ∨ k = 64)) ∨ i = 159 ∨ (i = 129 ∧ (k = 56 ∨ k = 65 ∨ k = 66)) ∨ (162 ≤ i ∧ i < 170) ∨ (158 ≤ i ∧ i < 162) ∨ (i = 129 ∧ (k = 31))) g0 K g0 H locs := ⟨hW1, hW.2.1, hW.2.2⟩
    refine q_if_ne (tgt := 59) hM dX12_triedBy_21 (by decide) (rfl : r6669.toInt = r6669.toInt) (fun h21 => ?_) (fun h21 => ?_)
    · refine q_aload_n hM dX12_triedBy_59 (lv_at hl 0 rfl) ?_
      refine q_iconst (v := (0 : Int32)) hM dX12_triedBy_60 (by decide) ?_
      refine q_callV (As := [.int (0 : Int32)]) (rest := []) hM hW.1 hR hC myX12_laysAside (kAW (v_6_10 (List.mem_of_getElem? (i := 2) rfl)) rfl) (rfl : vwCl[12]? = some (RX12, TX12, 86)) rfl lb_129.1 (shO hW.2.1 lb_129) (a_X12_laysAside _ _ cA ad g0 (0 : Int32) hW.2.1 hG (by have := kc_0; omega) (by have := kc_0; omega)) ⟨by decide, by decide⟩ rfl rfl hl.1 (Nat.le_of_ble_eq_true rfl) dX12_triedBy_61 (fun v g6672 H locs hp hW1 => ?_)
      obtain ⟨rfl, hs1, hG, hf1⟩ := hp
      have hW : WS ad cA (fun i k => i = 161 ∨ i = 156 ∨ i = 157 ∨ (i = 129 ∧ (k = 42 ∨ k = 43 ∨ k = 44 ∨ k = 45 ∨ k = 46 ∨ k = 47 ∨ k = 48 ∨ k = 49)) ∨ (i = 129 ∧ (k = 2 ∨ k = 57 ∨ k = 58 ∨ k = 61 ∨ k = 62 ∨ k = 63 ∨ k = 64)) ∨ i = 159 ∨ (i = 129 ∧ (k = 56 ∨ k = 65 ∨ k = 66)) ∨ (162 ≤ i ∧ i < 170) ∨ (158 ≤ i ∧ i < 162) ∨ (i = 129 ∧ (k = 31))) g0 K g6672 H locs := ⟨hW1, hs1, hW.2.2.tr hf1 (fun i k h => (Or.inr (Or.inr (Or.inr (Or.inr (Or.inr (Or.inr (Or.inr (Or.inl h)))))))))⟩
      refine q_aload_n hM dX12_triedBy_64 (lv_at hl 0 rfl) ?_
      refine q_iload_n hM dX12_triedBy_65 (lv_at hl 1 rfl) ?_
      refine w_put hM hW FP_X12_402 lb_129 (by omega) (Or.inl ⟨_, rfl⟩) rfl rfl dX12_triedBy_66 (fun g6673 H locs hW e1 e2 => ?_)
      have f6674 : fld g6673 129 31 = .int wh := e1
      have hG := hG.put e1 e2 rF_129_31 (by decide) (by have := i_rng wh; omega) (by have := i_rng wh; omega)
      refine q_aload_n hM dX12_triedBy_69 (lv_at hl 0 rfl) ?_
      refine q_iload_n hM dX12_triedBy_70 (lv_at hl 2 rfl) ?_
      refine q_iconst (v := ((-1) : Int32)) hM dX12_triedBy_71 (by decide) ?_
      refine q_callV (As := [.int n, .int ((-1) : Int32)]) (rest := []) hM hW.1 hR hC myX12_go (kAW (v_6_7 (List.mem_of_getElem? (i := 13) rfl)) rfl) (rfl : vwCl[12]? = some (RX12, TX12, 86)) rfl lb_129.1 (shO hW.2.1 lb_129) (a_X12_go_m _ _ cA ad g6673 n hW.2.1 hG (by have := kc_m1; omega) (LawOK_fr hL hW.2.2 (by omega) (by omega) (by omega) (by omega) (by omega))) ⟨by decide, by decide⟩ rfl rfl hl.1 (Nat.le_of_ble_eq_true rfl) dX12_triedBy_72 (fun v g6675 H locs hp hW1 => ?_)
      obtain ⟨rfl, hs1, hG, hf1⟩ := hp
      have f6676 : fld g6675 129 31 = .int wh := (hf1.1 129 31 (by omega)).trans f6674
      have hW : WS ad cA (fun i k => i = 161 ∨ i = 156 ∨ i = 157 ∨ (i = 129 ∧ (k = 42 ∨ k = 43 ∨ k = 44 ∨ k = 45 ∨ k = 46 ∨ k = 47 ∨ k = 48 ∨ k = 49)) ∨ (i = 129 ∧ (k = 2 ∨ k = 57 ∨ k = 58 ∨ k = 61 ∨ k = 62 ∨ k = 63 ∨ k = 64)) ∨ i = 159 ∨ (i = 129 ∧ (k = 56 ∨ k = 65 ∨ k = 66)) ∨ (162 ≤ i ∧ i < 170) ∨ (158 ≤ i ∧ i < 162) ∨ (i = 129 ∧ (k = 31))) g0 K g6675 H locs := ⟨hW1, hs1, hW.2.2.tr hf1 (fun i k h => h.elim (fun h => (Or.inl h)) (fun h => h.elim (fun h => (Or.inr (Or.inl h))) (fun h => h.elim (fun h => (Or.inr (Or.inr (Or.inl h)))) (fun h => h.elim (fun h => (Or.inr (Or.inr (Or.inr (Or.inl h))))) (fun h => h.elim (fun h => (Or.inr (Or.inr (Or.inr (Or.inr (Or.inl h)))))) (fun h => h.elim (fun h => (Or.inr (Or.inr (Or.inr (Or.inr (Or.inr (Or.inl h))))))) (fun h => (Or.inr (Or.inr (Or.inr (Or.inr (Or.inr (Or.inr (Or.inl h))))))))))))))⟩
      refine q_aload_n hM dX12_triedBy_75 (lv_at hl 0 rfl) ?_
      refine q_iconst (v := (0 : Int32)) hM dX12_triedBy_76 (by decide) ?_
      refine w_put hM hW FP_X12_402 lb_129 (by omega) (Or.inl ⟨_, rfl⟩) rfl rfl dX12_triedBy_77 (fun g6677 H locs hW e1 e2 => ?_)
      have f6678 : fld g6677 129 31 = .int (0 : Int32) := e1
      have hG := hG.put e1 e2 rF_129_31 (by decide) (by have := kc_0; have := i_rng (0 : Int32); omega) (by have := kc_0; have := i_rng (0 : Int32); omega)
      refine q_iload_n hM dX12_triedBy_80 (lv_at hl 3 rfl) ?_
      rcases (show what.toInt < 0 ∨ 3 < what.toInt ∨ what.toInt = 0 ∨ what.toInt = 1 ∨ what.toInt = 2 ∨ what.toInt = 3 from by omega) with h81 | h81 | h81 | h81 | h81 | h81
      · refine q_tableOut (tgt := 148) hM dX12_triedBy_81 rfl (by omega) (by decide) ?_
        refine q_iload_n hM dX12_triedBy_148 (lv_at hl 3 rfl) ?_
        refine q_bipush (v := (20 : Int32)) hM dX12_triedBy_149 (by decide) ?_
        refine q_icmp_ge (tgt := 168) hM dX12_triedBy_151 (by decide) (rfl : what.toInt = what.toInt) (kc_20 : (20 : Int32).toInt = 20) (fun h151 => ?_) (fun h151 => ?_)
        · refine q_iload_n hM dX12_triedBy_168 (lv_at hl 3 rfl) ?_
          refine q_bipush (v := (30 : Int32)) hM dX12_triedBy_169 (by decide) ?_
          refine q_icmp_ge (tgt := 186) hM dX12_triedBy_171 (by decide) (rfl : what.toInt = what.toInt) (kc_30 : (30 : Int32).toInt = 30) (fun h171 => ?_) (fun h171 => ?_)
          · refine q_aload_n hM dX12_triedBy_186 (lv_at hl 0 rfl) ?_
            refine q_iload_n hM dX12_triedBy_187 (lv_at hl 3 rfl) ?_
            refine q_bipush (v := (30 : Int32)) hM dX12_triedBy_188 (by decide) ?_
            refine q_isub hM dX12_triedBy_190 (fun z6682 hz6682 => ?_)
            first | have tz6682 := i_subT hz6682 (rfl : what.toInt = what.toInt) (kc_30 : (30 : Int32).toInt = 30) (by omega) (by omega) | skip
            have wz6682 := i_subW hz6682 (rfl : what.toInt = what.toInt) (kc_30 : (30 : Int32).toInt = 30)
            refine q_callV (As := [.int z6682]) (rest := []) hM hW.1 hR hC myX12_whoKnows (kAW (v_6_10 (List.mem_of_getElem? (i := 6) rfl)) rfl) (rfl : vwCl[12]? = some (RX12, TX12, 86)) rfl lb_129.1 (shO hW.2.1 lb_129) (a_X12_whoKnows _ _ cA ad g6677 z6682 hW.2.1 hG (by  omega) (by  omega)) ⟨by decide, by decide⟩ rfl rfl hl.1 (Nat.le_of_ble_eq_true rfl) dX12_triedBy_191 (fun v g6684 H locs hp hW1 => ?_)
            obtain ⟨r6683, rfl, hr6683, rfl⟩ := hp
            have hW : WS ad cA (fun i k => i = 161 ∨ i = 156 ∨ i = 157 ∨ (i = 129 ∧ (k = 42 ∨ k = 43 ∨ k = 44 ∨ k = 45 ∨ k = 46 ∨ k = 47 ∨ k = 48 ∨ k = 49)) ∨ (i = 129 ∧ (k = 2 ∨ k = 57 ∨ k = 58 ∨ k = 61 ∨ k = 62 ∨ k = 63 ∨ k = 64)) ∨ i = 159 ∨ (i = 129 ∧ (k = 56 ∨ k = 65 ∨ k = 66)) ∨ (162 ≤ i ∧ i < 170) ∨ (158 ≤ i ∧ i < 162) ∨ (i = 129 ∧ (k = 31))) g0 K g6677 H locs := ⟨hW1, hW.2.1, hW.2.2⟩
            refine q_istore (lv9 := [(4, .int r6683), (0, .ref (ad 129)), (1, .int wh), (2, .int n), (3, .int what)]) hM dX12_triedBy_194 hl (by decide) rfl (fun ls hl => ?_)
            refine q_aload_n hM dX12_triedBy_196 (lv_at hl 1 rfl) ?_
            refine q_iconst (v := (0 : Int32)) hM dX12_triedBy_197 (by decide) ?_
            refine q_callV (As := [.int (0 : Int32)]) (rest := []) hM hW.1 hR hC myX12_bringsBack (kAW (v_6_10 (List.mem_of_getElem? (i := 10) rfl)) rfl) (rfl : vwCl[12]? = some (RX12, TX12, 86)) rfl lb_129.1 (shO hW.2.1 lb_129) (a_X12_bringsBack _ _ cA ad g6677 (0 : Int32) hW.2.1 hG (by have := kc_0; omega) (by have := kc_0; omega)) ⟨by decide, by decide⟩ rfl rfl hl.1 (Nat.le_of_ble_eq_true rfl) dX12_triedBy_198 (fun v g6685 H locs hp hW1 => ?_)
            obtain ⟨rfl, hs1, hG, hf1⟩ := hp
            have f6686 : fld g6685 129 31 = .int (0 : Int32) := (hf1.1 129 31 (by omega)).trans f6678
            have hW : WS ad cA (fun i k => i = 161 ∨ i = 156 ∨ i = 157 ∨ (i = 129 ∧ (k = 42 ∨ k = 43 ∨ k = 44 ∨ k = 45 ∨ k = 46 ∨ k = 47 ∨ k = 48 ∨ k = 49)) ∨ (i = 129 ∧ (k = 2 ∨ k = 57 ∨ k = 58 ∨ k = 61 ∨ k = 62 ∨ k = 63 ∨ k = 64)) ∨ i = 159 ∨ (i = 129 ∧ (k = 56 ∨ k = 65 ∨ k = 66)) ∨ (162 ≤ i ∧ i < 170) ∨ (158 ≤ i ∧ i < 162) ∨ (i = 129 ∧ (k = 31))) g0 K g6685 H locs := ⟨hW1, hs1, hW.2.2.tr hf1 (fun i k h => h.elim (fun h => (Or.inr (Or.inr (Or.inr (Or.inr (Or.inr (Or.inr (Or.inr (Or.inr (Or.inl h)))))))))) (fun h => (by omega)))⟩
            refine q_iload hM dX12_triedBy_201 (lv_at hl 0 rfl) ?_
            exact hE _ _ _ _ _ _ hW.1 ⟨_, rfl, hW.2.1, hG, hW.2.2⟩ dX12_triedBy_203
          · refine q_aload_n hM dX12_triedBy_174 (lv_at hl 0 rfl) ?_
            refine w_get (v := .ref (ad 159)) hM hW FG_X12_103 lb_129 (rf_129_53 hW.2.1) dX12_triedBy_175 ?_
            refine q_iload_n hM dX12_triedBy_178 (lv_at hl 3 rfl) ?_
            refine q_bipush (v := (20 : Int32)) hM dX12_triedBy_179 (by decide) ?_
            refine q_isub hM dX12_triedBy_181 (fun z6688 hz6688 => ?_)
            first | have tz6688 := i_subT hz6688 (rfl : what.toInt = what.toInt) (kc_20 : (20 : Int32).toInt = 20) (by omega) (by omega) | skip
            have wz6688 := i_subW hz6688 (rfl : what.toInt = what.toInt) (kc_20 : (20 : Int32).toInt = 20)
            refine w_iald hM hW lb_159 (i_in (by omega) (by omega)) dX12_triedBy_182 ?_
            refine q_top (fun y6689 hy6689 => ?_)
            have by6689 := hG.a hy6689 rA_159
            refine q_goto (tgt := 194) hM dX12_triedBy_183 (by decide) ?_
            refine q_istore (lv9 := [(4, .int y6689), (0, .ref (ad 129)), (1, .int wh), (2, .int n), (3, .int what)]) hM dX12_triedBy_194 hl (by decide) rfl (fun ls hl => ?_)
            refine q_aload_n hM dX12_triedBy_196 (lv_at hl 1 rfl) ?_
            refine q_iconst (v := (0 : Int32)) hM dX12_triedBy_197 (by decide) ?_
            refine q_callV (As := [.int (0 : Int32)]) (rest := []) hM hW.1 hR hC myX12_bringsBack (kAW (v_6_10 (List.mem_of_getElem? (i := 10) rfl)) rfl) (rfl : vwCl[12]? = some (RX12, TX12, 86)) rfl lb_129.1 (shO hW.2.1 lb_129) (a_X12_bringsBack _ _ cA ad g6677 (0 : Int32) hW.2.1 hG (by have := kc_0; omega) (by have := kc_0; omega)) ⟨by decide, by decide⟩ rfl rfl hl.1 (Nat.le_of_ble_eq_true rfl) dX12_triedBy_198 (fun v g6690 H locs hp hW1 => ?_)
            obtain ⟨rfl, hs1, hG, hf1⟩ := hp
            have f6691 : fld g6690 129 31 = .int (0 : Int32) := (hf1.1 129 31 (by omega)).trans f6678
            have hW : WS ad cA (fun i k => i = 161 ∨ i = 156 ∨ i = 157 ∨ (i = 129 ∧ (k = 42 ∨ k = 43 ∨ k = 44 ∨ k = 45 ∨ k = 46 ∨ k = 47 ∨ k = 48 ∨ k = 49)) ∨ (i = 129 ∧ (k = 2 ∨ k = 57 ∨ k = 58 ∨ k = 61 ∨ k = 62 ∨ k = 63 ∨ k = 64)) ∨ i = 159 ∨ (i = 129 ∧ (k = 56 ∨ k = 65 ∨ k = 66)) ∨ (162 ≤ i ∧ i < 170) ∨ (158 ≤ i ∧ i < 162) ∨ (i = 129 ∧ (k = 31))) g0 K g6690 H locs := ⟨hW1, hs1, hW.2.2.tr hf1 (fun i k h => h.elim (fun h => (Or.inr (Or.inr (Or.inr (Or.inr (Or.inr (Or.inr (Or.inr (Or.inr (Or.inl h)))))))))) (fun h => (by omega)))⟩
            refine q_iload hM dX12_triedBy_201 (lv_at hl 0 rfl) ?_
            exact hE _ _ _ _ _ _ hW.1 ⟨_, rfl, hW.2.1, hG, hW.2.2⟩ dX12_triedBy_203
        · refine q_aload_n hM dX12_triedBy_154 (lv_at hl 0 rfl) ?_
          refine q_iload_n hM dX12_triedBy_155 (lv_at hl 3 rfl) ?_
          refine q_bipush (v := (10 : Int32)) hM dX12_triedBy_156 (by decide) ?_
          refine q_isub hM dX12_triedBy_158 (fun z6693 hz6693 => ?_)
          first | have tz6693 := i_subT hz6693 (rfl : what.toInt = what.toInt) (kc_10 : (10 : Int32).toInt = 10) (by omega) (by omega) | skip
          have wz6693 := i_subW hz6693 (rfl : what.toInt = what.toInt) (kc_10 : (10 : Int32).toInt = 10)
          refine q_callV (As := [.int z6693]) (rest := []) hM hW.1 hR hC myX12_knownBy (kAW (v_6_4 (List.mem_of_getElem? (i := 11) rfl)) rfl) (rfl : vwCl[12]? = some (RX12, TX12, 86)) rfl lb_129.1 (shO hW.2.1 lb_129) (a_X12_knownBy _ _ cA ad g6677 z6693 hW.2.1 hG (by  omega) (by  omega)) ⟨by decide, by decide⟩ rfl rfl hl.1 (Nat.le_of_ble_eq_true rfl) dX12_triedBy_159 (fun v g6695 H locs hp hW1 => ?_)
          obtain ⟨r6694, rfl, hr6694, rfl⟩ := hp
          have hW : WS ad cA (fun i k => i = 161 ∨ i = 156 ∨ i = 157 ∨ (i = 129 ∧ (k = 42 ∨ k = 43 ∨ k = 44 ∨ k = 45 ∨ k = 46 ∨ k = 47 ∨ k = 48 ∨ k = 49)) ∨ (i = 129 ∧ (k = 2 ∨ k = 57 ∨ k = 58 ∨ k = 61 ∨ k = 62 ∨ k = 63 ∨ k = 64)) ∨ i = 159 ∨ (i = 129 ∧ (k = 56 ∨ k = 65 ∨ k = 66)) ∨ (162 ≤ i ∧ i < 170) ∨ (158 ≤ i ∧ i < 162) ∨ (i = 129 ∧ (k = 31))) g0 K g6677 H locs := ⟨hW1, hW.2.1, hW.2.2⟩
          refine q_callS (As := [.int r6694]) (rest := []) hM hW.1 hR hC myX12_sizeOf (kAW (v_5_6 (List.mem_of_getElem? (i := 14) rfl)) rfl) (a_X12_sizeOf _ _ cA ad g6677 r6694 hW.2.1 hG (by  omega)) ⟨by decide, by decide⟩ rfl rfl hl.1 (Nat.le_of_ble_eq_true rfl) dX12_triedBy_162 (fun v g6697 H locs hp hW1 => ?_)
          obtain ⟨r6696, rfl, hr6696, rfl⟩ := hp
          have hW : WS ad cA (fun i k => i = 161 ∨ i = 156 ∨ i = 157 ∨ (i = 129 ∧ (k = 42 ∨ k = 43 ∨ k = 44 ∨ k = 45 ∨ k = 46 ∨ k = 47 ∨ k = 48 ∨ k = 49)) ∨ (i = 129 ∧ (k = 2 ∨ k = 57 ∨ k = 58 ∨ k = 61 ∨ k = 62 ∨ k = 63 ∨ k = 64)) ∨ i = 159 ∨ (i = 129 ∧ (k = 56 ∨ k = 65 ∨ k = 66)) ∨ (162 ≤ i ∧ i < 170) ∨ (158 ≤ i ∧ i < 162) ∨ (i = 129 ∧ (k = 31))) g0 K g6677 H locs := ⟨hW1, hW.2.1, hW.2.2⟩
          refine q_goto (tgt := 194) hM dX12_triedBy_165 (by decide) ?_
          refine q_istore (lv9 := [(4, .int r6696), (0, .ref (ad 129)), (1, .int wh), (2, .int n), (3, .int what)]) hM dX12_triedBy_194 hl (by decide) rfl (fun ls hl => ?_)
          refine q_aload_n hM dX12_triedBy_196 (lv_at hl 1 rfl) ?_
          refine q_iconst (v := (0 : Int32)) hM dX12_triedBy_197 (by decide) ?_
          refine q_callV (As := [.int (0 : Int32)]) (rest := []) hM hW.1 hR hC myX12_bringsBack (kAW (v_6_10 (List.mem_of_getElem? (i := 10) rfl)) rfl) (rfl : vwCl[12]? = some (RX12, TX12, 86)) rfl lb_129.1 (shO hW.2.1 lb_129) (a_X12_bringsBack _ _ cA ad g6677 (0 : Int32) hW.2.1 hG (by have := kc_0; omega) (by have := kc_0; omega)) ⟨by decide, by decide⟩ rfl rfl hl.1 (Nat.le_of_ble_eq_true rfl) dX12_triedBy_198 (fun v g6698 H locs hp hW1 => ?_)
          obtain ⟨rfl, hs1, hG, hf1⟩ := hp
          have f6699 : fld g6698 129 31 = .int (0 : Int32) := (hf1.1 129 31 (by omega)).trans f6678
          have hW : WS ad cA (fun i k => i = 161 ∨ i = 156 ∨ i = 157 ∨ (i = 129 ∧ (k = 42 ∨ k = 43 ∨ k = 44 ∨ k = 45 ∨ k = 46 ∨ k = 47 ∨ k = 48 ∨ k = 49)) ∨ (i = 129 ∧ (k = 2 ∨ k = 57 ∨ k = 58 ∨ k = 61 ∨ k = 62 ∨ k = 63 ∨ k = 64)) ∨ i = 159 ∨ (i = 129 ∧ (k = 56 ∨ k = 65 ∨ k = 66)) ∨ (162 ≤ i ∧ i < 170) ∨ (158 ≤ i ∧ i < 162) ∨ (i = 129 ∧ (k = 31))) g0 K g6698 H locs := ⟨hW1, hs1, hW.2.2.tr hf1 (fun i k h => h.elim (fun h => (Or.inr (Or.inr (Or.inr (Or.inr (Or.inr (Or.inr (Or.inr (Or.inr (Or.inl h)))))))))) (fun h => (by omega)))⟩
          refine q_iload hM dX12_triedBy_201 (lv_at hl 0 rfl) ?_
          exact hE _ _ _ _ _ _ hW.1 ⟨_, rfl, hW.2.1, hG, hW.2.2⟩ dX12_triedBy_203
      · refine q_tableOut (tgt := 148) hM dX12_triedBy_81 rfl (by omega) (by decide) ?_
        refine q_iload_n hM dX12_triedBy_148 (lv_at hl 3 rfl) ?_
        refine q_bipush (v := (20 : Int32)) hM dX12_triedBy_149 (by decide) ?_
        refine q_icmp_ge (tgt := 168) hM dX12_triedBy_151 (by decide) (rfl : what.toInt = what.toInt) (kc_20 : (20 : Int32).toInt = 20) (fun h151 => ?_) (fun h151 => ?_)
        · refine q_iload_n hM dX12_triedBy_168 (lv_at hl 3 rfl) ?_
          refine q_bipush (v := (30 : Int32)) hM dX12_triedBy_169 (by decide) ?_
          refine q_icmp_ge (tgt := 186) hM dX12_triedBy_171 (by decide) (rfl : what.toInt = what.toInt) (kc_30 : (30 : Int32).toInt = 30) (fun h171 => ?_) (fun h171 => ?_)
          · refine q_aload_n hM dX12_triedBy_186 (lv_at hl 0 rfl) ?_
            refine q_iload_n hM dX12_triedBy_187 (lv_at hl 3 rfl) ?_
            refine q_bipush (v := (30 : Int32)) hM dX12_triedBy_188 (by decide) ?_
            refine q_isub hM dX12_triedBy_190 (fun z6703 hz6703 => ?_)
            first | have tz6703 := i_subT hz6703 (rfl : what.toInt = what.toInt) (kc_30 : (30 : Int32).toInt = 30) (by omega) (by omega) | skip
            have wz6703 := i_subW hz6703 (rfl : what.toInt = what.toInt) (kc_30 : (30 : Int32).toInt = 30)
            refine q_callV (As := [.int z6703]) (rest := []) hM hW.1 hR hC myX12_whoKnows (kAW (v_6_10 (List.mem_of_getElem? (i := 6) rfl)) rfl) (rfl : vwCl[12]? = some (RX12, TX12, 86)) rfl lb_129.1 (shO hW.2.1 lb_129) (a_X12_whoKnows _ _ cA ad g6677 z6703 hW.2.1 hG (by  omega) (by  omega)) ⟨by decide, by decide⟩ rfl rfl hl.1 (Nat.le_of_ble_eq_true rfl) dX12_triedBy_191 (fun v g6705 H locs hp hW1 => ?_)
            obtain ⟨r6704, rfl, hr6704, rfl⟩ := hp
            have hW : WS ad cA (fun i k => i = 161 ∨ i = 156 ∨ i = 157 ∨ (i = 129 ∧ (k = 42 ∨ k = 43 ∨ k = 44 ∨ k = 45 ∨ k = 46 ∨ k = 47 ∨ k = 48 ∨ k = 49)) ∨ (i = 129 ∧ (k = 2 ∨ k = 57 ∨ k = 58 ∨ k = 61 ∨ k = 62 ∨ k = 63 ∨ k = 64)) ∨ i = 159 ∨ (i = 129 ∧ (k = 56 ∨ k = 65 ∨ k = 66)) ∨ (162 ≤ i ∧ i < 170) ∨ (158 ≤ i ∧ i < 162) ∨ (i = 129 ∧ (k = 31))) g0 K g6677 H locs := ⟨hW1, hW.2.1, hW.2.2⟩
            refine q_istore (lv9 := [(4, .int r6704), (0, .ref (ad 129)), (1, .int wh), (2, .int n), (3, .int what)]) hM dX12_triedBy_194 hl (by decide) rfl (fun ls hl => ?_)
            refine q_aload_n hM dX12_triedBy_196 (lv_at hl 1 rfl) ?_
            refine q_iconst (v := (0 : Int32)) hM dX12_triedBy_197 (by decide) ?_
            refine q_callV (As := [.int (0 : Int32)]) (rest := []) hM hW.1 hR hC myX12_bringsBack (kAW (v_6_10 (List.mem_of_getElem? (i := 10) rfl)) rfl) (rfl : vwCl[12]? = some (RX12, TX12, 86)) rfl lb_129.1 (shO hW.2.1 lb_129) (a_X12_bringsBack _ _ cA ad g6677 (0 : Int32) hW.2.1 hG (by have := kc_0; omega) (by have := kc_0; omega)) ⟨by decide, by decide⟩ rfl rfl hl.1 (Nat.le_of_ble_eq_true rfl) dX12_triedBy_198 (fun v g6706 H locs hp hW1 => ?_)
            obtain ⟨rfl, hs1, hG, hf1⟩ := hp
            have f6707 : fld g6706 129 31 = .int (0 : Int32) := (hf1.1 129 31 (by omega)).trans f6678
            have hW : WS ad cA (fun i k => i = 161 ∨ i = 156 ∨ i = 157 ∨ (i = 129 ∧ (k = 42 ∨ k = 43 ∨ k = 44 ∨ k = 45 ∨ k = 46 ∨ k = 47 ∨ k = 48 ∨ k = 49)) ∨ (i = 129 ∧ (k = 2 ∨ k = 57 ∨ k = 58 ∨ k = 61 ∨ k = 62 ∨ k = 63 ∨ k = 64)) ∨ i = 159 ∨ (i = 129 ∧ (k = 56 ∨ k = 65 ∨ k = 66)) ∨ (162 ≤ i ∧ i < 170) ∨ (158 ≤ i ∧ i < 162) ∨ (i = 129 ∧ (k = 31))) g0 K g6706 H locs := ⟨hW1, hs1, hW.2.2.tr hf1 (fun i k h => h.elim (fun h => (Or.inr (Or.inr (Or.inr (Or.inr (Or.inr (Or.inr (Or.inr (Or.inr (Or.inl h)))))))))) (fun h => (by omega)))⟩
            refine q_iload hM dX12_triedBy_201 (lv_at hl 0 rfl) ?_
            exact hE _ _ _ _ _ _ hW.1 ⟨_, rfl, hW.2.1, hG, hW.2.2⟩ dX12_triedBy_203
          · refine q_aload_n hM dX12_triedBy_174 (lv_at hl 0 rfl) ?_
            refine w_get (v := .ref (ad 159)) hM hW FG_X12_103 lb_129 (rf_129_53 hW.2.1) dX12_triedBy_175 ?_
            refine q_iload_n hM dX12_triedBy_178 (lv_at hl 3 rfl) ?_
            refine q_bipush (v := (20 : Int32)) hM dX12_triedBy_179 (by decide) ?_
            refine q_isub hM dX12_triedBy_181 (fun z6709 hz6709 => ?_)
            first | have tz6709 := i_subT hz6709 (rfl : what.toInt = what.toInt) (kc_20 : (20 : Int32).toInt = 20) (by omega) (by omega) | skip
            have wz6709 := i_subW hz6709 (rfl : what.toInt = what.toInt) (kc_20 : (20 : Int32).toInt = 20)
            refine w_iald hM hW lb_159 (i_in (by omega) (by omega)) dX12_triedBy_182 ?_
            refine q_top (fun y6710 hy6710 => ?_)
            have by6710 := hG.a hy6710 rA_159
            refine q_goto (tgt := 194) hM dX12_triedBy_183 (by decide) ?_
            refine q_istore (lv9 := [(4, .int y6710), (0, .ref (ad 129)), (1, .int wh), (2, .int n), (3, .int what)]) hM dX12_triedBy_194 hl (by decide) rfl (fun ls hl => ?_)
            refine q_aload_n hM dX12_triedBy_196 (lv_at hl 1 rfl) ?_
            refine q_iconst (v := (0 : Int32)) hM dX12_triedBy_197 (by decide) ?_
            refine q_callV (As := [.int (0 : Int32)]) (rest := []) hM hW.1 hR hC myX12_bringsBack (kAW (v_6_10 (List.mem_of_getElem? (i := 10) rfl)) rfl) (rfl : vwCl[12]? = some (RX12, TX12, 86)) rfl lb_129.1 (shO hW.2.1 lb_129) (a_X12_bringsBack _ _ cA ad g6677 (0 : Int32) hW.2.1 hG (by have := kc_0; omega) (by have := kc_0; omega)) ⟨by decide, by decide⟩ rfl rfl hl.1 (Nat.le_of_ble_eq_true rfl) dX12_triedBy_198 (fun v g6711 H locs hp hW1 => ?_)
            obtain ⟨rfl, hs1, hG, hf1⟩ := hp
            have f6712 : fld g6711 129 31 = .int (0 : Int32) := (hf1.1 129 31 (by omega)).trans f6678
            have hW : WS ad cA (fun i k => i = 161 ∨ i = 156 ∨ i = 157 ∨ (i = 129 ∧ (k = 42 ∨ k = 43 ∨ k = 44 ∨ k = 45 ∨ k = 46 ∨ k = 47 ∨ k = 48 ∨ k = 49)) ∨ (i = 129 ∧ (k = 2 ∨ k = 57 ∨ k = 58 ∨ k = 61 ∨ k = 62 ∨ k = 63 ∨ k = 64)) ∨ i = 159 ∨ (i = 129 ∧ (k = 56 ∨ k = 65 ∨ k = 66)) ∨ (162 ≤ i ∧ i < 170) ∨ (158 ≤ i ∧ i < 162) ∨ (i = 129 ∧ (k = 31))) g0 K g6711 H locs := ⟨hW1, hs1, hW.2.2.tr hf1 (fun i k h => h.elim (fun h => (Or.inr (Or.inr (Or.inr (Or.inr (Or.inr (Or.inr (Or.inr (Or.inr (Or.inl h)))))))))) (fun h => (by omega)))⟩
            refine q_iload hM dX12_triedBy_201 (lv_at hl 0 rfl) ?_
            exact hE _ _ _ _ _ _ hW.1 ⟨_, rfl, hW.2.1, hG, hW.2.2⟩ dX12_triedBy_203
        · refine q_aload_n hM dX12_triedBy_154 (lv_at hl 0 rfl) ?_
          refine q_iload_n hM dX12_triedBy_155 (lv_at hl 3 rfl) ?_
          refine q_bipush (v := (10 : Int32)) hM dX12_triedBy_156 (by decide) ?_
          refine q_isub hM dX12_triedBy_158 (fun z6714 hz6714 => ?_)
          first | have tz6714 := i_subT hz6714 (rfl : what.toInt = what.toInt) (kc_10 : (10 : Int32).toInt = 10) (by omega) (by omega) | skip
          have wz6714 := i_subW hz6714 (rfl : what.toInt = what.toInt) (kc_10 : (10 : Int32).toInt = 10)
          refine q_callV (As := [.int z6714]) (rest := []) hM hW.1 hR hC myX12_knownBy (kAW (v_6_4 (List.mem_of_getElem? (i := 11) rfl)) rfl) (rfl : vwCl[12]? = some (RX12, TX12, 86)) rfl lb_129.1 (shO hW.2.1 lb_129) (a_X12_knownBy _ _ cA ad g6677 z6714 hW.2.1 hG (by  omega) (by  omega)) ⟨by decide, by decide⟩ rfl rfl hl.1 (Nat.le_of_ble_eq_true rfl) dX12_triedBy_159 (fun v g6716 H locs hp hW1 => ?_)
          obtain ⟨r6715, rfl, hr6715, rfl⟩ := hp
          have hW : WS ad cA (fun i k => i = 161 ∨ i = 156 ∨ i = 157 ∨ (i = 129 ∧ (k = 42 ∨ k = 43 ∨ k = 44 ∨ k = 45 ∨ k = 46 ∨ k = 47 ∨ k = 48 ∨ k = 49)) ∨ (i = 129 ∧ (k = 2 ∨ k = 57 ∨ k = 58 ∨ k = 61 ∨ k = 62 ∨ k = 63 ∨ k = 64)) ∨ i = 159 ∨ (i = 129 ∧ (k = 56 ∨ k = 65 ∨ k = 66)) ∨ (162 ≤ i ∧ i < 170) ∨ (158 ≤ i ∧ i < 162) ∨ (i = 129 ∧ (k = 31))) g0 K g6677 H locs := ⟨hW1, hW.2.1, hW.2.2⟩
          refine q_callS (As := [.int r6715]) (rest := []) hM hW.1 hR hC myX12_sizeOf (kAW (v_5_6 (List.mem_of_getElem? (i := 14) rfl)) rfl) (a_X12_sizeOf _ _ cA ad g6677 r6715 hW.2.1 hG (by  omega)) ⟨by decide, by decide⟩ rfl rfl hl.1 (Nat.le_of_ble_eq_true rfl) dX12_triedBy_162 (fun v g6718 H locs hp hW1 => ?_)
          obtain ⟨r6717, rfl, hr6717, rfl⟩ := hp
          have hW : WS ad cA (fun i k => i = 161 ∨ i = 156 ∨ i = 157 ∨ (i = 129 ∧ (k = 42 ∨ k = 43 ∨ k = 44 ∨ k = 45 ∨ k = 46 ∨ k = 47 ∨ k = 48 ∨ k = 49)) ∨ (i = 129 ∧ (k = 2 ∨ k = 57 ∨ k = 58 ∨ k = 61 ∨ k = 62 ∨ k = 63 ∨ k = 64)) ∨ i = 159 ∨ (i = 129 ∧ (k = 56 ∨ k = 65 ∨ k = 66)) ∨ (162 ≤ i ∧ i < 170) ∨ (158 ≤ i ∧ i < 162) ∨ (i = 129 ∧ (k = 31))) g0 K g6677 H locs := ⟨hW1, hW.2.1, hW.2.2⟩
          refine q_goto (tgt := 194) hM dX12_triedBy_165 (by decide) ?_
          refine q_istore (lv9 := [(4, .int r6717), (0, .ref (ad 129)), (1, .int wh), (2, .int n), (3, .int what)]) hM dX12_triedBy_194 hl (by decide) rfl (fun ls hl => ?_)
          refine q_aload_n hM dX12_triedBy_196 (lv_at hl 1 rfl) ?_
          refine q_iconst (v := (0 : Int32)) hM dX12_triedBy_197 (by decide) ?_
          refine q_callV (As := [.int (0 : Int32)]) (rest := []) hM hW.1 hR hC myX12_bringsBack (kAW (v_6_10 (List.mem_of_getElem? (i := 10) rfl)) rfl) (rfl : vwCl[12]? = some (RX12, TX12, 86)) rfl lb_129.1 (shO hW.2.1 lb_129) (a_X12_bringsBack _ _ cA ad g6677 (0 : Int32) hW.2.1 hG (by have := kc_0; omega) (by have := kc_0; omega)) ⟨by decide, by decide⟩ rfl rfl hl.1 (Nat.le_of_ble_eq_true rfl) dX12_triedBy_198 (fun v g6719 H locs hp hW1 => ?_)
          obtain ⟨rfl, hs1, hG, hf1⟩ := hp
          have f6720 : fld g6719 129 31 = .int (0 : Int32) := (hf1.1 129 31 (by omega)).trans f6678
          have hW : WS ad cA (fun i k => i = 161 ∨ i = 156 ∨ i = 157 ∨ (i = 129 ∧ (k = 42 ∨ k = 43 ∨ k = 44 ∨ k = 45 ∨ k = 46 ∨ k = 47 ∨ k = 48 ∨ k = 49)) ∨ (i = 129 ∧ (k = 2 ∨ k = 57 ∨ k = 58 ∨ k = 61 ∨ k = 62 ∨ k = 63 ∨ k = 64)) ∨ i = 159 ∨ (i = 129 ∧ (k = 56 ∨ k = 65 ∨ k = 66)) ∨ (162 ≤ i ∧ i < 170) ∨ (158 ≤ i ∧ i < 162) ∨ (i = 129 ∧ (k = 31))) g0 K g6719 H locs := ⟨hW1, hs1, hW.2.2.tr hf1 (fun i k h => h.elim (fun h => (Or.inr (Or.inr (Or.inr (Or.inr (Or.inr (Or.inr (Or.inr (Or.inr (Or.inl h)))))))))) (fun h => (by omega)))⟩
          refine q_iload hM dX12_triedBy_201 (lv_at hl 0 rfl) ?_
          exact hE _ _ _ _ _ _ hW.1 ⟨_, rfl, hW.2.1, hG, hW.2.2⟩ dX12_triedBy_203
      · refine q_tableIn (tgt := 112) hM dX12_triedBy_81 ((rfl : what.toInt = _).trans h81) (by decide) (by decide) rfl (by decide) ?_
        refine q_aload_n hM dX12_triedBy_112 (lv_at hl 0 rfl) ?_
        refine w_getI hM hW FG_X12_474 lb_129 (by decide) (by decide) dX12_triedBy_113 (fun x6722 fx6722 => ?_)
        refine q_istore (lv9 := [(4, .int x6722), (0, .ref (ad 129)), (1, .int wh), (2, .int n), (3, .int what)]) hM dX12_triedBy_116 hl (by decide) rfl (fun ls hl => ?_)
        refine q_goto (tgt := 196) hM dX12_triedBy_118 (by decide) ?_
        refine q_aload_n hM dX12_triedBy_196 (lv_at hl 1 rfl) ?_
        refine q_iconst (v := (0 : Int32)) hM dX12_triedBy_197 (by decide) ?_
        refine q_callV (As := [.int (0 : Int32)]) (rest := []) hM hW.1 hR hC myX12_bringsBack (kAW (v_6_10 (List.mem_of_getElem? (i := 10) rfl)) rfl) (rfl : vwCl[12]? = some (RX12, TX12, 86)) rfl lb_129.1 (shO hW.2.1 lb_129) (a_X12_bringsBack _ _ cA ad g6677 (0 : Int32) hW.2.1 hG (by have := kc_0; omega) (by have := kc_0; omega)) ⟨by decide, by decide⟩ rfl rfl hl.1 (Nat.le_of_ble_eq_true rfl) dX12_triedBy_198 (fun v g6723 H locs hp hW1 => ?_)
        obtain ⟨rfl, hs1, hG, hf1⟩ := hp
        have f6724 : fld g6723 129 31 = .int (0 : Int32) := (hf1.1 129 31 (by omega)).trans f6678
        have f6725 : fld g6723 129 61 = .int x6722 := (hf1.1 129 61 (by omega)).trans fx6722
        have hW : WS ad cA (fun i k => i = 161 ∨ i = 156 ∨ i = 157 ∨ (i = 129 ∧ (k = 42 ∨ k = 43 ∨ k = 44 ∨ k = 45 ∨ k = 46 ∨ k = 47 ∨ k = 48 ∨ k = 49)) ∨ (i = 129 ∧ (k = 2 ∨ k = 57 ∨ k = 58 ∨ k = 61 ∨ k = 62 ∨ k = 63 ∨ k = 64)) ∨ i = 159 ∨ (i = 129 ∧ (k = 56 ∨ k = 65 ∨ k = 66)) ∨ (162 ≤ i ∧ i < 170) ∨ (158 ≤ i ∧ i < 162) ∨ (i = 129 ∧ (k = 31))) g0 K g6723 H locs := ⟨hW1, hs1, hW.2.2.tr hf1 (fun i k h => h.elim (fun h => (Or.inr (Or.inr (Or.inr (Or.inr (Or.inr (Or.inr (Or.inr (Or.inr (Or.inl h)))))))))) (fun h => (by omega)))⟩
        refine q_iload hM dX12_triedBy_201 (lv_at hl 0 rfl) ?_
        exact hE _ _ _ _ _ _ hW.1 ⟨_, rfl, hW.2.1, hG, hW.2.2⟩ dX12_triedBy_203
      · refine q_tableIn (tgt := 121) hM dX12_triedBy_81 ((rfl : what.toInt = _).trans h81) (by decide) (by decide) rfl (by decide) ?_
        refine q_aload_n hM dX12_triedBy_121 (lv_at hl 0 rfl) ?_
        refine w_getI hM hW FG_X12_477 lb_129 (by decide) (by decide) dX12_triedBy_122 (fun x6727 fx6727 => ?_)
        refine q_istore (lv9 := [(4, .int x6727), (0, .ref (ad 129)), (1, .int wh), (2, .int n), (3, .int what)]) hM dX12_triedBy_125 hl (by decide) rfl (fun ls hl => ?_)
        refine q_goto (tgt := 196) hM dX12_triedBy_127 (by decide) ?_
        refine q_aload_n hM dX12_triedBy_196 (lv_at hl 1 rfl) ?_
        refine q_iconst (v := (0 : Int32)) hM dX12_triedBy_197 (by decide) ?_
        refine q_callV (As := [.int (0 : Int32)]) (rest := []) hM hW.1 hR hC myX12_bringsBack (kAW (v_6_10 (List.mem_of_getElem? (i := 10) rfl)) rfl) (rfl : vwCl[12]? = some (RX12, TX12, 86)) rfl lb_129.1 (shO hW.2.1 lb_129) (a_X12_bringsBack _ _ cA ad g6677 (0 : Int32) hW.2.1 hG (by have := kc_0; omega) (by have := kc_0; omega)) ⟨by decide, by decide⟩ rfl rfl hl.1 (Nat.le_of_ble_eq_true rfl) dX12_triedBy_198 (fun v g6728 H locs hp hW1 => ?_)
        obtain ⟨rfl, hs1, hG, hf1⟩ := hp
        have f6729 : fld g6728 129 31 = .int (0 : Int32) := (hf1.1 129 31 (by omega)).trans f6678
        have f6730 : fld g6728 129 62 = .int x6727 := (hf1.1 129 62 (by omega)).trans fx6727
        have hW : WS ad cA (fun i k => i = 161 ∨ i = 156 ∨ i = 157 ∨ (i = 129 ∧ (k = 42 ∨ k = 43 ∨ k = 44 ∨ k = 45 ∨ k = 46 ∨ k = 47 ∨ k = 48 ∨ k = 49)) ∨ (i = 129 ∧ (k = 2 ∨ k = 57 ∨ k = 58 ∨ k = 61 ∨ k = 62 ∨ k = 63 ∨ k = 64)) ∨ i = 159 ∨ (i = 129 ∧ (k = 56 ∨ k = 65 ∨ k = 66)) ∨ (162 ≤ i ∧ i < 170) ∨ (158 ≤ i ∧ i < 162) ∨ (i = 129 ∧ (k = 31))) g0 K g6728 H locs := ⟨hW1, hs1, hW.2.2.tr hf1 (fun i k h => h.elim (fun h => (Or.inr (Or.inr (Or.inr (Or.inr (Or.inr (Or.inr (Or.inr (Or.inr (Or.inl h)))))))))) (fun h => (by omega)))⟩
        refine q_iload hM dX12_triedBy_201 (lv_at hl 0 rfl) ?_
        exact hE _ _ _ _ _ _ hW.1 ⟨_, rfl, hW.2.1, hG, hW.2.2⟩ dX12_triedBy_203
      · refine q_tableIn (tgt := 130) hM dX12_triedBy_81 ((rfl : what.toInt = _).trans h81) (by decide) (by decide) rfl (by decide) ?_
        refine q_aload_n hM dX12_triedBy_130 (lv_at hl 0 rfl) ?_
        refine w_getI hM hW FG_X12_489 lb_129 (by decide) (by decide) dX12_triedBy_131 (fun x6732 fx6732 => ?_)
        refine q_istore (lv9 := [(4, .int x6732), (0, .ref (ad 129)), (1, .int wh), (2, .int n), (3, .int what)]) hM dX12_triedBy_134 hl (by decide) rfl (fun ls hl => ?_)
        refine q_goto (tgt := 196) hM dX12_triedBy_136 (by decide) ?_
        refine q_aload_n hM dX12_triedBy_196 (lv_at hl 1 rfl) ?_
        refine q_iconst (v := (0 : Int32)) hM dX12_triedBy_197 (by decide) ?_
        refine q_callV (As := [.int (0 : Int32)]) (rest := []) hM hW.1 hR hC myX12_bringsBack (kAW (v_6_10 (List.mem_of_getElem? (i := 10) rfl)) rfl) (rfl : vwCl[12]? = some (RX12, TX12, 86)) rfl lb_129.1 (shO hW.2.1 lb_129) (a_X12_bringsBack _ _ cA ad g6677 (0 : Int32) hW.2.1 hG (by have := kc_0; omega) (by have := kc_0; omega)) ⟨by decide, by decide⟩ rfl rfl hl.1 (Nat.le_of_ble_eq_true rfl) dX12_triedBy_198 (fun v g6733 H locs hp hW1 => ?_)
        obtain ⟨rfl, hs1, hG, hf1⟩ := hp
        have f6734 : fld g6733 129 31 = .int (0 : Int32) := (hf1.1 129 31 (by omega)).trans f6678
        have f6735 : fld g6733 129 63 = .int x6732 := (hf1.1 129 63 (by omega)).trans fx6732
        have hW : WS ad cA (fun i k => i = 161 ∨ i = 156 ∨ i = 157 ∨ (i = 129 ∧ (k = 42 ∨ k = 43 ∨ k = 44 ∨ k = 45 ∨ k = 46 ∨ k = 47 ∨ k = 48 ∨ k = 49)) ∨ (i = 129 ∧ (k = 2 ∨ k = 57 ∨ k = 58 ∨ k = 61 ∨ k = 62 ∨ k = 63 ∨ k = 64)) ∨ i = 159 ∨ (i = 129 ∧ (k = 56 ∨ k = 65 ∨ k = 66)) ∨ (162 ≤ i ∧ i < 170) ∨ (158 ≤ i ∧ i < 162) ∨ (i = 129 ∧ (k = 31))) g0 K g6733 H locs := ⟨hW1, hs1, hW.2.2.tr hf1 (fun i k h => h.elim (fun h => (Or.inr (Or.inr (Or.inr (Or.inr (Or.inr (Or.inr (Or.inr (Or.inr (Or.inl h)))))))))) (fun h => (by omega)))⟩
        refine q_iload hM dX12_triedBy_201 (lv_at hl 0 rfl) ?_
        exact hE _ _ _ _ _ _ hW.1 ⟨_, rfl, hW.2.1, hG, hW.2.2⟩ dX12_triedBy_203
      · refine q_tableIn (tgt := 139) hM dX12_triedBy_81 ((rfl : what.toInt = _).trans h81) (by decide) (by decide) rfl (by decide) ?_
        refine q_aload_n hM dX12_triedBy_139 (lv_at hl 0 rfl) ?_
        refine w_getI hM hW FG_X12_468 lb_129 (by decide) (by decide) dX12_triedBy_140 (fun x6737 fx6737 => ?_)
        refine q_istore (lv9 := [(4, .int x6737), (0, .ref (ad 129)), (1, .int wh), (2, .int n), (3, .int what)]) hM dX12_triedBy_143 hl (by decide) rfl (fun ls hl => ?_)
        refine q_goto (tgt := 196) hM dX12_triedBy_145 (by decide) ?_
        refine q_aload_n hM dX12_triedBy_196 (lv_at hl 1 rfl) ?_
        refine q_iconst (v := (0 : Int32)) hM dX12_triedBy_197 (by decide) ?_
        refine q_callV (As := [.int (0 : Int32)]) (rest := []) hM hW.1 hR hC myX12_bringsBack (kAW (v_6_10 (List.mem_of_getElem? (i := 10) rfl)) rfl) (rfl : vwCl[12]? = some (RX12, TX12, 86)) rfl lb_129.1 (shO hW.2.1 lb_129) (a_X12_bringsBack _ _ cA ad g6677 (0 : Int32) hW.2.1 hG (by have := kc_0; omega) (by have := kc_0; omega)) ⟨by decide, by decide⟩ rfl rfl hl.1 (Nat.le_of_ble_eq_true rfl) dX12_triedBy_198 (fun v g6738 H locs hp hW1 => ?_)
        obtain ⟨rfl, hs1, hG, hf1⟩ := hp
        have f6739 : fld g6738 129 31 = .int (0 : Int32) := (hf1.1 129 31 (by omega)).trans f6678
        have f6740 : fld g6738 129 64 = .int x6737 := (hf1.1 129 64 (by omega)).trans fx6737
        have hW : WS ad cA (fun i k => i = 161 ∨ i = 156 ∨ i = 157 ∨ (i = 129 ∧ (k = 42 ∨ k = 43 ∨ k = 44 ∨ k = 45 ∨ k = 46 ∨ k = 47 ∨ k = 48 ∨ k = 49)) ∨ (i = 129 ∧ (k = 2 ∨ k = 57 ∨ k = 58 ∨ k = 61 ∨ k = 62 ∨ k = 63 ∨ k = 64)) ∨ i = 159 ∨ (i = 129 ∧ (k = 56 ∨ k = 65 ∨ k = 66)) ∨ (162 ≤ i ∧ i < 170) ∨ (158 ≤ i ∧ i < 162) ∨ (i = 129 ∧ (k = 31))) g0 K g6738 H locs := ⟨hW1, hs1, hW.2.2.tr hf1 (fun i k h => h.elim (fun h => (Or.inr (Or.inr (Or.inr (Or.inr (Or.inr (Or.inr (Or.inr (Or.inr (Or.inl h)))))))))) (fun h => (by omega)))⟩
        refine q_iload hM dX12_triedBy_201 (lv_at hl 0 rfl) ?_
        exact hE _ _ _ _ _ _ hW.1 ⟨_, rfl, hW.2.1, hG, hW.2.2⟩ dX12_triedBy_203
    · refine q_aload_n hM dX12_triedBy_24 (lv_at hl 0 rfl) ?_
      refine q_iload_n hM dX12_triedBy_25 (lv_at hl 3 rfl) ?_
      refine q_bipush (v := (10 : Int32)) hM dX12_triedBy_26 (by decide) ?_
      refine q_isub hM dX12_triedBy_28 (fun z6742 hz6742 => ?_)
      first | have tz6742 := i_subT hz6742 (rfl : what.toInt = what.toInt) (kc_10 : (10 : Int32).toInt = 10) (by omega) (by omega) | skip
      have wz6742 := i_subW hz6742 (rfl : what.toInt = what.toInt) (kc_10 : (10 : Int32).toInt = 10)
      refine q_callV (As := [.int z6742]) (rest := []) hM hW.1 hR hC myX12_isThat (kAW (v_6_2 (List.mem_of_getElem? (i := 9) rfl)) rfl) (rfl : vwCl[12]? = some (RX12, TX12, 86)) rfl lb_129.1 (shO hW.2.1 lb_129) (a_X12_isThat _ _ cA ad g0 z6742 hW.2.1 hG) ⟨by decide, by decide⟩ rfl rfl hl.1 (Nat.le_of_ble_eq_true rfl) dX12_triedBy_29 (fun v g6744 H locs hp hW1 => ?_)
      obtain ⟨r6743, rfl, hr6743, rfl⟩ := hp
      have hW : WS ad cA (fun i k => i = 161 ∨ i = 156 ∨ i = 157 ∨ (i = 129 ∧ (k = 42 ∨ k = 43 ∨ k = 44 ∨ k = 45 ∨ k = 46 ∨ k = 47 ∨ k = 48 ∨ k = 49)) ∨ (i = 129 ∧ (k = 2 ∨ k = 57 ∨ k = 58 ∨ k = 61 ∨ k = 62 ∨ k = 63 ∨ k = 64)) ∨ i = 159 ∨ (i = 129 ∧ (k = 56 ∨ k = 65 ∨ k = 66)) ∨ (162 ≤ i ∧ i < 170) ∨ (158 ≤ i ∧ i < 162) ∨ (i = 129 ∧ (k = 31))) g0 K g0 H locs := ⟨hW1, hW.2.1, hW.2.2⟩
      refine q_if_ne (tgt := 59) hM dX12_triedBy_32 (by decide) (rfl : r6743.toInt = r6743.toInt) (fun h32 => ?_) (fun h32 => ?_)
      · refine q_aload_n hM dX12_triedBy_59 (lv_at hl 0 rfl) ?_
        refine q_iconst (v := (0 : Int32)) hM dX12_triedBy_60 (by decide) ?_
        refine q_callV (As := [.int (0 : Int32)]) (rest := []) hM hW.1 hR hC myX12_laysAside (kAW (v_6_10 (List.mem_of_getElem? (i := 2) rfl)) rfl) (rfl : vwCl[12]? = some (RX12, TX12, 86)) rfl lb_129.1 (shO hW.2.1 lb_129) (a_X12_laysAside _ _ cA ad g0 (0 : Int32) hW.2.1 hG (by have := kc_0; omega) (by have := kc_0; omega)) ⟨by decide, by decide⟩ rfl rfl hl.1 (Nat.le_of_ble_eq_true rfl) dX12_triedBy_61 (fun v g6746 H locs hp hW1 => ?_)
        obtain ⟨rfl, hs1, hG, hf1⟩ := hp
        have hW : WS ad cA (fun i k => i = 161 ∨ i = 156 ∨ i = 157 ∨ (i = 129 ∧ (k = 42 ∨ k = 43 ∨ k = 44 ∨ k = 45 ∨ k = 46 ∨ k = 47 ∨ k = 48 ∨ k = 49)) ∨ (i = 129 ∧ (k = 2 ∨ k = 57 ∨ k = 58 ∨ k = 61 ∨ k = 62 ∨ k = 63 ∨ k = 64)) ∨ i = 159 ∨ (i = 129 ∧ (k = 56 ∨ k = 65 ∨ k = 66)) ∨ (162 ≤ i ∧ i < 170) ∨ (158 ≤ i ∧ i < 162) ∨ (i = 129 ∧ (k = 31))) g0 K g6746 H locs := ⟨hW1, hs1, hW.2.2.tr hf1 (fun i k h => (Or.inr (Or.inr (Or.inr (Or.inr (Or.inr (Or.inr (Or.inr (Or.inl h)))))))))⟩
        refine q_aload_n hM dX12_triedBy_64 (lv_at hl 0 rfl) ?_
        refine q_iload_n hM dX12_triedBy_65 (lv_at hl 1 rfl) ?_
        refine w_put hM hW FP_X12_402 lb_129 (by omega) (Or.inl ⟨_, rfl⟩) rfl rfl dX12_triedBy_66 (fun g6747 H locs hW e1 e2 => ?_)
        have f6748 : fld g6747 129 31 = .int wh := e1
        have hG := hG.put e1 e2 rF_129_31 (by decide) (by have := i_rng wh; omega) (by have := i_rng wh; omega)
        refine q_aload_n hM dX12_triedBy_69 (lv_at hl 0 rfl) ?_
        refine q_iload_n hM dX12_triedBy_70 (lv_at hl 2 rfl) ?_
        refine q_iconst (v := ((-1) : Int32)) hM dX12_triedBy_71 (by decide) ?_
        refine q_callV (As := [.int n, .int ((-1) : Int32)]) (rest := []) hM hW.1 hR hC myX12_go (kAW (v_6_7 (List.mem_of_getElem? (i := 13) rfl)) rfl) (rfl : vwCl[12]? = some (RX12, TX12, 86)) rfl lb_129.1 (shO hW.2.1 lb_129) (a_X12_go_m _ _ cA ad g6747 n hW.2.1 hG (by have := kc_m1; omega) (LawOK_fr hL hW.2.2 (by omega) (by omega) (by omega) (by omega) (by omega))) ⟨by decide, by decide⟩ rfl rfl hl.1 (Nat.le_of_ble_eq_true rfl) dX12_triedBy_72 (fun v g6749 H locs hp hW1 => ?_)
        obtain ⟨rfl, hs1, hG, hf1⟩ := hp
        have f6750 : fld g6749 129 31 = .int wh := (hf1.1 129 31 (by omega)).trans f6748
        have hW : WS ad cA (fun i k => i = 161 ∨ i = 156 ∨ i = 157 ∨ (i = 129 ∧ (k = 42 ∨ k = 43 ∨ k = 44 ∨ k = 45 ∨ k = 46 ∨ k = 47 ∨ k = 48 ∨ k = 49)) ∨ (i = 129 ∧ (k = 2 ∨ k = 57 ∨ k = 58 ∨ k = 61 ∨ k = 62 ∨ k = 63 ∨ k = 64)) ∨ i = 159 ∨ (i = 129 ∧ (k = 56 ∨ k = 65 ∨ k = 66)) ∨ (162 ≤ i ∧ i < 170) ∨ (158 ≤ i ∧ i < 162) ∨ (i = 129 ∧ (k = 31))) g0 K g6749 H locs := ⟨hW1, hs1, hW.2.2.tr hf1 (fun i k h => h.elim (fun h => (Or.inl h)) (fun h => h.elim (fun h => (Or.inr (Or.inl h))) (fun h => h.elim (fun h => (Or.inr (Or.inr (Or.inl h)))) (fun h => h.elim (fun h => (Or.inr (Or.inr (Or.inr (Or.inl h))))) (fun h => h.elim (fun h => (Or.inr (Or.inr (Or.inr (Or.inr (Or.inl h)))))) (fun h => h.elim (fun h => (Or.inr (Or.inr (Or.inr (Or.inr (Or.inr (Or.inl h))))))) (fun h => (Or.inr (Or.inr (Or.inr (Or.inr (Or.inr (Or.inr (Or.inl h))))))))))))))⟩
        refine q_aload_n hM dX12_triedBy_75 (lv_at hl 0 rfl) ?_
        refine q_iconst (v := (0 : Int32)) hM dX12_triedBy_76 (by decide) ?_
        refine w_put hM hW FP_X12_402 lb_129 (by omega) (Or.inl ⟨_, rfl⟩) rfl rfl dX12_triedBy_77 (fun g6751 H locs hW e1 e2 => ?_)
        have f6752 : fld g6751 129 31 = .int (0 : Int32) := e1
        have hG := hG.put e1 e2 rF_129_31 (by decide) (by have := kc_0; have := i_rng (0 : Int32); omega) (by have := kc_0; have := i_rng (0 : Int32); omega)
        refine q_iload_n hM dX12_triedBy_80 (lv_at hl 3 rfl) ?_
        rcases (show what.toInt < 0 ∨ 3 < what.toInt ∨ what.toInt = 0 ∨ what.toInt = 1 ∨ what.toInt = 2 ∨ what.toInt = 3 from by omega) with h81 | h81 | h81 | h81 | h81 | h81
        · refine q_tableOut (tgt := 148) hM dX12_triedBy_81 rfl (by omega) (by decide) ?_
          refine q_iload_n hM dX12_triedBy_148 (lv_at hl 3 rfl) ?_
          refine q_bipush (v := (20 : Int32)) hM dX12_triedBy_149 (by decide) ?_
          refine q_icmp_ge (tgt := 168) hM dX12_triedBy_151 (by decide) (rfl : what.toInt = what.toInt) (kc_20 : (20 : Int32).toInt = 20) (fun h151 => ?_) (fun h151 => ?_)
          · refine q_iload_n hM dX12_triedBy_168 (lv_at hl 3 rfl) ?_
            refine q_bipush (v := (30 : Int32)) hM dX12_triedBy_169 (by decide) ?_
            refine q_icmp_ge (tgt := 186) hM dX12_triedBy_171 (by decide) (rfl : what.toInt = what.toInt) (kc_30 : (30 : Int32).toInt = 30) (fun h171 => ?_) (fun h171 => ?_)
            · refine q_aload_n hM dX12_triedBy_186 (lv_at hl 0 rfl) ?_
              refine q_iload_n hM dX12_triedBy_187 (lv_at hl 3 rfl) ?_
              refine q_bipush (v := (30 : Int32)) hM dX12_triedBy_188 (by decide) ?_
              refine q_isub hM dX12_triedBy_190 (fun z6756 hz6756 => ?_)
              first | have tz6756 := i_subT hz6756 (rfl : what.toInt = what.toInt) (kc_30 : (30 : Int32).toInt = 30) (by omega) (by omega) | skip
              have wz6756 := i_subW hz6756 (rfl : what.toInt = what.toInt) (kc_30 : (30 : Int32).toInt = 30)
              refine q_callV (As := [.int z6756]) (rest := []) hM hW.1 hR hC myX12_whoKnows (kAW (v_6_10 (List.mem_of_getElem? (i := 6) rfl)) rfl) (rfl : vwCl[12]? = some (RX12, TX12, 86)) rfl lb_129.1 (shO hW.2.1 lb_129) (a_X12_whoKnows _ _ cA ad g6751 z6756 hW.2.1 hG (by  omega) (by  omega)) ⟨by decide, by decide⟩ rfl rfl hl.1 (Nat.le_of_ble_eq_true rfl) dX12_triedBy_191 (fun v g6758 H locs hp hW1 => ?_)
              obtain ⟨r6757, rfl, hr6757, rfl⟩ := hp
              have hW : WS ad cA (fun i k => i = 161 ∨ i = 156 ∨ i = 157 ∨ (i = 129 ∧ (k = 42 ∨ k = 43 ∨ k = 44 ∨ k = 45 ∨ k = 46 ∨ k = 47 ∨ k = 48 ∨ k = 49)) ∨ (i = 129 ∧ (k = 2 ∨ k = 57 ∨ k = 58 ∨ k = 61 ∨ k = 62 ∨ k = 63 ∨ k = 64)) ∨ i = 159 ∨ (i = 129 ∧ (k = 56 ∨ k = 65 ∨ k = 66)) ∨ (162 ≤ i ∧ i < 170) ∨ (158 ≤ i ∧ i < 162) ∨ (i = 129 ∧ (k = 31))) g0 K g6751 H locs := ⟨hW1, hW.2.1, hW.2.2⟩
              refine q_istore (lv9 := [(4, .int r6757), (0, .ref (ad 129)), (1, .int wh), (2, .int n), (3, .int what)]) hM dX12_triedBy_194 hl (by decide) rfl (fun ls hl => ?_)
              refine q_aload_n hM dX12_triedBy_196 (lv_at hl 1 rfl) ?_
              refine q_iconst (v := (0 : Int32)) hM dX12_triedBy_197 (by decide) ?_
              refine q_callV (As := [.int (0 : Int32)]) (rest := []) hM hW.1 hR hC myX12_bringsBack (kAW (v_6_10 (List.mem_of_getElem? (i := 10) rfl)) rfl) (rfl : vwCl[12]? = some (RX12, TX12, 86)) rfl lb_129.1 (shO hW.2.1 lb_129) (a_X12_bringsBack _ _ cA ad g6751 (0 : Int32) hW.2.1 hG (by have := kc_0; omega) (by have := kc_0; omega)) ⟨by decide, by decide⟩ rfl rfl hl.1 (Nat.le_of_ble_eq_true rfl) dX12_triedBy_198 (fun v g6759 H locs hp hW1 => ?_)
              obtain ⟨rfl, hs1, hG, hf1⟩ := hp
              have f6760 : fld g6759 129 31 = .int (0 : Int32) := (hf1.1 129 31 (by omega)).trans f6752
              have hW : WS ad cA (fun i k => i = 161 ∨ i = 156 ∨ i = 157 ∨ (i = 129 ∧ (k = 42 ∨ k = 43 ∨ k = 44 ∨ k = 45 ∨ k = 46 ∨ k = 47 ∨ k = 48 ∨ k = 49)) ∨ (i = 129 ∧ (k = 2 ∨ k = 57 ∨ k = 58 ∨ k = 61 ∨ k = 62 ∨ k = 63 ∨ k = 64)) ∨ i = 159 ∨ (i = 129 ∧ (k = 56 ∨ k = 65 ∨ k = 66)) ∨ (162 ≤ i ∧ i < 170) ∨ (158 ≤ i ∧ i < 162) ∨ (i = 129 ∧ (k = 31))) g0 K g6759 H locs := ⟨hW1, hs1, hW.2.2.tr hf1 (fun i k h => h.elim (fun h => (Or.inr (Or.inr (Or.inr (Or.inr (Or.inr (Or.inr (Or.inr (Or.inr (Or.inl h)))))))))) (fun h => (by omega)))⟩
              refine q_iload hM dX12_triedBy_201 (lv_at hl 0 rfl) ?_
              exact hE _ _ _ _ _ _ hW.1 ⟨_, rfl, hW.2.1, hG, hW.2.2⟩ dX12_triedBy_203
            · refine q_aload_n hM dX12_triedBy_174 (lv_at hl 0 rfl) ?_
              refine w_get (v := .ref (ad 159)) hM hW FG_X12_103 lb_129 (rf_129_53 hW.2.1) dX12_triedBy_175 ?_
              refine q_iload_n hM dX12_triedBy_178 (lv_at hl 3 rfl) ?_
              refine q_bipush (v := (20 : Int32)) hM dX12_triedBy_179 (by decide) ?_
              refine q_isub hM dX12_triedBy_181 (fun z6762 hz6762 => ?_)
              first | have tz6762 := i_subT hz6762 (rfl : what.toInt = what.toInt) (kc_20 : (20 : Int32).toInt = 20) (by omega) (by omega) | skip
              have wz6762 := i_subW hz6762 (rfl : what.toInt = what.toInt) (kc_20 : (20 : Int32).toInt = 20)
              refine w_iald hM hW lb_159 (i_in (by omega) (by omega)) dX12_triedBy_182 ?_
              refine q_top (fun y6763 hy6763 => ?_)
              have by6763 := hG.a hy6763 rA_159
              refine q_goto (tgt := 194) hM dX12_triedBy_183 (by decide) ?_
              refine q_istore (lv9 := [(4, .int y6763), (0, .ref (ad 129)), (1, .int wh), (2, .int n), (3, .int what)]) hM dX12_triedBy_194 hl (by decide) rfl (fun ls hl => ?_)
              refine q_aload_n hM dX12_triedBy_196 (lv_at hl 1 rfl) ?_
              refine q_iconst (v := (0 : Int32)) hM dX12_triedBy_197 (by decide) ?_
              refine q_callV (As := [.int (0 : Int32)]) (rest := []) hM hW.1 hR hC myX12_bringsBack (kAW (v_6_10 (List.mem_of_getElem? (i := 10) rfl)) rfl) (rfl : vwCl[12]? = some (RX12, TX12, 86)) rfl lb_129.1 (shO hW.2.1 lb_129) (a_X12_bringsBack _ _ cA ad g6751 (0 : Int32) hW.2.1 hG (by have := kc_0; omega) (by have := kc_0; omega)) ⟨by decide, by decide⟩ rfl rfl hl.1 (Nat.le_of_ble_eq_true rfl) dX12_triedBy_198 (fun v g6764 H locs hp hW1 => ?_)
              obtain ⟨rfl, hs1, hG, hf1⟩ := hp
              have f6765 : fld g6764 129 31 = .int (0 : Int32) := (hf1.1 129 31 (by omega)).trans f6752
              have hW : WS ad cA (fun i k => i = 161 ∨ i = 156 ∨ i = 157 ∨ (i = 129 ∧ (k = 42 ∨ k = 43 ∨ k = 44 ∨ k = 45 ∨ k = 46 ∨ k = 47 ∨ k = 48 ∨ k = 49)) ∨ (i = 129 ∧ (k = 2 ∨ k = 57 ∨ k = 58 ∨ k = 61 ∨ k = 62 ∨ k = 63 ∨ k = 64)) ∨ i = 159 ∨ (i = 129 ∧ (k = 56 ∨ k = 65 ∨ k = 66)) ∨ (162 ≤ i ∧ i < 170) ∨ (158 ≤ i ∧ i < 162) ∨ (i = 129 ∧ (k = 31))) g0 K g6764 H locs := ⟨hW1, hs1, hW.2.2.tr hf1 (fun i k h => h.elim (fun h => (Or.inr (Or.inr (Or.inr (Or.inr (Or.inr (Or.inr (Or.inr (Or.inr (Or.inl h)))))))))) (fun h => (by omega)))⟩
              refine q_iload hM dX12_triedBy_201 (lv_at hl 0 rfl) ?_
              exact hE _ _ _ _ _ _ hW.1 ⟨_, rfl, hW.2.1, hG, hW.2.2⟩ dX12_triedBy_203
          · refine q_aload_n hM dX12_triedBy_154 (lv_at hl 0 rfl) ?_
            refine q_iload_n hM dX12_triedBy_155 (lv_at hl 3 rfl) ?_
            refine q_bipush (v := (10 : Int32)) hM dX12_triedBy_156 (by decide) ?_
            refine q_isub hM dX12_triedBy_158 (fun z6767 hz6767 => ?_)
            first | have tz6767 := i_subT hz6767 (rfl : what.toInt = what.toInt) (kc_10 : (10 : Int32).toInt = 10) (by omega) (by omega) | skip
            have wz6767 := i_subW hz6767 (rfl : what.toInt = what.toInt) (kc_10 : (10 : Int32).toInt = 10)
            refine q_callV (As := [.int z6767]) (rest := []) hM hW.1 hR hC myX12_knownBy (kAW (v_6_4 (List.mem_of_getElem? (i := 11) rfl)) rfl) (rfl : vwCl[12]? = some (RX12, TX12, 86)) rfl lb_129.1 (shO hW.2.1 lb_129) (a_X12_knownBy _ _ cA ad g6751 z6767 hW.2.1 hG (by  omega) (by  omega)) ⟨by decide, by decide⟩ rfl rfl hl.1 (Nat.le_of_ble_eq_true rfl) dX12_triedBy_159 (fun v g6769 H locs hp hW1 => ?_)
            obtain ⟨r6768, rfl, hr6768, rfl⟩ := hp
            have hW : WS ad cA (fun i k => i = 161 ∨ i = 156 ∨ i = 157 ∨ (i = 129 ∧ (k = 42 ∨ k = 43 ∨ k = 44 ∨ k = 45 ∨ k = 46 ∨ k = 47 ∨ k = 48 ∨ k = 49)) ∨ (i = 129 ∧ (k = 2 ∨ k = 57 ∨ k = 58 ∨ k = 61 ∨ k = 62 ∨ k = 63 ∨ k = 64)) ∨ i = 159 ∨ (i = 129 ∧ (k = 56 ∨ k = 65 ∨ k = 66)) ∨ (162 ≤ i ∧ i < 170) ∨ (158 ≤ i ∧ i < 162) ∨ (i = 129 ∧ (k = 31))) g0 K g6751 H locs := ⟨hW1, hW.2.1, hW.2.2⟩
            refine q_callS (As := [.int r6768]) (rest := []) hM hW.1 hR hC myX12_sizeOf (kAW (v_5_6 (List.mem_of_getElem? (i := 14) rfl)) rfl) (a_X12_sizeOf _ _ cA ad g6751 r6768 hW.2.1 hG (by  omega)) ⟨by decide, by decide⟩ rfl rfl hl.1 (Nat.le_of_ble_eq_true rfl) dX12_triedBy_162 (fun v g6771 H locs hp hW1 => ?_)
            obtain ⟨r6770, rfl, hr6770, rfl⟩ := hp
            have hW : WS ad cA (fun i k => i = 161 ∨ i = 156 ∨ i = 157 ∨ (i = 129 ∧ (k = 42 ∨ k = 43 ∨ k = 44 ∨ k = 45 ∨ k = 46 ∨ k = 47 ∨ k = 48 ∨ k = 49)) ∨ (i = 129 ∧ (k = 2 ∨ k = 57 ∨ k = 58 ∨ k = 61 ∨ k = 62 ∨ k = 63 ∨ k = 64)) ∨ i = 159 ∨ (i = 129 ∧ (k = 56 ∨ k = 65 ∨ k = 66)) ∨ (162 ≤ i ∧ i < 170) ∨ (158 ≤ i ∧ i < 162) ∨ (i = 129 ∧ (k = 31))) g0 K g6751 H locs := ⟨hW1, hW.2.1, hW.2.2⟩
            refine q_goto (tgt := 194) hM dX12_triedBy_165 (by decide) ?_
            refine q_istore (lv9 := [(4, .int r6770), (0, .ref (ad 129)), (1, .int wh), (2, .int n), (3, .int what)]) hM dX12_triedBy_194 hl (by decide) rfl (fun ls hl => ?_)
            refine q_aload_n hM dX12_triedBy_196 (lv_at hl 1 rfl) ?_
            refine q_iconst (v := (0 : Int32)) hM dX12_triedBy_197 (by decide) ?_
            refine q_callV (As := [.int (0 : Int32)]) (rest := []) hM hW.1 hR hC myX12_bringsBack (kAW (v_6_10 (List.mem_of_getElem? (i := 10) rfl)) rfl) (rfl : vwCl[12]? = some (RX12, TX12, 86)) rfl lb_129.1 (shO hW.2.1 lb_129) (a_X12_bringsBack _ _ cA ad g6751 (0 : Int32) hW.2.1 hG (by have := kc_0; omega) (by have := kc_0; omega)) ⟨by decide, by decide⟩ rfl rfl hl.1 (Nat.le_of_ble_eq_true rfl) dX12_triedBy_198 (fun v g6772 H locs hp hW1 => ?_)
            obtain ⟨rfl, hs1, hG, hf1⟩ := hp
            have f6773 : fld g6772 129 31 = .int (0 : Int32) := (hf1.1 129 31 (by omega)).trans f6752
            have hW : WS ad cA (fun i k => i = 161 ∨ i = 156 ∨ i = 157 ∨ (i = 129 ∧ (k = 42 ∨ k = 43 ∨ k = 44 ∨ k = 45 ∨ k = 46 ∨ k = 47 ∨ k = 48 ∨ k = 49)) ∨ (i = 129 ∧ (k = 2 ∨ k = 57 ∨ k = 58 ∨ k = 61 ∨ k = 62 ∨ k = 63 ∨ k = 64)) ∨ i = 159 ∨ (i = 129 ∧ (k = 56 ∨ k = 65 ∨ k = 66)) ∨ (162 ≤ i ∧ i < 170) ∨ (158 ≤ i ∧ i < 162) ∨ (i = 129 ∧ (k = 31))) g0 K g6772 H locs := ⟨hW1, hs1, hW.2.2.tr hf1 (fun i k h => h.elim (fun h => (Or.inr (Or.inr (Or.inr (Or.inr (Or.inr (Or.inr (Or.inr (Or.inr (Or.inl h)))))))))) (fun h => (by omega)))⟩
            refine q_iload hM dX12_triedBy_201 (lv_at hl 0 rfl) ?_
            exact hE _ _ _ _ _ _ hW.1 ⟨_, rfl, hW.2.1, hG, hW.2.2⟩ dX12_triedBy_203
        · refine q_tableOut (tgt := 148) hM dX12_triedBy_81 rfl (by omega) (by decide) ?_
          refine q_iload_n hM dX12_triedBy_148 (lv_at hl 3 rfl) ?_
          refine q_bipush (v := (20 : Int32)) hM dX12_triedBy_149 (by decide) ?_
          refine q_icmp_ge (tgt := 168) hM dX12_triedBy_151 (by decide) (rfl : what.toInt = what.toInt) (kc_20 : (20 : Int32).toInt = 20) (fun h151 => ?_) (fun h151 => ?_)
          · refine q_iload_n hM dX12_triedBy_168 (lv_at hl 3 rfl) ?_
            refine q_bipush (v := (30 : Int32)) hM dX12_triedBy_169 (by decide) ?_
            refine q_icmp_ge (tgt := 186) hM dX12_triedBy_171 (by decide) (rfl : what.toInt = what.toInt) (kc_30 : (30 : Int32).toInt = 30) (fun h171 => ?_) (fun h171 => ?_)
            · refine q_aload_n hM dX12_triedBy_186 (lv_at hl 0 rfl) ?_
              refine q_iload_n hM dX12_triedBy_187 (lv_at hl 3 rfl) ?_
              refine q_bipush (v := (30 : Int32)) hM dX12_triedBy_188 (by decide) ?_
              refine q_isub hM dX12_triedBy_190 (fun z6777 hz6777 => ?_)
              first | have tz6777 := i_subT hz6777 (rfl : what.toInt = what.toInt) (kc_30 : (30 : Int32).toInt = 30) (by omega) (by omega) | skip
              have wz6777 := i_subW hz6777 (rfl : what.toInt = what.toInt) (kc_30 : (30 : Int32).toInt = 30)
              refine q_callV (As := [.int z6777]) (rest := []) hM hW.1 hR hC myX12_whoKnows (kAW (v_6_10 (List.mem_of_getElem? (i := 6) rfl)) rfl) (rfl : vwCl[12]? = some (RX12, TX12, 86)) rfl lb_129.1 (shO hW.2.1 lb_129) (a_X12_whoKnows _ _ cA ad g6751 z6777 hW.2.1 hG (by  omega) (by  omega)) ⟨by decide, by decide⟩ rfl rfl hl.1 (Nat.le_of_ble_eq_true rfl) dX12_triedBy_191 (fun v g6779 H locs hp hW1 => ?_)
              obtain ⟨r6778, rfl, hr6778, rfl⟩ := hp
              have hW : WS ad cA (fun i k => i = 161 ∨ i = 156 ∨ i = 157 ∨ (i = 129 ∧ (k = 42 ∨ k = 43 ∨ k = 44 ∨ k = 45 ∨ k = 46 ∨ k = 47 ∨ k = 48 ∨ k = 49)) ∨ (i = 129 ∧ (k = 2 ∨ k = 57 ∨ k = 58 ∨ k = 61 ∨ k = 62 ∨ k = 63 ∨ k = 64)) ∨ i = 159 ∨ (i = 129 ∧ (k = 56 ∨ k = 65 ∨ k = 66)) ∨ (162 ≤ i ∧ i < 170) ∨ (158 ≤ i ∧ i < 162) ∨ (i = 129 ∧ (k = 31))) g0 K g6751 H locs := ⟨hW1, hW.2.1, hW.2.2⟩
              refine q_istore (lv9 := [(4, .int r6778), (0, .ref (ad 129)), (1, .int wh), (2, .int n), (3, .int what)]) hM dX12_triedBy_194 hl (by decide) rfl (fun ls hl => ?_)
              refine q_aload_n hM dX12_triedBy_196 (lv_at hl 1 rfl) ?_
              refine q_iconst (v := (0 : Int32)) hM dX12_triedBy_197 (by decide) ?_
              refine q_callV (As := [.int (0 : Int32)]) (rest := []) hM hW.1 hR hC myX12_bringsBack (kAW (v_6_10 (List.mem_of_getElem? (i := 10) rfl)) rfl) (rfl : vwCl[12]? = some (RX12, TX12, 86)) rfl lb_129.1 (shO hW.2.1 lb_129) (a_X12_bringsBack _ _ cA ad g6751 (0 : Int32) hW.2.1 hG (by have := kc_0; omega) (by have := kc_0; omega)) ⟨by decide, by decide⟩ rfl rfl hl.1 (Nat.le_of_ble_eq_true rfl) dX12_triedBy_198 (fun v g6780 H locs hp hW1 => ?_)
              obtain ⟨rfl, hs1, hG, hf1⟩ := hp
              have f6781 : fld g6780 129 31 = .int (0 : Int32) := (hf1.1 129 31 (by omega)).trans f6752
              have hW : WS ad cA (fun i k => i = 161 ∨ i = 156 ∨ i = 157 ∨ (i = 129 ∧ (k = 42 ∨ k = 43 ∨ k = 44 ∨ k = 45 ∨ k = 46 ∨ k = 47 ∨ k = 48 ∨ k = 49)) ∨ (i = 129 ∧ (k = 2 ∨ k = 57 ∨ k = 58 ∨ k = 61 ∨ k = 62 ∨ k = 63 ∨ k = 64)) ∨ i = 159 ∨ (i = 129 ∧ (k = 56 ∨ k = 65 ∨ k = 66)) ∨ (162 ≤ i ∧ i < 170) ∨ (158 ≤ i ∧ i < 162) ∨ (i = 129 ∧ (k = 31))) g0 K g6780 H locs := ⟨hW1, hs1, hW.2.2.tr hf1 (fun i k h => h.elim (fun h => (Or.inr (Or.inr (Or.inr (Or.inr (Or.inr (Or.inr (Or.inr (Or.inr (Or.inl h)))))))))) (fun h => (by omega)))⟩
              refine q_iload hM dX12_triedBy_201 (lv_at hl 0 rfl) ?_
              exact hE _ _ _ _ _ _ hW.1 ⟨_, rfl, hW.2.1, hG, hW.2.2⟩ dX12_triedBy_203
            · refine q_aload_n hM dX12_triedBy_174 (lv_at hl 0 rfl) ?_
              refine w_get (v := .ref (ad 159)) hM hW FG_X12_103 lb_129 (rf_129_53 hW.2.1) dX12_triedBy_175 ?_
              refine q_iload_n hM dX12_triedBy_178 (lv_at hl 3 rfl) ?_
              refine q_bipush (v := (20 : Int32)) hM dX12_triedBy_179 (by decide) ?_
              refine q_isub hM dX12_triedBy_181 (fun z6783 hz6783 => ?_)
              first | have tz6783 := i_subT hz6783 (rfl : what.toInt = what.toInt) (kc_20 : (20 : Int32).toInt = 20) (by omega) (by omega) | skip
              have wz6783 := i_subW hz6783 (rfl : what.toInt = what.toInt) (kc_20 : (20 : Int32).toInt = 20)
              refine w_iald hM hW lb_159 (i_in (by omega) (by omega)) dX12_triedBy_182 ?_
              refine q_top (fun y6784 hy6784 => ?_)
              have by6784 := hG.a hy6784 rA_159
              refine q_goto (tgt := 194) hM dX12_triedBy_183 (by decide) ?_
              refine q_istore (lv9 := [(4, .int y6784), (0, .ref (ad 129)), (1, .int wh), (2, .int n), (3, .int what)]) hM dX12_triedBy_194 hl (by decide) rfl (fun ls hl => ?_)
              refine q_aload_n hM dX12_triedBy_196 (lv_at hl 1 rfl) ?_
              refine q_iconst (v := (0 : Int32)) hM dX12_triedBy_197 (by decide) ?_
              refine q_callV (As := [.int (0 : Int32)]) (rest := []) hM hW.1 hR hC myX12_bringsBack (kAW (v_6_10 (List.mem_of_getElem? (i := 10) rfl)) rfl) (rfl : vwCl[12]? = some (RX12, TX12, 86)) rfl lb_129.1 (shO hW.2.1 lb_129) (a_X12_bringsBack _ _ cA ad g6751 (0 : Int32) hW.2.1 hG (by have := kc_0; omega) (by have := kc_0; omega)) ⟨by decide, by decide⟩ rfl rfl hl.1 (Nat.le_of_ble_eq_true rfl) dX12_triedBy_198 (fun v g6785 H locs hp hW1 => ?_)
              obtain ⟨rfl, hs1, hG, hf1⟩ := hp
              have f6786 : fld g6785 129 31 = .int (0 : Int32) := (hf1.1 129 31 (by omega)).trans f6752
              have hW : WS ad cA (fun i k => i = 161 ∨ i = 156 ∨ i = 157 ∨ (i = 129 ∧ (k = 42 ∨ k = 43 ∨ k = 44 ∨ k = 45 ∨ k = 46 ∨ k = 47 ∨ k = 48 ∨ k = 49)) ∨ (i = 129 ∧ (k = 2 ∨ k = 57 ∨ k = 58 ∨ k = 61 ∨ k = 62 ∨ k = 63 ∨ k = 64)) ∨ i = 159 ∨ (i = 129 ∧ (k = 56 ∨ k = 65 ∨ k = 66)) ∨ (162 ≤ i ∧ i < 170) ∨ (158 ≤ i ∧ i < 162) ∨ (i = 129 ∧ (k = 31))) g0 K g6785 H locs := ⟨hW1, hs1, hW.2.2.tr hf1 (fun i k h => h.elim (fun h => (Or.inr (Or.inr (Or.inr (Or.inr (Or.inr (Or.inr (Or.inr (Or.inr (Or.inl h)))))))))) (fun h => (by omega)))⟩
              refine q_iload hM dX12_triedBy_201 (lv_at hl 0 rfl) ?_
              exact hE _ _ _ _ _ _ hW.1 ⟨_, rfl, hW.2.1, hG, hW.2.2⟩ dX12_triedBy_203
          · refine q_aload_n hM dX12_triedBy_154 (lv_at hl 0 rfl) ?_
            refine q_iload_n hM dX12_triedBy_155 (lv_at hl 3 rfl) ?_
            refine q_bipush (v := (10 : Int32)) hM dX12_triedBy_156 (by decide) ?_
            refine q_isub hM dX12_triedBy_158 (fun z6788 hz6788 => ?_)
            first | have tz6788 := i_subT hz6788 (rfl : what.toInt = what.toInt) (kc_10 : (10 : Int32).toInt = 10) (by omega) (by omega) | skip
            have wz6788 := i_subW hz6788 (rfl : what.toInt = what.toInt) (kc_10 : (10 : Int32).toInt = 10)
            refine q_callV (As := [.int z6788]) (rest := []) hM hW.1 hR hC myX12_knownBy (kAW (v_6_4 (List.mem_of_getElem? (i := 11) rfl)) rfl) (rfl : vwCl[12]? = some (RX12, TX12, 86)) rfl lb_129.1 (shO hW.2.1 lb_129) (a_X12_knownBy _ _ cA ad g6751 z6788 hW.2.1 hG (by  omega) (by  omega)) ⟨by decide, by decide⟩ rfl rfl hl.1 (Nat.le_of_ble_eq_true rfl) dX12_triedBy_159 (fun v g6790 H locs hp hW1 => ?_)
            obtain ⟨r6789, rfl, hr6789, rfl⟩ := hp
            have hW : WS ad cA (fun i k => i = 161 ∨ i = 156 ∨ i = 157 ∨ (i = 129 ∧ (k = 42 ∨ k = 43 ∨ k = 44 ∨ k = 45 ∨ k = 46 ∨ k = 47 ∨ k = 48 ∨ k = 49)) ∨ (i = 129 ∧ (k = 2 ∨ k = 57 ∨ k = 58 ∨ k = 61 ∨ k = 62 ∨ k = 63 ∨ k = 64)) ∨ i = 159 ∨ (i = 129 ∧ (k = 56 ∨ k = 65 ∨ k = 66)) ∨ (162 ≤ i ∧ i < 170) ∨ (158 ≤ i ∧ i < 162) ∨ (i = 129 ∧ (k = 31))) g0 K g6751 H locs := ⟨hW1, hW.2.1, hW.2.2⟩
            refine q_callS (As := [.int r6789]) (rest := []) hM hW.1 hR hC myX12_sizeOf (kAW (v_5_6 (List.mem_of_getElem? (i := 14) rfl)) rfl) (a_X12_sizeOf _ _ cA ad g6751 r6789 hW.2.1 hG (by  omega)) ⟨by decide, by decide⟩ rfl rfl hl.1 (Nat.le_of_ble_eq_true rfl) dX12_triedBy_162 (fun v g6792 H locs hp hW1 => ?_)
            obtain ⟨r6791, rfl, hr6791, rfl⟩ := hp
            have hW : WS ad cA (fun i k => i = 161 ∨ i = 156 ∨ i = 157 ∨ (i = 129 ∧ (k = 42 ∨ k = 43 ∨ k = 44 ∨ k = 45 ∨ k = 46 ∨ k = 47 ∨ k = 48 ∨ k = 49)) ∨ (i = 129 ∧ (k = 2 ∨ k = 57 ∨ k = 58 ∨ k = 61 ∨ k = 62 ∨ k = 63 ∨ k = 64)) ∨ i = 159 ∨ (i = 129 ∧ (k = 56 ∨ k = 65 ∨ k = 66)) ∨ (162 ≤ i ∧ i < 170) ∨ (158 ≤ i ∧ i < 162) ∨ (i = 129 ∧ (k = 31))) g0 K g6751 H locs := ⟨hW1, hW.2.1, hW.2.2⟩
            refine q_goto (tgt := 194) hM dX12_triedBy_165 (by decide) ?_
            refine q_istore (lv9 := [(4, .int r6791), (0, .ref (ad 129)), (1, .int wh), (2, .int n), (3, .int what)]) hM dX12_triedBy_194 hl (by decide) rfl (fun ls hl => ?_)
            refine q_aload_n hM dX12_triedBy_196 (lv_at hl 1 rfl) ?_
            refine q_iconst (v := (0 : Int32)) hM dX12_triedBy_197 (by decide) ?_
            refine q_callV (As := [.int (0 : Int32)]) (rest := []) hM hW.1 hR hC myX12_bringsBack (kAW (v_6_10 (List.mem_of_getElem? (i := 10) rfl)) rfl) (rfl : vwCl[12]? = some (RX12, TX12, 86)) rfl lb_129.1 (shO hW.2.1 lb_129) (a_X12_bringsBack _ _ cA ad g6751 (0 : Int32) hW.2.1 hG (by have := kc_0; omega) (by have := kc_0; omega)) ⟨by decide, by decide⟩ rfl rfl hl.1 (Nat.le_of_ble_eq_true rfl) dX12_triedBy_198 (fun v g6793 H locs hp hW1 => ?_)
            obtain ⟨rfl, hs1, hG, hf1⟩ := hp
            have f6794 : fld g6793 129 31 = .int (0 : Int32) := (hf1.1 129 31 (by omega)).trans f6752
            have hW : WS ad cA (fun i k => i = 161 ∨ i = 156 ∨ i = 157 ∨ (i = 129 ∧ (k = 42 ∨ k = 43 ∨ k = 44 ∨ k = 45 ∨ k = 46 ∨ k = 47 ∨ k = 48 ∨ k = 49)) ∨ (i = 129 ∧ (k = 2 ∨ k = 57 ∨ k = 58 ∨ k = 61 ∨ k = 62 ∨ k = 63 ∨ k = 64)) ∨ i = 159 ∨ (i = 129 ∧ (k = 56 ∨ k = 65 ∨ k = 66)) ∨ (162 ≤ i ∧ i < 170) ∨ (158 ≤ i ∧ i < 162) ∨ (i = 129 ∧ (k = 31))) g0 K g6793 H locs := ⟨hW1, hs1, hW.2.2.tr hf1 (fun i k h => h.elim (fun h => (Or.inr (Or.inr (Or.inr (Or.inr (Or.inr (Or.inr (Or.inr (Or.inr (Or.inl h)))))))))) (fun h => (by omega)))⟩
            refine q_iload hM dX12_triedBy_201 (lv_at hl 0 rfl) ?_
            exact hE _ _ _ _ _ _ hW.1 ⟨_, rfl, hW.2.1, hG, hW.2.2⟩ dX12_triedBy_203
        · refine q_tableIn (tgt := 112) hM dX12_triedBy_81 ((rfl : what.toInt = _).trans h81) (by decide) (by decide) rfl (by decide) ?_
          refine q_aload_n hM dX12_triedBy_112 (lv_at hl 0 rfl) ?_
          refine w_getI hM hW FG_X12_474 lb_129 (by decide) (by decide) dX12_triedBy_113 (fun x6796 fx6796 => ?_)
          refine q_istore (lv9 := [(4, .int x6796), (0, .ref (ad 129)), (1, .int wh), (2, .int n), (3, .int what)]) hM dX12_triedBy_116 hl (by decide) rfl (fun ls hl => ?_)
          refine q_goto (tgt := 196) hM dX12_triedBy_118 (by decide) ?_
          refine q_aload_n hM dX12_triedBy_196 (lv_at hl 1 rfl) ?_
          refine q_iconst (v := (0 : Int32)) hM dX12_triedBy_197 (by decide) ?_
          refine q_callV (As := [.int (0 : Int32)]) (rest := []) hM hW.1 hR hC myX12_bringsBack (kAW (v_6_10 (List.mem_of_getElem? (i := 10) rfl)) rfl) (rfl : vwCl[12]? = some (RX12, TX12, 86)) rfl lb_129.1 (shO hW.2.1 lb_129) (a_X12_bringsBack _ _ cA ad g6751 (0 : Int32) hW.2.1 hG (by have := kc_0; omega) (by have := kc_0; omega)) ⟨by decide, by decide⟩ rfl rfl hl.1 (Nat.le_of_ble_eq_true rfl) dX12_triedBy_198 (fun v g6797 H locs hp hW1 => ?_)
          obtain ⟨rfl, hs1, hG, hf1⟩ := hp
          have f6798 : fld g6797 129 31 = .int (0 : Int32) := (hf1.1 129 31 (by omega)).trans f6752
          have f6799 : fld g6797 129 61 = .int x6796 := (hf1.1 129 61 (by omega)).trans fx6796
          have hW : WS ad cA (fun i k => i = 161 ∨ i = 156 ∨ i = 157 ∨ (i = 129 ∧ (k = 42 ∨ k = 43 ∨ k = 44 ∨ k = 45 ∨ k = 46 ∨ k = 47 ∨ k = 48 ∨ k = 49)) ∨ (i = 129 ∧ (k = 2 ∨ k = 57 ∨ k = 58 ∨ k = 61 ∨ k = 62 ∨ k = 63 ∨ k = 64)) ∨ i = 159 ∨ (i = 129 ∧ (k = 56 ∨ k = 65 ∨ k = 66)) ∨ (162 ≤ i ∧ i < 170) ∨ (158 ≤ i ∧ i < 162) ∨ (i = 129 ∧ (k = 31))) g0 K g6797 H locs := ⟨hW1, hs1, hW.2.2.tr hf1 (fun i k h => h.elim (fun h => (Or.inr (Or.inr (Or.inr (Or.inr (Or.inr (Or.inr (Or.inr (Or.inr (Or.inl h)))))))))) (fun h => (by omega)))⟩
          refine q_iload hM dX12_triedBy_201 (lv_at hl 0 rfl) ?_
          exact hE _ _ _ _ _ _ hW.1 ⟨_, rfl, hW.2.1, hG, hW.2.2⟩ dX12_triedBy_203
        · refine q_tableIn (tgt := 121) hM dX12_triedBy_81 ((rfl : what.toInt = _).trans h81) (by decide) (by decide) rfl (by decide) ?_
          refine q_aload_n hM dX12_triedBy_121 (lv_at hl 0 rfl) ?_
          refine w_getI hM hW FG_X12_477 lb_129 (by decide) (by decide) dX12_triedBy_122 (fun x6801 fx6801 => ?_)
          refine q_istore (lv9 := [(4, .int x6801), (0, .ref (ad 129)), (1, .int wh), (2, .int n), (3, .int what)]) hM dX12_triedBy_125 hl (by decide) rfl (fun ls hl => ?_)
          refine q_goto (tgt := 196) hM dX12_triedBy_127 (by decide) ?_
          refine q_aload_n hM dX12_triedBy_196 (lv_at hl 1 rfl) ?_
          refine q_iconst (v := (0 : Int32)) hM dX12_triedBy_197 (by decide) ?_
          refine q_callV (As := [.int (0 : Int32)]) (rest := []) hM hW.1 hR hC myX12_bringsBack (kAW (v_6_10 (List.mem_of_getElem? (i := 10) rfl)) rfl) (rfl : vwCl[12]? = some (RX12, TX12, 86)) rfl lb_129.1 (shO hW.2.1 lb_129) (a_X12_bringsBack _ _ cA ad g6751 (0 : Int32) hW.2.1 hG (by have := kc_0; omega) (by have := kc_0; omega)) ⟨by decide, by decide⟩ rfl rfl hl.1 (Nat.le_of_ble_eq_true rfl) dX12_triedBy_198 (fun v g6802 H locs hp hW1 => ?_)
          obtain ⟨rfl, hs1, hG, hf1⟩ := hp
          have f6803 : fld g6802 129 31 = .int (0 : Int32) := (hf1.1 129 31 (by omega)).trans f6752
          have f6804 : fld g6802 129 62 = .int x6801 := (hf1.1 129 62 (by omega)).trans fx6801
          have hW : WS ad cA (fun i k => i = 161 ∨ i = 156 ∨ i = 157 ∨ (i = 129 ∧ (k = 42 ∨ k = 43 ∨ k = 44 ∨ k = 45 ∨ k = 46 ∨ k = 47 ∨ k = 48 ∨ k = 49)) ∨ (i = 129 ∧ (k = 2 ∨ k = 57 ∨ k = 58 ∨ k = 61 ∨ k = 62 ∨ k = 63 ∨ k = 64)) ∨ i = 159 ∨ (i = 129 ∧ (k = 56 ∨ k = 65 ∨ k = 66)) ∨ (162 ≤ i ∧ i < 170) ∨ (158 ≤ i ∧ i < 162) ∨ (i = 129 ∧ (k = 31))) g0 K g6802 H locs := ⟨hW1, hs1, hW.2.2.tr hf1 (fun i k h => h.elim (fun h => (Or.inr (Or.inr (Or.inr (Or.inr (Or.inr (Or.inr (Or.inr (Or.inr (Or.inl h)))))))))) (fun h => (by omega)))⟩
          refine q_iload hM dX12_triedBy_201 (lv_at hl 0 rfl) ?_
          exact hE _ _ _ _ _ _ hW.1 ⟨_, rfl, hW.2.1, hG, hW.2.2⟩ dX12_triedBy_203
        · refine q_tableIn (tgt := 130) hM dX12_triedBy_81 ((rfl : what.toInt = _).trans h81) (by decide) (by decide) rfl (by decide) ?_
          refine q_aload_n hM dX12_triedBy_130 (lv_at hl 0 rfl) ?_
          refine w_getI hM hW FG_X12_489 lb_129 (by decide) (by decide) dX12_triedBy_131 (fun x6806 fx6806 => ?_)
          refine q_istore (lv9 := [(4, .int x6806), (0, .ref (ad 129)), (1, .int wh), (2, .int n), (3, .int what)]) hM dX12_triedBy_134 hl (by decide) rfl (fun ls hl => ?_)
          refine q_goto (tgt := 196) hM dX12_triedBy_136 (by decide) ?_
          refine q_aload_n hM dX12_triedBy_196 (lv_at hl 1 rfl) ?_
          refine q_iconst (v := (0 : Int32)) hM dX12_triedBy_197 (by decide) ?_
          refine q_callV (As := [.int (0 : Int32)]) (rest := []) hM hW.1 hR hC myX12_bringsBack (kAW (v_6_10 (List.mem_of_getElem? (i := 10) rfl)) rfl) (rfl : vwCl[12]? = some (RX12, TX12, 86)) rfl lb_129.1 (shO hW.2.1 lb_129) (a_X12_bringsBack _ _ cA ad g6751 (0 : Int32) hW.2.1 hG (by have := kc_0; omega) (by have := kc_0; omega)) ⟨by decide, by decide⟩ rfl rfl hl.1 (Nat.le_of_ble_eq_true rfl) dX12_triedBy_198 (fun v g6807 H locs hp hW1 => ?_)
          obtain ⟨rfl, hs1, hG, hf1⟩ := hp
          have f6808 : fld g6807 129 31 = .int (0 : Int32) := (hf1.1 129 31 (by omega)).trans f6752
          have f6809 : fld g6807 129 63 = .int x6806 := (hf1.1 129 63 (by omega)).trans fx6806
          have hW : WS ad cA (fun i k => i = 161 ∨ i = 156 ∨ i = 157 ∨ (i = 129 ∧ (k = 42 ∨ k = 43 ∨ k = 44 ∨ k = 45 ∨ k = 46 ∨ k = 47 ∨ k = 48 ∨ k = 49)) ∨ (i = 129 ∧ (k = 2 ∨ k = 57 ∨ k = 58 ∨ k = 61 ∨ k = 62 ∨ k = 63 ∨ k = 64)) ∨ i = 159 ∨ (i = 129 ∧ (k = 56 ∨ k = 65 ∨ k = 66)) ∨ (162 ≤ i ∧ i < 170) ∨ (158 ≤ i ∧ i < 162) ∨ (i = 129 ∧ (k = 31))) g0 K g6807 H locs := ⟨hW1, hs1, hW.2.2.tr hf1 (fun i k h => h.elim (fun h => (Or.inr (Or.inr (Or.inr (Or.inr (Or.inr (Or.inr (Or.inr (Or.inr (Or.inl h)))))))))) (fun h => (by omega)))⟩
          refine q_iload hM dX12_triedBy_201 (lv_at hl 0 rfl) ?_
          exact hE _ _ _ _ _ _ hW.1 ⟨_, rfl, hW.2.1, hG, hW.2.2⟩ dX12_triedBy_203
        · refine q_tableIn (tgt := 139) hM dX12_triedBy_81 ((rfl : what.toInt = _).trans h81) (by decide) (by decide) rfl (by decide) ?_
          refine q_aload_n hM dX12_triedBy_139 (lv_at hl 0 rfl) ?_
          refine w_getI hM hW FG_X12_468 lb_129 (by decide) (by decide) dX12_triedBy_140 (fun x6811 fx6811 => ?_)
          refine q_istore (lv9 := [(4, .int x6811), (0, .ref (ad 129)), (1, .int wh), (2, .int n), (3, .int what)]) hM dX12_triedBy_143 hl (by decide) rfl (fun ls hl => ?_)
          refine q_goto (tgt := 196) hM dX12_triedBy_145 (by decide) ?_
          refine q_aload_n hM dX12_triedBy_196 (lv_at hl 1 rfl) ?_
          refine q_iconst (v := (0 : Int32)) hM dX12_triedBy_197 (by decide) ?_
          refine q_callV (As := [.int (0 : Int32)]) (rest := []) hM hW.1 hR hC myX12_bringsBack (kAW (v_6_10 (List.mem_of_getElem? (i := 10) rfl)) rfl) (rfl : vwCl[12]? = some (RX12, TX12, 86)) rfl lb_129.1 (shO hW.2.1 lb_129) (a_X12_bringsBack _ _ cA ad g6751 (0 : Int32) hW.2.1 hG (by have := kc_0; omega) (by have := kc_0; omega)) ⟨by decide, by decide⟩ rfl rfl hl.1 (Nat.le_of_ble_eq_true rfl) dX12_triedBy_198 (fun v g6812 H locs hp hW1 => ?_)
          obtain ⟨rfl, hs1, hG, hf1⟩ := hp
          have f6813 : fld g6812 129 31 = .int (0 : Int32) := (hf1.1 129 31 (by omega)).trans f6752
          have f6814 : fld g6812 129 64 = .int x6811 := (hf1.1 129 64 (by omega)).trans fx6811
          have hW : WS ad cA (fun i k => i = 161 ∨ i = 156 ∨ i = 157 ∨ (i = 129 ∧ (k = 42 ∨ k = 43 ∨ k = 44 ∨ k = 45 ∨ k = 46 ∨ k = 47 ∨ k = 48 ∨ k = 49)) ∨ (i = 129 ∧ (k = 2 ∨ k = 57 ∨ k = 58 ∨ k = 61 ∨ k = 62 ∨ k = 63 ∨ k = 64)) ∨ i = 159 ∨ (i = 129 ∧ (k = 56 ∨ k = 65 ∨ k = 66)) ∨ (162 ≤ i ∧ i < 170) ∨ (158 ≤ i ∧ i < 162) ∨ (i = 129 ∧ (k = 31))) g0 K g6812 H locs := ⟨hW1, hs1, hW.2.2.tr hf1 (fun i k h => h.elim (fun h => (Or.inr (Or.inr (Or.inr (Or.inr (Or.inr (Or.inr (Or.inr (Or.inr (Or.inl h)))))))))) (fun h => (by omega)))⟩
          refine q_iload hM dX12_triedBy_201 (lv_at hl 0 rfl) ?_
          exact hE _ _ _ _ _ _ hW.1 ⟨_, rfl, hW.2.1, hG, hW.2.2⟩ dX12_triedBy_203
      · refine q_aload_n hM dX12_triedBy_35 (lv_at hl 0 rfl) ?_
        refine q_iload_n hM dX12_triedBy_36 (lv_at hl 3 rfl) ?_
        refine q_bipush (v := (20 : Int32)) hM dX12_triedBy_37 (by decide) ?_
        refine q_isub hM dX12_triedBy_39 (fun z6816 hz6816 => ?_)
        first | have tz6816 := i_subT hz6816 (rfl : what.toInt = what.toInt) (kc_20 : (20 : Int32).toInt = 20) (by omega) (by omega) | skip
        have wz6816 := i_subW hz6816 (rfl : what.toInt = what.toInt) (kc_20 : (20 : Int32).toInt = 20)
        refine q_callV (As := [.int z6816]) (rest := []) hM hW.1 hR hC myX12_isThat (kAW (v_6_2 (List.mem_of_getElem? (i := 9) rfl)) rfl) (rfl : vwCl[12]? = some (RX12, TX12, 86)) rfl lb_129.1 (shO hW.2.1 lb_129) (a_X12_isThat _ _ cA ad g0 z6816 hW.2.1 hG) ⟨by decide, by decide⟩ rfl rfl hl.1 (Nat.le_of_ble_eq_true rfl) dX12_triedBy_40 (fun v g6818 H locs hp hW1 => ?_)
        obtain ⟨r6817, rfl, hr6817, rfl⟩ := hp
        have hW : WS ad cA (fun i k => i = 161 ∨ i = 156 ∨ i = 157 ∨ (i = 129 ∧ (k = 42 ∨ k = 43 ∨ k = 44 ∨ k = 45 ∨ k = 46 ∨ k = 47 ∨ k = 48 ∨ k = 49)) ∨ (i = 129 ∧ (k = 2 ∨ k = 57 ∨ k = 58 ∨ k = 61 ∨ k = 62 ∨ k = 63 ∨ k = 64)) ∨ i = 159 ∨ (i = 129 ∧ (k = 56 ∨ k = 65 ∨ k = 66)) ∨ (162 ≤ i ∧ i < 170) ∨ (158 ≤ i ∧ i < 162) ∨ (i = 129 ∧ (k = 31))) g0 K g0 H locs := ⟨hW1, hW.2.1, hW.2.2⟩
        refine q_if_ne (tgt := 59) hM dX12_triedBy_43 (by decide) (rfl : r6817.toInt = r6817.toInt) (fun h43 => ?_) (fun h43 => ?_)
        · refine q_aload_n hM dX12_triedBy_59 (lv_at hl 0 rfl) ?_
          refine q_iconst (v := (0 : Int32)) hM dX12_triedBy_60 (by decide) ?_
          refine q_callV (As := [.int (0 : Int32)]) (rest := []) hM hW.1 hR hC myX12_laysAside (kAW (v_6_10 (List.mem_of_getElem? (i := 2) rfl)) rfl) (rfl : vwCl[12]? = some (RX12, TX12, 86)) rfl lb_129.1 (shO hW.2.1 lb_129) (a_X12_laysAside _ _ cA ad g0 (0 : Int32) hW.2.1 hG (by have := kc_0; omega) (by have := kc_0; omega)) ⟨by decide, by decide⟩ rfl rfl hl.1 (Nat.le_of_ble_eq_true rfl) dX12_triedBy_61 (fun v g6820 H locs hp hW1 => ?_)
          obtain ⟨rfl, hs1, hG, hf1⟩ := hp
          have hW : WS ad cA (fun i k => i = 161 ∨ i = 156 ∨ i = 157 ∨ (i = 129 ∧ (k = 42 ∨ k = 43 ∨ k = 44 ∨ k = 45 ∨ k = 46 ∨ k = 47 ∨ k = 48 ∨ k = 49)) ∨ (i = 129 ∧ (k = 2 ∨ k = 57 ∨ k = 58 ∨ k = 61 ∨ k = 62 ∨ k = 63 ∨ k = 64)) ∨ i = 159 ∨ (i = 129 ∧ (k = 56 ∨ k = 65 ∨ k = 66)) ∨ (162 ≤ i ∧ i < 170) ∨ (158 ≤ i ∧ i < 162) ∨ (i = 129 ∧ (k = 31))) g0 K g6820 H locs := ⟨hW1, hs1, hW.2.2.tr hf1 (fun i k h => (Or.inr (Or.inr (Or.inr (Or.inr (Or.inr (Or.inr (Or.inr (Or.inl h)))))))))⟩
          refine q_aload_n hM dX12_triedBy_64 (lv_at hl 0 rfl) ?_
          refine q_iload_n hM dX12_triedBy_65 (lv_at hl 1 rfl) ?_
          refine w_put hM hW FP_X12_402 lb_129 (by omega) (Or.inl ⟨_, rfl⟩) rfl rfl dX12_triedBy_66 (fun g6821 H locs hW e1 e2 => ?_)
          have f6822 : fld g6821 129 31 = .int wh := e1
          have hG := hG.put e1 e2 rF_129_31 (by decide) (by have := i_rng wh; omega) (by have := i_rng wh; omega)
          refine q_aload_n hM dX12_triedBy_69 (lv_at hl 0 rfl) ?_
          refine q_iload_n hM dX12_triedBy_70 (lv_at hl 2 rfl) ?_
          refine q_iconst (v := ((-1) : Int32)) hM dX12_triedBy_71 (by decide) ?_
          refine q_callV (As := [.int n, .int ((-1) : Int32)]) (rest := []) hM hW.1 hR hC myX12_go (kAW (v_6_7 (List.mem_of_getElem? (i := 13) rfl)) rfl) (rfl : vwCl[12]? = some (RX12, TX12, 86)) rfl lb_129.1 (shO hW.2.1 lb_129) (a_X12_go_m _ _ cA ad g6821 n hW.2.1 hG (by have := kc_m1; omega) (LawOK_fr hL hW.2.2 (by omega) (by omega) (by omega) (by omega) (by omega))) ⟨by decide, by decide⟩ rfl rfl hl.1 (Nat.le_of_ble_eq_true rfl) dX12_triedBy_72 (fun v g6823 H locs hp hW1 => ?_)
          obtain ⟨rfl, hs1, hG, hf1⟩ := hp
          have f6824 : fld g6823 129 31 = .int wh := (hf1.1 129 31 (by omega)).trans f6822
          have hW : WS ad cA (fun i k => i = 161 ∨ i = 156 ∨ i = 157 ∨ (i = 129 ∧ (k = 42 ∨ k = 43 ∨ k = 44 ∨ k = 45 ∨ k = 46 ∨ k = 47 ∨ k = 48 ∨ k = 49)) ∨ (i = 129 ∧ (k = 2 ∨ k = 57 ∨ k = 58 ∨ k = 61 ∨ k = 62 ∨ k = 63 ∨ k = 64)) ∨ i = 159 ∨ (i = 129 ∧ (k = 56 ∨ k = 65 ∨ k = 66)) ∨ (162 ≤ i ∧ i < 170) ∨ (158 ≤ i ∧ i < 162) ∨ (i = 129 ∧ (k = 31))) g0 K g6823 H locs := ⟨hW1, hs1, hW.2.2.tr hf1 (fun i k h => h.elim (fun h => (Or.inl h)) (fun h => h.elim (fun h => (Or.inr (Or.inl h))) (fun h => h.elim (fun h => (Or.inr (Or.inr (Or.inl h)))) (fun h => h.elim (fun h => (Or.inr (Or.inr (Or.inr (Or.inl h))))) (fun h => h.elim (fun h => (Or.inr (Or.inr (Or.inr (Or.inr (Or.inl h)))))) (fun h => h.elim (fun h => (Or.inr (Or.inr (Or.inr (Or.inr (Or.inr (Or.inl h))))))) (fun h => (Or.inr (Or.inr (Or.inr (Or.inr (Or.inr (Or.inr (Or.inl h))))))))))))))⟩
          refine q_aload_n hM dX12_triedBy_75 (lv_at hl 0 rfl) ?_
          refine q_iconst (v := (0 : Int32)) hM dX12_triedBy_76 (by decide) ?_
          refine w_put hM hW FP_X12_402 lb_129 (by omega) (Or.inl ⟨_, rfl⟩) rfl rfl dX12_triedBy_77 (fun g6825 H locs hW e1 e2 => ?_)
          have f6826 : fld g6825 129 31 = .int (0 : Int32) := e1
          have hG := hG.put e1 e2 rF_129_31 (by decide) (by have := kc_0; have := i_rng (0 : Int32); omega) (by have := kc_0; have := i_rng (0 : Int32); omega)
          refine q_iload_n hM dX12_triedBy_80 (lv_at hl 3 rfl) ?_
          rcases (show what.toInt < 0 ∨ 3 < what.toInt ∨ what.toInt = 0 ∨ what.toInt = 1 ∨ what.toInt = 2 ∨ what.toInt = 3 from by omega) with h81 | h81 | h81 | h81 | h81 | h81
          · refine q_tableOut (tgt := 148) hM dX12_triedBy_81 rfl (by omega) (by decide) ?_
            refine q_iload_n hM dX12_triedBy_148 (lv_at hl 3 rfl) ?_
            refine q_bipush (v := (20 : Int32)) hM dX12_triedBy_149 (by decide) ?_
            refine q_icmp_ge (tgt := 168) hM dX12_triedBy_151 (by decide) (rfl : what.toInt = what.toInt) (kc_20 : (20 : Int32).toInt = 20) (fun h151 => ?_) (fun h151 => ?_)
            · refine q_iload_n hM dX12_triedBy_168 (lv_at hl 3 rfl) ?_
              refine q_bipush (v := (30 : Int32)) hM dX12_triedBy_169 (by decide) ?_
              refine q_icmp_ge (tgt := 186) hM dX12_triedBy_171 (by decide) (rfl : what.toInt = what.toInt) (kc_30 : (30 : Int32).toInt = 30) (fun h171 => ?_) (fun h171 => ?_)
              · refine q_aload_n hM dX12_triedBy_186 (lv_at hl 0 rfl) ?_
                refine q_iload_n hM dX12_triedBy_187 (lv_at hl 3 rfl) ?_
                refine q_bipush (v := (30 : Int32)) hM dX12_triedBy_188 (by decide) ?_
                refine q_isub hM dX12_triedBy_190 (fun z6830 hz6830 => ?_)
                first | have tz6830 := i_subT hz6830 (rfl : what.toInt = what.toInt) (kc_30 : (30 : Int32).toInt = 30) (by omega) (by omega) | skip
                have wz6830 := i_subW hz6830 (rfl : what.toInt = what.toInt) (kc_30 : (30 : Int32).toInt = 30)
                refine q_callV (As := [.int z6830]) (rest := []) hM hW.1 hR hC myX12_whoKnows (kAW (v_6_10 (List.mem_of_getElem? (i := 6) rfl)) rfl) (rfl : vwCl[12]? = some (RX12, TX12, 86)) rfl lb_129.1 (shO hW.2.1 lb_129) (a_X12_whoKnows _ _ cA ad g6825 z6830 hW.2.1 hG (by  omega) (by  omega)) ⟨by decide, by decide⟩ rfl rfl hl.1 (Nat.le_of_ble_eq_true rfl) dX12_triedBy_191 (fun v g6832 H locs hp hW1 => ?_)
                obtain ⟨r6831, rfl, hr6831, rfl⟩ := hp
                have hW : WS ad cA (fun i k => i = 161 ∨ i = 156 ∨ i = 157 ∨ (i = 129 ∧ (k = 42 ∨ k = 43 ∨ k = 44 ∨ k = 45 ∨ k = 46 ∨ k = 47 ∨ k = 48 ∨ k = 49)) ∨ (i = 129 ∧ (k = 2 ∨ k = 57 ∨ k = 58 ∨ k = 61 ∨ k = 62 ∨ k = 63 ∨ k = 64)) ∨ i = 159 ∨ (i = 129 ∧ (k = 56 ∨ k = 65 ∨ k = 66)) ∨ (162 ≤ i ∧ i < 170) ∨ (158 ≤ i ∧ i < 162) ∨ (i = 129 ∧ (k = 31))) g0 K g6825 H locs := ⟨hW1, hW.2.1, hW.2.2⟩
                refine q_istore (lv9 := [(4, .int r6831), (0, .ref (ad 129)), (1, .int wh), (2, .int n), (3, .int what)]) hM dX12_triedBy_194 hl (by decide) rfl (fun ls hl => ?_)
                refine q_aload_n hM dX12_triedBy_196 (lv_at hl 1 rfl) ?_
                refine q_iconst (v := (0 : Int32)) hM dX12_triedBy_197 (by decide) ?_
                refine q_callV (As := [.int (0 : Int32)]) (rest := []) hM hW.1 hR hC myX12_bringsBack (kAW (v_6_10 (List.mem_of_getElem? (i := 10) rfl)) rfl) (rfl : vwCl[12]? = some (RX12, TX12, 86)) rfl lb_129.1 (shO hW.2.1 lb_129) (a_X12_bringsBack _ _ cA ad g6825 (0 : Int32) hW.2.1 hG (by have := kc_0; omega) (by have := kc_0; omega)) ⟨by decide, by decide⟩ rfl rfl hl.1 (Nat.le_of_ble_eq_true rfl) dX12_triedBy_198 (fun v g6833 H locs hp hW1 => ?_)
                obtain ⟨rfl, hs1, hG, hf1⟩ := hp
                have f6834 : fld g6833 129 31 = .int (0 : Int32) := (hf1.1 129 31 (by omega)).trans f6826
                have hW : WS ad cA (fun i k => i = 161 ∨ i = 156 ∨ i = 157 ∨ (i = 129 ∧ (k = 42 ∨ k = 43 ∨ k = 44 ∨ k = 45 ∨ k = 46 ∨ k = 47 ∨ k = 48 ∨ k = 49)) ∨ (i = 129 ∧ (k = 2 ∨ k = 57 ∨ k = 58 ∨ k = 61 ∨ k = 62 ∨ k = 63 ∨ k = 64)) ∨ i = 159 ∨ (i = 129 ∧ (k = 56 ∨ k = 65 ∨ k = 66)) ∨ (162 ≤ i ∧ i < 170) ∨ (158 ≤ i ∧ i < 162) ∨ (i = 129 ∧ (k = 31))) g0 K g6833 H locs := ⟨hW1, hs1, hW.2.2.tr hf1 (fun i k h => h.elim (fun h => (Or.inr (Or.inr (Or.inr (Or.inr (Or.inr (Or.inr (Or.inr (Or.inr (Or.inl h)))))))))) (fun h => (by omega)))⟩
                refine q_iload hM dX12_triedBy_201 (lv_at hl 0 rfl) ?_
                exact hE _ _ _ _ _ _ hW.1 ⟨_, rfl, hW.2.1, hG, hW.2.2⟩ dX12_triedBy_203
              · refine q_aload_n hM dX12_triedBy_174 (lv_at hl 0 rfl) ?_
                refine w_get (v := .ref (ad 159)) hM hW FG_X12_103 lb_129 (rf_129_53 hW.2.1) dX12_triedBy_175 ?_
                refine q_iload_n hM dX12_triedBy_178 (lv_at hl 3 rfl) ?_
                refine q_bipush (v := (20 : Int32)) hM dX12_triedBy_179 (by decide) ?_
                refine q_isub hM dX12_triedBy_181 (fun z6836 hz6836 => ?_)
                first | have tz6836 := i_subT hz6836 (rfl : what.toInt = what.toInt) (kc_20 : (20 : Int32).toInt = 20) (by omega) (by omega) | skip
                have wz6836 := i_subW hz6836 (rfl : what.toInt = what.toInt) (kc_20 : (20 : Int32).toInt = 20)
                refine w_iald hM hW lb_159 (i_in (by omega) (by omega)) dX12_triedBy_182 ?_
                refine q_top (fun y6837 hy6837 => ?_)
                have by6837 := hG.a hy6837 rA_159
                refine q_goto (tgt := 194) hM dX12_triedBy_183 (by decide) ?_
                refine q_istore (lv9 := [(4, .int y6837), (0, .ref (ad 129)), (1, .int wh), (2, .int n), (3, .int what)]) hM dX12_triedBy_194 hl (by decide) rfl (fun ls hl => ?_)
                refine q_aload_n hM dX12_triedBy_196 (lv_at hl 1 rfl) ?_
                refine q_iconst (v := (0 : Int32)) hM dX12_triedBy_197 (by decide) ?_
                refine q_callV (As := [.int (0 : Int32)]) (rest := []) hM hW.1 hR hC myX12_bringsBack (kAW (v_6_10 (List.mem_of_getElem? (i := 10) rfl)) rfl) (rfl : vwCl[12]? = some (RX12, TX12, 86)) rfl lb_129.1 (shO hW.2.1 lb_129) (a_X12_bringsBack _ _ cA ad g6825 (0 : Int32) hW.2.1 hG (by have := kc_0; omega) (by have := kc_0; omega)) ⟨by decide, by decide⟩ rfl rfl hl.1 (Nat.le_of_ble_eq_true rfl) dX12_triedBy_198 (fun v g6838 H locs hp hW1 => ?_)
                obtain ⟨rfl, hs1, hG, hf1⟩ := hp
                have f6839 : fld g6838 129 31 = .int (0 : Int32) := (hf1.1 129 31 (by omega)).trans f6826
                have hW : WS ad cA (fun i k => i = 161 ∨ i = 156 ∨ i = 157 ∨ (i = 129 ∧ (k = 42 ∨ k = 43 ∨ k = 44 ∨ k = 45 ∨ k = 46 ∨ k = 47 ∨ k = 48 ∨ k = 49)) ∨ (i = 129 ∧ (k = 2 ∨ k = 57 ∨ k = 58 ∨ k = 61 ∨ k = 62 ∨ k = 63 ∨ k = 64)) ∨ i = 159 ∨ (i = 129 ∧ (k = 56 ∨ k = 65 ∨ k = 66)) ∨ (162 ≤ i ∧ i < 170) ∨ (158 ≤ i ∧ i < 162) ∨ (i = 129 ∧ (k = 31))) g0 K g6838 H locs := ⟨hW1, hs1, hW.2.2.tr hf1 (fun i k h => h.elim (fun h => (Or.inr (Or.inr (Or.inr (Or.inr (Or.inr (Or.inr (Or.inr (Or.inr (Or.inl h)))))))))) (fun h => (by omega)))⟩
                refine q_iload hM dX12_triedBy_201 (lv_at hl 0 rfl) ?_
                exact hE _ _ _ _ _ _ hW.1 ⟨_, rfl, hW.2.1, hG, hW.2.2⟩ dX12_triedBy_203
            · refine q_aload_n hM dX12_triedBy_154 (lv_at hl 0 rfl) ?_
              refine q_iload_n hM dX12_triedBy_155 (lv_at hl 3 rfl) ?_
              refine q_bipush (v := (10 : Int32)) hM dX12_triedBy_156 (by decide) ?_
              refine q_isub hM dX12_triedBy_158 (fun z6841 hz6841 => ?_)
              first | have tz6841 := i_subT hz6841 (rfl : what.toInt = what.toInt) (kc_10 : (10 : Int32).toInt = 10) (by omega) (by omega) | skip
              have wz6841 := i_subW hz6841 (rfl : what.toInt = what.toInt) (kc_10 : (10 : Int32).toInt = 10)
              refine q_callV (As := [.int z6841]) (rest := []) hM hW.1 hR hC myX12_knownBy (kAW (v_6_4 (List.mem_of_getElem? (i := 11) rfl)) rfl) (rfl : vwCl[12]? = some (RX12, TX12, 86)) rfl lb_129.1 (shO hW.2.1 lb_129) (a_X12_knownBy _ _ cA ad g6825 z6841 hW.2.1 hG (by  omega) (by  omega)) ⟨by decide, by decide⟩ rfl rfl hl.1 (Nat.le_of_ble_eq_true rfl) dX12_triedBy_159 (fun v g6843 H locs hp hW1 => ?_)
              obtain ⟨r6842, rfl, hr6842, rfl⟩ := hp
              have hW : WS ad cA (fun i k => i = 161 ∨ i = 156 ∨ i = 157 ∨ (i = 129 ∧ (k = 42 ∨ k = 43 ∨ k = 44 ∨ k = 45 ∨ k = 46 ∨ k = 47 ∨ k = 48 ∨ k = 49)) ∨ (i = 129 ∧ (k = 2 ∨ k = 57 ∨ k = 58 ∨ k = 61 ∨ k = 62 ∨ k = 63 ∨ k = 64)) ∨ i = 159 ∨ (i = 129 ∧ (k = 56 ∨ k = 65 ∨ k = 66)) ∨ (162 ≤ i ∧ i < 170) ∨ (158 ≤ i ∧ i < 162) ∨ (i = 129 ∧ (k = 31))) g0 K g6825 H locs := ⟨hW1, hW.2.1, hW.2.2⟩
              refine q_callS (As := [.int r6842]) (rest := []) hM hW.1 hR hC myX12_sizeOf (kAW (v_5_6 (List.mem_of_getElem? (i := 14) rfl)) rfl) (a_X12_sizeOf _ _ cA ad g6825 r6842 hW.2.1 hG (by  omega)) ⟨by decide, by decide⟩ rfl rfl hl.1 (Nat.le_of_ble_eq_true rfl) dX12_triedBy_162 (fun v g6845 H locs hp hW1 => ?_)
              obtain ⟨r6844, rfl, hr6844, rfl⟩ := hp
              have hW : WS ad cA (fun i k => i = 161 ∨ i = 156 ∨ i = 157 ∨ (i = 129 ∧ (k = 42 ∨ k = 43 ∨ k = 44 ∨ k = 45 ∨ k = 46 ∨ k = 47 ∨ k = 48 ∨ k = 49)) ∨ (i = 129 ∧ (k = 2 ∨ k = 57 ∨ k = 58 ∨ k = 61 ∨ k = 62 ∨ k = 63 ∨ k = 64)) ∨ i = 159 ∨ (i = 129 ∧ (k = 56 ∨ k = 65 ∨ k = 66)) ∨ (162 ≤ i ∧ i < 170) ∨ (158 ≤ i ∧ i < 162) ∨ (i = 129 ∧ (k = 31))) g0 K g6825 H locs := ⟨hW1, hW.2.1, hW.2.2⟩
              refine q_goto (tgt := 194) hM dX12_triedBy_165 (by decide) ?_
              refine q_istore (lv9 := [(4, .int r6844), (0, .ref (ad 129)), (1, .int wh), (2, .int n), (3, .int what)]) hM dX12_triedBy_194 hl (by decide) rfl (fun ls hl => ?_)
              refine q_aload_n hM dX12_triedBy_196 (lv_at hl 1 rfl) ?_
              refine q_iconst (v := (0 : Int32)) hM dX12_triedBy_197 (by decide) ?_
              refine q_callV (As := [.int (0 : Int32)]) (rest := []) hM hW.1 hR hC myX12_bringsBack (kAW (v_6_10 (List.mem_of_getElem? (i := 10) rfl)) rfl) (rfl : vwCl[12]? = some (RX12, TX12, 86)) rfl lb_129.1 (shO hW.2.1 lb_129) (a_X12_bringsBack _ _ cA ad g6825 (0 : Int32) hW.2.1 hG (by have := kc_0; omega) (by have := kc_0; omega)) ⟨by decide, by decide⟩ rfl rfl hl.1 (Nat.le_of_ble_eq_true rfl) dX12_triedBy_198 (fun v g6846 H locs hp hW1 => ?_)
              obtain ⟨rfl, hs1, hG, hf1⟩ := hp
              have f6847 : fld g6846 129 31 = .int (0 : Int32) := (hf1.1 129 31 (by omega)).trans f6826
              have hW : WS ad cA (fun i k => i = 161 ∨ i = 156 ∨ i = 157 ∨ (i = 129 ∧ (k = 42 ∨ k = 43 ∨ k = 44 ∨ k = 45 ∨ k = 46 ∨ k = 47 ∨ k = 48 ∨ k = 49)) ∨ (i = 129 ∧ (k = 2 ∨ k = 57 ∨ k = 58 ∨ k = 61 ∨ k = 62 ∨ k = 63 ∨ k = 64)) ∨ i = 159 ∨ (i = 129 ∧ (k = 56 ∨ k = 65 ∨ k = 66)) ∨ (162 ≤ i ∧ i < 170) ∨ (158 ≤ i ∧ i < 162) ∨ (i = 129 ∧ (k = 31))) g0 K g6846 H locs := ⟨hW1, hs1, hW.2.2.tr hf1 (fun i k h => h.elim (fun h => (Or.inr (Or.inr (Or.inr (Or.inr (Or.inr (Or.inr (Or.inr (Or.inr (Or.inl h)))))))))) (fun h => (by omega)))⟩
              refine q_iload hM dX12_triedBy_201 (lv_at hl 0 rfl) ?_
              exact hE _ _ _ _ _ _ hW.1 ⟨_, rfl, hW.2.1, hG, hW.2.2⟩ dX12_triedBy_203
          · refine q_tableOut (tgt := 148) hM dX12_triedBy_81 rfl (by omega) (by decide) ?_
            refine q_iload_n hM dX12_triedBy_148 (lv_at hl 3 rfl) ?_
            refine q_bipush (v := (20 : Int32)) hM dX12_triedBy_149 (by decide) ?_
            refine q_icmp_ge (tgt := 168) hM dX12_triedBy_151 (by decide) (rfl : what.toInt = what.toInt) (kc_20 : (20 : Int32).toInt = 20) (fun h151 => ?_) (fun h151 => ?_)
            · refine q_iload_n hM dX12_triedBy_168 (lv_at hl 3 rfl) ?_
              refine q_bipush (v := (30 : Int32)) hM dX12_triedBy_169 (by decide) ?_
              refine q_icmp_ge (tgt := 186) hM dX12_triedBy_171 (by decide) (rfl : what.toInt = what.toInt) (kc_30 : (30 : Int32).toInt = 30) (fun h171 => ?_) (fun h171 => ?_)
              · refine q_aload_n hM dX12_triedBy_186 (lv_at hl 0 rfl) ?_
                refine q_iload_n hM dX12_triedBy_187 (lv_at hl 3 rfl) ?_
                refine q_bipush (v := (30 : Int32)) hM dX12_triedBy_188 (by decide) ?_
                refine q_isub hM dX12_triedBy_190 (fun z6851 hz6851 => ?_)
                first | have tz6851 := i_subT hz6851 (rfl : what.toInt = what.toInt) (kc_30 : (30 : Int32).toInt = 30) (by omega) (by omega) | skip
                have wz6851 := i_subW hz6851 (rfl : what.toInt = what.toInt) (kc_30 : (30 : Int32).toInt = 30)
                refine q_callV (As := [.int z6851]) (rest := []) hM hW.1 hR hC myX12_whoKnows (kAW (v_6_10 (List.mem_of_getElem? (i := 6) rfl)) rfl) (rfl : vwCl[12]? = some (RX12, TX12, 86)) rfl lb_129.1 (shO hW.2.1 lb_129) (a_X12_whoKnows _ _ cA ad g6825 z6851 hW.2.1 hG (by  omega) (by  omega)) ⟨by decide, by decide⟩ rfl rfl hl.1 (Nat.le_of_ble_eq_true rfl) dX12_triedBy_191 (fun v g6853 H locs hp hW1 => ?_)
                obtain ⟨r6852, rfl, hr6852, rfl⟩ := hp
                have hW : WS ad cA (fun i k => i = 161 ∨ i = 156 ∨ i = 157 ∨ (i = 129 ∧ (k = 42 ∨ k = 43 ∨ k = 44 ∨ k = 45 ∨ k = 46 ∨ k = 47 ∨ k = 48 ∨ k = 49)) ∨ (i = 129 ∧ (k = 2 ∨ k = 57 ∨ k = 58 ∨ k = 61 ∨ k = 62 ∨ k = 63 ∨ k = 64)) ∨ i = 159 ∨ (i = 129 ∧ (k = 56 ∨ k = 65 ∨ k = 66)) ∨ (162 ≤ i ∧ i < 170) ∨ (158 ≤ i ∧ i < 162) ∨ (i = 129 ∧ (k = 31))) g0 K g6825 H locs := ⟨hW1, hW.2.1, hW.2.2⟩
                refine q_istore (lv9 := [(4, .int r6852), (0, .ref (ad 129)), (1, .int wh), (2, .int n), (3, .int what)]) hM dX12_triedBy_194 hl (by decide) rfl (fun ls hl => ?_)
                refine q_aload_n hM dX12_triedBy_196 (lv_at hl 1 rfl) ?_
                refine q_iconst (v := (0 : Int32)) hM dX12_triedBy_197 (by decide) ?_
                refine q_callV (As := [.int (0 : Int32)]) (rest := []) hM hW.1 hR hC myX12_bringsBack (kAW (v_6_10 (List.mem_of_getElem? (i := 10) rfl)) rfl) (rfl : vwCl[12]? = some (RX12, TX12, 86)) rfl lb_129.1 (shO hW.2.1 lb_129) (a_X12_bringsBack _ _ cA ad g6825 (0 : Int32) hW.2.1 hG (by have := kc_0; omega) (by have := kc_0; omega)) ⟨by decide, by decide⟩ rfl rfl hl.1 (Nat.le_of_ble_eq_true rfl) dX12_triedBy_198 (fun v g6854 H locs hp hW1 => ?_)
                obtain ⟨rfl, hs1, hG, hf1⟩ := hp
                have f6855 : fld g6854 129 31 = .int (0 : Int32) := (hf1.1 129 31 (by omega)).trans f6826
                have hW : WS ad cA (fun i k => i = 161 ∨ i = 156 ∨ i = 157 ∨ (i = 129 ∧ (k = 42 ∨ k = 43 ∨ k = 44 ∨ k = 45 ∨ k = 46 ∨ k = 47 ∨ k = 48 ∨ k = 49)) ∨ (i = 129 ∧ (k = 2 ∨ k = 57 ∨ k = 58 ∨ k = 61 ∨ k = 62 ∨ k = 63 ∨ k = 64)) ∨ i = 159 ∨ (i = 129 ∧ (k = 56 ∨ k = 65 ∨ k = 66)) ∨ (162 ≤ i ∧ i < 170) ∨ (158 ≤ i ∧ i < 162) ∨ (i = 129 ∧ (k = 31))) g0 K g6854 H locs := ⟨hW1, hs1, hW.2.2.tr hf1 (fun i k h => h.elim (fun h => (Or.inr (Or.inr (Or.inr (Or.inr (Or.inr (Or.inr (Or.inr (Or.inr (Or.inl h)))))))))) (fun h => (by omega)))⟩
                refine q_iload hM dX12_triedBy_201 (lv_at hl 0 rfl) ?_
                exact hE _ _ _ _ _ _ hW.1 ⟨_, rfl, hW.2.1, hG, hW.2.2⟩ dX12_triedBy_203
              · refine q_aload_n hM dX12_triedBy_174 (lv_at hl 0 rfl) ?_
                refine w_get (v := .ref (ad 159)) hM hW FG_X12_103 lb_129 (rf_129_53 hW.2.1) dX12_triedBy_175 ?_
                refine q_iload_n hM dX12_triedBy_178 (lv_at hl 3 rfl) ?_
                refine q_bipush (v := (20 : Int32)) hM dX12_triedBy_179 (by decide) ?_
                refine q_isub hM dX12_triedBy_181 (fun z6857 hz6857 => ?_)
                first | have tz6857 := i_subT hz6857 (rfl : what.toInt = what.toInt) (kc_20 : (20 : Int32).toInt = 20) (by omega) (by omega) | skip
                have wz6857 := i_subW hz6857 (rfl : what.toInt = what.toInt) (kc_20 : (20 : Int32).toInt = 20)
                refine w_iald hM hW lb_159 (i_in (by omega) (by omega)) dX12_triedBy_182 ?_
                refine q_top (fun y6858 hy6858 => ?_)
                have by6858 := hG.a hy6858 rA_159
                refine q_goto (tgt := 194) hM dX12_triedBy_183 (by decide) ?_
                refine q_istore (lv9 := [(4, .int y6858), (0, .ref (ad 129)), (1, .int wh), (2, .int n), (3, .int what)]) hM dX12_triedBy_194 hl (by decide) rfl (fun ls hl => ?_)
                refine q_aload_n hM dX12_triedBy_196 (lv_at hl 1 rfl) ?_
                refine q_iconst (v := (0 : Int32)) hM dX12_triedBy_197 (by decide) ?_
                refine q_callV (As := [.int (0 : Int32)]) (rest := []) hM hW.1 hR hC myX12_bringsBack (kAW (v_6_10 (List.mem_of_getElem? (i := 10) rfl)) rfl) (rfl : vwCl[12]? = some (RX12, TX12, 86)) rfl lb_129.1 (shO hW.2.1 lb_129) (a_X12_bringsBack _ _ cA ad g6825 (0 : Int32) hW.2.1 hG (by have := kc_0; omega) (by have := kc_0; omega)) ⟨by decide, by decide⟩ rfl rfl hl.1 (Nat.le_of_ble_eq_true rfl) dX12_triedBy_198 (fun v g6859 H locs hp hW1 => ?_)
                obtain ⟨rfl, hs1, hG, hf1⟩ := hp
                have f6860 : fld g6859 129 31 = .int (0 : Int32) := (hf1.1 129 31 (by omega)).trans f6826
                have hW : WS ad cA (fun i k => i = 161 ∨ i = 156 ∨ i = 157 ∨ (i = 129 ∧ (k = 42 ∨ k = 43 ∨ k = 44 ∨ k = 45 ∨ k = 46 ∨ k = 47 ∨ k = 48 ∨ k = 49)) ∨ (i = 129 ∧ (k = 2 ∨ k = 57 ∨ k = 58 ∨ k = 61 ∨ k = 62 ∨ k = 63 ∨ k = 64)) ∨ i = 159 ∨ (i = 129 ∧ (k = 56 ∨ k = 65 ∨ k = 66)) ∨ (162 ≤ i ∧ i < 170) ∨ (158 ≤ i ∧ i < 162) ∨ (i = 129 ∧ (k = 31))) g0 K g6859 H locs := ⟨hW1, hs1, hW.2.2.tr hf1 (fun i k h => h.elim (fun h => (Or.inr (Or.inr (Or.inr (Or.inr (Or.inr (Or.inr (Or.inr (Or.inr (Or.inl h)))))))))) (fun h => (by omega)))⟩
                refine q_iload hM dX12_triedBy_201 (lv_at hl 0 rfl) ?_
                exact hE _ _ _ _ _ _ hW.1 ⟨_, rfl, hW.2.1, hG, hW.2.2⟩ dX12_triedBy_203
            · refine q_aload_n hM dX12_triedBy_154 (lv_at hl 0 rfl) ?_
              refine q_iload_n hM dX12_triedBy_155 (lv_at hl 3 rfl) ?_
              refine q_bipush (v := (10 : Int32)) hM dX12_triedBy_156 (by decide) ?_
              refine q_isub hM dX12_triedBy_158 (fun z6862 hz6862 => ?_)
              first | have tz6862 := i_subT hz6862 (rfl : what.toInt = what.toInt) (kc_10 : (10 : Int32).toInt = 10) (by omega) (by omega) | skip
              have wz6862 := i_subW hz6862 (rfl : what.toInt = what.toInt) (kc_10 : (10 : Int32).toInt = 10)
              refine q_callV (As := [.int z6862]) (rest := []) hM hW.1 hR hC myX12_knownBy (kAW (v_6_4 (List.mem_of_getElem? (i := 11) rfl)) rfl) (rfl : vwCl[12]? = some (RX12, TX12, 86)) rfl lb_129.1 (shO hW.2.1 lb_129) (a_X12_knownBy _ _ cA ad g6825 z6862 hW.2.1 hG (by  omega) (by  omega)) ⟨by decide, by decide⟩ rfl rfl hl.1 (Nat.le_of_ble_eq_true rfl) dX12_triedBy_159 (fun v g6864 H locs hp hW1 => ?_)
              obtain ⟨r6863, rfl, hr6863, rfl⟩ := hp
              have hW : WS ad cA (fun i k => i = 161 ∨ i = 156 ∨ i = 157 ∨ (i = 129 ∧ (k = 42 ∨ k = 43 ∨ k = 44 ∨ k = 45 ∨ k = 46 ∨ k = 47 ∨ k = 48 ∨ k = 49)) ∨ (i = 129 ∧ (k = 2 ∨ k = 57 ∨ k = 58 ∨ k = 61 ∨ k = 62 ∨ k = 63 ∨ k = 64)) ∨ i = 159 ∨ (i = 129 ∧ (k = 56 ∨ k = 65 ∨ k = 66)) ∨ (162 ≤ i ∧ i < 170) ∨ (158 ≤ i ∧ i < 162) ∨ (i = 129 ∧ (k = 31))) g0 K g6825 H locs := ⟨hW1, hW.2.1, hW.2.2⟩
              refine q_callS (As := [.int r6863]) (rest := []) hM hW.1 hR hC myX12_sizeOf (kAW (v_5_6 (List.mem_of_getElem? (i := 14) rfl)) rfl) (a_X12_sizeOf _ _ cA ad g6825 r6863 hW.2.1 hG (by  omega)) ⟨by decide, by decide⟩ rfl rfl hl.1 (Nat.le_of_ble_eq_true rfl) dX12_triedBy_162 (fun v g6866 H locs hp hW1 => ?_)
              obtain ⟨r6865, rfl, hr6865, rfl⟩ := hp
              have hW : WS ad cA (fun i k => i = 161 ∨ i = 156 ∨ i = 157 ∨ (i = 129 ∧ (k = 42 ∨ k = 43 ∨ k = 44 ∨ k = 45 ∨ k = 46 ∨ k = 47 ∨ k = 48 ∨ k = 49)) ∨ (i = 129 ∧ (k = 2 ∨ k = 57 ∨ k = 58 ∨ k = 61 ∨ k = 62 ∨ k = 63 ∨ k = 64)) ∨ i = 159 ∨ (i = 129 ∧ (k = 56 ∨ k = 65 ∨ k = 66)) ∨ (162 ≤ i ∧ i < 170) ∨ (158 ≤ i ∧ i < 162) ∨ (i = 129 ∧ (k = 31))) g0 K g6825 H locs := ⟨hW1, hW.2.1, hW.2.2⟩
              refine q_goto (tgt := 194) hM dX12_triedBy_165 (by decide) ?_
              refine q_istore (lv9 := [(4, .int r6865), (0, .ref (ad 129)), (1, .int wh), (2, .int n), (3, .int what)]) hM dX12_triedBy_194 hl (by decide) rfl (fun ls hl => ?_)
              refine q_aload_n hM dX12_triedBy_196 (lv_at hl 1 rfl) ?_
              refine q_iconst (v := (0 : Int32)) hM dX12_triedBy_197 (by decide) ?_
              refine q_callV (As := [.int (0 : Int32)]) (rest := []) hM hW.1 hR hC myX12_bringsBack (kAW (v_6_10 (List.mem_of_getElem? (i := 10) rfl)) rfl) (rfl : vwCl[12]? = some (RX12, TX12, 86)) rfl lb_129.1 (shO hW.2.1 lb_129) (a_X12_bringsBack _ _ cA ad g6825 (0 : Int32) hW.2.1 hG (by have := kc_0; omega) (by have := kc_0; omega)) ⟨by decide, by decide⟩ rfl rfl hl.1 (Nat.le_of_ble_eq_true rfl) dX12_triedBy_198 (fun v g6867 H locs hp hW1 => ?_)
              obtain ⟨rfl, hs1, hG, hf1⟩ := hp
              have f6868 : fld g6867 129 31 = .int (0 : Int32) := (hf1.1 129 31 (by omega)).trans f6826
              have hW : WS ad cA (fun i k => i = 161 ∨ i = 156 ∨ i = 157 ∨ (i = 129 ∧ (k = 42 ∨ k = 43 ∨ k = 44 ∨ k = 45 ∨ k = 46 ∨ k = 47 ∨ k = 48 ∨ k = 49)) ∨ (i = 129 ∧ (k = 2 ∨ k = 57 ∨ k = 58 ∨ k = 61 ∨ k = 62 ∨ k = 63 ∨ k = 64)) ∨ i = 159 ∨ (i = 129 ∧ (k = 56 ∨ k = 65 ∨ k = 66)) ∨ (162 ≤ i ∧ i < 170) ∨ (158 ≤ i ∧ i < 162) ∨ (i = 129 ∧ (k = 31))) g0 K g6867 H locs := ⟨hW1, hs1, hW.2.2.tr hf1 (fun i k h => h.elim (fun h => (Or.inr (Or.inr (Or.inr (Or.inr (Or.inr (Or.inr (Or.inr (Or.inr (Or.inl h)))))))))) (fun h => (by omega)))⟩
              refine q_iload hM dX12_triedBy_201 (lv_at hl 0 rfl) ?_
              exact hE _ _ _ _ _ _ hW.1 ⟨_, rfl, hW.2.1, hG, hW.2.2⟩ dX12_triedBy_203
          · refine q_tableIn (tgt := 112) hM dX12_triedBy_81 ((rfl : what.toInt = _).trans h81) (by decide) (by decide) rfl (by decide) ?_
            refine q_aload_n hM dX12_triedBy_112 (lv_at hl 0 rfl) ?_
            refine w_getI hM hW FG_X12_474 lb_129 (by decide) (by decide) dX12_triedBy_113 (fun x6870 fx6870 => ?_)
            refine q_istore (lv9 := [(4, .int x6870), (0, .ref (ad 129)), (1, .int wh), (2, .int n), (3, .int what)]) hM dX12_triedBy_116 hl (by decide) rfl (fun ls hl => ?_)
            refine q_goto (tgt := 196) hM dX12_triedBy_118 (by decide) ?_
            refine q_aload_n hM dX12_triedBy_196 (lv_at hl 1 rfl) ?_
            refine q_iconst (v := (0 : Int32)) hM dX12_triedBy_197 (by decide) ?_
            refine q_callV (As := [.int (0 : Int32)]) (rest := []) hM hW.1 hR hC myX12_bringsBack (kAW (v_6_10 (List.mem_of_getElem? (i := 10) rfl)) rfl) (rfl : vwCl[12]? = some (RX12, TX12, 86)) rfl lb_129.1 (shO hW.2.1 lb_129) (a_X12_bringsBack _ _ cA ad g6825 (0 : Int32) hW.2.1 hG (by have := kc_0; omega) (by have := kc_0; omega)) ⟨by decide, by decide⟩ rfl rfl hl.1 (Nat.le_of_ble_eq_true rfl) dX12_triedBy_198 (fun v g6871 H locs hp hW1 => ?_)
            obtain ⟨rfl, hs1, hG, hf1⟩ := hp
            have f6872 : fld g6871 129 31 = .int (0 : Int32) := (hf1.1 129 31 (by omega)).trans f6826
            have f6873 : fld g6871 129 61 = .int x6870 := (hf1.1 129 61 (by omega)).trans fx6870
            have hW : WS ad cA (fun i k => i = 161 ∨ i = 156 ∨ i = 157 ∨ (i = 129 ∧ (k = 42 ∨ k = 43 ∨ k = 44 ∨ k = 45 ∨ k = 46 ∨ k = 47 ∨ k = 48 ∨ k = 49)) ∨ (i = 129 ∧ (k = 2 ∨ k = 57 ∨ k = 58 ∨ k = 61 ∨ k = 62 ∨ k = 63 ∨ k = 64)) ∨ i = 159 ∨ (i = 129 ∧ (k = 56 ∨ k = 65 ∨ k = 66)) ∨ (162 ≤ i ∧ i < 170) ∨ (158 ≤ i ∧ i < 162) ∨ (i = 129 ∧ (k = 31))) g0 K g6871 H locs := ⟨hW1, hs1, hW.2.2.tr hf1 (fun i k h => h.elim (fun h => (Or.inr (Or.inr (Or.inr (Or.inr (Or.inr (Or.inr (Or.inr (Or.inr (Or.inl h)))))))))) (fun h => (by omega)))⟩
            refine q_iload hM dX12_triedBy_201 (lv_at hl 0 rfl) ?_
            exact hE _ _ _ _ _ _ hW.1 ⟨_, rfl, hW.2.1, hG, hW.2.2⟩ dX12_triedBy_203
          · refine q_tableIn (tgt := 121) hM dX12_triedBy_81 ((rfl : what.toInt = _).trans h81) (by decide) (by decide) rfl (by decide) ?_
            refine q_aload_n hM dX12_triedBy_121 (lv_at hl 0 rfl) ?_
            refine w_getI hM hW FG_X12_477 lb_129 (by decide) (by decide) dX12_triedBy_122 (fun x6875 fx6875 => ?_)
            refine q_istore (lv9 := [(4, .int x6875), (0, .ref (ad 129)), (1, .int wh), (2, .int n), (3, .int what)]) hM dX12_triedBy_125 hl (by decide) rfl (fun ls hl => ?_)
            refine q_goto (tgt := 196) hM dX12_triedBy_127 (by decide) ?_
            refine q_aload_n hM dX12_triedBy_196 (lv_at hl 1 rfl) ?_
            refine q_iconst (v := (0 : Int32)) hM dX12_triedBy_197 (by decide) ?_
            refine q_callV (As := [.int (0 : Int32)]) (rest := []) hM hW.1 hR hC myX12_bringsBack (kAW (v_6_10 (List.mem_of_getElem? (i := 10) rfl)) rfl) (rfl : vwCl[12]? = some (RX12, TX12, 86)) rfl lb_129.1 (shO hW.2.1 lb_129) (a_X12_bringsBack _ _ cA ad g6825 (0 : Int32) hW.2.1 hG (by have := kc_0; omega) (by have := kc_0; omega)) ⟨by decide, by decide⟩ rfl rfl hl.1 (Nat.le_of_ble_eq_true rfl) dX12_triedBy_198 (fun v g6876 H locs hp hW1 => ?_)
            obtain ⟨rfl, hs1, hG, hf1⟩ := hp
            have f6877 : fld g6876 129 31 = .int (0 : Int32) := (hf1.1 129 31 (by omega)).trans f6826
            have f6878 : fld g6876 129 62 = .int x6875 := (hf1.1 129 62 (by omega)).trans fx6875
            have hW : WS ad cA (fun i k => i = 161 ∨ i = 156 ∨ i = 157 ∨ (i = 129 ∧ (k = 42 ∨ k = 43 ∨ k = 44 ∨ k = 45 ∨ k = 46 ∨ k = 47 ∨ k = 48 ∨ k = 49)) ∨ (i = 129 ∧ (k = 2 ∨ k = 57 ∨ k = 58 ∨ k = 61 ∨ k = 62 ∨ k = 63 ∨ k = 64)) ∨ i = 159 ∨ (i = 129 ∧ (k = 56 ∨ k = 65 ∨ k = 66)) ∨ (162 ≤ i ∧ i < 170) ∨ (158 ≤ i ∧ i < 162) ∨ (i = 129 ∧ (k = 31))) g0 K g6876 H locs := ⟨hW1, hs1, hW.2.2.tr hf1 (fun i k h => h.elim (fun h => (Or.inr (Or.inr (Or.inr (Or.inr (Or.inr (Or.inr (Or.inr (Or.inr (Or.inl h)))))))))) (fun h => (by omega)))⟩
            refine q_iload hM dX12_triedBy_201 (lv_at hl 0 rfl) ?_
            exact hE _ _ _ _ _ _ hW.1 ⟨_, rfl, hW.2.1, hG, hW.2.2⟩ dX12_triedBy_203
          · refine q_tableIn (tgt := 130) hM dX12_triedBy_81 ((rfl : what.toInt = _).trans h81) (by decide) (by decide) rfl (by decide) ?_
            refine q_aload_n hM dX12_triedBy_130 (lv_at hl 0 rfl) ?_
            refine w_getI hM hW FG_X12_489 lb_129 (by decide) (by decide) dX12_triedBy_131 (fun x6880 fx6880 => ?_)
            refine q_istore (lv9 := [(4, .int x6880), (0, .ref (ad 129)), (1, .int wh), (2, .int n), (3, .int what)]) hM dX12_triedBy_134 hl (by decide) rfl (fun ls hl => ?_)
            refine q_goto (tgt := 196) hM dX12_triedBy_136 (by decide) ?_
            refine q_aload_n hM dX12_triedBy_196 (lv_at hl 1 rfl) ?_
            refine q_iconst (v := (0 : Int32)) hM dX12_triedBy_197 (by decide) ?_
            refine q_callV (As := [.int (0 : Int32)]) (rest := []) hM hW.1 hR hC myX12_bringsBack (kAW (v_6_10 (List.mem_of_getElem? (i := 10) rfl)) rfl) (rfl : vwCl[12]? = some (RX12, TX12, 86)) rfl lb_129.1 (shO hW.2.1 lb_129) (a_X12_bringsBack _ _ cA ad g6825 (0 : Int32) hW.2.1 hG (by have := kc_0; omega) (by have := kc_0; omega)) ⟨by decide, by decide⟩ rfl rfl hl.1 (Nat.le_of_ble_eq_true rfl) dX12_triedBy_198 (fun v g6881 H locs hp hW1 => ?_)
            obtain ⟨rfl, hs1, hG, hf1⟩ := hp
            have f6882 : fld g6881 129 31 = .int (0 : Int32) := (hf1.1 129 31 (by omega)).trans f6826
            have f6883 : fld g6881 129 63 = .int x6880 := (hf1.1 129 63 (by omega)).trans fx6880
            have hW : WS ad cA (fun i k => i = 161 ∨ i = 156 ∨ i = 157 ∨ (i = 129 ∧ (k = 42 ∨ k = 43 ∨ k = 44 ∨ k = 45 ∨ k = 46 ∨ k = 47 ∨ k = 48 ∨ k = 49)) ∨ (i = 129 ∧ (k = 2 ∨ k = 57 ∨ k = 58 ∨ k = 61 ∨ k = 62 ∨ k = 63 ∨ k = 64)) ∨ i = 159 ∨ (i = 129 ∧ (k = 56 ∨ k = 65 ∨ k = 66)) ∨ (162 ≤ i ∧ i < 170) ∨ (158 ≤ i ∧ i < 162) ∨ (i = 129 ∧ (k = 31))) g0 K g6881 H locs := ⟨hW1, hs1, hW.2.2.tr hf1 (fun i k h => h.elim (fun h => (Or.inr (Or.inr (Or.inr (Or.inr (Or.inr (Or.inr (Or.inr (Or.inr (Or.inl h)))))))))) (fun h => (by omega)))⟩
            refine q_iload hM dX12_triedBy_201 (lv_at hl 0 rfl) ?_
            exact hE _ _ _ _ _ _ hW.1 ⟨_, rfl, hW.2.1, hG, hW.2.2⟩ dX12_triedBy_203
          · refine q_tableIn (tgt := 139) hM dX12_triedBy_81 ((rfl : what.toInt = _).trans h81) (by decide) (by decide) rfl (by decide) ?_
            refine q_aload_n hM dX12_triedBy_139 (lv_at hl 0 rfl) ?_
            refine w_getI hM hW FG_X12_468 lb_129 (by decide) (by decide) dX12_triedBy_140 (fun x6885 fx6885 => ?_)
            refine q_istore (lv9 := [(4, .int x6885), (0, .ref (ad 129)), (1, .int wh), (2, .int n), (3, .int what)]) hM dX12_triedBy_143 hl (by decide) rfl (fun ls hl => ?_)
            refine q_goto (tgt := 196) hM dX12_triedBy_145 (by decide) ?_
            refine q_aload_n hM dX12_triedBy_196 (lv_at hl 1 rfl) ?_
            refine q_iconst (v := (0 : Int32)) hM dX12_triedBy_197 (by decide) ?_
            refine q_callV (As := [.int (0 : Int32)]) (rest := []) hM hW.1 hR hC myX12_bringsBack (kAW (v_6_10 (List.mem_of_getElem? (i := 10) rfl)) rfl) (rfl : vwCl[12]? = some (RX12, TX12, 86)) rfl lb_129.1 (shO hW.2.1 lb_129) (a_X12_bringsBack _ _ cA ad g6825 (0 : Int32) hW.2.1 hG (by have := kc_0; omega) (by have := kc_0; omega)) ⟨by decide, by decide⟩ rfl rfl hl.1 (Nat.le_of_ble_eq_true rfl) dX12_triedBy_198 (fun v g6886 H locs hp hW1 => ?_)
            obtain ⟨rfl, hs1, hG, hf1⟩ := hp
            have f6887 : fld g6886 129 31 = .int (0 : Int32) := (hf1.1 129 31 (by omega)).trans f6826
            have f6888 : fld g6886 129 64 = .int x6885 := (hf1.1 129 64 (by omega)).trans fx6885
            have hW : WS ad cA (fun i k => i = 161 ∨ i = 156 ∨ i = 157 ∨ (i = 129 ∧ (k = 42 ∨ k = 43 ∨ k = 44 ∨ k = 45 ∨ k = 46 ∨ k = 47 ∨ k = 48 ∨ k = 49)) ∨ (i = 129 ∧ (k = 2 ∨ k = 57 ∨ k = 58 ∨ k = 61 ∨ k = 62 ∨ k = 63 ∨ k = 64)) ∨ i = 159 ∨ (i = 129 ∧ (k = 56 ∨ k = 65 ∨ k = 66)) ∨ (162 ≤ i ∧ i < 170) ∨ (158 ≤ i ∧ i < 162) ∨ (i = 129 ∧ (k = 31))) g0 K g6886 H locs := ⟨hW1, hs1, hW.2.2.tr hf1 (fun i k h => h.elim (fun h => (Or.inr (Or.inr (Or.inr (Or.inr (Or.inr (Or.inr (Or.inr (Or.inr (Or.inl h)))))))))) (fun h => (by omega)))⟩
            refine q_iload hM dX12_triedBy_201 (lv_at hl 0 rfl) ?_
            exact hE _ _ _ _ _ _ hW.1 ⟨_, rfl, hW.2.1, hG, hW.2.2⟩ dX12_triedBy_203
        · refine q_aload_n hM dX12_triedBy_46 (lv_at hl 0 rfl) ?_
          refine q_iload_n hM dX12_triedBy_47 (lv_at hl 3 rfl) ?_
          refine q_bipush (v := (30 : Int32)) hM dX12_triedBy_48 (by decide) ?_
          refine q_isub hM dX12_triedBy_50 (fun z6890 hz6890 => ?_)
          first | have tz6890 := i_subT hz6890 (rfl : what.toInt = what.toInt) (kc_30 : (30 : Int32).toInt = 30) (by omega) (by omega) | skip
          have wz6890 := i_subW hz6890 (rfl : what.toInt = what.toInt) (kc_30 : (30 : Int32).toInt = 30)
          refine q_callV (As := [.int z6890]) (rest := []) hM hW.1 hR hC myX12_isTold (kAW (v_5_5 (List.mem_of_getElem? (i := 6) rfl)) rfl) (rfl : vwCl[12]? = some (RX12, TX12, 86)) rfl lb_129.1 (shO hW.2.1 lb_129) (a_X12_isTold _ _ cA ad g0 z6890 hW.2.1 hG) ⟨by decide, by decide⟩ rfl rfl hl.1 (Nat.le_of_ble_eq_true rfl) dX12_triedBy_51 (fun v g6892 H locs hp hW1 => ?_)
          obtain ⟨r6891, rfl, hr6891, rfl⟩ := hp
          have hW : WS ad cA (fun i k => i = 161 ∨ i = 156 ∨ i = 157 ∨ (i = 129 ∧ (k = 42 ∨ k = 43 ∨ k = 44 ∨ k = 45 ∨ k = 46 ∨ k = 47 ∨ k = 48 ∨ k = 49)) ∨ (i = 129 ∧ (k = 2 ∨ k = 57 ∨ k = 58 ∨ k = 61 ∨ k = 62 ∨ k = 63 ∨ k = 64)) ∨ i = 159 ∨ (i = 129 ∧ (k = 56 ∨ k = 65 ∨ k = 66)) ∨ (162 ≤ i ∧ i < 170) ∨ (158 ≤ i ∧ i < 162) ∨ (i = 129 ∧ (k = 31))) g0 K g0 H locs := ⟨hW1, hW.2.1, hW.2.2⟩
          refine q_if_ne (tgt := 59) hM dX12_triedBy_54 (by decide) (rfl : r6891.toInt = r6891.toInt) (fun h54 => ?_) (fun h54 => ?_)
          · refine q_aload_n hM dX12_triedBy_59 (lv_at hl 0 rfl) ?_
            refine q_iconst (v := (0 : Int32)) hM dX12_triedBy_60 (by decide) ?_
            refine q_callV (As := [.int (0 : Int32)]) (rest := []) hM hW.1 hR hC myX12_laysAside (kAW (v_6_10 (List.mem_of_getElem? (i := 2) rfl)) rfl) (rfl : vwCl[12]? = some (RX12, TX12, 86)) rfl lb_129.1 (shO hW.2.1 lb_129) (a_X12_laysAside _ _ cA ad g0 (0 : Int32) hW.2.1 hG (by have := kc_0; omega) (by have := kc_0; omega)) ⟨by decide, by decide⟩ rfl rfl hl.1 (Nat.le_of_ble_eq_true rfl) dX12_triedBy_61 (fun v g6894 H locs hp hW1 => ?_)
            obtain ⟨rfl, hs1, hG, hf1⟩ := hp
            have hW : WS ad cA (fun i k => i = 161 ∨ i = 156 ∨ i = 157 ∨ (i = 129 ∧ (k = 42 ∨ k = 43 ∨ k = 44 ∨ k = 45 ∨ k = 46 ∨ k = 47 ∨ k = 48 ∨ k = 49)) ∨ (i = 129 ∧ (k = 2 ∨ k = 57 ∨ k = 58 ∨ k = 61 ∨ k = 62 ∨ k = 63 ∨ k = 64)) ∨ i = 159 ∨ (i = 129 ∧ (k = 56 ∨ k = 65 ∨ k = 66)) ∨ (162 ≤ i ∧ i < 170) ∨ (158 ≤ i ∧ i < 162) ∨ (i = 129 ∧ (k = 31))) g0 K g6894 H locs := ⟨hW1, hs1, hW.2.2.tr hf1 (fun i k h => (Or.inr (Or.inr (Or.inr (Or.inr (Or.inr (Or.inr (Or.inr (Or.inl h)))))))))⟩
            refine q_aload_n hM dX12_triedBy_64 (lv_at hl 0 rfl) ?_
            refine q_iload_n hM dX12_triedBy_65 (lv_at hl 1 rfl) ?_
            refine w_put hM hW FP_X12_402 lb_129 (by omega) (Or.inl ⟨_, rfl⟩) rfl rfl dX12_triedBy_66 (fun g6895 H locs hW e1 e2 => ?_)
            have f6896 : fld g6895 129 31 = .int wh := e1
            have hG := hG.put e1 e2 rF_129_31 (by decide) (by have := i_rng wh; omega) (by have := i_rng wh; omega)
            refine q_aload_n hM dX12_triedBy_69 (lv_at hl 0 rfl) ?_
            refine q_iload_n hM dX12_triedBy_70 (lv_at hl 2 rfl) ?_
            refine q_iconst (v := ((-1) : Int32)) hM dX12_triedBy_71 (by decide) ?_
            refine q_callV (As := [.int n, .int ((-1) : Int32)]) (rest := []) hM hW.1 hR hC myX12_go (kAW (v_6_7 (List.mem_of_getElem? (i := 13) rfl)) rfl) (rfl : vwCl[12]? = some (RX12, TX12, 86)) rfl lb_129.1 (shO hW.2.1 lb_129) (a_X12_go_m _ _ cA ad g6895 n hW.2.1 hG (by have := kc_m1; omega) (LawOK_fr hL hW.2.2 (by omega) (by omega) (by omega) (by omega) (by omega))) ⟨by decide, by decide⟩ rfl rfl hl.1 (Nat.le_of_ble_eq_true rfl) dX12_triedBy_72 (fun v g6897 H locs hp hW1 => ?_)
            obtain ⟨rfl, hs1, hG, hf1⟩ := hp
            have f6898 : fld g6897 129 31 = .int wh := (hf1.1 129 31 (by omega)).trans f6896
            have hW : WS ad cA (fun i k => i = 161 ∨ i = 156 ∨ i = 157 ∨ (i = 129 ∧ (k = 42 ∨ k = 43 ∨ k = 44 ∨ k = 45 ∨ k = 46 ∨ k = 47 ∨ k = 48 ∨ k = 49)) ∨ (i = 129 ∧ (k = 2 ∨ k = 57 ∨ k = 58 ∨ k = 61 ∨ k = 62 ∨ k = 63 ∨ k = 64)) ∨ i = 159 ∨ (i = 129 ∧ (k = 56 ∨ k = 65 ∨ k = 66)) ∨ (162 ≤ i ∧ i < 170) ∨ (158 ≤ i ∧ i < 162) ∨ (i = 129 ∧ (k = 31))) g0 K g6897 H locs := ⟨hW1, hs1, hW.2.2.tr hf1 (fun i k h => h.elim (fun h => (Or.inl h)) (fun h => h.elim (fun h => (Or.inr (Or.inl h))) (fun h => h.elim (fun h => (Or.inr (Or.inr (Or.inl h)))) (fun h => h.elim (fun h => (Or.inr (Or.inr (Or.inr (Or.inl h))))) (fun h => h.elim (fun h => (Or.inr (Or.inr (Or.inr (Or.inr (Or.inl h)))))) (fun h => h.elim (fun h => (Or.inr (Or.inr (Or.inr (Or.inr (Or.inr (Or.inl h))))))) (fun h => (Or.inr (Or.inr (Or.inr (Or.inr (Or.inr (Or.inr (Or.inl h))))))))))))))⟩
            refine q_aload_n hM dX12_triedBy_75 (lv_at hl 0 rfl) ?_
            refine q_iconst (v := (0 : Int32)) hM dX12_triedBy_76 (by decide) ?_
            refine w_put hM hW FP_X12_402 lb_129 (by omega) (Or.inl ⟨_, rfl⟩) rfl rfl dX12_triedBy_77 (fun g6899 H locs hW e1 e2 => ?_)
            have f6900 : fld g6899 129 31 = .int (0 : Int32) := e1
            have hG := hG.put e1 e2 rF_129_31 (by decide) (by have := kc_0; have := i_rng (0 : Int32); omega) (by have := kc_0; have := i_rng (0 : Int32); omega)
            refine q_iload_n hM dX12_triedBy_80 (lv_at hl 3 rfl) ?_
            rcases (show what.toInt < 0 ∨ 3 < what.toInt ∨ what.toInt = 0 ∨ what.toInt = 1 ∨ what.toInt = 2 ∨ what.toInt = 3 from by omega) with h81 | h81 | h81 | h81 | h81 | h81
            · refine q_tableOut (tgt := 148) hM dX12_triedBy_81 rfl (by omega) (by decide) ?_
              refine q_iload_n hM dX12_triedBy_148 (lv_at hl 3 rfl) ?_
              refine q_bipush (v := (20 : Int32)) hM dX12_triedBy_149 (by decide) ?_
              refine q_icmp_ge (tgt := 168) hM dX12_triedBy_151 (by decide) (rfl : what.toInt = what.toInt) (kc_20 : (20 : Int32).toInt = 20) (fun h151 => ?_) (fun h151 => ?_)
              · refine q_iload_n hM dX12_triedBy_168 (lv_at hl 3 rfl) ?_
                refine q_bipush (v := (30 : Int32)) hM dX12_triedBy_169 (by decide) ?_
                refine q_icmp_ge (tgt := 186) hM dX12_triedBy_171 (by decide) (rfl : what.toInt = what.toInt) (kc_30 : (30 : Int32).toInt = 30) (fun h171 => ?_) (fun h171 => ?_)
                · refine q_aload_n hM dX12_triedBy_186 (lv_at hl 0 rfl) ?_
                  refine q_iload_n hM dX12_triedBy_187 (lv_at hl 3 rfl) ?_
                  refine q_bipush (v := (30 : Int32)) hM dX12_triedBy_188 (by decide) ?_
                  refine q_isub hM dX12_triedBy_190 (fun z6904 hz6904 => ?_)
                  first | have tz6904 := i_subT hz6904 (rfl : what.toInt = what.toInt) (kc_30 : (30 : Int32).toInt = 30) (by omega) (by omega) | skip
                  have wz6904 := i_subW hz6904 (rfl : what.toInt = what.toInt) (kc_30 : (30 : Int32).toInt = 30)
                  refine q_callV (As := [.int z6904]) (rest := []) hM hW.1 hR hC myX12_whoKnows (kAW (v_6_10 (List.mem_of_getElem? (i := 6) rfl)) rfl) (rfl : vwCl[12]? = some (RX12, TX12, 86)) rfl lb_129.1 (shO hW.2.1 lb_129) (a_X12_whoKnows _ _ cA ad g6899 z6904 hW.2.1 hG (by  omega) (by  omega)) ⟨by decide, by decide⟩ rfl rfl hl.1 (Nat.le_of_ble_eq_true rfl) dX12_triedBy_191 (fun v g6906 H locs hp hW1 => ?_)
                  obtain ⟨r6905, rfl, hr6905, rfl⟩ := hp
                  have hW : WS ad cA (fun i k => i = 161 ∨ i = 156 ∨ i = 157 ∨ (i = 129 ∧ (k = 42 ∨ k = 43 ∨ k = 44 ∨ k = 45 ∨ k = 46 ∨ k = 47 ∨ k = 48 ∨ k = 49)) ∨ (i = 129 ∧ (k = 2 ∨ k = 57 ∨ k = 58 ∨ k = 61 ∨ k = 62 ∨ k = 63 ∨ k = 64)) ∨ i = 159 ∨ (i = 129 ∧ (k = 56 ∨ k = 65 ∨ k = 66)) ∨ (162 ≤ i ∧ i < 170) ∨ (158 ≤ i ∧ i < 162) ∨ (i = 129 ∧ (k = 31))) g0 K g6899 H locs := ⟨hW1, hW.2.1, hW.2.2⟩
                  refine q_istore (lv9 := [(4, .int r6905), (0, .ref (ad 129)), (1, .int wh), (2, .int n), (3, .int what)]) hM dX12_triedBy_194 hl (by decide) rfl (fun ls hl => ?_)
                  refine q_aload_n hM dX12_triedBy_196 (lv_at hl 1 rfl) ?_
                  refine q_iconst (v := (0 : Int32)) hM dX12_triedBy_197 (by decide) ?_
                  refine q_callV (As := [.int (0 : Int32)]) (rest := []) hM hW.1 hR hC myX12_bringsBack (kAW (v_6_10 (List.mem_of_getElem? (i := 10) rfl)) rfl) (rfl : vwCl[12]? = some (RX12, TX12, 86)) rfl lb_129.1 (shO hW.2.1 lb_129) (a_X12_bringsBack _ _ cA ad g6899 (0 : Int32) hW.2.1 hG (by have := kc_0; omega) (by have := kc_0; omega)) ⟨by decide, by decide⟩ rfl rfl hl.1 (Nat.le_of_ble_eq_true rfl) dX12_triedBy_198 (fun v g6907 H locs hp hW1 => ?_)
                  obtain ⟨rfl, hs1, hG, hf1⟩ := hp
                  have f6908 : fld g6907 129 31 = .int (0 : Int32) := (hf1.1 129 31 (by omega)).trans f6900
                  have hW : WS ad cA (fun i k => i = 161 ∨ i = 156 ∨ i = 157 ∨ (i = 129 ∧ (k = 42 ∨ k = 43 ∨ k = 44 ∨ k = 45 ∨ k = 46 ∨ k = 47 ∨ k = 48 ∨ k = 49)) ∨ (i = 129 ∧ (k = 2 ∨ k = 57 ∨ k = 58 ∨ k = 61 ∨ k = 62 ∨ k = 63 ∨ k = 64)) ∨ i = 159 ∨ (i = 129 ∧ (k = 56 ∨ k = 65 ∨ k = 66)) ∨ (162 ≤ i ∧ i < 170) ∨ (158 ≤ i ∧ i < 162) ∨ (i = 129 ∧ (k = 31))) g0 K g6907 H locs := ⟨hW1, hs1, hW.2.2.tr hf1 (fun i k h => h.elim (fun h => (Or.inr (Or.inr (Or.inr (Or.inr (Or.inr (Or.inr (Or.inr (Or.inr (Or.inl h)))))))))) (fun h => (by omega)))⟩
                  refine q_iload hM dX12_triedBy_201 (lv_at hl 0 rfl) ?_
                  exact hE _ _ _ _ _ _ hW.1 ⟨_, rfl, hW.2.1, hG, hW.2.2⟩ dX12_triedBy_203
                · refine q_aload_n hM dX12_triedBy_174 (lv_at hl 0 rfl) ?_
                  refine w_get (v := .ref (ad 159)) hM hW FG_X12_103 lb_129 (rf_129_53 hW.2.1) dX12_triedBy_175 ?_
                  refine q_iload_n hM dX12_triedBy_178 (lv_at hl 3 rfl) ?_
                  refine q_bipush (v := (20 : Int32)) hM dX12_triedBy_179 (by decide) ?_
                  refine q_isub hM dX12_triedBy_181 (fun z6910 hz6910 => ?_)
                  first | have tz6910 := i_subT hz6910 (rfl : what.toInt = what.toInt) (kc_20 : (20 : Int32).toInt = 20) (by omega) (by omega) | skip
                  have wz6910 := i_subW hz6910 (rfl : what.toInt = what.toInt) (kc_20 : (20 : Int32).toInt = 20)
                  refine w_iald hM hW lb_159 (i_in (by omega) (by omega)) dX12_triedBy_182 ?_
                  refine q_top (fun y6911 hy6911 => ?_)
                  have by6911 := hG.a hy6911 rA_159
                  refine q_goto (tgt := 194) hM dX12_triedBy_183 (by decide) ?_
                  refine q_istore (lv9 := [(4, .int y6911), (0, .ref (ad 129)), (1, .int wh), (2, .int n), (3, .int what)]) hM dX12_triedBy_194 hl (by decide) rfl (fun ls hl => ?_)
                  refine q_aload_n hM dX12_triedBy_196 (lv_at hl 1 rfl) ?_
                  refine q_iconst (v := (0 : Int32)) hM dX12_triedBy_197 (by decide) ?_
                  refine q_callV (As := [.int (0 : Int32)]) (rest := []) hM hW.1 hR hC myX12_bringsBack (kAW (v_6_10 (List.mem_of_getElem? (i := 10) rfl)) rfl) (rfl : vwCl[12]? = some (RX12, TX12, 86)) rfl lb_129.1 (shO hW.2.1 lb_129) (a_X12_bringsBack _ _ cA ad g6899 (0 : Int32) hW.2.1 hG (by have := kc_0; omega) (by have := kc_0; omega)) ⟨by decide, by decide⟩ rfl rfl hl.1 (Nat.le_of_ble_eq_true rfl) dX12_triedBy_198 (fun v g6912 H locs hp hW1 => ?_)
                  obtain ⟨rfl, hs1, hG, hf1⟩ := hp
                  have f6913 : fld g6912 129 31 = .int (0 : Int32) := (hf1.1 129 31 (by omega)).trans f6900
                  have hW : WS ad cA (fun i k => i = 161 ∨ i = 156 ∨ i = 157 ∨ (i = 129 ∧ (k = 42 ∨ k = 43 ∨ k = 44 ∨ k = 45 ∨ k = 46 ∨ k = 47 ∨ k = 48 ∨ k = 49)) ∨ (i = 129 ∧ (k = 2 ∨ k = 57 ∨ k = 58 ∨ k = 61 ∨ k = 62 ∨ k = 63 ∨ k = 64)) ∨ i = 159 ∨ (i = 129 ∧ (k = 56 ∨ k = 65 ∨ k = 66)) ∨ (162 ≤ i ∧ i < 170) ∨ (158 ≤ i ∧ i < 162) ∨ (i = 129 ∧ (k = 31))) g0 K g6912 H locs := ⟨hW1, hs1, hW.2.2.tr hf1 (fun i k h => h.elim (fun h => (Or.inr (Or.inr (Or.inr (Or.inr (Or.inr (Or.inr (Or.inr (Or.inr (Or.inl h)))))))))) (fun h => (by omega)))⟩
                  refine q_iload hM dX12_triedBy_201 (lv_at hl 0 rfl) ?_
                  exact hE _ _ _ _ _ _ hW.1 ⟨_, rfl, hW.2.1, hG, hW.2.2⟩ dX12_triedBy_203
              · refine q_aload_n hM dX12_triedBy_154 (lv_at hl 0 rfl) ?_
                refine q_iload_n hM dX12_triedBy_155 (lv_at hl 3 rfl) ?_
                refine q_bipush (v := (10 : Int32)) hM dX12_triedBy_156 (by decide) ?_
                refine q_isub hM dX12_triedBy_158 (fun z6915 hz6915 => ?_)
                first | have tz6915 := i_subT hz6915 (rfl : what.toInt = what.toInt) (kc_10 : (10 : Int32).toInt = 10) (by omega) (by omega) | skip
                have wz6915 := i_subW hz6915 (rfl : what.toInt = what.toInt) (kc_10 : (10 : Int32).toInt = 10)
                refine q_callV (As := [.int z6915]) (rest := []) hM hW.1 hR hC myX12_knownBy (kAW (v_6_4 (List.mem_of_getElem? (i := 11) rfl)) rfl) (rfl : vwCl[12]? = some (RX12, TX12, 86)) rfl lb_129.1 (shO hW.2.1 lb_129) (a_X12_knownBy _ _ cA ad g6899 z6915 hW.2.1 hG (by  omega) (by  omega)) ⟨by decide, by decide⟩ rfl rfl hl.1 (Nat.le_of_ble_eq_true rfl) dX12_triedBy_159 (fun v g6917 H locs hp hW1 => ?_)
                obtain ⟨r6916, rfl, hr6916, rfl⟩ := hp
                have hW : WS ad cA (fun i k => i = 161 ∨ i = 156 ∨ i = 157 ∨ (i = 129 ∧ (k = 42 ∨ k = 43 ∨ k = 44 ∨ k = 45 ∨ k = 46 ∨ k = 47 ∨ k = 48 ∨ k = 49)) ∨ (i = 129 ∧ (k = 2 ∨ k = 57 ∨ k = 58 ∨ k = 61 ∨ k = 62 ∨ k = 63 ∨ k = 64)) ∨ i = 159 ∨ (i = 129 ∧ (k = 56 ∨ k = 65 ∨ k = 66)) ∨ (162 ≤ i ∧ i < 170) ∨ (158 ≤ i ∧ i < 162) ∨ (i = 129 ∧ (k = 31))) g0 K g6899 H locs := ⟨hW1, hW.2.1, hW.2.2⟩
                refine q_callS (As := [.int r6916]) (rest := []) hM hW.1 hR hC myX12_sizeOf (kAW (v_5_6 (List.mem_of_getElem? (i := 14) rfl)) rfl) (a_X12_sizeOf _ _ cA ad g6899 r6916 hW.2.1 hG (by  omega)) ⟨by decide, by decide⟩ rfl rfl hl.1 (Nat.le_of_ble_eq_true rfl) dX12_triedBy_162 (fun v g6919 H locs hp hW1 => ?_)
                obtain ⟨r6918, rfl, hr6918, rfl⟩ := hp
                have hW : WS ad cA (fun i k => i = 161 ∨ i = 156 ∨ i = 157 ∨ (i = 129 ∧ (k = 42 ∨ k = 43 ∨ k = 44 ∨ k = 45 ∨ k = 46 ∨ k = 47 ∨ k = 48 ∨ k = 49)) ∨ (i = 129 ∧ (k = 2 ∨ k = 57 ∨ k = 58 ∨ k = 61 ∨ k = 62 ∨ k = 63 ∨ k = 64)) ∨ i = 159 ∨ (i = 129 ∧ (k = 56 ∨ k = 65 ∨ k = 66)) ∨ (162 ≤ i ∧ i < 170) ∨ (158 ≤ i ∧ i < 162) ∨ (i = 129 ∧ (k = 31))) g0 K g6899 H locs := ⟨hW1, hW.2.1, hW.2.2⟩
                refine q_goto (tgt := 194) hM dX12_triedBy_165 (by decide) ?_
                refine q_istore (lv9 := [(4, .int r6918), (0, .ref (ad 129)), (1, .int wh), (2, .int n), (3, .int what)]) hM dX12_triedBy_194 hl (by decide) rfl (fun ls hl => ?_)
                refine q_aload_n hM dX12_triedBy_196 (lv_at hl 1 rfl) ?_
                refine q_iconst (v := (0 : Int32)) hM dX12_triedBy_197 (by decide) ?_
                refine q_callV (As := [.int (0 : Int32)]) (rest := []) hM hW.1 hR hC myX12_bringsBack (kAW (v_6_10 (List.mem_of_getElem? (i := 10) rfl)) rfl) (rfl : vwCl[12]? = some (RX12, TX12, 86)) rfl lb_129.1 (shO hW.2.1 lb_129) (a_X12_bringsBack _ _ cA ad g6899 (0 : Int32) hW.2.1 hG (by have := kc_0; omega) (by have := kc_0; omega)) ⟨by decide, by decide⟩ rfl rfl hl.1 (Nat.le_of_ble_eq_true rfl) dX12_triedBy_198 (fun v g6920 H locs hp hW1 => ?_)
                obtain ⟨rfl, hs1, hG, hf1⟩ := hp
                have f6921 : fld g6920 129 31 = .int (0 : Int32) := (hf1.1 129 31 (by omega)).trans f6900
                have hW : WS ad cA (fun i k => i = 161 ∨ i = 156 ∨ i = 157 ∨ (i = 129 ∧ (k = 42 ∨ k = 43 ∨ k = 44 ∨ k = 45 ∨ k = 46 ∨ k = 47 ∨ k = 48 ∨ k = 49)) ∨ (i = 129 ∧ (k = 2 ∨ k = 57 ∨ k = 58 ∨ k = 61 ∨ k = 62 ∨ k = 63 ∨ k = 64)) ∨ i = 159 ∨ (i = 129 ∧ (k = 56 ∨ k = 65 ∨ k = 66)) ∨ (162 ≤ i ∧ i < 170) ∨ (158 ≤ i ∧ i < 162) ∨ (i = 129 ∧ (k = 31))) g0 K g6920 H locs := ⟨hW1, hs1, hW.2.2.tr hf1 (fun i k h => h.elim (fun h => (Or.inr (Or.inr (Or.inr (Or.inr (Or.inr (Or.inr (Or.inr (Or.inr (Or.inl h)))))))))) (fun h => (by omega)))⟩
                refine q_iload hM dX12_triedBy_201 (lv_at hl 0 rfl) ?_
                exact hE _ _ _ _ _ _ hW.1 ⟨_, rfl, hW.2.1, hG, hW.2.2⟩ dX12_triedBy_203
            · refine q_tableOut (tgt := 148) hM dX12_triedBy_81 rfl (by omega) (by decide) ?_
              refine q_iload_n hM dX12_triedBy_148 (lv_at hl 3 rfl) ?_
              refine q_bipush (v := (20 : Int32)) hM dX12_triedBy_149 (by decide) ?_
              refine q_icmp_ge (tgt := 168) hM dX12_triedBy_151 (by decide) (rfl : what.toInt = what.toInt) (kc_20 : (20 : Int32).toInt = 20) (fun h151 => ?_) (fun h151 => ?_)
              · refine q_iload_n hM dX12_triedBy_168 (lv_at hl 3 rfl) ?_
                refine q_bipush (v := (30 : Int32)) hM dX12_triedBy_169 (by decide) ?_
                refine q_icmp_ge (tgt := 186) hM dX12_triedBy_171 (by decide) (rfl : what.toInt = what.toInt) (kc_30 : (30 : Int32).toInt = 30) (fun h171 => ?_) (fun h171 => ?_)
                · refine q_aload_n hM dX12_triedBy_186 (lv_at hl 0 rfl) ?_
                  refine q_iload_n hM dX12_triedBy_187 (lv_at hl 3 rfl) ?_
                  refine q_bipush (v := (30 : Int32)) hM dX12_triedBy_188 (by decide) ?_
                  refine q_isub hM dX12_triedBy_190 (fun z6925 hz6925 => ?_)
                  first | have tz6925 := i_subT hz6925 (rfl : what.toInt = what.toInt) (kc_30 : (30 : Int32).toInt = 30) (by omega) (by omega) | skip
                  have wz6925 := i_subW hz6925 (rfl : what.toInt = what.toInt) (kc_30 : (30 : Int32).toInt = 30)
                  refine q_callV (As := [.int z6925]) (rest := []) hM hW.1 hR hC myX12_whoKnows (kAW (v_6_10 (List.mem_of_getElem? (i := 6) rfl)) rfl) (rfl : vwCl[12]? = some (RX12, TX12, 86)) rfl lb_129.1 (shO hW.2.1 lb_129) (a_X12_whoKnows _ _ cA ad g6899 z6925 hW.2.1 hG (by  omega) (by  omega)) ⟨by decide, by decide⟩ rfl rfl hl.1 (Nat.le_of_ble_eq_true rfl) dX12_triedBy_191 (fun v g6927 H locs hp hW1 => ?_)
                  obtain ⟨r6926, rfl, hr6926, rfl⟩ := hp
                  have hW : WS ad cA (fun i k => i = 161 ∨ i = 156 ∨ i = 157 ∨ (i = 129 ∧ (k = 42 ∨ k = 43 ∨ k = 44 ∨ k = 45 ∨ k = 46 ∨ k = 47 ∨ k = 48 ∨ k = 49)) ∨ (i = 129 ∧ (k = 2 ∨ k = 57 ∨ k = 58 ∨ k = 61 ∨ k = 62 ∨ k = 63 ∨ k = 64)) ∨ i = 159 ∨ (i = 129 ∧ (k = 56 ∨ k = 65 ∨ k = 66)) ∨ (162 ≤ i ∧ i < 170) ∨ (158 ≤ i ∧ i < 162) ∨ (i = 129 ∧ (k = 31))) g0 K g6899 H locs := ⟨hW1, hW.2.1, hW.2.2⟩
                  refine q_istore (lv9 := [(4, .int r6926), (0, .ref (ad 129)), (1, .int wh), (2, .int n), (3, .int what)]) hM dX12_triedBy_194 hl (by decide) rfl (fun ls hl => ?_)
                  refine q_aload_n hM dX12_triedBy_196 (lv_at hl 1 rfl) ?_
                  refine q_iconst (v := (0 : Int32)) hM dX12_triedBy_197 (by decide) ?_
                  refine q_callV (As := [.int (0 : Int32)]) (rest := []) hM hW.1 hR hC myX12_bringsBack (kAW (v_6_10 (List.mem_of_getElem? (i := 10) rfl)) rfl) (rfl : vwCl[12]? = some (RX12, TX12, 86)) rfl lb_129.1 (shO hW.2.1 lb_129) (a_X12_bringsBack _ _ cA ad g6899 (0 : Int32) hW.2.1 hG (by have := kc_0; omega) (by have := kc_0; omega)) ⟨by decide, by decide⟩ rfl rfl hl.1 (Nat.le_of_ble_eq_true rfl) dX12_triedBy_198 (fun v g6928 H locs hp hW1 => ?_)
                  obtain ⟨rfl, hs1, hG, hf1⟩ := hp
                  have f6929 : fld g6928 129 31 = .int (0 : Int32) := (hf1.1 129 31 (by omega)).trans f6900
                  have hW : WS ad cA (fun i k => i = 161 ∨ i = 156 ∨ i = 157 ∨ (i = 129 ∧ (k = 42 ∨ k = 43 ∨ k = 44 ∨ k = 45 ∨ k = 46 ∨ k = 47 ∨ k = 48 ∨ k = 49)) ∨ (i = 129 ∧ (k = 2 ∨ k = 57 ∨ k = 58 ∨ k = 61 ∨ k = 62 ∨ k = 63 ∨ k = 64)) ∨ i = 159 ∨ (i = 129 ∧ (k = 56 ∨ k = 65 ∨ k = 66)) ∨ (162 ≤ i ∧ i < 170) ∨ (158 ≤ i ∧ i < 162) ∨ (i = 129 ∧ (k = 31))) g0 K g6928 H locs := ⟨hW1, hs1, hW.2.2.tr hf1 (fun i k h => h.elim (fun h => (Or.inr (Or.inr (Or.inr (Or.inr (Or.inr (Or.inr (Or.inr (Or.inr (Or.inl h)))))))))) (fun h => (by omega)))⟩
                  refine q_iload hM dX12_triedBy_201 (lv_at hl 0 rfl) ?_
                  exact hE _ _ _ _ _ _ hW.1 ⟨_, rfl, hW.2.1, hG, hW.2.2⟩ dX12_triedBy_203
                · refine q_aload_n hM dX12_triedBy_174 (lv_at hl 0 rfl) ?_
                  refine w_get (v := .ref (ad 159)) hM hW FG_X12_103 lb_129 (rf_129_53 hW.2.1) dX12_triedBy_175 ?_
                  refine q_iload_n hM dX12_triedBy_178 (lv_at hl 3 rfl) ?_
                  refine q_bipush (v := (20 : Int32)) hM dX12_triedBy_179 (by decide) ?_
                  refine q_isub hM dX12_triedBy_181 (fun z6931 hz6931 => ?_)
                  first | have tz6931 := i_subT hz6931 (rfl : what.toInt = what.toInt) (kc_20 : (20 : Int32).toInt = 20) (by omega) (by omega) | skip
                  have wz6931 := i_subW hz6931 (rfl : what.toInt = what.toInt) (kc_20 : (20 : Int32).toInt = 20)
                  refine w_iald hM hW lb_159 (i_in (by omega) (by omega)) dX12_triedBy_182 ?_
                  refine q_top (fun y6932 hy6932 => ?_)
                  have by6932 := hG.a hy6932 rA_159
                  refine q_goto (tgt := 194) hM dX12_triedBy_183 (by decide) ?_
                  refine q_istore (lv9 := [(4, .int y6932), (0, .ref (ad 129)), (1, .int wh), (2, .int n), (3, .int what)]) hM dX12_triedBy_194 hl (by decide) rfl (fun ls hl => ?_)
                  refine q_aload_n hM dX12_triedBy_196 (lv_at hl 1 rfl) ?_
                  refine q_iconst (v := (0 : Int32)) hM dX12_triedBy_197 (by decide) ?_
                  refine q_callV (As := [.int (0 : Int32)]) (rest := []) hM hW.1 hR hC myX12_bringsBack (kAW (v_6_10 (List.mem_of_getElem? (i := 10) rfl)) rfl) (rfl : vwCl[12]? = some (RX12, TX12, 86)) rfl lb_129.1 (shO hW.2.1 lb_129) (a_X12_bringsBack _ _ cA ad g6899 (0 : Int32) hW.2.1 hG (by have := kc_0; omega) (by have := kc_0; omega)) ⟨by decide, by decide⟩ rfl rfl hl.1 (Nat.le_of_ble_eq_true rfl) dX12_triedBy_198 (fun v g6933 H locs hp hW1 => ?_)
                  obtain ⟨rfl, hs1, hG, hf1⟩ := hp
                  have f6934 : fld g6933 129 31 = .int (0 : Int32) := (hf1.1 129 31 (by omega)).trans f6900
                  have hW : WS ad cA (fun i k => i = 161 ∨ i = 156 ∨ i = 157 ∨ (i = 129 ∧ (k = 42 ∨ k = 43 ∨ k = 44 ∨ k = 45 ∨ k = 46 ∨ k = 47 ∨ k = 48 ∨ k = 49)) ∨ (i = 129 ∧ (k = 2 ∨ k = 57 ∨ k = 58 ∨ k = 61 ∨ k = 62 ∨ k = 63 ∨ k = 64)) ∨ i = 159 ∨ (i = 129 ∧ (k = 56 ∨ k = 65 ∨ k = 66)) ∨ (162 ≤ i ∧ i < 170) ∨ (158 ≤ i ∧ i < 162) ∨ (i = 129 ∧ (k = 31))) g0 K g6933 H locs := ⟨hW1, hs1, hW.2.2.tr hf1 (fun i k h => h.elim (fun h => (Or.inr (Or.inr (Or.inr (Or.inr (Or.inr (Or.inr (Or.inr (Or.inr (Or.inl h)))))))))) (fun h => (by omega)))⟩
                  refine q_iload hM dX12_triedBy_201 (lv_at hl 0 rfl) ?_
                  exact hE _ _ _ _ _ _ hW.1 ⟨_, rfl, hW.2.1, hG, hW.2.2⟩ dX12_triedBy_203
              · refine q_aload_n hM dX12_triedBy_154 (lv_at hl 0 rfl) ?_
                refine q_iload_n hM dX12_triedBy_155 (lv_at hl 3 rfl) ?_
                refine q_bipush (v := (10 : Int32)) hM dX12_triedBy_156 (by decide) ?_
                refine q_isub hM dX12_triedBy_158 (fun z6936 hz6936 => ?_)
                first | have tz6936 := i_subT hz6936 (rfl : what.toInt = what.toInt) (kc_10 : (10 : Int32).toInt = 10) (by omega) (by omega) | skip
                have wz6936 := i_subW hz6936 (rfl : what.toInt = what.toInt) (kc_10 : (10 : Int32).toInt = 10)
                refine q_callV (As := [.int z6936]) (rest := []) hM hW.1 hR hC myX12_knownBy (kAW (v_6_4 (List.mem_of_getElem? (i := 11) rfl)) rfl) (rfl : vwCl[12]? = some (RX12, TX12, 86)) rfl lb_129.1 (shO hW.2.1 lb_129) (a_X12_knownBy _ _ cA ad g6899 z6936 hW.2.1 hG (by  omega) (by  omega)) ⟨by decide, by decide⟩ rfl rfl hl.1 (Nat.le_of_ble_eq_true rfl) dX12_triedBy_159 (fun v g6938 H locs hp hW1 => ?_)
                obtain ⟨r6937, rfl, hr6937, rfl⟩ := hp
                have hW : WS ad cA (fun i k => i = 161 ∨ i = 156 ∨ i = 157 ∨ (i = 129 ∧ (k = 42 ∨ k = 43 ∨ k = 44 ∨ k = 45 ∨ k = 46 ∨ k = 47 ∨ k = 48 ∨ k = 49)) ∨ (i = 129 ∧ (k = 2 ∨ k = 57 ∨ k = 58 ∨ k = 61 ∨ k = 62 ∨ k = 63 ∨ k = 64)) ∨ i = 159 ∨ (i = 129 ∧ (k = 56 ∨ k = 65 ∨ k = 66)) ∨ (162 ≤ i ∧ i < 170) ∨ (158 ≤ i ∧ i < 162) ∨ (i = 129 ∧ (k = 31))) g0 K g6899 H locs := ⟨hW1, hW.2.1, hW.2.2⟩
                refine q_callS (As := [.int r6937]) (rest := []) hM hW.1 hR hC myX12_sizeOf (kAW (v_5_6 (List.mem_of_getElem? (i := 14) rfl)) rfl) (a_X12_sizeOf _ _ cA ad g6899 r6937 hW.2.1 hG (by  omega)) ⟨by decide, by decide⟩ rfl rfl hl.1 (Nat.le_of_ble_eq_true rfl) dX12_triedBy_162 (fun v g6940 H locs hp hW1 => ?_)
                obtain ⟨r6939, rfl, hr6939, rfl⟩ := hp
                have hW : WS ad cA (fun i k => i = 161 ∨ i = 156 ∨ i = 157 ∨ (i = 129 ∧ (k = 42 ∨ k = 43 ∨ k = 44 ∨ k = 45 ∨ k = 46 ∨ k = 47 ∨ k = 48 ∨ k = 49)) ∨ (i = 129 ∧ (k = 2 ∨ k = 57 ∨ k = 58 ∨ k = 61 ∨ k = 62 ∨ k = 63 ∨ k = 64)) ∨ i = 159 ∨ (i = 129 ∧ (k = 56 ∨ k = 65 ∨ k = 66)) ∨ (162 ≤ i ∧ i < 170) ∨ (158 ≤ i ∧ i < 162) ∨ (i = 129 ∧ (k = 31))) g0 K g6899 H locs := ⟨hW1, hW.2.1, hW.2.2⟩
                refine q_goto (tgt := 194) hM dX12_triedBy_165 (by decide) ?_
                refine q_istore (lv9 := [(4, .int r6939), (0, .ref (ad 129)), (1, .int wh), (2, .int n), (3, .int what)]) hM dX12_triedBy_194 hl (by decide) rfl (fun ls hl => ?_)
                refine q_aload_n hM dX12_triedBy_196 (lv_at hl 1 rfl) ?_
                refine q_iconst (v := (0 : Int32)) hM dX12_triedBy_197 (by decide) ?_
                refine q_callV (As := [.int (0 : Int32)]) (rest := []) hM hW.1 hR hC myX12_bringsBack (kAW (v_6_10 (List.mem_of_getElem? (i := 10) rfl)) rfl) (rfl : vwCl[12]? = some (RX12, TX12, 86)) rfl lb_129.1 (shO hW.2.1 lb_129) (a_X12_bringsBack _ _ cA ad g6899 (0 : Int32) hW.2.1 hG (by have := kc_0; omega) (by have := kc_0; omega)) ⟨by decide, by decide⟩ rfl rfl hl.1 (Nat.le_of_ble_eq_true rfl) dX12_triedBy_198 (fun v g6941 H locs hp hW1 => ?_)
                obtain ⟨rfl, hs1, hG, hf1⟩ := hp
                have f6942 : fld g6941 129 31 = .int (0 : Int32) := (hf1.1 129 31 (by omega)).trans f6900
                have hW : WS ad cA (fun i k => i = 161 ∨ i = 156 ∨ i = 157 ∨ (i = 129 ∧ (k = 42 ∨ k = 43 ∨ k = 44 ∨ k = 45 ∨ k = 46 ∨ k = 47 ∨ k = 48 ∨ k = 49)) ∨ (i = 129 ∧ (k = 2 ∨ k = 57 ∨ k = 58 ∨ k = 61 ∨ k = 62 ∨ k = 63 ∨ k = 64)) ∨ i = 159 ∨ (i = 129 ∧ (k = 56 ∨ k = 65 ∨ k = 66)) ∨ (162 ≤ i ∧ i < 170) ∨ (158 ≤ i ∧ i < 162) ∨ (i = 129 ∧ (k = 31))) g0 K g6941 H locs := ⟨hW1, hs1, hW.2.2.tr hf1 (fun i k h => h.elim (fun h => (Or.inr (Or.inr (Or.inr (Or.inr (Or.inr (Or.inr (Or.inr (Or.inr (Or.inl h)))))))))) (fun h => (by omega)))⟩
                refine q_iload hM dX12_triedBy_201 (lv_at hl 0 rfl) ?_
                exact hE _ _ _ _ _ _ hW.1 ⟨_, rfl, hW.2.1, hG, hW.2.2⟩ dX12_triedBy_203
            · refine q_tableIn (tgt := 112) hM dX12_triedBy_81 ((rfl : what.toInt = _).trans h81) (by decide) (by decide) rfl (by decide) ?_
              refine q_aload_n hM dX12_triedBy_112 (lv_at hl 0 rfl) ?_
              refine w_getI hM hW FG_X12_474 lb_129 (by decide) (by decide) dX12_triedBy_113 (fun x6944 fx6944 => ?_)
              refine q_istore (lv9 := [(4, .int x6944), (0, .ref (ad 129)), (1, .int wh), (2, .int n), (3, .int what)]) hM dX12_triedBy_116 hl (by decide) rfl (fun ls hl => ?_)
              refine q_goto (tgt := 196) hM dX12_triedBy_118 (by decide) ?_
              refine q_aload_n hM dX12_triedBy_196 (lv_at hl 1 rfl) ?_
              refine q_iconst (v := (0 : Int32)) hM dX12_triedBy_197 (by decide) ?_
              refine q_callV (As := [.int (0 : Int32)]) (rest := []) hM hW.1 hR hC myX12_bringsBack (kAW (v_6_10 (List.mem_of_getElem? (i := 10) rfl)) rfl) (rfl : vwCl[12]? = some (RX12, TX12, 86)) rfl lb_129.1 (shO hW.2.1 lb_129) (a_X12_bringsBack _ _ cA ad g6899 (0 : Int32) hW.2.1 hG (by have := kc_0; omega) (by have := kc_0; omega)) ⟨by decide, by decide⟩ rfl rfl hl.1 (Nat.le_of_ble_eq_true rfl) dX12_triedBy_198 (fun v g6945 H locs hp hW1 => ?_)
              obtain ⟨rfl, hs1, hG, hf1⟩ := hp
              have f6946 : fld g6945 129 31 = .int (0 : Int32) := (hf1.1 129 31 (by omega)).trans f6900
              have f6947 : fld g6945 129 61 = .int x6944 := (hf1.1 129 61 (by omega)).trans fx6944
              have hW : WS ad cA (fun i k => i = 161 ∨ i = 156 ∨ i = 157 ∨ (i = 129 ∧ (k = 42 ∨ k = 43 ∨ k = 44 ∨ k = 45 ∨ k = 46 ∨ k = 47 ∨ k = 48 ∨ k = 49)) ∨ (i = 129 ∧ (k = 2 ∨ k = 57 ∨ k = 58 ∨ k = 61 ∨ k = 62 ∨ k = 63 ∨ k = 64)) ∨ i = 159 ∨ (i = 129 ∧ (k = 56 ∨ k = 65 ∨ k = 66)) ∨ (162 ≤ i ∧ i < 170) ∨ (158 ≤ i ∧ i < 162) ∨ (i = 129 ∧ (k = 31))) g0 K g6945 H locs := ⟨hW1, hs1, hW.2.2.tr hf1 (fun i k h => h.elim (fun h => (Or.inr (Or.inr (Or.inr (Or.inr (Or.inr (Or.inr (Or.inr (Or.inr (Or.inl h)))))))))) (fun h => (by omega)))⟩
              refine q_iload hM dX12_triedBy_201 (lv_at hl 0 rfl) ?_
              exact hE _ _ _ _ _ _ hW.1 ⟨_, rfl, hW.2.1, hG, hW.2.2⟩ dX12_triedBy_203
            · refine q_tableIn (tgt := 121) hM dX12_triedBy_81 ((rfl : what.toInt = _).trans h81) (by decide) (by decide) rfl (by decide) ?_
              refine q_aload_n hM dX12_triedBy_121 (lv_at hl 0 rfl) ?_
              refine w_getI hM hW FG_X12_477 lb_129 (by decide) (by decide) dX12_triedBy_122 (fun x6949 fx6949 => ?_)
              refine q_istore (lv9 := [(4, .int x6949), (0, .ref (ad 129)), (1, .int wh), (2, .int n), (3, .int what)]) hM dX12_triedBy_125 hl (by decide) rfl (fun ls hl => ?_)
              refine q_goto (tgt := 196) hM dX12_triedBy_127 (by decide) ?_
              refine q_aload_n hM dX12_triedBy_196 (lv_at hl 1 rfl) ?_
              refine q_iconst (v := (0 : Int32)) hM dX12_triedBy_197 (by decide) ?_
              refine q_callV (As := [.int (0 : Int32)]) (rest := []) hM hW.1 hR hC myX12_bringsBack (kAW (v_6_10 (List.mem_of_getElem? (i := 10) rfl)) rfl) (rfl : vwCl[12]? = some (RX12, TX12, 86)) rfl lb_129.1 (shO hW.2.1 lb_129) (a_X12_bringsBack _ _ cA ad g6899 (0 : Int32) hW.2.1 hG (by have := kc_0; omega) (by have := kc_0; omega)) ⟨by decide, by decide⟩ rfl rfl hl.1 (Nat.le_of_ble_eq_true rfl) dX12_triedBy_198 (fun v g6950 H locs hp hW1 => ?_)
              obtain ⟨rfl, hs1, hG, hf1⟩ := hp
              have f6951 : fld g6950 129 31 = .int (0 : Int32) := (hf1.1 129 31 (by omega)).trans f6900
              have f6952 : fld g6950 129 62 = .int x6949 := (hf1.1 129 62 (by omega)).trans fx6949
              have hW : WS ad cA (fun i k => i = 161 ∨ i = 156 ∨ i = 157 ∨ (i = 129 ∧ (k = 42 ∨ k = 43 ∨ k = 44 ∨ k = 45 ∨ k = 46 ∨ k = 47 ∨ k = 48 ∨ k = 49)) ∨ (i = 129 ∧ (k = 2 ∨ k = 57 ∨ k = 58 ∨ k = 61 ∨ k = 62 ∨ k = 63 ∨ k = 64)) ∨ i = 159 ∨ (i = 129 ∧ (k = 56 ∨ k = 65 ∨ k = 66)) ∨ (162 ≤ i ∧ i < 170) ∨ (158 ≤ i ∧ i < 162) ∨ (i = 129 ∧ (k = 31))) g0 K g6950 H locs := ⟨hW1, hs1, hW.2.2.tr hf1 (fun i k h => h.elim (fun h => (Or.inr (Or.inr (Or.inr (Or.inr (Or.inr (Or.inr (Or.inr (Or.inr (Or.inl h)))))))))) (fun h => (by omega)))⟩
              refine q_iload hM dX12_triedBy_201 (lv_at hl 0 rfl) ?_
              exact hE _ _ _ _ _ _ hW.1 ⟨_, rfl, hW.2.1, hG, hW.2.2⟩ dX12_triedBy_203
            · refine q_tableIn (tgt := 130) hM dX12_triedBy_81 ((rfl : what.toInt = _).trans h81) (by decide) (by decide) rfl (by decide) ?_
              refine q_aload_n hM dX12_triedBy_130 (lv_at hl 0 rfl) ?_
              refine w_getI hM hW FG_X12_489 lb_129 (by decide) (by decide) dX12_triedBy_131 (fun x6954 fx6954 => ?_)
              refine q_istore (lv9 := [(4, .int x6954), (0, .ref (ad 129)), (1, .int wh), (2, .int n), (3, .int what)]) hM dX12_triedBy_134 hl (by decide) rfl (fun ls hl => ?_)
              refine q_goto (tgt := 196) hM dX12_triedBy_136 (by decide) ?_
              refine q_aload_n hM dX12_triedBy_196 (lv_at hl 1 rfl) ?_
              refine q_iconst (v := (0 : Int32)) hM dX12_triedBy_197 (by decide) ?_
              refine q_callV (As := [.int (0 : Int32)]) (rest := []) hM hW.1 hR hC myX12_bringsBack (kAW (v_6_10 (List.mem_of_getElem? (i := 10) rfl)) rfl) (rfl : vwCl[12]? = some (RX12, TX12, 86)) rfl lb_129.1 (shO hW.2.1 lb_129) (a_X12_bringsBack _ _ cA ad g6899 (0 : Int32) hW.2.1 hG (by have := kc_0; omega) (by have := kc_0; omega)) ⟨by decide, by decide⟩ rfl rfl hl.1 (Nat.le_of_ble_eq_true rfl) dX12_triedBy_198 (fun v g6955 H locs hp hW1 => ?_)
              obtain ⟨rfl, hs1, hG, hf1⟩ := hp
              have f6956 : fld g6955 129 31 = .int (0 : Int32) := (hf1.1 129 31 (by omega)).trans f6900
              have f6957 : fld g6955 129 63 = .int x6954 := (hf1.1 129 63 (by omega)).trans fx6954
              have hW : WS ad cA (fun i k => i = 161 ∨ i = 156 ∨ i = 157 ∨ (i = 129 ∧ (k = 42 ∨ k = 43 ∨ k = 44 ∨ k = 45 ∨ k = 46 ∨ k = 47 ∨ k = 48 ∨ k = 49)) ∨ (i = 129 ∧ (k = 2 ∨ k = 57 ∨ k = 58 ∨ k = 61 ∨ k = 62 ∨ k = 63 ∨ k = 64)) ∨ i = 159 ∨ (i = 129 ∧ (k = 56 ∨ k = 65 ∨ k = 66)) ∨ (162 ≤ i ∧ i < 170) ∨ (158 ≤ i ∧ i < 162) ∨ (i = 129 ∧ (k = 31))) g0 K g6955 H locs := ⟨hW1, hs1, hW.2.2.tr hf1 (fun i k h => h.elim (fun h => (Or.inr (Or.inr (Or.inr (Or.inr (Or.inr (Or.inr (Or.inr (Or.inr (Or.inl h)))))))))) (fun h => (by omega)))⟩
              refine q_iload hM dX12_triedBy_201 (lv_at hl 0 rfl) ?_
              exact hE _ _ _ _ _ _ hW.1 ⟨_, rfl, hW.2.1, hG, hW.2.2⟩ dX12_triedBy_203
            · refine q_tableIn (tgt := 139) hM dX12_triedBy_81 ((rfl : what.toInt = _).trans h81) (by decide) (by decide) rfl (by decide) ?_
              refine q_aload_n hM dX12_triedBy_139 (lv_at hl 0 rfl) ?_
              refine w_getI hM hW FG_X12_468 lb_129 (by decide) (by decide) dX12_triedBy_140 (fun x6959 fx6959 => ?_)
              refine q_istore (lv9 := [(4, .int x6959), (0, .ref (ad 129)), (1, .int wh), (2, .int n), (3, .int what)]) hM dX12_triedBy_143 hl (by decide) rfl (fun ls hl => ?_)
              refine q_goto (tgt := 196) hM dX12_triedBy_145 (by decide) ?_
              refine q_aload_n hM dX12_triedBy_196 (lv_at hl 1 rfl) ?_
              refine q_iconst (v := (0 : Int32)) hM dX12_triedBy_197 (by decide) ?_
              refine q_callV (As := [.int (0 : Int32)]) (rest := []) hM hW.1 hR hC myX12_bringsBack (kAW (v_6_10 (List.mem_of_getElem? (i := 10) rfl)) rfl) (rfl : vwCl[12]? = some (RX12, TX12, 86)) rfl lb_129.1 (shO hW.2.1 lb_129) (a_X12_bringsBack _ _ cA ad g6899 (0 : Int32) hW.2.1 hG (by have := kc_0; omega) (by have := kc_0; omega)) ⟨by decide, by decide⟩ rfl rfl hl.1 (Nat.le_of_ble_eq_true rfl) dX12_triedBy_198 (fun v g6960 H locs hp hW1 => ?_)
              obtain ⟨rfl, hs1, hG, hf1⟩ := hp
              have f6961 : fld g6960 129 31 = .int (0 : Int32) := (hf1.1 129 31 (by omega)).trans f6900
              have f6962 : fld g6960 129 64 = .int x6959 := (hf1.1 129 64 (by omega)).trans fx6959
              have hW : WS ad cA (fun i k => i = 161 ∨ i = 156 ∨ i = 157 ∨ (i = 129 ∧ (k = 42 ∨ k = 43 ∨ k = 44 ∨ k = 45 ∨ k = 46 ∨ k = 47 ∨ k = 48 ∨ k = 49)) ∨ (i = 129 ∧ (k = 2 ∨ k = 57 ∨ k = 58 ∨ k = 61 ∨ k = 62 ∨ k = 63 ∨ k = 64)) ∨ i = 159 ∨ (i = 129 ∧ (k = 56 ∨ k = 65 ∨ k = 66)) ∨ (162 ≤ i ∧ i < 170) ∨ (158 ≤ i ∧ i < 162) ∨ (i = 129 ∧ (k = 31))) g0 K g6960 H locs := ⟨hW1, hs1, hW.2.2.tr hf1 (fun i k h => h.elim (fun h => (Or.inr (Or.inr (Or.inr (Or.inr (Or.inr (Or.inr (Or.inr (Or.inr (Or.inl h)))))))))) (fun h => (by omega)))⟩
              refine q_iload hM dX12_triedBy_201 (lv_at hl 0 rfl) ?_
              exact hE _ _ _ _ _ _ hW.1 ⟨_, rfl, hW.2.1, hG, hW.2.2⟩ dX12_triedBy_203
          · refine q_iconst (v := ((-1) : Int32)) hM dX12_triedBy_57 (by decide) ?_
            exact hE _ _ _ _ _ _ hW.1 ⟨_, rfl, hW.2.1, hG, hW.2.2⟩ dX12_triedBy_58
