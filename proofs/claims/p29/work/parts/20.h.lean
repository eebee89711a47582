theorem i_shr0 {x s z : Int32} (h : x >>> (s &&& 31) = z) (hs : s.toInt = 0) : z.toInt = x.toInt := by
  have e : s = nI 0 := nI_k (k := 0) hs (by decide)
  have e2 : x >>> (s &&& 31) = x := b_ext (fun i hi => by rw [e, b_sshr 0 (by decide) x hi]; simp [hi])
  rw [← h, e2]

theorem dJ0_isLatin1_aae02_0 : decode cJ0_isLatin1_aae02 0 = .ok (.getstatic 38, 3) := by decide +kernel
theorem dJ0_isLatin1_aae02_3 : decode cJ0_isLatin1_aae02 3 = .ok (.ifCond .eq 14, 3) := by decide +kernel
theorem dJ0_isLatin1_aae02_6 : decode cJ0_isLatin1_aae02 6 = .ok (.aload_n 0, 1) := by decide +kernel
theorem dJ0_isLatin1_aae02_7 : decode cJ0_isLatin1_aae02 7 = .ok (.getfield 15, 3) := by decide +kernel
theorem dJ0_isLatin1_aae02_10 : decode cJ0_isLatin1_aae02 10 = .ok (.ifCond .ne 7, 3) := by decide +kernel
theorem dJ0_isLatin1_aae02_13 : decode cJ0_isLatin1_aae02 13 = .ok (.iconst 1, 1) := by decide +kernel
theorem dJ0_isLatin1_aae02_14 : decode cJ0_isLatin1_aae02 14 = .ok (.goto 4, 3) := by decide +kernel
theorem dJ0_isLatin1_aae02_18 : decode cJ0_isLatin1_aae02 18 = .ok (.ireturn, 1) := by decide +kernel
set_option maxRecDepth 100000 in
set_option maxHeartbeats 4000000 in
theorem a_J0_isLatin1_0 (l : Launch) (D : va_G) (cA : Nat → ClassId) (ad : Nat → Nat) (g0 : Nat → va_E)  (hSh : Shp ad cA g0) (hG : Rng g0) : CT l NN ad cA D yJ0_isLatin1_aae02 cJ0_isLatin1_aae02 1 (some FieldType.boolean) (0, 0) [.ref (ad 400)] g0 (PU g0 (fun r => r.toInt = 1)) := by
  refine q_enterZ (by decide) (Nat.le_of_ble_eq_true rfl) (fun K H locs ls _ _ hM hW0 hR hC hE hl => ?_)
  have hl : lv_has ls 1 [(0, .ref (ad 400))] := hl
  have hW : WS ad cA (fun i k => False) g0 K g0 H locs := ⟨hW0, hSh, FR.rf⟩
  refine q_getsC hM hW.1 (kAW (v_2_2 (List.mem_of_getElem? (i := 0) rfl)) rfl) dJ0_isLatin1_aae02_0 ?_
  refine q_if_eq (tgt := 17) hM dJ0_isLatin1_aae02_3 (by decide) (kc_1 : (1 : Int32).toInt = 1) (fun h3 => ?_) (fun h3 => ?_)
  · omega
  · refine q_aload_n hM dJ0_isLatin1_aae02_6 (lv_at hl 0 rfl) ?_
    refine q_getCo (i := 0) hM hW.1 (by decide) (kAW (v_7_6 (List.mem_of_getElem? (i := 15) rfl)) rfl) dJ0_isLatin1_aae02_7 ?_
    refine q_if_ne (tgt := 17) hM dJ0_isLatin1_aae02_10 (by decide) (kc_0 : (0 : Int32).toInt = 0) (fun h10 => ?_) (fun h10 => ?_)
    · omega
    · refine q_iconst (v := (1 : Int32)) hM dJ0_isLatin1_aae02_13 (by decide) ?_
      refine q_goto (tgt := 18) hM dJ0_isLatin1_aae02_14 (by decide) ?_
      exact hE _ _ _ _ _ _ hW.1 nz_1 ⟨_, rfl, (by have := kc_1; omega), rfl⟩ dJ0_isLatin1_aae02_18

theorem dJ0_coder_7d493_0 : decode cJ0_coder_7d493 0 = .ok (.getstatic 38, 3) := by decide +kernel
theorem dJ0_coder_7d493_3 : decode cJ0_coder_7d493 3 = .ok (.ifCond .eq 10, 3) := by decide +kernel
theorem dJ0_coder_7d493_6 : decode cJ0_coder_7d493 6 = .ok (.aload_n 0, 1) := by decide +kernel
theorem dJ0_coder_7d493_7 : decode cJ0_coder_7d493 7 = .ok (.getfield 15, 3) := by decide +kernel
theorem dJ0_coder_7d493_10 : decode cJ0_coder_7d493 10 = .ok (.goto 4, 3) := by decide +kernel
theorem dJ0_coder_7d493_14 : decode cJ0_coder_7d493 14 = .ok (.ireturn, 1) := by decide +kernel
set_option maxRecDepth 100000 in
set_option maxHeartbeats 4000000 in
theorem a_J0_coder_0 (l : Launch) (D : va_G) (cA : Nat → ClassId) (ad : Nat → Nat) (g0 : Nat → va_E)  (hSh : Shp ad cA g0) (hG : Rng g0) : CT l NN ad cA D yJ0_coder_7d493 cJ0_coder_7d493 1 (some FieldType.byte) (0, 0) [.ref (ad 400)] g0 (PU g0 (fun r => r.toInt = 0)) := by
  refine q_enterZ (by decide) (Nat.le_of_ble_eq_true rfl) (fun K H locs ls _ _ hM hW0 hR hC hE hl => ?_)
  have hl : lv_has ls 1 [(0, .ref (ad 400))] := hl
  have hW : WS ad cA (fun i k => False) g0 K g0 H locs := ⟨hW0, hSh, FR.rf⟩
  refine q_getsC hM hW.1 (kAW (v_2_2 (List.mem_of_getElem? (i := 0) rfl)) rfl) dJ0_coder_7d493_0 ?_
  refine q_if_eq (tgt := 13) hM dJ0_coder_7d493_3 (by decide) (kc_1 : (1 : Int32).toInt = 1) (fun h3 => ?_) (fun h3 => ?_)
  · omega
  · refine q_aload_n hM dJ0_coder_7d493_6 (lv_at hl 0 rfl) ?_
    refine q_getCo (i := 0) hM hW.1 (by decide) (kAW (v_7_6 (List.mem_of_getElem? (i := 15) rfl)) rfl) dJ0_coder_7d493_7 ?_
    refine q_goto (tgt := 14) hM dJ0_coder_7d493_10 (by decide) ?_
    exact hE _ _ _ _ _ _ hW.1 rfl ⟨_, rfl, (by have := kc_0; omega), rfl⟩ dJ0_coder_7d493_14

theorem dJ0_length_8abf5_0 : decode cJ0_length_8abf5 0 = .ok (.aload_n 0, 1) := by decide +kernel
theorem dJ0_length_8abf5_1 : decode cJ0_length_8abf5 1 = .ok (.getfield 9, 3) := by decide +kernel
theorem dJ0_length_8abf5_4 : decode cJ0_length_8abf5 4 = .ok (.arraylength, 1) := by decide +kernel
theorem dJ0_length_8abf5_5 : decode cJ0_length_8abf5 5 = .ok (.aload_n 0, 1) := by decide +kernel
theorem dJ0_length_8abf5_6 : decode cJ0_length_8abf5 6 = .ok (.invokevirtual 335, 3) := by decide +kernel
theorem dJ0_length_8abf5_9 : decode cJ0_length_8abf5 9 = .ok (.ishr, 1) := by decide +kernel
theorem dJ0_length_8abf5_10 : decode cJ0_length_8abf5 10 = .ok (.ireturn, 1) := by decide +kernel
theorem myJ0_coder_7d493 : MI yJ0_coder_7d493 cJ0_coder_7d493 1 (some FieldType.byte) 0 := ⟨kAW (v_2_2 (List.mem_of_getElem? (i := 9) rfl)) rfl, kAW (v_0_0 (List.mem_of_getElem? (i := 15) rfl)) rfl, kAW (v_2_2 (List.mem_of_getElem? (i := 7) rfl)) rfl, kAW (v_2_2 (List.mem_of_getElem? (i := 8) rfl)) rfl, by decide, by decide, by decide +kernel⟩
set_option maxRecDepth 100000 in
set_option maxHeartbeats 4000000 in
theorem a_J0_length_0 (l : Launch) (D : va_G) (cA : Nat → ClassId) (ad : Nat → Nat) (g0 : Nat → va_E)  (hSh : Shp ad cA g0) (hG : Rng g0) : CT l NN ad cA D yJ0_length_8abf5 cJ0_length_8abf5 1 (some FieldType.int) (1, 20) [.ref (ad 400)] g0 (PU g0 (fun r => r.toInt = 5)) := by
  refine q_enterI (by decide) (Nat.le_of_ble_eq_true rfl) rfl (fun K H locs ls _ _ hM hW0 hR hC hE hl => ?_)
  have hl : lv_has ls 1 [(0, .ref (ad 400))] := hl
  have hW : WS ad cA (fun i k => False) g0 K g0 H locs := ⟨hW0, hSh, FR.rf⟩
  have := kc_5
  refine q_aload_n hM dJ0_length_8abf5_0 (lv_at hl 0 rfl) ?_
  refine q_getVa (i := 0) hM hW.1 (by decide) (kAW (v_7_7 (List.mem_of_getElem? (i := 0) rfl)) rfl) dJ0_length_8abf5_1 ?_
  refine q_tlen (i := 0) (v := (5 : Int32)) hM hW.1 (by decide) (by decide) dJ0_length_8abf5_4 ?_
  refine q_aload_n hM dJ0_length_8abf5_5 (lv_at hl 0 rfl) ?_
  refine q_callT (i := 0) (As := []) (rest := [.int (5 : Int32)]) hM hW.1 hR hC myJ0_coder_7d493 (kAW (v_2_2 (List.mem_of_getElem? (i := 6) rfl)) rfl) rfl (by decide) (a_J0_coder_0 _ _ cA ad g0  hW.2.1 hG) ⟨by decide, by decide⟩ rfl rfl hl.1 (Nat.le_of_ble_eq_true rfl) dJ0_length_8abf5_6 (fun v g2711 H locs hp hW1 => ?_)
  obtain ⟨r2710, rfl, hr2710, rfl⟩ := hp
  have hW : WS ad cA (fun i k => False) g0 K g0 H locs := ⟨hW1, hW.2.1, hW.2.2⟩
  refine q_ishr hM dJ0_length_8abf5_9 (fun z2712 hz2712 => ?_)
  have := i_shr0 hz2712 (by omega)
  exact hE _ _ _ _ _ _ hW.1 ⟨_, rfl, (by omega), rfl⟩ dJ0_length_8abf5_10

theorem dJ1_canEncode_9a6ad_0 : decode cJ1_canEncode_9a6ad 0 = .ok (.iload_n 0, 1) := by decide +kernel
theorem dJ1_canEncode_9a6ad_1 : decode cJ1_canEncode_9a6ad 1 = .ok (.ifCond .lt 14, 3) := by decide +kernel
theorem dJ1_canEncode_9a6ad_4 : decode cJ1_canEncode_9a6ad 4 = .ok (.iload_n 0, 1) := by decide +kernel
theorem dJ1_canEncode_9a6ad_5 : decode cJ1_canEncode_9a6ad 5 = .ok (.sipush 255, 3) := by decide +kernel
theorem dJ1_canEncode_9a6ad_8 : decode cJ1_canEncode_9a6ad 8 = .ok (.if_icmp .gt 7, 3) := by decide +kernel
theorem dJ1_canEncode_9a6ad_11 : decode cJ1_canEncode_9a6ad 11 = .ok (.iconst 1, 1) := by decide +kernel
theorem dJ1_canEncode_9a6ad_12 : decode cJ1_canEncode_9a6ad 12 = .ok (.goto 4, 3) := by decide +kernel
theorem dJ1_canEncode_9a6ad_15 : decode cJ1_canEncode_9a6ad 15 = .ok (.iconst 0, 1) := by decide +kernel
theorem dJ1_canEncode_9a6ad_16 : decode cJ1_canEncode_9a6ad 16 = .ok (.ireturn, 1) := by decide +kernel
set_option maxRecDepth 100000 in
set_option maxHeartbeats 4000000 in
theorem a_J1_canEncode_9a6ad (l : Launch) (D : va_G) (cA : Nat → ClassId) (ad : Nat → Nat) (g0 : Nat → va_E) (c : Int32) (hSh : Shp ad cA g0) (hG : Rng g0) : CT l NN ad cA D yJ1_canEncode_9a6ad cJ1_canEncode_9a6ad 1 (some FieldType.boolean) (0, 0) [.int c] g0 (PU g0 (fun r => r.toInt = 0 ∨ r.toInt = 1)) := by
  refine q_enterZ (by decide) (Nat.le_of_ble_eq_true rfl) (fun K H locs ls _ _ hM hW0 hR hC hE hl => ?_)
  have hl : lv_has ls 1 [(0, .int c)] := hl
  have hW : WS ad cA (fun i k => False) g0 K g0 H locs := ⟨hW0, hSh, FR.rf⟩
  refine q_iload_n hM dJ1_canEncode_9a6ad_0 (lv_at hl 0 rfl) ?_
  refine q_if_lt (tgt := 15) hM dJ1_canEncode_9a6ad_1 (by decide) (rfl : c.toInt = c.toInt) (fun h1 => ?_) (fun h1 => ?_)
  · refine q_iconst (v := (0 : Int32)) hM dJ1_canEncode_9a6ad_15 (by decide) ?_
    exact hE _ _ _ _ _ _ hW.1 nz_0 ⟨_, rfl, (by have := kc_0; omega), rfl⟩ dJ1_canEncode_9a6ad_16
  · refine q_iload_n hM dJ1_canEncode_9a6ad_4 (lv_at hl 0 rfl) ?_
    refine q_sipush (v := (255 : Int32)) hM dJ1_canEncode_9a6ad_5 (by decide) ?_
    refine q_icmp_gt (tgt := 15) hM dJ1_canEncode_9a6ad_8 (by decide) (rfl : c.toInt = c.toInt) (kc_255 : (255 : Int32).toInt = 255) (fun h8 => ?_) (fun h8 => ?_)
    · refine q_iconst (v := (0 : Int32)) hM dJ1_canEncode_9a6ad_15 (by decide) ?_
      exact hE _ _ _ _ _ _ hW.1 nz_0 ⟨_, rfl, (by have := kc_0; omega), rfl⟩ dJ1_canEncode_9a6ad_16
    · refine q_iconst (v := (1 : Int32)) hM dJ1_canEncode_9a6ad_11 (by decide) ?_
      refine q_goto (tgt := 16) hM dJ1_canEncode_9a6ad_12 (by decide) ?_
      exact hE _ _ _ _ _ _ hW.1 nz_1 ⟨_, rfl, (by have := kc_1; omega), rfl⟩ dJ1_canEncode_9a6ad_16

theorem dJ1_indexOfChar_4cfef_0 : decode cJ1_indexOfChar_4cfef 0 = .ok (.iload_n 1, 1) := by decide +kernel
theorem dJ1_indexOfChar_4cfef_1 : decode cJ1_indexOfChar_4cfef 1 = .ok (.i2b, 1) := by decide +kernel
theorem dJ1_indexOfChar_4cfef_2 : decode cJ1_indexOfChar_4cfef 2 = .ok (.istore 4, 2) := by decide +kernel
theorem dJ1_indexOfChar_4cfef_4 : decode cJ1_indexOfChar_4cfef 4 = .ok (.iload_n 2, 1) := by decide +kernel
theorem dJ1_indexOfChar_4cfef_5 : decode cJ1_indexOfChar_4cfef 5 = .ok (.istore 5, 2) := by decide +kernel
theorem dJ1_indexOfChar_4cfef_7 : decode cJ1_indexOfChar_4cfef 7 = .ok (.iload 5, 2) := by decide +kernel
theorem dJ1_indexOfChar_4cfef_9 : decode cJ1_indexOfChar_4cfef 9 = .ok (.iload_n 3, 1) := by decide +kernel
theorem dJ1_indexOfChar_4cfef_10 : decode cJ1_indexOfChar_4cfef 10 = .ok (.if_icmp .ge 21, 3) := by decide +kernel
theorem dJ1_indexOfChar_4cfef_13 : decode cJ1_indexOfChar_4cfef 13 = .ok (.aload_n 0, 1) := by decide +kernel
theorem dJ1_indexOfChar_4cfef_14 : decode cJ1_indexOfChar_4cfef 14 = .ok (.iload 5, 2) := by decide +kernel
theorem dJ1_indexOfChar_4cfef_16 : decode cJ1_indexOfChar_4cfef 16 = .ok (.baload, 1) := by decide +kernel
theorem dJ1_indexOfChar_4cfef_17 : decode cJ1_indexOfChar_4cfef 17 = .ok (.iload 4, 2) := by decide +kernel
theorem dJ1_indexOfChar_4cfef_19 : decode cJ1_indexOfChar_4cfef 19 = .ok (.if_icmp .ne 6, 3) := by decide +kernel
theorem dJ1_indexOfChar_4cfef_22 : decode cJ1_indexOfChar_4cfef 22 = .ok (.iload 5, 2) := by decide +kernel
theorem dJ1_indexOfChar_4cfef_24 : decode cJ1_indexOfChar_4cfef 24 = .ok (.ireturn, 1) := by decide +kernel
theorem dJ1_indexOfChar_4cfef_25 : decode cJ1_indexOfChar_4cfef 25 = .ok (.iinc 5 1, 3) := by decide +kernel
theorem dJ1_indexOfChar_4cfef_28 : decode cJ1_indexOfChar_4cfef 28 = .ok (.goto (-21), 3) := by decide +kernel
theorem dJ1_indexOfChar_4cfef_31 : decode cJ1_indexOfChar_4cfef 31 = .ok (.iconst (-1), 1) := by decide +kernel
theorem dJ1_indexOfChar_4cfef_32 : decode cJ1_indexOfChar_4cfef 32 = .ok (.ireturn, 1) := by decide +kernel
set_option maxRecDepth 100000 in
set_option maxHeartbeats 4000000 in
theorem a_J1_indexOfChar_0 (l : Launch) (D : va_G) (cA : Nat → ClassId) (ad : Nat → Nat) (g0 : Nat → va_E) (c : Int32) (fr : Int32) (mx : Int32) (hSh : Shp ad cA g0) (hG : Rng g0) (fr0 : 0 ≤ fr.toInt) (mx1 : mx.toInt ≤ 5) : CT l NN ad cA D yJ1_indexOfChar_4cfef cJ1_indexOfChar_4cfef 6 (some FieldType.int) (0, 0) [.ref (ad 410), .int c, .int fr, .int mx] g0 (PU g0 (fun r => -1 ≤ r.toInt ∧ r.toInt < 5)) := by
  refine q_enterI (by decide) (Nat.le_of_ble_eq_true rfl) rfl (fun K H locs ls _ _ hM hW0 hR hC hE hl => ?_)
  have hl : lv_has ls 6 [(0, .ref (ad 410)), (1, .int c), (2, .int fr), (3, .int mx)] := hl
  have hW : WS ad cA (fun i k => False) g0 K g0 H locs := ⟨hW0, hSh, FR.rf⟩
  refine q_iload_n hM dJ1_indexOfChar_4cfef_0 (lv_at hl 1 rfl) ?_
  refine q_i2b hM dJ1_indexOfChar_4cfef_1 ?_
  refine q_istore (lv9 := [(4, .int c.toInt8.toInt32), (0, .ref (ad 410)), (1, .int c), (2, .int fr), (3, .int mx)]) hM dJ1_indexOfChar_4cfef_2 hl (by decide) rfl (fun ls hl => ?_)
  refine q_iload_n hM dJ1_indexOfChar_4cfef_4 (lv_at hl 3 rfl) ?_
  refine q_istore (lv9 := [(5, .int fr), (4, .int c.toInt8.toInt32), (0, .ref (ad 410)), (1, .int c), (2, .int fr), (3, .int mx)]) hM dJ1_indexOfChar_4cfef_5 hl (by decide) rfl (fun ls hl => ?_)
  have L7 : ∀ (fu7 : Nat) (w7_5 : Int32) (H : Heap) (locs : List Loc) (ls : Array Slot), (mx.toInt - w7_5.toInt + 1).toNat < fu7 → (fr.toInt ≤ w7_5.toInt) → lv_has ls 6 [(0, .ref (ad 410)), (1, .int c), (2, .int fr), (3, .int mx), (4, .int c.toInt8.toInt32), (5, .int w7_5)] → WS ad cA (fun i k => False) g0 K g0 H locs → XX K 0 0 H locs 7 ls [] := by
    intro fu7
    induction fu7 with
    | zero => intro w7_5 H locs ls h0; omega
    | succ fu7 ih7 =>
      intro w7_5 H locs ls hm7 i7_0 hl hW
      have := i_rng mx
      refine q_iload hM dJ1_indexOfChar_4cfef_7 (lv_at hl 5 rfl) ?_
      refine q_iload_n hM dJ1_indexOfChar_4cfef_9 (lv_at hl 3 rfl) ?_
      refine q_icmp_ge (tgt := 31) hM dJ1_indexOfChar_4cfef_10 (by decide) (rfl : w7_5.toInt = w7_5.toInt) (rfl : mx.toInt = mx.toInt) (fun h10 => ?_) (fun h10 => ?_)
      · refine q_iconst (v := ((-1) : Int32)) hM dJ1_indexOfChar_4cfef_31 (by decide) ?_
        exact hE _ _ _ _ _ _ hW.1 ⟨_, rfl, (by have := kc_m1; omega), rfl⟩ dJ1_indexOfChar_4cfef_32
      · refine q_aload_n hM dJ1_indexOfChar_4cfef_13 (lv_at hl 0 rfl) ?_
        refine q_iload hM dJ1_indexOfChar_4cfef_14 (lv_at hl 5 rfl) ?_
        refine q_tb (i := 0) hM hW.1 (by decide) (i_in (by omega) (by show _ < ((5 : Nat) : Int); omega)) dJ1_indexOfChar_4cfef_16 ?_
        refine q_top (fun y2720 hy2720 => ?_)
        refine q_iload hM dJ1_indexOfChar_4cfef_17 (lv_at hl 4 rfl) ?_
        refine q_icmp_ne (tgt := 25) hM dJ1_indexOfChar_4cfef_19 (by decide) (rfl : y2720.toInt = y2720.toInt) (rfl : c.toInt8.toInt32.toInt = c.toInt8.toInt32.toInt) (fun h19 => ?_) (fun h19 => ?_)
        · refine q_iinc (lv9 := fun z2722 => [(5, .int z2722), (0, .ref (ad 410)), (1, .int c), (2, .int fr), (3, .int mx), (4, .int c.toInt8.toInt32)]) hM dJ1_indexOfChar_4cfef_25 hl (kq := 5) rfl (by decide) (fun _ => rfl) (fun z2722 ls hz2722 hl => ?_)
          first | have tz2722 := i_addT hz2722 (rfl : w7_5.toInt = w7_5.toInt) (kc_1 : (Int32.ofInt 1).toInt = 1) (by omega) (by omega) | skip
          refine q_goto (tgt := 7) hM dJ1_indexOfChar_4cfef_28 (by decide) ?_
          exact ih7 z2722 _ _ _ (by omega) (by omega) (lv_sub hl [1, 2, 3, 4, 5, 0] rfl) hW
        · refine q_iload hM dJ1_indexOfChar_4cfef_22 (lv_at hl 5 rfl) ?_
          exact hE _ _ _ _ _ _ hW.1 ⟨_, rfl, (by omega), rfl⟩ dJ1_indexOfChar_4cfef_24
  exact L7 _ fr _ _ _ (Nat.lt_succ_self _) (by omega) (lv_sub hl [2, 3, 4, 5, 1, 0] rfl) hW

theorem dJ1_indexOf_4cfef_0 : decode cJ1_indexOf_4cfef 0 = .ok (.iload_n 1, 1) := by decide +kernel
theorem dJ1_indexOf_4cfef_1 : decode cJ1_indexOf_4cfef 1 = .ok (.invokestatic 88, 3) := by decide +kernel
theorem dJ1_indexOf_4cfef_4 : decode cJ1_indexOf_4cfef 4 = .ok (.ifCond .ne 5, 3) := by decide +kernel
theorem dJ1_indexOf_4cfef_7 : decode cJ1_indexOf_4cfef 7 = .ok (.iconst (-1), 1) := by decide +kernel
theorem dJ1_indexOf_4cfef_8 : decode cJ1_indexOf_4cfef 8 = .ok (.ireturn, 1) := by decide +kernel
theorem dJ1_indexOf_4cfef_9 : decode cJ1_indexOf_4cfef 9 = .ok (.iload_n 2, 1) := by decide +kernel
theorem dJ1_indexOf_4cfef_10 : decode cJ1_indexOf_4cfef 10 = .ok (.iconst 0, 1) := by decide +kernel
theorem dJ1_indexOf_4cfef_11 : decode cJ1_indexOf_4cfef 11 = .ok (.invokestatic 92, 3) := by decide +kernel
theorem dJ1_indexOf_4cfef_14 : decode cJ1_indexOf_4cfef 14 = .ok (.istore_n 2, 1) := by decide +kernel
theorem dJ1_indexOf_4cfef_15 : decode cJ1_indexOf_4cfef 15 = .ok (.iload_n 3, 1) := by decide +kernel
theorem dJ1_indexOf_4cfef_16 : decode cJ1_indexOf_4cfef 16 = .ok (.aload_n 0, 1) := by decide +kernel
theorem dJ1_indexOf_4cfef_17 : decode cJ1_indexOf_4cfef 17 = .ok (.arraylength, 1) := by decide +kernel
theorem dJ1_indexOf_4cfef_18 : decode cJ1_indexOf_4cfef 18 = .ok (.invokestatic 38, 3) := by decide +kernel
theorem dJ1_indexOf_4cfef_21 : decode cJ1_indexOf_4cfef 21 = .ok (.istore_n 3, 1) := by decide +kernel
theorem dJ1_indexOf_4cfef_22 : decode cJ1_indexOf_4cfef 22 = .ok (.iload_n 2, 1) := by decide +kernel
theorem dJ1_indexOf_4cfef_23 : decode cJ1_indexOf_4cfef 23 = .ok (.iload_n 3, 1) := by decide +kernel
theorem dJ1_indexOf_4cfef_24 : decode cJ1_indexOf_4cfef 24 = .ok (.if_icmp .lt 5, 3) := by decide +kernel
theorem dJ1_indexOf_4cfef_27 : decode cJ1_indexOf_4cfef 27 = .ok (.iconst (-1), 1) := by decide +kernel
theorem dJ1_indexOf_4cfef_28 : decode cJ1_indexOf_4cfef 28 = .ok (.ireturn, 1) := by decide +kernel
theorem dJ1_indexOf_4cfef_29 : decode cJ1_indexOf_4cfef 29 = .ok (.aload_n 0, 1) := by decide +kernel
theorem dJ1_indexOf_4cfef_30 : decode cJ1_indexOf_4cfef 30 = .ok (.iload_n 1, 1) := by decide +kernel
theorem dJ1_indexOf_4cfef_31 : decode cJ1_indexOf_4cfef 31 = .ok (.iload_n 2, 1) := by decide +kernel
theorem dJ1_indexOf_4cfef_32 : decode cJ1_indexOf_4cfef 32 = .ok (.iload_n 3, 1) := by decide +kernel
theorem dJ1_indexOf_4cfef_33 : decode cJ1_indexOf_4cfef 33 = .ok (.invokestatic 95, 3) := by decide +kernel
theorem dJ1_indexOf_4cfef_36 : decode cJ1_indexOf_4cfef 36 = .ok (.ireturn, 1) := by decide +kernel
theorem myJ1_canEncode_9a6ad : MS yJ1_canEncode_9a6ad cJ1_canEncode_9a6ad 1 (some FieldType.boolean) 1 := ⟨kAW (v_2_2 (List.mem_of_getElem? (i := 15) rfl)) rfl, kAW (v_0_1 (List.mem_of_getElem? (i := 0) rfl)) rfl, kAW (v_2_2 (List.mem_of_getElem? (i := 14) rfl)) rfl, by decide, by decide, by decide +kernel⟩
theorem myJ1_indexOfChar_4cfef : MS yJ1_indexOfChar_4cfef cJ1_indexOfChar_4cfef 6 (some FieldType.int) 4 := ⟨kAW (v_2_3 (List.mem_of_getElem? (i := 6) rfl)) rfl, kAW (v_0_1 (List.mem_of_getElem? (i := 0) rfl)) rfl, kAW (v_2_3 (List.mem_of_getElem? (i := 5) rfl)) rfl, by decide, by decide, by decide +kernel⟩
set_option maxRecDepth 100000 in
set_option maxHeartbeats 4000000 in
theorem a_J1_indexOf_0 (l : Launch) (D : va_G) (cA : Nat → ClassId) (ad : Nat → Nat) (g0 : Nat → va_E) (c : Int32) (fr : Int32) (mx : Int32) (hSh : Shp ad cA g0) (hG : Rng g0) : CT l NN ad cA D yJ1_indexOf_4cfef cJ1_indexOf_4cfef 4 (some FieldType.int) (1, 25) [.ref (ad 410), .int c, .int fr, .int mx] g0 (PU g0 (fun r => -1 ≤ r.toInt ∧ r.toInt < 5)) := by
  refine q_enterI (by decide) (Nat.le_of_ble_eq_true rfl) rfl (fun K H locs ls _ _ hM hW0 hR hC hE hl => ?_)
  have hl : lv_has ls 4 [(0, .ref (ad 410)), (1, .int c), (2, .int fr), (3, .int mx)] := hl
  have hW : WS ad cA (fun i k => False) g0 K g0 H locs := ⟨hW0, hSh, FR.rf⟩
  refine q_iload_n hM dJ1_indexOf_4cfef_0 (lv_at hl 1 rfl) ?_
  refine q_callS (As := [.int c]) (rest := []) hM hW.1 hR hC myJ1_canEncode_9a6ad (kAW (v_2_2 (List.mem_of_getElem? (i := 13) rfl)) rfl) (a_J1_canEncode_9a6ad _ _ cA ad g0 c hW.2.1 hG) ⟨by decide, by decide⟩ rfl rfl hl.1 (Nat.le_of_ble_eq_true rfl) dJ1_indexOf_4cfef_1 (fun v g2725 H locs hp hW1 => ?_)
  obtain ⟨r2724, rfl, hr2724, rfl⟩ := hp
  have hW : WS ad cA (fun i k => False) g0 K g0 H locs := ⟨hW1, hW.2.1, hW.2.2⟩
  refine q_if_ne (tgt := 9) hM dJ1_indexOf_4cfef_4 (by decide) (rfl : r2724.toInt = r2724.toInt) (fun h4 => ?_) (fun h4 => ?_)
  · refine q_iload_n hM dJ1_indexOf_4cfef_9 (lv_at hl 2 rfl) ?_
    refine q_iconst (v := (0 : Int32)) hM dJ1_indexOf_4cfef_10 (by decide) ?_
    refine q_mmax hM hR hC (kAW (v_2_3 (List.mem_of_getElem? (i := 0) rfl)) rfl) hl.1 (by decide) (Nat.le_of_ble_eq_true rfl) dJ1_indexOf_4cfef_11 (fun r2727 hr2727 => ?_)
    have := kc_0
    refine q_istore_n (lv9 := [(2, .int r2727), (0, .ref (ad 410)), (1, .int c), (3, .int mx)]) hM dJ1_indexOf_4cfef_14 hl (by decide) rfl (fun ls hl => ?_)
    refine q_iload_n hM dJ1_indexOf_4cfef_15 (lv_at hl 3 rfl) ?_
    refine q_aload_n hM dJ1_indexOf_4cfef_16 (lv_at hl 1 rfl) ?_
    refine q_tlen (i := 0) (v := (5 : Int32)) hM hW.1 (by decide) (by decide) dJ1_indexOf_4cfef_17 ?_
    refine q_mmin hM hR hC (kAW (v_2_3 (List.mem_of_getElem? (i := 3) rfl)) rfl) hl.1 (by decide) (Nat.le_of_ble_eq_true rfl) dJ1_indexOf_4cfef_18 (fun r2728 hr2728 => ?_)
    have := kc_5
    refine q_istore_n (lv9 := [(3, .int r2728), (2, .int r2727), (0, .ref (ad 410)), (1, .int c)]) hM dJ1_indexOf_4cfef_21 hl (by decide) rfl (fun ls hl => ?_)
    refine q_iload_n hM dJ1_indexOf_4cfef_22 (lv_at hl 1 rfl) ?_
    refine q_iload_n hM dJ1_indexOf_4cfef_23 (lv_at hl 0 rfl) ?_
    refine q_icmp_lt (tgt := 29) hM dJ1_indexOf_4cfef_24 (by decide) (rfl : r2727.toInt = r2727.toInt) (rfl : r2728.toInt = r2728.toInt) (fun h24 => ?_) (fun h24 => ?_)
    · refine q_aload_n hM dJ1_indexOf_4cfef_29 (lv_at hl 2 rfl) ?_
      refine q_iload_n hM dJ1_indexOf_4cfef_30 (lv_at hl 3 rfl) ?_
      refine q_iload_n hM dJ1_indexOf_4cfef_31 (lv_at hl 1 rfl) ?_
      refine q_iload_n hM dJ1_indexOf_4cfef_32 (lv_at hl 0 rfl) ?_
      refine q_callS (As := [.ref (ad 410), .int c, .int r2727, .int r2728]) (rest := []) hM hW.1 hR hC myJ1_indexOfChar_4cfef (kAW (v_2_3 (List.mem_of_getElem? (i := 4) rfl)) rfl) (a_J1_indexOfChar_0 _ _ cA ad g0 c r2727 r2728 hW.2.1 hG (by  omega) (by  omega)) ⟨by decide, by decide⟩ rfl rfl hl.1 (Nat.le_of_ble_eq_true rfl) dJ1_indexOf_4cfef_33 (fun v g2731 H locs hp hW1 => ?_)
      obtain ⟨r2730, rfl, hr2730, rfl⟩ := hp
      have hW : WS ad cA (fun i k => False) g0 K g0 H locs := ⟨hW1, hW.2.1, hW.2.2⟩
      exact hE _ _ _ _ _ _ hW.1 ⟨_, rfl, (by omega), rfl⟩ dJ1_indexOf_4cfef_36
    · refine q_iconst (v := ((-1) : Int32)) hM dJ1_indexOf_4cfef_27 (by decide) ?_
      exact hE _ _ _ _ _ _ hW.1 ⟨_, rfl, (by have := kc_m1; omega), rfl⟩ dJ1_indexOf_4cfef_28
  · refine q_iconst (v := ((-1) : Int32)) hM dJ1_indexOf_4cfef_7 (by decide) ?_
    exact hE _ _ _ _ _ _ hW.1 ⟨_, rfl, (by have := kc_m1; omega), rfl⟩ dJ1_indexOf_4cfef_8

theorem dJ0_indexOf_7cf53_0 : decode cJ0_indexOf_7cf53 0 = .ok (.aload_n 0, 1) := by decide +kernel
theorem dJ0_indexOf_7cf53_1 : decode cJ0_indexOf_7cf53 1 = .ok (.invokevirtual 492, 3) := by decide +kernel
theorem dJ0_indexOf_7cf53_4 : decode cJ0_indexOf_7cf53 4 = .ok (.ifCond .eq 19, 3) := by decide +kernel
theorem dJ0_indexOf_7cf53_7 : decode cJ0_indexOf_7cf53 7 = .ok (.aload_n 0, 1) := by decide +kernel
theorem dJ0_indexOf_7cf53_8 : decode cJ0_indexOf_7cf53 8 = .ok (.getfield 9, 3) := by decide +kernel
theorem dJ0_indexOf_7cf53_11 : decode cJ0_indexOf_7cf53 11 = .ok (.iload_n 1, 1) := by decide +kernel
theorem dJ0_indexOf_7cf53_12 : decode cJ0_indexOf_7cf53 12 = .ok (.iload_n 2, 1) := by decide +kernel
theorem dJ0_indexOf_7cf53_13 : decode cJ0_indexOf_7cf53 13 = .ok (.aload_n 0, 1) := by decide +kernel
theorem dJ0_indexOf_7cf53_14 : decode cJ0_indexOf_7cf53 14 = .ok (.invokevirtual 505, 3) := by decide +kernel
theorem dJ0_indexOf_7cf53_17 : decode cJ0_indexOf_7cf53 17 = .ok (.invokestatic 637, 3) := by decide +kernel
theorem dJ0_indexOf_7cf53_20 : decode cJ0_indexOf_7cf53 20 = .ok (.goto 16, 3) := by decide +kernel
theorem dJ0_indexOf_7cf53_36 : decode cJ0_indexOf_7cf53 36 = .ok (.ireturn, 1) := by decide +kernel
theorem myJ0_isLatin1_aae02 : MI yJ0_isLatin1_aae02 cJ0_isLatin1_aae02 1 (some FieldType.boolean) 0 := ⟨kAW (v_2_1 (List.mem_of_getElem? (i := 15) rfl)) rfl, kAW (v_0_0 (List.mem_of_getElem? (i := 15) rfl)) rfl, kAW (v_2_1 (List.mem_of_getElem? (i := 13) rfl)) rfl, kAW (v_2_1 (List.mem_of_getElem? (i := 14) rfl)) rfl, by decide, by decide, by decide +kernel⟩
theorem myJ0_length_8abf5 : MI yJ0_length_8abf5 cJ0_length_8abf5 1 (some FieldType.int) 0 := ⟨kAW (v_2_2 (List.mem_of_getElem? (i := 5) rfl)) rfl, kAW (v_0_0 (List.mem_of_getElem? (i := 15) rfl)) rfl, kAW (v_2_2 (List.mem_of_getElem? (i := 3) rfl)) rfl, kAW (v_2_2 (List.mem_of_getElem? (i := 4) rfl)) rfl, by decide, by decide, by decide +kernel⟩
theorem myJ1_indexOf_4cfef : MS yJ1_indexOf_4cfef cJ1_indexOf_4cfef 4 (some FieldType.int) 4 := ⟨kAW (v_2_2 (List.mem_of_getElem? (i := 12) rfl)) rfl, kAW (v_0_1 (List.mem_of_getElem? (i := 0) rfl)) rfl, kAW (v_2_2 (List.mem_of_getElem? (i := 11) rfl)) rfl, by decide, by decide, by decide +kernel⟩
set_option maxRecDepth 100000 in
set_option maxHeartbeats 4000000 in
theorem a_J0_indexOf2_0 (l : Launch) (D : va_G) (cA : Nat → ClassId) (ad : Nat → Nat) (g0 : Nat → va_E) (c : Int32) (fr : Int32) (hSh : Shp ad cA g0) (hG : Rng g0) : CT l NN ad cA D yJ0_indexOf_7cf53 cJ0_indexOf_7cf53 3 (some FieldType.int) (2, 48) [.ref (ad 400), .int c, .int fr] g0 (PU g0 (fun r => -1 ≤ r.toInt ∧ r.toInt < 5)) := by
  refine q_enterI (by decide) (Nat.le_of_ble_eq_true rfl) rfl (fun K H locs ls _ _ hM hW0 hR hC hE hl => ?_)
  have hl : lv_has ls 3 [(0, .ref (ad 400)), (1, .int c), (2, .int fr)] := hl
  have hW : WS ad cA (fun i k => False) g0 K g0 H locs := ⟨hW0, hSh, FR.rf⟩
  refine q_aload_n hM dJ0_indexOf_7cf53_0 (lv_at hl 0 rfl) ?_
  refine q_callT (i := 0) (As := []) (rest := []) hM hW.1 hR hC myJ0_isLatin1_aae02 (kAW (v_2_1 (List.mem_of_getElem? (i := 12) rfl)) rfl) rfl (by decide) (a_J0_isLatin1_0 _ _ cA ad g0  hW.2.1 hG) ⟨by decide, by decide⟩ rfl rfl hl.1 (Nat.le_of_ble_eq_true rfl) dJ0_indexOf_7cf53_1 (fun v g2735 H locs hp hW1 => ?_)
  obtain ⟨r2734, rfl, hr2734, rfl⟩ := hp
  have hW : WS ad cA (fun i k => False) g0 K g0 H locs := ⟨hW1, hW.2.1, hW.2.2⟩
  refine q_if_eq (tgt := 23) hM dJ0_indexOf_7cf53_4 (by decide) (rfl : r2734.toInt = r2734.toInt) (fun h4 => ?_) (fun h4 => ?_)
  · omega
  · refine q_aload_n hM dJ0_indexOf_7cf53_7 (lv_at hl 0 rfl) ?_
    refine q_getVa (i := 0) hM hW.1 (by decide) (kAW (v_7_7 (List.mem_of_getElem? (i := 0) rfl)) rfl) dJ0_indexOf_7cf53_8 ?_
    refine q_iload_n hM dJ0_indexOf_7cf53_11 (lv_at hl 1 rfl) ?_
    refine q_iload_n hM dJ0_indexOf_7cf53_12 (lv_at hl 2 rfl) ?_
    refine q_aload_n hM dJ0_indexOf_7cf53_13 (lv_at hl 0 rfl) ?_
    refine q_callT (i := 0) (As := []) (rest := [.int fr, .int c, .ref (ad 410)]) hM hW.1 hR hC myJ0_length_8abf5 (kAW (v_2_2 (List.mem_of_getElem? (i := 2) rfl)) rfl) rfl (by decide) (a_J0_length_0 _ _ cA ad g0  hW.2.1 hG) ⟨by decide, by decide⟩ rfl rfl hl.1 (Nat.le_of_ble_eq_true rfl) dJ0_indexOf_7cf53_14 (fun v g2739 H locs hp hW1 => ?_)
    obtain ⟨r2738, rfl, hr2738, rfl⟩ := hp
    have hW : WS ad cA (fun i k => False) g0 K g0 H locs := ⟨hW1, hW.2.1, hW.2.2⟩
    refine q_callS (As := [.ref (ad 410), .int c, .int fr, .int r2738]) (rest := []) hM hW.1 hR hC myJ1_indexOf_4cfef (kAW (v_2_2 (List.mem_of_getElem? (i := 10) rfl)) rfl) (a_J1_indexOf_0 _ _ cA ad g0 c fr r2738 hW.2.1 hG) ⟨by decide, by decide⟩ rfl rfl hl.1 (Nat.le_of_ble_eq_true rfl) dJ0_indexOf_7cf53_17 (fun v g2741 H locs hp hW1 => ?_)
    obtain ⟨r2740, rfl, hr2740, rfl⟩ := hp
    have hW : WS ad cA (fun i k => False) g0 K g0 H locs := ⟨hW1, hW.2.1, hW.2.2⟩
    refine q_goto (tgt := 36) hM dJ0_indexOf_7cf53_20 (by decide) ?_
    exact hE _ _ _ _ _ _ hW.1 ⟨_, rfl, (by omega), rfl⟩ dJ0_indexOf_7cf53_36

theorem dJ0_indexOf_0f7a4_0 : decode cJ0_indexOf_0f7a4 0 = .ok (.aload_n 0, 1) := by decide +kernel
theorem dJ0_indexOf_0f7a4_1 : decode cJ0_indexOf_0f7a4 1 = .ok (.iload_n 1, 1) := by decide +kernel
theorem dJ0_indexOf_0f7a4_2 : decode cJ0_indexOf_0f7a4 2 = .ok (.iconst 0, 1) := by decide +kernel
theorem dJ0_indexOf_0f7a4_3 : decode cJ0_indexOf_0f7a4 3 = .ok (.invokevirtual 633, 3) := by decide +kernel
theorem dJ0_indexOf_0f7a4_6 : decode cJ0_indexOf_0f7a4 6 = .ok (.ireturn, 1) := by decide +kernel
theorem myJ0_indexOf_7cf53 : MI yJ0_indexOf_7cf53 cJ0_indexOf_7cf53 3 (some FieldType.int) 2 := ⟨kAW (v_2_1 (List.mem_of_getElem? (i := 11) rfl)) rfl, kAW (v_0_0 (List.mem_of_getElem? (i := 15) rfl)) rfl, kAW (v_2_1 (List.mem_of_getElem? (i := 9) rfl)) rfl, kAW (v_2_1 (List.mem_of_getElem? (i := 10) rfl)) rfl, by decide, by decide, by decide +kernel⟩
set_option maxRecDepth 100000 in
set_option maxHeartbeats 4000000 in
theorem a_J0_indexOf_0 (l : Launch) (D : va_G) (cA : Nat → ClassId) (ad : Nat → Nat) (g0 : Nat → va_E) (c : Int32) (hSh : Shp ad cA g0) (hG : Rng g0) : CT l NN ad cA D yJ0_indexOf_0f7a4 cJ0_indexOf_0f7a4 2 (some FieldType.int) (3, 70) [.ref (ad 400), .int c] g0 (PU g0 (fun r => -1 ≤ r.toInt ∧ r.toInt < 5)) := by
  refine q_enterI (by decide) (Nat.le_of_ble_eq_true rfl) rfl (fun K H locs ls _ _ hM hW0 hR hC hE hl => ?_)
  have hl : lv_has ls 2 [(0, .ref (ad 400)), (1, .int c)] := hl
  have hW : WS ad cA (fun i k => False) g0 K g0 H locs := ⟨hW0, hSh, FR.rf⟩
  refine q_aload_n hM dJ0_indexOf_0f7a4_0 (lv_at hl 0 rfl) ?_
  refine q_iload_n hM dJ0_indexOf_0f7a4_1 (lv_at hl 1 rfl) ?_
  refine q_iconst (v := (0 : Int32)) hM dJ0_indexOf_0f7a4_2 (by decide) ?_
  refine q_callT (i := 0) (As := [.int c, .int (0 : Int32)]) (rest := []) hM hW.1 hR hC myJ0_indexOf_7cf53 (kAW (v_2_1 (List.mem_of_getElem? (i := 8) rfl)) rfl) rfl (by decide) (a_J0_indexOf2_0 _ _ cA ad g0 c (0 : Int32) hW.2.1 hG) ⟨by decide, by decide⟩ rfl rfl hl.1 (Nat.le_of_ble_eq_true rfl) dJ0_indexOf_0f7a4_3 (fun v g2743 H locs hp hW1 => ?_)
  obtain ⟨r2742, rfl, hr2742, rfl⟩ := hp
  have hW : WS ad cA (fun i k => False) g0 K g0 H locs := ⟨hW1, hW.2.1, hW.2.2⟩
  exact hE _ _ _ _ _ _ hW.1 ⟨_, rfl, (by omega), rfl⟩ dJ0_indexOf_0f7a4_6

theorem dX4_placeOf_0 : decode cX4_placeOf 0 = .ok (.iload_n 1, 1) := by decide +kernel
theorem dX4_placeOf_1 : decode cX4_placeOf 1 = .ok (.ifCond .ge 7, 3) := by decide +kernel
theorem dX4_placeOf_4 : decode cX4_placeOf 4 = .ok (.iconst (-1), 1) := by decide +kernel
theorem dX4_placeOf_5 : decode cX4_placeOf 5 = .ok (.goto 9, 3) := by decide +kernel
theorem dX4_placeOf_8 : decode cX4_placeOf 8 = .ok (.aload_n 0, 1) := by decide +kernel
theorem dX4_placeOf_9 : decode cX4_placeOf 9 = .ok (.iload_n 1, 1) := by decide +kernel
theorem dX4_placeOf_10 : decode cX4_placeOf 10 = .ok (.i2c, 1) := by decide +kernel
theorem dX4_placeOf_11 : decode cX4_placeOf 11 = .ok (.invokevirtual 50, 3) := by decide +kernel
theorem dX4_placeOf_14 : decode cX4_placeOf 14 = .ok (.ireturn, 1) := by decide +kernel
theorem myJ0_indexOf_0f7a4 : MI yJ0_indexOf_0f7a4 cJ0_indexOf_0f7a4 2 (some FieldType.int) 1 := ⟨kAW (v_2_1 (List.mem_of_getElem? (i := 7) rfl)) rfl, kAW (v_0_0 (List.mem_of_getElem? (i := 15) rfl)) rfl, kAW (v_2_1 (List.mem_of_getElem? (i := 5) rfl)) rfl, kAW (v_2_1 (List.mem_of_getElem? (i := 6) rfl)) rfl, by decide, by decide, by decide +kernel⟩
set_option maxRecDepth 100000 in
set_option maxHeartbeats 4000000 in
theorem a_X4_placeOf_0 (l : Launch) (D : va_G) (cA : Nat → ClassId) (ad : Nat → Nat) (g0 : Nat → va_E) (si : Int32) (hSh : Shp ad cA g0) (hG : Rng g0) : CT l NN ad cA D yX4_placeOf cX4_placeOf 2 (some FieldType.int) (4, 91) [.ref (ad 400), .int si] g0 (PU g0 (fun r => -1 ≤ r.toInt ∧ r.toInt < 5 ∧ (0 ≤ r.toInt → 0 ≤ si.toInt))) := by
  refine q_enterI (by decide) (Nat.le_of_ble_eq_true rfl) rfl (fun K H locs ls _ _ hM hW0 hR hC hE hl => ?_)
  have hl : lv_has ls 2 [(0, .ref (ad 400)), (1, .int si)] := hl
  have hW : WS ad cA (fun i k => False) g0 K g0 H locs := ⟨hW0, hSh, FR.rf⟩
  refine q_iload_n hM dX4_placeOf_0 (lv_at hl 1 rfl) ?_
  refine q_if_ge (tgt := 8) hM dX4_placeOf_1 (by decide) (rfl : si.toInt = si.toInt) (fun h1 => ?_) (fun h1 => ?_)
  · refine q_aload_n hM dX4_placeOf_8 (lv_at hl 0 rfl) ?_
    refine q_iload_n hM dX4_placeOf_9 (lv_at hl 1 rfl) ?_
    refine q_i2c hM dX4_placeOf_10 ?_
    refine q_callT (i := 0) (As := [.int (si.toUInt32 % 65536).toInt32]) (rest := []) hM hW.1 hR hC myJ0_indexOf_0f7a4 (kAW (v_2_1 (List.mem_of_getElem? (i := 4) rfl)) rfl) rfl (by decide) (a_J0_indexOf_0 _ _ cA ad g0 ((si.toUInt32 % 65536).toInt32) hW.2.1 hG) ⟨by decide, by decide⟩ rfl rfl hl.1 (Nat.le_of_ble_eq_true rfl) dX4_placeOf_11 (fun v g2746 H locs hp hW1 => ?_)
    obtain ⟨r2745, rfl, hr2745, rfl⟩ := hp
    have hW : WS ad cA (fun i k => False) g0 K g0 H locs := ⟨hW1, hW.2.1, hW.2.2⟩
    exact hE _ _ _ _ _ _ hW.1 ⟨_, rfl, (by omega), rfl⟩ dX4_placeOf_14
  · refine q_iconst (v := ((-1) : Int32)) hM dX4_placeOf_4 (by decide) ?_
    refine q_goto (tgt := 14) hM dX4_placeOf_5 (by decide) ?_
    exact hE _ _ _ _ _ _ hW.1 ⟨_, rfl, (by have := kc_m1; omega), rfl⟩ dX4_placeOf_14


set_option maxRecDepth 100000 in
set_option maxHeartbeats 4000000 in
theorem a_J0_isLatin1_1 (l : Launch) (D : va_G) (cA : Nat → ClassId) (ad : Nat → Nat) (g0 : Nat → va_E)  (hSh : Shp ad cA g0) (hG : Rng g0) : CT l NN ad cA D yJ0_isLatin1_aae02 cJ0_isLatin1_aae02 1 (some FieldType.boolean) (0, 0) [.ref (ad 401)] g0 (PU g0 (fun r => r.toInt = 1)) := by
  refine q_enterZ (by decide) (Nat.le_of_ble_eq_true rfl) (fun K H locs ls _ _ hM hW0 hR hC hE hl => ?_)
  have hl : lv_has ls 1 [(0, .ref (ad 401))] := hl
  have hW : WS ad cA (fun i k => False) g0 K g0 H locs := ⟨hW0, hSh, FR.rf⟩
  refine q_getsC hM hW.1 (kAW (v_2_2 (List.mem_of_getElem? (i := 0) rfl)) rfl) dJ0_isLatin1_aae02_0 ?_
  refine q_if_eq (tgt := 17) hM dJ0_isLatin1_aae02_3 (by decide) (kc_1 : (1 : Int32).toInt = 1) (fun h3 => ?_) (fun h3 => ?_)
  · omega
  · refine q_aload_n hM dJ0_isLatin1_aae02_6 (lv_at hl 0 rfl) ?_
    refine q_getCo (i := 1) hM hW.1 (by decide) (kAW (v_7_6 (List.mem_of_getElem? (i := 15) rfl)) rfl) dJ0_isLatin1_aae02_7 ?_
    refine q_if_ne (tgt := 17) hM dJ0_isLatin1_aae02_10 (by decide) (kc_0 : (0 : Int32).toInt = 0) (fun h10 => ?_) (fun h10 => ?_)
    · omega
    · refine q_iconst (v := (1 : Int32)) hM dJ0_isLatin1_aae02_13 (by decide) ?_
      refine q_goto (tgt := 18) hM dJ0_isLatin1_aae02_14 (by decide) ?_
      exact hE _ _ _ _ _ _ hW.1 nz_1 ⟨_, rfl, (by have := kc_1; omega), rfl⟩ dJ0_isLatin1_aae02_18


set_option maxRecDepth 100000 in
set_option maxHeartbeats 4000000 in
theorem a_J0_coder_1 (l : Launch) (D : va_G) (cA : Nat → ClassId) (ad : Nat → Nat) (g0 : Nat → va_E)  (hSh : Shp ad cA g0) (hG : Rng g0) : CT l NN ad cA D yJ0_coder_7d493 cJ0_coder_7d493 1 (some FieldType.byte) (0, 0) [.ref (ad 401)] g0 (PU g0 (fun r => r.toInt = 0)) := by
  refine q_enterZ (by decide) (Nat.le_of_ble_eq_true rfl) (fun K H locs ls _ _ hM hW0 hR hC hE hl => ?_)
  have hl : lv_has ls 1 [(0, .ref (ad 401))] := hl
  have hW : WS ad cA (fun i k => False) g0 K g0 H locs := ⟨hW0, hSh, FR.rf⟩
  refine q_getsC hM hW.1 (kAW (v_2_2 (List.mem_of_getElem? (i := 0) rfl)) rfl) dJ0_coder_7d493_0 ?_
  refine q_if_eq (tgt := 13) hM dJ0_coder_7d493_3 (by decide) (kc_1 : (1 : Int32).toInt = 1) (fun h3 => ?_) (fun h3 => ?_)
  · omega
  · refine q_aload_n hM dJ0_coder_7d493_6 (lv_at hl 0 rfl) ?_
    refine q_getCo (i := 1) hM hW.1 (by decide) (kAW (v_7_6 (List.mem_of_getElem? (i := 15) rfl)) rfl) dJ0_coder_7d493_7 ?_
    refine q_goto (tgt := 14) hM dJ0_coder_7d493_10 (by decide) ?_
    exact hE _ _ _ _ _ _ hW.1 rfl ⟨_, rfl, (by have := kc_0; omega), rfl⟩ dJ0_coder_7d493_14


set_option maxRecDepth 100000 in
set_option maxHeartbeats 4000000 in
theorem a_J0_length_1 (l : Launch) (D : va_G) (cA : Nat → ClassId) (ad : Nat → Nat) (g0 : Nat → va_E)  (hSh : Shp ad cA g0) (hG : Rng g0) : CT l NN ad cA D yJ0_length_8abf5 cJ0_length_8abf5 1 (some FieldType.int) (1, 20) [.ref (ad 401)] g0 (PU g0 (fun r => r.toInt = 8)) := by
  refine q_enterI (by decide) (Nat.le_of_ble_eq_true rfl) rfl (fun K H locs ls _ _ hM hW0 hR hC hE hl => ?_)
  have hl : lv_has ls 1 [(0, .ref (ad 401))] := hl
  have hW : WS ad cA (fun i k => False) g0 K g0 H locs := ⟨hW0, hSh, FR.rf⟩
  have := kc_8
  refine q_aload_n hM dJ0_length_8abf5_0 (lv_at hl 0 rfl) ?_
  refine q_getVa (i := 1) hM hW.1 (by decide) (kAW (v_7_7 (List.mem_of_getElem? (i := 0) rfl)) rfl) dJ0_length_8abf5_1 ?_
  refine q_tlen (i := 1) (v := (8 : Int32)) hM hW.1 (by decide) (by decide) dJ0_length_8abf5_4 ?_
  refine q_aload_n hM dJ0_length_8abf5_5 (lv_at hl 0 rfl) ?_
  refine q_callT (i := 1) (As := []) (rest := [.int (8 : Int32)]) hM hW.1 hR hC myJ0_coder_7d493 (kAW (v_2_2 (List.mem_of_getElem? (i := 6) rfl)) rfl) rfl (by decide) (a_J0_coder_1 _ _ cA ad g0  hW.2.1 hG) ⟨by decide, by decide⟩ rfl rfl hl.1 (Nat.le_of_ble_eq_true rfl) dJ0_length_8abf5_6 (fun v g2755 H locs hp hW1 => ?_)
  obtain ⟨r2754, rfl, hr2754, rfl⟩ := hp
  have hW : WS ad cA (fun i k => False) g0 K g0 H locs := ⟨hW1, hW.2.1, hW.2.2⟩
  refine q_ishr hM dJ0_length_8abf5_9 (fun z2756 hz2756 => ?_)
  have := i_shr0 hz2756 (by omega)
  exact hE _ _ _ _ _ _ hW.1 ⟨_, rfl, (by omega), rfl⟩ dJ0_length_8abf5_10


set_option maxRecDepth 100000 in
set_option maxHeartbeats 4000000 in
theorem a_J1_indexOfChar_1 (l : Launch) (D : va_G) (cA : Nat → ClassId) (ad : Nat → Nat) (g0 : Nat → va_E) (c : Int32) (fr : Int32) (mx : Int32) (hSh : Shp ad cA g0) (hG : Rng g0) (fr0 : 0 ≤ fr.toInt) (mx1 : mx.toInt ≤ 8) : CT l NN ad cA D yJ1_indexOfChar_4cfef cJ1_indexOfChar_4cfef 6 (some FieldType.int) (0, 0) [.ref (ad 411), .int c, .int fr, .int mx] g0 (PU g0 (fun r => -1 ≤ r.toInt ∧ r.toInt < 8)) := by
  refine q_enterI (by decide) (Nat.le_of_ble_eq_true rfl) rfl (fun K H locs ls _ _ hM hW0 hR hC hE hl => ?_)
  have hl : lv_has ls 6 [(0, .ref (ad 411)), (1, .int c), (2, .int fr), (3, .int mx)] := hl
  have hW : WS ad cA (fun i k => False) g0 K g0 H locs := ⟨hW0, hSh, FR.rf⟩
  refine q_iload_n hM dJ1_indexOfChar_4cfef_0 (lv_at hl 1 rfl) ?_
  refine q_i2b hM dJ1_indexOfChar_4cfef_1 ?_
  refine q_istore (lv9 := [(4, .int c.toInt8.toInt32), (0, .ref (ad 411)), (1, .int c), (2, .int fr), (3, .int mx)]) hM dJ1_indexOfChar_4cfef_2 hl (by decide) rfl (fun ls hl => ?_)
  refine q_iload_n hM dJ1_indexOfChar_4cfef_4 (lv_at hl 3 rfl) ?_
  refine q_istore (lv9 := [(5, .int fr), (4, .int c.toInt8.toInt32), (0, .ref (ad 411)), (1, .int c), (2, .int fr), (3, .int mx)]) hM dJ1_indexOfChar_4cfef_5 hl (by decide) rfl (fun ls hl => ?_)
  have L7 : ∀ (fu7 : Nat) (w7_5 : Int32) (H : Heap) (locs : List Loc) (ls : Array Slot), (mx.toInt - w7_5.toInt + 1).toNat < fu7 → (fr.toInt ≤ w7_5.toInt) → lv_has ls 6 [(0, .ref (ad 411)), (1, .int c), (2, .int fr), (3, .int mx), (4, .int c.toInt8.toInt32), (5, .int w7_5)] → WS ad cA (fun i k => False) g0 K g0 H locs → XX K 0 0 H locs 7 ls [] := by
    intro fu7
    induction fu7 with
    | zero => intro w7_5 H locs ls h0; omega
    | succ fu7 ih7 =>
      intro w7_5 H locs ls hm7 i7_0 hl hW
      have := i_rng mx
      refine q_iload hM dJ1_indexOfChar_4cfef_7 (lv_at hl 5 rfl) ?_
      refine q_iload_n hM dJ1_indexOfChar_4cfef_9 (lv_at hl 3 rfl) ?_
      refine q_icmp_ge (tgt := 31) hM dJ1_indexOfChar_4cfef_10 (by decide) (rfl : w7_5.toInt = w7_5.toInt) (rfl : mx.toInt = mx.toInt) (fun h10 => ?_) (fun h10 => ?_)
      · refine q_iconst (v := ((-1) : Int32)) hM dJ1_indexOfChar_4cfef_31 (by decide) ?_
        exact hE _ _ _ _ _ _ hW.1 ⟨_, rfl, (by have := kc_m1; omega), rfl⟩ dJ1_indexOfChar_4cfef_32
      · refine q_aload_n hM dJ1_indexOfChar_4cfef_13 (lv_at hl 0 rfl) ?_
        refine q_iload hM dJ1_indexOfChar_4cfef_14 (lv_at hl 5 rfl) ?_
        refine q_tb (i := 1) hM hW.1 (by decide) (i_in (by omega) (by show _ < ((8 : Nat) : Int); omega)) dJ1_indexOfChar_4cfef_16 ?_
        refine q_top (fun y2760 hy2760 => ?_)
        refine q_iload hM dJ1_indexOfChar_4cfef_17 (lv_at hl 4 rfl) ?_
        refine q_icmp_ne (tgt := 25) hM dJ1_indexOfChar_4cfef_19 (by decide) (rfl : y2760.toInt = y2760.toInt) (rfl : c.toInt8.toInt32.toInt = c.toInt8.toInt32.toInt) (fun h19 => ?_) (fun h19 => ?_)
        · refine q_iinc (lv9 := fun z2762 => [(5, .int z2762), (0, .ref (ad 411)), (1, .int c), (2, .int fr), (3, .int mx), (4, .int c.toInt8.toInt32)]) hM dJ1_indexOfChar_4cfef_25 hl (kq := 5) rfl (by decide) (fun _ => rfl) (fun z2762 ls hz2762 hl => ?_)
          first | have tz2762 := i_addT hz2762 (rfl : w7_5.toInt = w7_5.toInt) (kc_1 : (Int32.ofInt 1).toInt = 1) (by omega) (by omega) | skip
          refine q_goto (tgt := 7) hM dJ1_indexOfChar_4cfef_28 (by decide) ?_
          exact ih7 z2762 _ _ _ (by omega) (by omega) (lv_sub hl [1, 2, 3, 4, 5, 0] rfl) hW
        · refine q_iload hM dJ1_indexOfChar_4cfef_22 (lv_at hl 5 rfl) ?_
          exact hE _ _ _ _ _ _ hW.1 ⟨_, rfl, (by omega), rfl⟩ dJ1_indexOfChar_4cfef_24
  exact L7 _ fr _ _ _ (Nat.lt_succ_self _) (by omega) (lv_sub hl [2, 3, 4, 5, 1, 0] rfl) hW


set_option maxRecDepth 100000 in
set_option maxHeartbeats 4000000 in
theorem a_J1_indexOf_1 (l : Launch) (D : va_G) (cA : Nat → ClassId) (ad : Nat → Nat) (g0 : Nat → va_E) (c : Int32) (fr : Int32) (mx : Int32) (hSh : Shp ad cA g0) (hG : Rng g0) : CT l NN ad cA D yJ1_indexOf_4cfef cJ1_indexOf_4cfef 4 (some FieldType.int) (1, 25) [.ref (ad 411), .int c, .int fr, .int mx] g0 (PU g0 (fun r => -1 ≤ r.toInt ∧ r.toInt < 8)) := by
  refine q_enterI (by decide) (Nat.le_of_ble_eq_true rfl) rfl (fun K H locs ls _ _ hM hW0 hR hC hE hl => ?_)
  have hl : lv_has ls 4 [(0, .ref (ad 411)), (1, .int c), (2, .int fr), (3, .int mx)] := hl
  have hW : WS ad cA (fun i k => False) g0 K g0 H locs := ⟨hW0, hSh, FR.rf⟩
  refine q_iload_n hM dJ1_indexOf_4cfef_0 (lv_at hl 1 rfl) ?_
  refine q_callS (As := [.int c]) (rest := []) hM hW.1 hR hC myJ1_canEncode_9a6ad (kAW (v_2_2 (List.mem_of_getElem? (i := 13) rfl)) rfl) (a_J1_canEncode_9a6ad _ _ cA ad g0 c hW.2.1 hG) ⟨by decide, by decide⟩ rfl rfl hl.1 (Nat.le_of_ble_eq_true rfl) dJ1_indexOf_4cfef_1 (fun v g2765 H locs hp hW1 => ?_)
  obtain ⟨r2764, rfl, hr2764, rfl⟩ := hp
  have hW : WS ad cA (fun i k => False) g0 K g0 H locs := ⟨hW1, hW.2.1, hW.2.2⟩
  refine q_if_ne (tgt := 9) hM dJ1_indexOf_4cfef_4 (by decide) (rfl : r2764.toInt = r2764.toInt) (fun h4 => ?_) (fun h4 => ?_)
  · refine q_iload_n hM dJ1_indexOf_4cfef_9 (lv_at hl 2 rfl) ?_
    refine q_iconst (v := (0 : Int32)) hM dJ1_indexOf_4cfef_10 (by decide) ?_
    refine q_mmax hM hR hC (kAW (v_2_3 (List.mem_of_getElem? (i := 0) rfl)) rfl) hl.1 (by decide) (Nat.le_of_ble_eq_true rfl) dJ1_indexOf_4cfef_11 (fun r2767 hr2767 => ?_)
    have := kc_0
    refine q_istore_n (lv9 := [(2, .int r2767), (0, .ref (ad 411)), (1, .int c), (3, .int mx)]) hM dJ1_indexOf_4cfef_14 hl (by decide) rfl (fun ls hl => ?_)
    refine q_iload_n hM dJ1_indexOf_4cfef_15 (lv_at hl 3 rfl) ?_
    refine q_aload_n hM dJ1_indexOf_4cfef_16 (lv_at hl 1 rfl) ?_
    refine q_tlen (i := 1) (v := (8 : Int32)) hM hW.1 (by decide) (by decide) dJ1_indexOf_4cfef_17 ?_
    refine q_mmin hM hR hC (kAW (v_2_3 (List.mem_of_getElem? (i := 3) rfl)) rfl) hl.1 (by decide) (Nat.le_of_ble_eq_true rfl) dJ1_indexOf_4cfef_18 (fun r2768 hr2768 => ?_)
    have := kc_8
    refine q_istore_n (lv9 := [(3, .int r2768), (2, .int r2767), (0, .ref (ad 411)), (1, .int c)]) hM dJ1_indexOf_4cfef_21 hl (by decide) rfl (fun ls hl => ?_)
    refine q_iload_n hM dJ1_indexOf_4cfef_22 (lv_at hl 1 rfl) ?_
    refine q_iload_n hM dJ1_indexOf_4cfef_23 (lv_at hl 0 rfl) ?_
    refine q_icmp_lt (tgt := 29) hM dJ1_indexOf_4cfef_24 (by decide) (rfl : r2767.toInt = r2767.toInt) (rfl : r2768.toInt = r2768.toInt) (fun h24 => ?_) (fun h24 => ?_)
    · refine q_aload_n hM dJ1_indexOf_4cfef_29 (lv_at hl 2 rfl) ?_
      refine q_iload_n hM dJ1_indexOf_4cfef_30 (lv_at hl 3 rfl) ?_
      refine q_iload_n hM dJ1_indexOf_4cfef_31 (lv_at hl 1 rfl) ?_
      refine q_iload_n hM dJ1_indexOf_4cfef_32 (lv_at hl 0 rfl) ?_
      refine q_callS (As := [.ref (ad 411), .int c, .int r2767, .int r2768]) (rest := []) hM hW.1 hR hC myJ1_indexOfChar_4cfef (kAW (v_2_3 (List.mem_of_getElem? (i := 4) rfl)) rfl) (a_J1_indexOfChar_1 _ _ cA ad g0 c r2767 r2768 hW.2.1 hG (by  omega) (by  omega)) ⟨by decide, by decide⟩ rfl rfl hl.1 (Nat.le_of_ble_eq_true rfl) dJ1_indexOf_4cfef_33 (fun v g2771 H locs hp hW1 => ?_)
      obtain ⟨r2770, rfl, hr2770, rfl⟩ := hp
      have hW : WS ad cA (fun i k => False) g0 K g0 H locs := ⟨hW1, hW.2.1, hW.2.2⟩
      exact hE _ _ _ _ _ _ hW.1 ⟨_, rfl, (by omega), rfl⟩ dJ1_indexOf_4cfef_36
    · refine q_iconst (v := ((-1) : Int32)) hM dJ1_indexOf_4cfef_27 (by decide) ?_
      exact hE _ _ _ _ _ _ hW.1 ⟨_, rfl, (by have := kc_m1; omega), rfl⟩ dJ1_indexOf_4cfef_28
  · refine q_iconst (v := ((-1) : Int32)) hM dJ1_indexOf_4cfef_7 (by decide) ?_
    exact hE _ _ _ _ _ _ hW.1 ⟨_, rfl, (by have := kc_m1; omega), rfl⟩ dJ1_indexOf_4cfef_8


set_option maxRecDepth 100000 in
set_option maxHeartbeats 4000000 in
theorem a_J0_indexOf2_1 (l : Launch) (D : va_G) (cA : Nat → ClassId) (ad : Nat → Nat) (g0 : Nat → va_E) (c : Int32) (fr : Int32) (hSh : Shp ad cA g0) (hG : Rng g0) : CT l NN ad cA D yJ0_indexOf_7cf53 cJ0_indexOf_7cf53 3 (some FieldType.int) (2, 48) [.ref (ad 401), .int c, .int fr] g0 (PU g0 (fun r => -1 ≤ r.toInt ∧ r.toInt < 8)) := by
  refine q_enterI (by decide) (Nat.le_of_ble_eq_true rfl) rfl (fun K H locs ls _ _ hM hW0 hR hC hE hl => ?_)
  have hl : lv_has ls 3 [(0, .ref (ad 401)), (1, .int c), (2, .int fr)] := hl
  have hW : WS ad cA (fun i k => False) g0 K g0 H locs := ⟨hW0, hSh, FR.rf⟩
  refine q_aload_n hM dJ0_indexOf_7cf53_0 (lv_at hl 0 rfl) ?_
  refine q_callT (i := 1) (As := []) (rest := []) hM hW.1 hR hC myJ0_isLatin1_aae02 (kAW (v_2_1 (List.mem_of_getElem? (i := 12) rfl)) rfl) rfl (by decide) (a_J0_isLatin1_1 _ _ cA ad g0  hW.2.1 hG) ⟨by decide, by decide⟩ rfl rfl hl.1 (Nat.le_of_ble_eq_true rfl) dJ0_indexOf_7cf53_1 (fun v g2775 H locs hp hW1 => ?_)
  obtain ⟨r2774, rfl, hr2774, rfl⟩ := hp
  have hW : WS ad cA (fun i k => False) g0 K g0 H locs := ⟨hW1, hW.2.1, hW.2.2⟩
  refine q_if_eq (tgt := 23) hM dJ0_indexOf_7cf53_4 (by decide) (rfl : r2774.toInt = r2774.toInt) (fun h4 => ?_) (fun h4 => ?_)
  · omega
  · refine q_aload_n hM dJ0_indexOf_7cf53_7 (lv_at hl 0 rfl) ?_
    refine q_getVa (i := 1) hM hW.1 (by decide) (kAW (v_7_7 (List.mem_of_getElem? (i := 0) rfl)) rfl) dJ0_indexOf_7cf53_8 ?_
    refine q_iload_n hM dJ0_indexOf_7cf53_11 (lv_at hl 1 rfl) ?_
    refine q_iload_n hM dJ0_indexOf_7cf53_12 (lv_at hl 2 rfl) ?_
    refine q_aload_n hM dJ0_indexOf_7cf53_13 (lv_at hl 0 rfl) ?_
    refine q_callT (i := 1) (As := []) (rest := [.int fr, .int c, .ref (ad 411)]) hM hW.1 hR hC myJ0_length_8abf5 (kAW (v_2_2 (List.mem_of_getElem? (i := 2) rfl)) rfl) rfl (by decide) (a_J0_length_1 _ _ cA ad g0  hW.2.1 hG) ⟨by decide, by decide⟩ rfl rfl hl.1 (Nat.le_of_ble_eq_true rfl) dJ0_indexOf_7cf53_14 (fun v g2779 H locs hp hW1 => ?_)
    obtain ⟨r2778, rfl, hr2778, rfl⟩ := hp
    have hW : WS ad cA (fun i k => False) g0 K g0 H locs := ⟨hW1, hW.2.1, hW.2.2⟩
    refine q_callS (As := [.ref (ad 411), .int c, .int fr, .int r2778]) (rest := []) hM hW.1 hR hC myJ1_indexOf_4cfef (kAW (v_2_2 (List.mem_of_getElem? (i := 10) rfl)) rfl) (a_J1_indexOf_1 _ _ cA ad g0 c fr r2778 hW.2.1 hG) ⟨by decide, by decide⟩ rfl rfl hl.1 (Nat.le_of_ble_eq_true rfl) dJ0_indexOf_7cf53_17 (fun v g2781 H locs hp hW1 => ?_)
    obtain ⟨r2780, rfl, hr2780, rfl⟩ := hp
    have hW : WS ad cA (fun i k => False) g0 K g0 H locs := ⟨hW1, hW.2.1, hW.2.2⟩
    refine q_goto (tgt := 36) hM dJ0_indexOf_7cf53_20 (by decide) ?_
    exact hE _ _ _ _ _ _ hW.1 ⟨_, rfl, (by omega), rfl⟩ dJ0_indexOf_7cf53_36


set_option maxRecDepth 100000 in
set_option maxHeartbeats 4000000 in
theorem a_J0_indexOf_1 (l : Launch) (D : va_G) (cA : Nat → ClassId) (ad : Nat → Nat) (g0 : Nat → va_E) (c : Int32) (hSh : Shp ad cA g0) (hG : Rng g0) : CT l NN ad cA D yJ0_indexOf_0f7a4 cJ0_indexOf_0f7a4 2 (some FieldType.int) (3, 70) [.ref (ad 401), .int c] g0 (PU g0 (fun r => -1 ≤ r.toInt ∧ r.toInt < 8)) := by
  refine q_enterI (by decide) (Nat.le_of_ble_eq_true rfl) rfl (fun K H locs ls _ _ hM hW0 hR hC hE hl => ?_)
  have hl : lv_has ls 2 [(0, .ref (ad 401)), (1, .int c)] := hl
  have hW : WS ad cA (fun i k => False) g0 K g0 H locs := ⟨hW0, hSh, FR.rf⟩
  refine q_aload_n hM dJ0_indexOf_0f7a4_0 (lv_at hl 0 rfl) ?_
  refine q_iload_n hM dJ0_indexOf_0f7a4_1 (lv_at hl 1 rfl) ?_
  refine q_iconst (v := (0 : Int32)) hM dJ0_indexOf_0f7a4_2 (by decide) ?_
  refine q_callT (i := 1) (As := [.int c, .int (0 : Int32)]) (rest := []) hM hW.1 hR hC myJ0_indexOf_7cf53 (kAW (v_2_1 (List.mem_of_getElem? (i := 8) rfl)) rfl) rfl (by decide) (a_J0_indexOf2_1 _ _ cA ad g0 c (0 : Int32) hW.2.1 hG) ⟨by decide, by decide⟩ rfl rfl hl.1 (Nat.le_of_ble_eq_true rfl) dJ0_indexOf_0f7a4_3 (fun v g2783 H locs hp hW1 => ?_)
  obtain ⟨r2782, rfl, hr2782, rfl⟩ := hp
  have hW : WS ad cA (fun i k => False) g0 K g0 H locs := ⟨hW1, hW.2.1, hW.2.2⟩
  exact hE _ _ _ _ _ _ hW.1 ⟨_, rfl, (by omega), rfl⟩ dJ0_indexOf_0f7a4_6


set_option maxRecDepth 100000 in
set_option maxHeartbeats 4000000 in
theorem a_X4_placeOf_1 (l : Launch) (D : va_G) (cA : Nat → ClassId) (ad : Nat → Nat) (g0 : Nat → va_E) (si : Int32) (hSh : Shp ad cA g0) (hG : Rng g0) : CT l NN ad cA D yX4_placeOf cX4_placeOf 2 (some FieldType.int) (4, 91) [.ref (ad 401), .int si] g0 (PU g0 (fun r => -1 ≤ r.toInt ∧ r.toInt < 8 ∧ (0 ≤ r.toInt → 0 ≤ si.toInt))) := by
  refine q_enterI (by decide) (Nat.le_of_ble_eq_true rfl) rfl (fun K H locs ls _ _ hM hW0 hR hC hE hl => ?_)
  have hl : lv_has ls 2 [(0, .ref (ad 401)), (1, .int si)] := hl
  have hW : WS ad cA (fun i k => False) g0 K g0 H locs := ⟨hW0, hSh, FR.rf⟩
  refine q_iload_n hM dX4_placeOf_0 (lv_at hl 1 rfl) ?_
  refine q_if_ge (tgt := 8) hM dX4_placeOf_1 (by decide) (rfl : si.toInt = si.toInt) (fun h1 => ?_) (fun h1 => ?_)
  · refine q_aload_n hM dX4_placeOf_8 (lv_at hl 0 rfl) ?_
    refine q_iload_n hM dX4_placeOf_9 (lv_at hl 1 rfl) ?_
    refine q_i2c hM dX4_placeOf_10 ?_
    refine q_callT (i := 1) (As := [.int (si.toUInt32 % 65536).toInt32]) (rest := []) hM hW.1 hR hC myJ0_indexOf_0f7a4 (kAW (v_2_1 (List.mem_of_getElem? (i := 4) rfl)) rfl) rfl (by decide) (a_J0_indexOf_1 _ _ cA ad g0 ((si.toUInt32 % 65536).toInt32) hW.2.1 hG) ⟨by decide, by decide⟩ rfl rfl hl.1 (Nat.le_of_ble_eq_true rfl) dX4_placeOf_11 (fun v g2786 H locs hp hW1 => ?_)
    obtain ⟨r2785, rfl, hr2785, rfl⟩ := hp
    have hW : WS ad cA (fun i k => False) g0 K g0 H locs := ⟨hW1, hW.2.1, hW.2.2⟩
    exact hE _ _ _ _ _ _ hW.1 ⟨_, rfl, (by omega), rfl⟩ dX4_placeOf_14
  · refine q_iconst (v := ((-1) : Int32)) hM dX4_placeOf_4 (by decide) ?_
    refine q_goto (tgt := 14) hM dX4_placeOf_5 (by decide) ?_
    exact hE _ _ _ _ _ _ hW.1 ⟨_, rfl, (by have := kc_m1; omega), rfl⟩ dX4_placeOf_14
