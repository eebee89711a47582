theorem i_and_le {x y z : Int32} (h : x &&& y = z) (hx : 0 ≤ x.toInt) (hy : 0 ≤ y.toInt) : 0 ≤ z.toInt ∧ z.toInt ≤ x.toInt ∧ z.toInt ≤ y.toInt := by
  have h1 := i_andk h hy
  have h2 := i_andk (i_comm h) hx
  omega
theorem i_or_ge {x y z : Int32} (h : x ||| y = z) (hx : 0 ≤ x.toInt) (hy : 0 ≤ y.toInt) : x.toInt ≤ z.toInt ∧ y.toInt ≤ z.toInt := by
  have h1 : z.toBitVec.toNat = x.toBitVec.toNat ||| y.toBitVec.toNat := by rw [← h, Int32.toBitVec_or, BitVec.toNat_or]
  have h3 := i_nat hx
  have h4 := i_nat hy
  have hz := i_ork 31 (by decide) h hx hy (by have := i_rng x; omega) (by have := i_rng y; omega)
  have h5 := i_nat hz.1
  have h6 : x.toBitVec.toNat ≤ z.toBitVec.toNat := h1 ▸ Nat.left_le_or
  have h7 : y.toBitVec.toNat ≤ z.toBitVec.toNat := h1 ▸ Nat.right_le_or
  omega
def pcT (s : Nat) : Nat → Nat
  | 0 => 0
  | k + 1 => pcT s k + (if s.testBit k then 1 else 0)
theorem pc_dec : ∀ n, n < 64 → n ≠ 0 → (nI n &&& (nI n - 1)) = nI (n &&& (n - 1)) ∧ pcT (n &&& (n - 1)) 6 + 1 = pcT n 6 ∧ n &&& (n - 1) < 64 := by decide +kernel
theorem pcs {v t z : Int32} (ht : v - 1 = t) (hz : v &&& t = z) (h0 : 1 ≤ v.toInt) (h1 : v.toInt < 64) : (pcT z.toInt.toNat 6 : Int) + 1 = (pcT v.toInt.toNat 6 : Int) := by
  obtain ⟨n, hn⟩ : ∃ n : Nat, v.toInt = n := ⟨v.toInt.toNat, by omega⟩
  have hv : v = nI n := nI_k hn (by omega)
  obtain ⟨e1, e2, e3⟩ := pc_dec n (by omega) (by omega)
  have hz2 : z = nI (n &&& (n - 1)) := by rw [← hz, ← ht, hv, e1]
  have hz3 : z.toInt = ((n &&& (n - 1) : Nat) : Int) := by rw [hz2]; exact nI_toInt (by omega)
  have a1 : z.toInt.toNat = n &&& (n - 1) := by omega
  have a2 : v.toInt.toNat = n := by omega
  rw [a1, a2]
  omega

theorem dX12_sizeOf_0 : decode cX12_sizeOf 0 = .ok (.iconst 0, 1) := by decide +kernel
theorem dX12_sizeOf_1 : decode cX12_sizeOf 1 = .ok (.istore_n 1, 1) := by decide +kernel
theorem dX12_sizeOf_2 : decode cX12_sizeOf 2 = .ok (.iload_n 0, 1) := by decide +kernel
theorem dX12_sizeOf_3 : decode cX12_sizeOf 3 = .ok (.istore_n 2, 1) := by decide +kernel
theorem dX12_sizeOf_4 : decode cX12_sizeOf 4 = .ok (.iload_n 2, 1) := by decide +kernel
theorem dX12_sizeOf_5 : decode cX12_sizeOf 5 = .ok (.ifCond .eq 15, 3) := by decide +kernel
theorem dX12_sizeOf_8 : decode cX12_sizeOf 8 = .ok (.iinc 1 1, 3) := by decide +kernel
theorem dX12_sizeOf_11 : decode cX12_sizeOf 11 = .ok (.iload_n 2, 1) := by decide +kernel
theorem dX12_sizeOf_12 : decode cX12_sizeOf 12 = .ok (.iload_n 2, 1) := by decide +kernel
theorem dX12_sizeOf_13 : decode cX12_sizeOf 13 = .ok (.iconst 1, 1) := by decide +kernel
theorem dX12_sizeOf_14 : decode cX12_sizeOf 14 = .ok (.isub, 1) := by decide +kernel
theorem dX12_sizeOf_15 : decode cX12_sizeOf 15 = .ok (.iand, 1) := by decide +kernel
theorem dX12_sizeOf_16 : decode cX12_sizeOf 16 = .ok (.istore_n 2, 1) := by decide +kernel
theorem dX12_sizeOf_17 : decode cX12_sizeOf 17 = .ok (.goto (-13), 3) := by decide +kernel
theorem dX12_sizeOf_20 : decode cX12_sizeOf 20 = .ok (.iload_n 1, 1) := by decide +kernel
theorem dX12_sizeOf_21 : decode cX12_sizeOf 21 = .ok (.ireturn, 1) := by decide +kernel
set_option maxRecDepth 100000 in
set_option maxHeartbeats 4000000 in
theorem a_X12_sizeOf (l : Launch) (D : va_G) (cA : Nat → ClassId) (ad : Nat → Nat) (g0 : Nat → va_E) (s : Int32) (hSh : Shp ad cA g0) (hG : Rng g0) (h0 : 0 ≤ s.toInt) : CT l NN ad cA D yX12_sizeOf cX12_sizeOf 3 (some FieldType.int) (0, 0) [.int s] g0 (PU g0 (fun r => 0 ≤ r.toInt ∧ (s.toInt < 64 → r.toInt = (pcT s.toInt.toNat 6 : Int)))) := by
  refine q_enterI (by decide) (Nat.le_of_ble_eq_true rfl) rfl (fun K H locs ls _ _ hM hW0 hR hC hE hl => ?_)
  have hl : lv_has ls 3 [(0, .int s)] := hl
  have hW : WS ad cA (fun i k => False) g0 K g0 H locs := ⟨hW0, hSh, FR.rf⟩
  have := i_rng s
  refine q_iconst (v := (0 : Int32)) hM dX12_sizeOf_0 (by decide) ?_
  refine q_istore_n (lv9 := [(1, .int (0 : Int32)), (0, .int s)]) hM dX12_sizeOf_1 hl (by decide) rfl (fun ls hl => ?_)
  refine q_iload_n hM dX12_sizeOf_2 (lv_at hl 1 rfl) ?_
  refine q_istore_n (lv9 := [(2, .int s), (1, .int (0 : Int32)), (0, .int s)]) hM dX12_sizeOf_3 hl (by decide) rfl (fun ls hl => ?_)
  have L4 : ∀ (fu4 : Nat) (w4_1 : Int32) (w4_2 : Int32) (H : Heap) (locs : List Loc) (ls : Array Slot), w4_2.toInt.toNat < fu4 → (0 ≤ w4_2.toInt) → (w4_2.toInt ≤ s.toInt) → (0 ≤ w4_1.toInt) → (s.toInt < 64 → w4_1.toInt + (pcT w4_2.toInt.toNat 6 : Int) = (pcT s.toInt.toNat 6 : Int)) → (w4_1.toInt + w4_2.toInt ≤ s.toInt) → lv_has ls 3 [(0, .int s), (1, .int w4_1), (2, .int w4_2)] → WS ad cA (fun i k => False) g0 K g0 H locs → XX K 0 0 H locs 4 ls [] := by
    intro fu4
    induction fu4 with
    | zero => intro w4_1 w4_2 H locs ls h0; omega
    | succ fu4 ih4 =>
      intro w4_1 w4_2 H locs ls hm4 i4_0 i4_1 i4_2 i4_3 i4_4 hl hW
      refine q_iload_n hM dX12_sizeOf_4 (lv_at hl 2 rfl) ?_
      refine q_if_eq (tgt := 20) hM dX12_sizeOf_5 (by decide) (rfl : w4_2.toInt = w4_2.toInt) (fun h5 => ?_) (fun h5 => ?_)
      · refine q_iload_n hM dX12_sizeOf_20 (lv_at hl 1 rfl) ?_
        exact hE _ _ _ _ _ _ hW.1 ⟨_, rfl, ⟨by omega, fun q => by have := i4_3 q; rw [show w4_2.toInt.toNat = 0 by omega, show pcT 0 6 = 0 from rfl] at this; omega⟩, rfl⟩ dX12_sizeOf_21
      · refine q_iinc (lv9 := fun z5362 => [(1, .int z5362), (0, .int s), (2, .int w4_2)]) hM dX12_sizeOf_8 hl (kq := 1) rfl (by decide) (fun _ => rfl) (fun z5362 ls hz5362 hl => ?_)
        first | have tz5362 := i_addT hz5362 (rfl : w4_1.toInt = w4_1.toInt) (kc_1 : (Int32.ofInt 1).toInt = 1) (by omega) (by omega) | skip
        refine q_iload_n hM dX12_sizeOf_11 (lv_at hl 2 rfl) ?_
        refine q_iload_n hM dX12_sizeOf_12 (lv_at hl 2 rfl) ?_
        refine q_iconst (v := (1 : Int32)) hM dX12_sizeOf_13 (by decide) ?_
        refine q_isub hM dX12_sizeOf_14 (fun z5363 hz5363 => ?_)
        first | have tz5363 := i_subT hz5363 (rfl : w4_2.toInt = w4_2.toInt) (kc_1 : (1 : Int32).toInt = 1) (by omega) (by omega) | skip
        refine q_iand hM dX12_sizeOf_15 (fun z5364 hz5364 => ?_)
        have al := i_and_le hz5364 (by omega) (by omega)
        refine q_istore_n (lv9 := [(2, .int z5364), (1, .int z5362), (0, .int s)]) hM dX12_sizeOf_16 hl (by decide) rfl (fun ls hl => ?_)
        refine q_goto (tgt := 4) hM dX12_sizeOf_17 (by decide) ?_
        exact ih4 z5362 z5364 _ _ _ (by omega) (by omega) (by omega) (by omega) (fun q => by have e := i4_3 q; have p := pcs hz5363 hz5364 (by omega) (by omega); omega) (by omega) (lv_sub hl [2, 1, 0] rfl) hW
  have := kc_0
  exact L4 _ (0 : Int32) s _ _ _ (Nat.lt_succ_self _) (by omega) (by omega) (by omega) (fun q => by have := kc_0; omega) (by omega) (lv_sub hl [2, 1, 0] rfl) hW

theorem dX12_held_0 : decode cX12_held 0 = .ok (.iload_n 0, 1) := by decide +kernel
theorem dX12_held_1 : decode cX12_held 1 = .ok (.ifCond .ge 7, 3) := by decide +kernel
theorem dX12_held_4 : decode cX12_held 4 = .ok (.iconst 0, 1) := by decide +kernel
theorem dX12_held_5 : decode cX12_held 5 = .ok (.goto 13, 3) := by decide +kernel
theorem dX12_held_8 : decode cX12_held 8 = .ok (.iload_n 0, 1) := by decide +kernel
theorem dX12_held_9 : decode cX12_held 9 = .ok (.iload_n 1, 1) := by decide +kernel
theorem dX12_held_10 : decode cX12_held 10 = .ok (.if_icmp .le 7, 3) := by decide +kernel
theorem dX12_held_13 : decode cX12_held 13 = .ok (.iload_n 1, 1) := by decide +kernel
theorem dX12_held_14 : decode cX12_held 14 = .ok (.goto 4, 3) := by decide +kernel
theorem dX12_held_17 : decode cX12_held 17 = .ok (.iload_n 0, 1) := by decide +kernel
theorem dX12_held_18 : decode cX12_held 18 = .ok (.ireturn, 1) := by decide +kernel
set_option maxRecDepth 100000 in
set_option maxHeartbeats 4000000 in
theorem a_X12_held (l : Launch) (D : va_G) (cA : Nat → ClassId) (ad : Nat → Nat) (g0 : Nat → va_E) (v : Int32) (mo : Int32) (hSh : Shp ad cA g0) (hG : Rng g0) : CT l NN ad cA D yX12_held cX12_held 2 (some FieldType.int) (0, 0) [.int v, .int mo] g0 (PU g0 (fun r => 0 ≤ mo.toInt → 0 ≤ r.toInt ∧ r.toInt ≤ mo.toInt)) := by
  refine q_enterI (by decide) (Nat.le_of_ble_eq_true rfl) rfl (fun K H locs ls _ _ hM hW0 hR hC hE hl => ?_)
  have hl : lv_has ls 2 [(0, .int v), (1, .int mo)] := hl
  have hW : WS ad cA (fun i k => False) g0 K g0 H locs := ⟨hW0, hSh, FR.rf⟩
  refine q_iload_n hM dX12_held_0 (lv_at hl 0 rfl) ?_
  refine q_if_ge (tgt := 8) hM dX12_held_1 (by decide) (rfl : v.toInt = v.toInt) (fun h1 => ?_) (fun h1 => ?_)
  · refine q_iload_n hM dX12_held_8 (lv_at hl 0 rfl) ?_
    refine q_iload_n hM dX12_held_9 (lv_at hl 1 rfl) ?_
    refine q_icmp_le (tgt := 17) hM dX12_held_10 (by decide) (rfl : v.toInt = v.toInt) (rfl : mo.toInt = mo.toInt) (fun h10 => ?_) (fun h10 => ?_)
    · refine q_iload_n hM dX12_held_17 (lv_at hl 0 rfl) ?_
      exact hE _ _ _ _ _ _ hW.1 ⟨_, rfl, (by omega), rfl⟩ dX12_held_18
    · refine q_iload_n hM dX12_held_13 (lv_at hl 1 rfl) ?_
      refine q_goto (tgt := 18) hM dX12_held_14 (by decide) ?_
      exact hE _ _ _ _ _ _ hW.1 ⟨_, rfl, (by omega), rfl⟩ dX12_held_18
  · refine q_iconst (v := (0 : Int32)) hM dX12_held_4 (by decide) ?_
    refine q_goto (tgt := 18) hM dX12_held_5 (by decide) ?_
    exact hE _ _ _ _ _ _ hW.1 ⟨_, rfl, (by have := kc_0; omega), rfl⟩ dX12_held_18

theorem dX12_powerOf_0 : decode cX12_powerOf 0 = .ok (.iconst 1, 1) := by decide +kernel
theorem dX12_powerOf_1 : decode cX12_powerOf 1 = .ok (.istore_n 2, 1) := by decide +kernel
theorem dX12_powerOf_2 : decode cX12_powerOf 2 = .ok (.iconst 0, 1) := by decide +kernel
theorem dX12_powerOf_3 : decode cX12_powerOf 3 = .ok (.istore_n 3, 1) := by decide +kernel
theorem dX12_powerOf_4 : decode cX12_powerOf 4 = .ok (.iload_n 3, 1) := by decide +kernel
theorem dX12_powerOf_5 : decode cX12_powerOf 5 = .ok (.iload_n 1, 1) := by decide +kernel
theorem dX12_powerOf_6 : decode cX12_powerOf 6 = .ok (.if_icmp .ge 13, 3) := by decide +kernel
theorem dX12_powerOf_9 : decode cX12_powerOf 9 = .ok (.iload_n 2, 1) := by decide +kernel
theorem dX12_powerOf_10 : decode cX12_powerOf 10 = .ok (.iload_n 0, 1) := by decide +kernel
theorem dX12_powerOf_11 : decode cX12_powerOf 11 = .ok (.imul, 1) := by decide +kernel
theorem dX12_powerOf_12 : decode cX12_powerOf 12 = .ok (.istore_n 2, 1) := by decide +kernel
theorem dX12_powerOf_13 : decode cX12_powerOf 13 = .ok (.iinc 3 1, 3) := by decide +kernel
theorem dX12_powerOf_16 : decode cX12_powerOf 16 = .ok (.goto (-12), 3) := by decide +kernel
theorem dX12_powerOf_19 : decode cX12_powerOf 19 = .ok (.iload_n 2, 1) := by decide +kernel
theorem dX12_powerOf_20 : decode cX12_powerOf 20 = .ok (.ireturn, 1) := by decide +kernel
set_option maxRecDepth 100000 in
set_option maxHeartbeats 4000000 in
theorem a_X12_powerOf (l : Launch) (D : va_G) (cA : Nat → ClassId) (ad : Nat → Nat) (g0 : Nat → va_E) (ba : Int32) (n : Int32) (hSh : Shp ad cA g0) (hG : Rng g0) : CT l NN ad cA D yX12_powerOf cX12_powerOf 4 (some FieldType.int) (0, 0) [.int ba, .int n] g0 (PU g0 (fun r => True)) := by
  refine q_enterI (by decide) (Nat.le_of_ble_eq_true rfl) rfl (fun K H locs ls _ _ hM hW0 hR hC hE hl => ?_)
  have hl : lv_has ls 4 [(0, .int ba), (1, .int n)] := hl
  have hW : WS ad cA (fun i k => False) g0 K g0 H locs := ⟨hW0, hSh, FR.rf⟩
  refine q_iconst (v := (1 : Int32)) hM dX12_powerOf_0 (by decide) ?_
  refine q_istore_n (lv9 := [(2, .int (1 : Int32)), (0, .int ba), (1, .int n)]) hM dX12_powerOf_1 hl (by decide) rfl (fun ls hl => ?_)
  refine q_iconst (v := (0 : Int32)) hM dX12_powerOf_2 (by decide) ?_
  refine q_istore_n (lv9 := [(3, .int (0 : Int32)), (2, .int (1 : Int32)), (0, .int ba), (1, .int n)]) hM dX12_powerOf_3 hl (by decide) rfl (fun ls hl => ?_)
  have L4 : ∀ (fu4 : Nat) (w4_2 : Int32) (w4_3 : Int32) (H : Heap) (locs : List Loc) (ls : Array Slot), (n.toInt - w4_3.toInt + 1).toNat < fu4 → (0 ≤ w4_3.toInt) → lv_has ls 4 [(0, .int ba), (1, .int n), (2, .int w4_2), (3, .int w4_3)] → WS ad cA (fun i k => False) g0 K g0 H locs → XX K 0 0 H locs 4 ls [] := by
    intro fu4
    induction fu4 with
    | zero => intro w4_2 w4_3 H locs ls h0; omega
    | succ fu4 ih4 =>
      intro w4_2 w4_3 H locs ls hm4 i4_0 hl hW
      have := i_rng n
      refine q_iload_n hM dX12_powerOf_4 (lv_at hl 3 rfl) ?_
      refine q_iload_n hM dX12_powerOf_5 (lv_at hl 1 rfl) ?_
      refine q_icmp_ge (tgt := 19) hM dX12_powerOf_6 (by decide) (rfl : w4_3.toInt = w4_3.toInt) (rfl : n.toInt = n.toInt) (fun h6 => ?_) (fun h6 => ?_)
      · refine q_iload_n hM dX12_powerOf_19 (lv_at hl 2 rfl) ?_
        exact hE _ _ _ _ _ _ hW.1 ⟨_, rfl, (by trivial), rfl⟩ dX12_powerOf_20
      · refine q_iload_n hM dX12_powerOf_9 (lv_at hl 2 rfl) ?_
        refine q_iload_n hM dX12_powerOf_10 (lv_at hl 0 rfl) ?_
        refine q_imul hM dX12_powerOf_11 (fun z5372 hz5372 => ?_)
        first | have tz5372 := i_mulT hz5372 (rfl : w4_2.toInt = w4_2.toInt) (rfl : ba.toInt = ba.toInt) (by omega) (by omega) | skip
        refine q_istore_n (lv9 := [(2, .int z5372), (0, .int ba), (1, .int n), (3, .int w4_3)]) hM dX12_powerOf_12 hl (by decide) rfl (fun ls hl => ?_)
        refine q_iinc (lv9 := fun z5373 => [(3, .int z5373), (2, .int z5372), (0, .int ba), (1, .int n)]) hM dX12_powerOf_13 hl (kq := 3) rfl (by decide) (fun _ => rfl) (fun z5373 ls hz5373 hl => ?_)
        first | have tz5373 := i_addT hz5373 (rfl : w4_3.toInt = w4_3.toInt) (kc_1 : (Int32.ofInt 1).toInt = 1) (by omega) (by omega) | skip
        refine q_goto (tgt := 4) hM dX12_powerOf_16 (by decide) ?_
        exact ih4 z5372 z5373 _ _ _ (by omega) (by omega) (lv_sub hl [2, 3, 1, 0] rfl) hW
  have := kc_1
  have := kc_0
  exact L4 _ (1 : Int32) (0 : Int32) _ _ _ (Nat.lt_succ_self _) (by omega) (lv_sub hl [2, 3, 1, 0] rfl) hW

theorem dX12_tenthsOf_0 : decode cX12_tenthsOf 0 = .ok (.iload_n 0, 1) := by decide +kernel
theorem dX12_tenthsOf_1 : decode cX12_tenthsOf 1 = .ok (.bipush 9, 2) := by decide +kernel
theorem dX12_tenthsOf_3 : decode cX12_tenthsOf 3 = .ok (.iadd, 1) := by decide +kernel
theorem dX12_tenthsOf_4 : decode cX12_tenthsOf 4 = .ok (.bipush 10, 2) := by decide +kernel
theorem dX12_tenthsOf_6 : decode cX12_tenthsOf 6 = .ok (.idiv, 1) := by decide +kernel
theorem dX12_tenthsOf_7 : decode cX12_tenthsOf 7 = .ok (.ireturn, 1) := by decide +kernel
set_option maxRecDepth 100000 in
set_option maxHeartbeats 4000000 in
theorem a_X12_tenthsOf (l : Launch) (D : va_G) (cA : Nat → ClassId) (ad : Nat → Nat) (g0 : Nat → va_E) (s : Int32) (hSh : Shp ad cA g0) (hG : Rng g0) : CT l NN ad cA D yX12_tenthsOf cX12_tenthsOf 1 (some FieldType.int) (0, 0) [.int s] g0 (PU g0 (fun r => True)) := by
  refine q_enterI (by decide) (Nat.le_of_ble_eq_true rfl) rfl (fun K H locs ls _ _ hM hW0 hR hC hE hl => ?_)
  have hl : lv_has ls 1 [(0, .int s)] := hl
  have hW : WS ad cA (fun i k => False) g0 K g0 H locs := ⟨hW0, hSh, FR.rf⟩
  refine q_iload_n hM dX12_tenthsOf_0 (lv_at hl 0 rfl) ?_
  refine q_bipush (v := (9 : Int32)) hM dX12_tenthsOf_1 (by decide) ?_
  refine q_iadd hM dX12_tenthsOf_3 (fun z5374 hz5374 => ?_)
  first | have tz5374 := i_addT hz5374 (rfl : s.toInt = s.toInt) (kc_9 : (9 : Int32).toInt = 9) (by omega) (by omega) | skip
  refine q_bipush (v := (10 : Int32)) hM dX12_tenthsOf_4 (by decide) ?_
  refine q_idiv hM (by decide) dX12_tenthsOf_6 (fun z5375 hz5375 => ?_)
  first | have tz5375 := i_divT hz5375 (rfl : z5374.toInt = z5374.toInt) (kc_10 : (10 : Int32).toInt = 10) (by omega) (by omega) | skip
  exact hE _ _ _ _ _ _ hW.1 ⟨_, rfl, (by trivial), rfl⟩ dX12_tenthsOf_7

theorem dX12_isTold_0 : decode cX12_isTold 0 = .ok (.iload_n 1, 1) := by decide +kernel
theorem dX12_isTold_1 : decode cX12_isTold 1 = .ok (.i2l, 1) := by decide +kernel
theorem dX12_isTold_2 : decode cX12_isTold 2 = .ok (.lconst 0, 1) := by decide +kernel
theorem dX12_isTold_3 : decode cX12_isTold 3 = .ok (.ldc2_w 194, 3) := by decide +kernel
theorem dX12_isTold_6 : decode cX12_isTold 6 = .ok (.invokestatic 190, 3) := by decide +kernel
theorem dX12_isTold_9 : decode cX12_isTold 9 = .ok (.ifCond .eq 16, 3) := by decide +kernel
theorem dX12_isTold_12 : decode cX12_isTold 12 = .ok (.aload_n 0, 1) := by decide +kernel
theorem dX12_isTold_13 : decode cX12_isTold 13 = .ok (.getfield 17, 3) := by decide +kernel
theorem dX12_isTold_16 : decode cX12_isTold 16 = .ok (.iload_n 1, 1) := by decide +kernel
theorem dX12_isTold_17 : decode cX12_isTold 17 = .ok (.baload, 1) := by decide +kernel
theorem dX12_isTold_18 : decode cX12_isTold 18 = .ok (.ifCond .eq 7, 3) := by decide +kernel
theorem dX12_isTold_21 : decode cX12_isTold 21 = .ok (.iconst 1, 1) := by decide +kernel
theorem dX12_isTold_22 : decode cX12_isTold 22 = .ok (.goto 4, 3) := by decide +kernel
theorem dX12_isTold_25 : decode cX12_isTold 25 = .ok (.iconst 0, 1) := by decide +kernel
theorem dX12_isTold_26 : decode cX12_isTold 26 = .ok (.ireturn, 1) := by decide +kernel
theorem myX12_lies : MS yX12_lies cX12_lies 6 (some FieldType.boolean) 3 := ⟨kAW (v_5_5 (List.mem_of_getElem? (i := 0) rfl)) rfl, kAW (v_0_0 (List.mem_of_getElem? (i := 13) rfl)) rfl, kAW (v_5_4 (List.mem_of_getElem? (i := 15) rfl)) rfl, by decide, by decide, by decide +kernel⟩
theorem FG_X12_17 : FG RX12 17 12 86 10 := ⟨RX12, TX12, rfl, wX12, by decide, kAW (v_4_3 (List.mem_of_getElem? (i := 7) rfl)) rfl, rfl⟩
set_option maxRecDepth 100000 in
set_option maxHeartbeats 4000000 in
theorem a_X12_isTold (l : Launch) (D : va_G) (cA : Nat → ClassId) (ad : Nat → Nat) (g0 : Nat → va_E) (i : Int32) (hSh : Shp ad cA g0) (hG : Rng g0) : CT l NN ad cA D yX12_isTold cX12_isTold 2 (some FieldType.boolean) (1, 25) [.ref (ad 129), .int i] g0 (PU g0 (fun r => (r.toInt = 1 ∧ 0 ≤ i.toInt ∧ i.toInt ≤ 11) ∨ r.toInt = 0)) := by
  refine q_enterZ (by decide) (Nat.le_of_ble_eq_true rfl) (fun K H locs ls _ _ hM hW0 hR hC hE hl => ?_)
  have hl : lv_has ls 2 [(0, .ref (ad 129)), (1, .int i)] := hl
  have hW : WS ad cA (fun i k => False) g0 K g0 H locs := ⟨hW0, hSh, FR.rf⟩
  refine q_iload_n hM dX12_isTold_0 (lv_at hl 1 rfl) ?_
  refine q_i2l hM dX12_isTold_1 ?_
  have := l_i2l i
  refine q_lconst (v := 0) hM dX12_isTold_2 (by decide) ?_
  have := kl_0
  refine q_ldc2 (v := 11) hM (kAW (v_5_4 (List.mem_of_getElem? (i := 13) rfl)) rfl) dX12_isTold_3 ?_
  have := kl_11
  refine q_callS (As := [.long i.toInt64, .long (0 : Int64), .long (11 : Int64)]) (rest := []) hM hW.1 hR hC myX12_lies (kAW (v_5_4 (List.mem_of_getElem? (i := 14) rfl)) rfl) (c_X12_lies _ _ cA ad g0 i.toInt64 (0 : Int64) (11 : Int64) hW.2.1) ⟨by decide, by decide⟩ rfl rfl hl.1 (Nat.le_of_ble_eq_true rfl) dX12_isTold_6 (fun v g5377 H locs hp hW1 => ?_)
  obtain ⟨r5376, rfl, hr5376, rfl⟩ := hp
  have hW : WS ad cA (fun i k => False) g0 K g0 H locs := ⟨hW1, hW.2.1, hW.2.2⟩
  refine q_if_eq (tgt := 25) hM dX12_isTold_9 (by decide) (rfl : r5376.toInt = r5376.toInt) (fun h9 => ?_) (fun h9 => ?_)
  · refine q_iconst (v := (0 : Int32)) hM dX12_isTold_25 (by decide) ?_
    exact hE _ _ _ _ _ _ hW.1 nz_0 ⟨_, rfl, (by have := kc_0; omega), rfl⟩ dX12_isTold_26
  · refine q_aload_n hM dX12_isTold_12 (lv_at hl 0 rfl) ?_
    refine w_get (v := .ref (ad 131)) hM hW FG_X12_17 lb_129 (rf_129_10 hW.2.1) dX12_isTold_13 ?_
    refine q_iload_n hM dX12_isTold_16 (lv_at hl 1 rfl) ?_
    refine w_zald hM hW lb_131 (i_in (by omega) (by omega)) dX12_isTold_17 ?_
    refine q_top (fun y5380 hy5380 => ?_)
    refine q_if_eq (tgt := 25) hM dX12_isTold_18 (by decide) (rfl : y5380.toInt = y5380.toInt) (fun h18 => ?_) (fun h18 => ?_)
    · refine q_iconst (v := (0 : Int32)) hM dX12_isTold_25 (by decide) ?_
      exact hE _ _ _ _ _ _ hW.1 nz_0 ⟨_, rfl, (by have := kc_0; omega), rfl⟩ dX12_isTold_26
    · refine q_iconst (v := (1 : Int32)) hM dX12_isTold_21 (by decide) ?_
      refine q_goto (tgt := 26) hM dX12_isTold_22 (by decide) ?_
      exact hE _ _ _ _ _ _ hW.1 nz_1 ⟨_, rfl, (by have := kc_1; omega), rfl⟩ dX12_isTold_26

theorem dX12_isThere_0 : decode cX12_isThere 0 = .ok (.iload_n 1, 1) := by decide +kernel
theorem dX12_isThere_1 : decode cX12_isThere 1 = .ok (.i2l, 1) := by decide +kernel
theorem dX12_isThere_2 : decode cX12_isThere 2 = .ok (.lconst 0, 1) := by decide +kernel
theorem dX12_isThere_3 : decode cX12_isThere 3 = .ok (.ldc2_w 225, 3) := by decide +kernel
theorem dX12_isThere_6 : decode cX12_isThere 6 = .ok (.invokestatic 190, 3) := by decide +kernel
theorem dX12_isThere_9 : decode cX12_isThere 9 = .ok (.ifCond .eq 16, 3) := by decide +kernel
theorem dX12_isThere_12 : decode cX12_isThere 12 = .ok (.aload_n 0, 1) := by decide +kernel
theorem dX12_isThere_13 : decode cX12_isThere 13 = .ok (.getfield 28, 3) := by decide +kernel
theorem dX12_isThere_16 : decode cX12_isThere 16 = .ok (.iload_n 1, 1) := by decide +kernel
theorem dX12_isThere_17 : decode cX12_isThere 17 = .ok (.baload, 1) := by decide +kernel
theorem dX12_isThere_18 : decode cX12_isThere 18 = .ok (.ifCond .eq 7, 3) := by decide +kernel
theorem dX12_isThere_21 : decode cX12_isThere 21 = .ok (.iconst 1, 1) := by decide +kernel
theorem dX12_isThere_22 : decode cX12_isThere 22 = .ok (.goto 4, 3) := by decide +kernel
theorem dX12_isThere_25 : decode cX12_isThere 25 = .ok (.iconst 0, 1) := by decide +kernel
theorem dX12_isThere_26 : decode cX12_isThere 26 = .ok (.ireturn, 1) := by decide +kernel
theorem FG_X12_28 : FG RX12 28 12 86 13 := ⟨RX12, TX12, rfl, wX12, by decide, kAW (v_4_3 (List.mem_of_getElem? (i := 10) rfl)) rfl, rfl⟩
set_option maxRecDepth 100000 in
set_option maxHeartbeats 4000000 in
theorem a_X12_isThere (l : Launch) (D : va_G) (cA : Nat → ClassId) (ad : Nat → Nat) (g0 : Nat → va_E) (i : Int32) (hSh : Shp ad cA g0) (hG : Rng g0) : CT l NN ad cA D yX12_isThere cX12_isThere 2 (some FieldType.boolean) (1, 25) [.ref (ad 129), .int i] g0 (PU g0 (fun r => (r.toInt = 1 ∧ 0 ≤ i.toInt ∧ i.toInt ≤ 5) ∨ r.toInt = 0)) := by
  refine q_enterZ (by decide) (Nat.le_of_ble_eq_true rfl) (fun K H locs ls _ _ hM hW0 hR hC hE hl => ?_)
  have hl : lv_has ls 2 [(0, .ref (ad 129)), (1, .int i)] := hl
  have hW : WS ad cA (fun i k => False) g0 K g0 H locs := ⟨hW0, hSh, FR.rf⟩
  refine q_iload_n hM dX12_isThere_0 (lv_at hl 1 rfl) ?_
  refine q_i2l hM dX12_isThere_1 ?_
  have := l_i2l i
  refine q_lconst (v := 0) hM dX12_isThere_2 (by decide) ?_
  have := kl_0
  refine q_ldc2 (v := 5) hM (kAW (v_5_8 (List.mem_of_getElem? (i := 5) rfl)) rfl) dX12_isThere_3 ?_
  have := kl_5
  refine q_callS (As := [.long i.toInt64, .long (0 : Int64), .long (5 : Int64)]) (rest := []) hM hW.1 hR hC myX12_lies (kAW (v_5_4 (List.mem_of_getElem? (i := 14) rfl)) rfl) (c_X12_lies _ _ cA ad g0 i.toInt64 (0 : Int64) (5 : Int64) hW.2.1) ⟨by decide, by decide⟩ rfl rfl hl.1 (Nat.le_of_ble_eq_true rfl) dX12_isThere_6 (fun v g5384 H locs hp hW1 => ?_)
  obtain ⟨r5383, rfl, hr5383, rfl⟩ := hp
  have hW : WS ad cA (fun i k => False) g0 K g0 H locs := ⟨hW1, hW.2.1, hW.2.2⟩
  refine q_if_eq (tgt := 25) hM dX12_isThere_9 (by decide) (rfl : r5383.toInt = r5383.toInt) (fun h9 => ?_) (fun h9 => ?_)
  · refine q_iconst (v := (0 : Int32)) hM dX12_isThere_25 (by decide) ?_
    exact hE _ _ _ _ _ _ hW.1 nz_0 ⟨_, rfl, (by have := kc_0; omega), rfl⟩ dX12_isThere_26
  · refine q_aload_n hM dX12_isThere_12 (lv_at hl 0 rfl) ?_
    refine w_get (v := .ref (ad 134)) hM hW FG_X12_28 lb_129 (rf_129_13 hW.2.1) dX12_isThere_13 ?_
    refine q_iload_n hM dX12_isThere_16 (lv_at hl 1 rfl) ?_
    refine w_zald hM hW lb_134 (i_in (by omega) (by omega)) dX12_isThere_17 ?_
    refine q_top (fun y5387 hy5387 => ?_)
    refine q_if_eq (tgt := 25) hM dX12_isThere_18 (by decide) (rfl : y5387.toInt = y5387.toInt) (fun h18 => ?_) (fun h18 => ?_)
    · refine q_iconst (v := (0 : Int32)) hM dX12_isThere_25 (by decide) ?_
      exact hE _ _ _ _ _ _ hW.1 nz_0 ⟨_, rfl, (by have := kc_0; omega), rfl⟩ dX12_isThere_26
    · refine q_iconst (v := (1 : Int32)) hM dX12_isThere_21 (by decide) ?_
      refine q_goto (tgt := 26) hM dX12_isThere_22 (by decide) ?_
      exact hE _ _ _ _ _ _ hW.1 nz_1 ⟨_, rfl, (by have := kc_1; omega), rfl⟩ dX12_isThere_26

theorem dX12_isThat_0 : decode cX12_isThat 0 = .ok (.iload_n 1, 1) := by decide +kernel
theorem dX12_isThat_1 : decode cX12_isThat 1 = .ok (.i2l, 1) := by decide +kernel
theorem dX12_isThat_2 : decode cX12_isThat 2 = .ok (.lconst 0, 1) := by decide +kernel
theorem dX12_isThat_3 : decode cX12_isThat 3 = .ok (.ldc2_w 411, 3) := by decide +kernel
theorem dX12_isThat_6 : decode cX12_isThat 6 = .ok (.invokestatic 190, 3) := by decide +kernel
theorem dX12_isThat_9 : decode cX12_isThat 9 = .ok (.ifCond .eq 16, 3) := by decide +kernel
theorem dX12_isThat_12 : decode cX12_isThat 12 = .ok (.aload_n 0, 1) := by decide +kernel
theorem dX12_isThat_13 : decode cX12_isThat 13 = .ok (.getfield 100, 3) := by decide +kernel
theorem dX12_isThat_16 : decode cX12_isThat 16 = .ok (.iload_n 1, 1) := by decide +kernel
theorem dX12_isThat_17 : decode cX12_isThat 17 = .ok (.baload, 1) := by decide +kernel
theorem dX12_isThat_18 : decode cX12_isThat 18 = .ok (.ifCond .eq 7, 3) := by decide +kernel
theorem dX12_isThat_21 : decode cX12_isThat 21 = .ok (.iconst 1, 1) := by decide +kernel
theorem dX12_isThat_22 : decode cX12_isThat 22 = .ok (.goto 4, 3) := by decide +kernel
theorem dX12_isThat_25 : decode cX12_isThat 25 = .ok (.iconst 0, 1) := by decide +kernel
theorem dX12_isThat_26 : decode cX12_isThat 26 = .ok (.ireturn, 1) := by decide +kernel
theorem FG_X12_100 : FG RX12 100 12 86 52 := ⟨RX12, TX12, rfl, wX12, by decide, kAW (v_4_6 (List.mem_of_getElem? (i := 1) rfl)) rfl, rfl⟩
set_option maxRecDepth 100000 in
set_option maxHeartbeats 4000000 in
theorem a_X12_isThat (l : Launch) (D : va_G) (cA : Nat → ClassId) (ad : Nat → Nat) (g0 : Nat → va_E) (i : Int32) (hSh : Shp ad cA g0) (hG : Rng g0) : CT l NN ad cA D yX12_isThat cX12_isThat 2 (some FieldType.boolean) (1, 25) [.ref (ad 129), .int i] g0 (PU g0 (fun r => (r.toInt = 1 ∧ 0 ≤ i.toInt ∧ i.toInt ≤ 7) ∨ r.toInt = 0)) := by
  refine q_enterZ (by decide) (Nat.le_of_ble_eq_true rfl) (fun K H locs ls _ _ hM hW0 hR hC hE hl => ?_)
  have hl : lv_has ls 2 [(0, .ref (ad 129)), (1, .int i)] := hl
  have hW : WS ad cA (fun i k => False) g0 K g0 H locs := ⟨hW0, hSh, FR.rf⟩
  refine q_iload_n hM dX12_isThat_0 (lv_at hl 1 rfl) ?_
  refine q_i2l hM dX12_isThat_1 ?_
  have := l_i2l i
  refine q_lconst (v := 0) hM dX12_isThat_2 (by decide) ?_
  have := kl_0
  refine q_ldc2 (v := 7) hM (kAW (v_6_2 (List.mem_of_getElem? (i := 3) rfl)) rfl) dX12_isThat_3 ?_
  have := kl_7
  refine q_callS (As := [.long i.toInt64, .long (0 : Int64), .long (7 : Int64)]) (rest := []) hM hW.1 hR hC myX12_lies (kAW (v_5_4 (List.mem_of_getElem? (i := 14) rfl)) rfl) (c_X12_lies _ _ cA ad g0 i.toInt64 (0 : Int64) (7 : Int64) hW.2.1) ⟨by decide, by decide⟩ rfl rfl hl.1 (Nat.le_of_ble_eq_true rfl) dX12_isThat_6 (fun v g5391 H locs hp hW1 => ?_)
  obtain ⟨r5390, rfl, hr5390, rfl⟩ := hp
  have hW : WS ad cA (fun i k => False) g0 K g0 H locs := ⟨hW1, hW.2.1, hW.2.2⟩
  refine q_if_eq (tgt := 25) hM dX12_isThat_9 (by decide) (rfl : r5390.toInt = r5390.toInt) (fun h9 => ?_) (fun h9 => ?_)
  · refine q_iconst (v := (0 : Int32)) hM dX12_isThat_25 (by decide) ?_
    exact hE _ _ _ _ _ _ hW.1 nz_0 ⟨_, rfl, (by have := kc_0; omega), rfl⟩ dX12_isThat_26
  · refine q_aload_n hM dX12_isThat_12 (lv_at hl 0 rfl) ?_
    refine w_get (v := .ref (ad 158)) hM hW FG_X12_100 lb_129 (rf_129_52 hW.2.1) dX12_isThat_13 ?_
    refine q_iload_n hM dX12_isThat_16 (lv_at hl 1 rfl) ?_
    refine w_zald hM hW lb_158 (i_in (by omega) (by omega)) dX12_isThat_17 ?_
    refine q_top (fun y5394 hy5394 => ?_)
    refine q_if_eq (tgt := 25) hM dX12_isThat_18 (by decide) (rfl : y5394.toInt = y5394.toInt) (fun h18 => ?_) (fun h18 => ?_)
    · refine q_iconst (v := (0 : Int32)) hM dX12_isThat_25 (by decide) ?_
      exact hE _ _ _ _ _ _ hW.1 nz_0 ⟨_, rfl, (by have := kc_0; omega), rfl⟩ dX12_isThat_26
    · refine q_iconst (v := (1 : Int32)) hM dX12_isThat_21 (by decide) ?_
      refine q_goto (tgt := 26) hM dX12_isThat_22 (by decide) ?_
      exact hE _ _ _ _ _ _ hW.1 nz_1 ⟨_, rfl, (by have := kc_1; omega), rfl⟩ dX12_isThat_26

theorem dX12_toldFacts_0 : decode cX12_toldFacts 0 = .ok (.iconst 0, 1) := by decide +kernel
theorem dX12_toldFacts_1 : decode cX12_toldFacts 1 = .ok (.istore_n 1, 1) := by decide +kernel
theorem dX12_toldFacts_2 : decode cX12_toldFacts 2 = .ok (.iconst 0, 1) := by decide +kernel
theorem dX12_toldFacts_3 : decode cX12_toldFacts 3 = .ok (.istore_n 2, 1) := by decide +kernel
theorem dX12_toldFacts_4 : decode cX12_toldFacts 4 = .ok (.iload_n 2, 1) := by decide +kernel
theorem dX12_toldFacts_5 : decode cX12_toldFacts 5 = .ok (.bipush 12, 2) := by decide +kernel
theorem dX12_toldFacts_7 : decode cX12_toldFacts 7 = .ok (.if_icmp .ge 28, 3) := by decide +kernel
theorem dX12_toldFacts_10 : decode cX12_toldFacts 10 = .ok (.iload_n 1, 1) := by decide +kernel
theorem dX12_toldFacts_11 : decode cX12_toldFacts 11 = .ok (.aload_n 0, 1) := by decide +kernel
theorem dX12_toldFacts_12 : decode cX12_toldFacts 12 = .ok (.getfield 17, 3) := by decide +kernel
theorem dX12_toldFacts_15 : decode cX12_toldFacts 15 = .ok (.iload_n 2, 1) := by decide +kernel
theorem dX12_toldFacts_16 : decode cX12_toldFacts 16 = .ok (.baload, 1) := by decide +kernel
theorem dX12_toldFacts_17 : decode cX12_toldFacts 17 = .ok (.ifCond .eq 9, 3) := by decide +kernel
theorem dX12_toldFacts_20 : decode cX12_toldFacts 20 = .ok (.iconst 1, 1) := by decide +kernel
theorem dX12_toldFacts_21 : decode cX12_toldFacts 21 = .ok (.iload_n 2, 1) := by decide +kernel
theorem dX12_toldFacts_22 : decode cX12_toldFacts 22 = .ok (.ishl, 1) := by decide +kernel
theorem dX12_toldFacts_23 : decode cX12_toldFacts 23 = .ok (.goto 4, 3) := by decide +kernel
theorem dX12_toldFacts_26 : decode cX12_toldFacts 26 = .ok (.iconst 0, 1) := by decide +kernel
theorem dX12_toldFacts_27 : decode cX12_toldFacts 27 = .ok (.ior, 1) := by decide +kernel
theorem dX12_toldFacts_28 : decode cX12_toldFacts 28 = .ok (.istore_n 1, 1) := by decide +kernel
theorem dX12_toldFacts_29 : decode cX12_toldFacts 29 = .ok (.iinc 2 1, 3) := by decide +kernel
theorem dX12_toldFacts_32 : decode cX12_toldFacts 32 = .ok (.goto (-28), 3) := by decide +kernel
theorem dX12_toldFacts_35 : decode cX12_toldFacts 35 = .ok (.iload_n 1, 1) := by decide +kernel
theorem dX12_toldFacts_36 : decode cX12_toldFacts 36 = .ok (.ireturn, 1) := by decide +kernel
set_option maxRecDepth 100000 in
set_option maxHeartbeats 4000000 in
theorem a_X12_toldFacts (l : Launch) (D : va_G) (cA : Nat → ClassId) (ad : Nat → Nat) (g0 : Nat → va_E)  (hSh : Shp ad cA g0) (hG : Rng g0) : CT l NN ad cA D yX12_toldFacts cX12_toldFacts 3 (some FieldType.int) (0, 0) [.ref (ad 129)] g0 (PU g0 (fun r => 0 ≤ r.toInt ∧ r.toInt < 4096)) := by
  refine q_enterI (by decide) (Nat.le_of_ble_eq_true rfl) rfl (fun K H locs ls _ _ hM hW0 hR hC hE hl => ?_)
  have hl : lv_has ls 3 [(0, .ref (ad 129))] := hl
  have hW : WS ad cA (fun i k => False) g0 K g0 H locs := ⟨hW0, hSh, FR.rf⟩
  refine q_iconst (v := (0 : Int32)) hM dX12_toldFacts_0 (by decide) ?_
  refine q_istore_n (lv9 := [(1, .int (0 : Int32)), (0, .ref (ad 129))]) hM dX12_toldFacts_1 hl (by decide) rfl (fun ls hl => ?_)
  refine q_iconst (v := (0 : Int32)) hM dX12_toldFacts_2 (by decide) ?_
  refine q_istore_n (lv9 := [(2, .int (0 : Int32)), (1, .int (0 : Int32)), (0, .ref (ad 129))]) hM dX12_toldFacts_3 hl (by decide) rfl (fun ls hl => ?_)
  have L4 : ∀ (fu4 : Nat) (w4_1 : Int32) (w4_2 : Int32) (H : Heap) (locs : List Loc) (ls : Array Slot), (12 - w4_2.toInt).toNat < fu4 → (0 ≤ w4_2.toInt) → (w4_2.toInt ≤ 12) → (0 ≤ w4_1.toInt) → (w4_1.toInt < 4096) → lv_has ls 3 [(0, .ref (ad 129)), (1, .int w4_1), (2, .int w4_2)] → WS ad cA (fun i k => False) g0 K g0 H locs → XX K 0 0 H locs 4 ls [] := by
    intro fu4
    induction fu4 with
    | zero => intro w4_1 w4_2 H locs ls h0; omega
    | succ fu4 ih4 =>
      intro w4_1 w4_2 H locs ls hm4 i4_0 i4_1 i4_2 i4_3 hl hW
      refine q_iload_n hM dX12_toldFacts_4 (lv_at hl 2 rfl) ?_
      refine q_bipush (v := (12 : Int32)) hM dX12_toldFacts_5 (by decide) ?_
      refine q_icmp_ge (tgt := 35) hM dX12_toldFacts_7 (by decide) (rfl : w4_2.toInt = w4_2.toInt) (kc_12 : (12 : Int32).toInt = 12) (fun h7 => ?_) (fun h7 => ?_)
      · refine q_iload_n hM dX12_toldFacts_35 (lv_at hl 1 rfl) ?_
        exact hE _ _ _ _ _ _ hW.1 ⟨_, rfl, (by omega), rfl⟩ dX12_toldFacts_36
      · refine q_iload_n hM dX12_toldFacts_10 (lv_at hl 1 rfl) ?_
        refine q_aload_n hM dX12_toldFacts_11 (lv_at hl 0 rfl) ?_
        refine w_get (v := .ref (ad 131)) hM hW FG_X12_17 lb_129 (rf_129_10 hW.2.1) dX12_toldFacts_12 ?_
        refine q_iload_n hM dX12_toldFacts_15 (lv_at hl 2 rfl) ?_
        refine w_zald hM hW lb_131 (i_in (by omega) (by omega)) dX12_toldFacts_16 ?_
        refine q_top (fun y5400 hy5400 => ?_)
        refine q_if_eq (tgt := 26) hM dX12_toldFacts_17 (by decide) (rfl : y5400.toInt = y5400.toInt) (fun h17 => ?_) (fun h17 => ?_)
        · refine q_iconst (v := (0 : Int32)) hM dX12_toldFacts_26 (by decide) ?_
          refine q_ior hM dX12_toldFacts_27 (fun z5402 hz5402 => ?_)
          first | have oz5402 := i_ork 12 (by decide) hz5402 (by have := kc_0; omega) (by have := kc_0; omega) (by have := kc_0; omega) (by have := kc_0; omega) | skip
          first | have ogz5402 := i_or_ge hz5402 (by have := kc_0; omega) (by have := kc_0; omega) | skip
          refine q_istore_n (lv9 := [(1, .int z5402), (0, .ref (ad 129)), (2, .int w4_2)]) hM dX12_toldFacts_28 hl (by decide) rfl (fun ls hl => ?_)
          refine q_iinc (lv9 := fun z5403 => [(2, .int z5403), (1, .int z5402), (0, .ref (ad 129))]) hM dX12_toldFacts_29 hl (kq := 2) rfl (by decide) (fun _ => rfl) (fun z5403 ls hz5403 hl => ?_)
          first | have tz5403 := i_addT hz5403 (rfl : w4_2.toInt = w4_2.toInt) (kc_1 : (Int32.ofInt 1).toInt = 1) (by omega) (by omega) | skip
          refine q_goto (tgt := 4) hM dX12_toldFacts_32 (by decide) ?_
          exact ih4 z5402 z5403 _ _ _ (by omega) (by omega) (by omega) (by omega) (by omega) (lv_sub hl [2, 1, 0] rfl) hW
        · refine q_iconst (v := (1 : Int32)) hM dX12_toldFacts_20 (by decide) ?_
          refine q_iload_n hM dX12_toldFacts_21 (lv_at hl 2 rfl) ?_
          refine q_ishl hM dX12_toldFacts_22 (fun z5405 hz5405 => ?_)
          first | have sz5405 := i_shl1 12 (by decide) hz5405 (by omega) (by omega) | skip
          refine q_goto (tgt := 27) hM dX12_toldFacts_23 (by decide) ?_
          refine q_ior hM dX12_toldFacts_27 (fun z5406 hz5406 => ?_)
          first | have oz5406 := i_ork 12 (by decide) hz5406 (by omega) (by omega) (by omega) (by omega) | skip
          first | have ogz5406 := i_or_ge hz5406 (by omega) (by omega) | skip
          refine q_istore_n (lv9 := [(1, .int z5406), (0, .ref (ad 129)), (2, .int w4_2)]) hM dX12_toldFacts_28 hl (by decide) rfl (fun ls hl => ?_)
          refine q_iinc (lv9 := fun z5407 => [(2, .int z5407), (1, .int z5406), (0, .ref (ad 129))]) hM dX12_toldFacts_29 hl (kq := 2) rfl (by decide) (fun _ => rfl) (fun z5407 ls hz5407 hl => ?_)
          first | have tz5407 := i_addT hz5407 (rfl : w4_2.toInt = w4_2.toInt) (kc_1 : (Int32.ofInt 1).toInt = 1) (by omega) (by omega) | skip
          refine q_goto (tgt := 4) hM dX12_toldFacts_32 (by decide) ?_
          exact ih4 z5406 z5407 _ _ _ (by omega) (by omega) (by omega) (by omega) (by omega) (lv_sub hl [2, 1, 0] rfl) hW
  have := kc_0
  have := kc_0
  exact L4 _ (0 : Int32) (0 : Int32) _ _ _ (Nat.lt_succ_self _) (by omega) (by omega) (by omega) (by omega) (lv_sub hl [2, 1, 0] rfl) hW

theorem dX12_toldMasters_0 : decode cX12_toldMasters 0 = .ok (.iconst 0, 1) := by decide +kernel
theorem dX12_toldMasters_1 : decode cX12_toldMasters 1 = .ok (.istore_n 1, 1) := by decide +kernel
theorem dX12_toldMasters_2 : decode cX12_toldMasters 2 = .ok (.iconst 0, 1) := by decide +kernel
theorem dX12_toldMasters_3 : decode cX12_toldMasters 3 = .ok (.istore_n 2, 1) := by decide +kernel
theorem dX12_toldMasters_4 : decode cX12_toldMasters 4 = .ok (.iload_n 2, 1) := by decide +kernel
theorem dX12_toldMasters_5 : decode cX12_toldMasters 5 = .ok (.iconst 5, 1) := by decide +kernel
theorem dX12_toldMasters_6 : decode cX12_toldMasters 6 = .ok (.if_icmp .ge 28, 3) := by decide +kernel
theorem dX12_toldMasters_9 : decode cX12_toldMasters 9 = .ok (.iload_n 1, 1) := by decide +kernel
theorem dX12_toldMasters_10 : decode cX12_toldMasters 10 = .ok (.aload_n 0, 1) := by decide +kernel
theorem dX12_toldMasters_11 : decode cX12_toldMasters 11 = .ok (.getfield 154, 3) := by decide +kernel
theorem dX12_toldMasters_14 : decode cX12_toldMasters 14 = .ok (.iload_n 2, 1) := by decide +kernel
theorem dX12_toldMasters_15 : decode cX12_toldMasters 15 = .ok (.baload, 1) := by decide +kernel
theorem dX12_toldMasters_16 : decode cX12_toldMasters 16 = .ok (.ifCond .eq 9, 3) := by decide +kernel
theorem dX12_toldMasters_19 : decode cX12_toldMasters 19 = .ok (.iconst 1, 1) := by decide +kernel
theorem dX12_toldMasters_20 : decode cX12_toldMasters 20 = .ok (.iload_n 2, 1) := by decide +kernel
theorem dX12_toldMasters_21 : decode cX12_toldMasters 21 = .ok (.ishl, 1) := by decide +kernel
theorem dX12_toldMasters_22 : decode cX12_toldMasters 22 = .ok (.goto 4, 3) := by decide +kernel
theorem dX12_toldMasters_25 : decode cX12_toldMasters 25 = .ok (.iconst 0, 1) := by decide +kernel
theorem dX12_toldMasters_26 : decode cX12_toldMasters 26 = .ok (.ior, 1) := by decide +kernel
theorem dX12_toldMasters_27 : decode cX12_toldMasters 27 = .ok (.istore_n 1, 1) := by decide +kernel
theorem dX12_toldMasters_28 : decode cX12_toldMasters 28 = .ok (.iinc 2 1, 3) := by decide +kernel
theorem dX12_toldMasters_31 : decode cX12_toldMasters 31 = .ok (.goto (-27), 3) := by decide +kernel
theorem dX12_toldMasters_34 : decode cX12_toldMasters 34 = .ok (.iload_n 1, 1) := by decide +kernel
theorem dX12_toldMasters_35 : decode cX12_toldMasters 35 = .ok (.ireturn, 1) := by decide +kernel
theorem FG_X12_154 : FG RX12 154 12 86 82 := ⟨RX12, TX12, rfl, wX12, by decide, kAW (v_4_7 (List.mem_of_getElem? (i := 15) rfl)) rfl, rfl⟩
set_option maxRecDepth 100000 in
set_option maxHeartbeats 4000000 in
theorem a_X12_toldMasters (l : Launch) (D : va_G) (cA : Nat → ClassId) (ad : Nat → Nat) (g0 : Nat → va_E)  (hSh : Shp ad cA g0) (hG : Rng g0) : CT l NN ad cA D yX12_toldMasters cX12_toldMasters 3 (some FieldType.int) (0, 0) [.ref (ad 129)] g0 (PU g0 (fun r => 0 ≤ r.toInt ∧ r.toInt < 32)) := by
  refine q_enterI (by decide) (Nat.le_of_ble_eq_true rfl) rfl (fun K H locs ls _ _ hM hW0 hR hC hE hl => ?_)
  have hl : lv_has ls 3 [(0, .ref (ad 129))] := hl
  have hW : WS ad cA (fun i k => False) g0 K g0 H locs := ⟨hW0, hSh, FR.rf⟩
  refine q_iconst (v := (0 : Int32)) hM dX12_toldMasters_0 (by decide) ?_
  refine q_istore_n (lv9 := [(1, .int (0 : Int32)), (0, .ref (ad 129))]) hM dX12_toldMasters_1 hl (by decide) rfl (fun ls hl => ?_)
  refine q_iconst (v := (0 : Int32)) hM dX12_toldMasters_2 (by decide) ?_
  refine q_istore_n (lv9 := [(2, .int (0 : Int32)), (1, .int (0 : Int32)), (0, .ref (ad 129))]) hM dX12_toldMasters_3 hl (by decide) rfl (fun ls hl => ?_)
  have L4 : ∀ (fu4 : Nat) (w4_1 : Int32) (w4_2 : Int32) (H : Heap) (locs : List Loc) (ls : Array Slot), (5 - w4_2.toInt).toNat < fu4 → (0 ≤ w4_2.toInt) → (w4_2.toInt ≤ 5) → (0 ≤ w4_1.toInt) → (w4_1.toInt < 32) → lv_has ls 3 [(0, .ref (ad 129)), (1, .int w4_1), (2, .int w4_2)] → WS ad cA (fun i k => False) g0 K g0 H locs → XX K 0 0 H locs 4 ls [] := by
    intro fu4
    induction fu4 with
    | zero => intro w4_1 w4_2 H locs ls h0; omega
    | succ fu4 ih4 =>
      intro w4_1 w4_2 H locs ls hm4 i4_0 i4_1 i4_2 i4_3 hl hW
      refine q_iload_n hM dX12_toldMasters_4 (lv_at hl 2 rfl) ?_
      refine q_iconst (v := (5 : Int32)) hM dX12_toldMasters_5 (by decide) ?_
      refine q_icmp_ge (tgt := 34) hM dX12_toldMasters_6 (by decide) (rfl : w4_2.toInt = w4_2.toInt) (kc_5 : (5 : Int32).toInt = 5) (fun h6 => ?_) (fun h6 => ?_)
      · refine q_iload_n hM dX12_toldMasters_34 (lv_at hl 1 rfl) ?_
        exact hE _ _ _ _ _ _ hW.1 ⟨_, rfl, (by omega), rfl⟩ dX12_toldMasters_35
      · refine q_iload_n hM dX12_toldMasters_9 (lv_at hl 1 rfl) ?_
        refine q_aload_n hM dX12_toldMasters_10 (lv_at hl 0 rfl) ?_
        refine w_get (v := .ref (ad 176)) hM hW FG_X12_154 lb_129 (rf_129_82 hW.2.1) dX12_toldMasters_11 ?_
        refine q_iload_n hM dX12_toldMasters_14 (lv_at hl 2 rfl) ?_
        refine w_zald hM hW lb_176 (i_in (by omega) (by omega)) dX12_toldMasters_15 ?_
        refine q_top (fun y5411 hy5411 => ?_)
        refine q_if_eq (tgt := 25) hM dX12_toldMasters_16 (by decide) (rfl : y5411.toInt = y5411.toInt) (fun h16 => ?_) (fun h16 => ?_)
        · refine q_iconst (v := (0 : Int32)) hM dX12_toldMasters_25 (by decide) ?_
          refine q_ior hM dX12_toldMasters_26 (fun z5413 hz5413 => ?_)
          first | have oz5413 := i_ork 5 (by decide) hz5413 (by have := kc_0; omega) (by have := kc_0; omega) (by have := kc_0; omega) (by have := kc_0; omega) | skip
          first | have ogz5413 := i_or_ge hz5413 (by have := kc_0; omega) (by have := kc_0; omega) | skip
          refine q_istore_n (lv9 := [(1, .int z5413), (0, .ref (ad 129)), (2, .int w4_2)]) hM dX12_toldMasters_27 hl (by decide) rfl (fun ls hl => ?_)
          refine q_iinc (lv9 := fun z5414 => [(2, .int z5414), (1, .int z5413), (0, .ref (ad 129))]) hM dX12_toldMasters_28 hl (kq := 2) rfl (by decide) (fun _ => rfl) (fun z5414 ls hz5414 hl => ?_)
          first | have tz5414 := i_addT hz5414 (rfl : w4_2.toInt = w4_2.toInt) (kc_1 : (Int32.ofInt 1).toInt = 1) (by omega) (by omega) | skip
          refine q_goto (tgt := 4) hM dX12_toldMasters_31 (by decide) ?_
          exact ih4 z5413 z5414 _ _ _ (by omega) (by omega) (by omega) (by omega) (by omega) (lv_sub hl [2, 1, 0] rfl) hW
        · refine q_iconst (v := (1 : Int32)) hM dX12_toldMasters_19 (by decide) ?_
          refine q_iload_n hM dX12_toldMasters_20 (lv_at hl 2 rfl) ?_
          refine q_ishl hM dX12_toldMasters_21 (fun z5416 hz5416 => ?_)
          first | have sz5416 := i_shl1 5 (by decide) hz5416 (by omega) (by omega) | skip
          refine q_goto (tgt := 26) hM dX12_toldMasters_22 (by decide) ?_
          refine q_ior hM dX12_toldMasters_26 (fun z5417 hz5417 => ?_)
          first | have oz5417 := i_ork 5 (by decide) hz5417 (by omega) (by omega) (by omega) (by omega) | skip
          first | have ogz5417 := i_or_ge hz5417 (by omega) (by omega) | skip
          refine q_istore_n (lv9 := [(1, .int z5417), (0, .ref (ad 129)), (2, .int w4_2)]) hM dX12_toldMasters_27 hl (by decide) rfl (fun ls hl => ?_)
          refine q_iinc (lv9 := fun z5418 => [(2, .int z5418), (1, .int z5417), (0, .ref (ad 129))]) hM dX12_toldMasters_28 hl (kq := 2) rfl (by decide) (fun _ => rfl) (fun z5418 ls hz5418 hl => ?_)
          first | have tz5418 := i_addT hz5418 (rfl : w4_2.toInt = w4_2.toInt) (kc_1 : (Int32.ofInt 1).toInt = 1) (by omega) (by omega) | skip
          refine q_goto (tgt := 4) hM dX12_toldMasters_31 (by decide) ?_
          exact ih4 z5417 z5418 _ _ _ (by omega) (by omega) (by omega) (by omega) (by omega) (lv_sub hl [2, 1, 0] rfl) hW
  have := kc_0
  have := kc_0
  exact L4 _ (0 : Int32) (0 : Int32) _ _ _ (Nat.lt_succ_self _) (by omega) (by omega) (by omega) (by omega) (lv_sub hl [2, 1, 0] rfl) hW

theorem dX12_toldPupils_0 : decode cX12_toldPupils 0 = .ok (.iconst 0, 1) := by decide +kernel
theorem dX12_toldPupils_1 : decode cX12_toldPupils 1 = .ok (.istore_n 1, 1) := by decide +kernel
theorem dX12_toldPupils_2 : decode cX12_toldPupils 2 = .ok (.iconst 0, 1) := by decide +kernel
theorem dX12_toldPupils_3 : decode cX12_toldPupils 3 = .ok (.istore_n 2, 1) := by decide +kernel
theorem dX12_toldPupils_4 : decode cX12_toldPupils 4 = .ok (.iload_n 2, 1) := by decide +kernel
theorem dX12_toldPupils_5 : decode cX12_toldPupils 5 = .ok (.bipush 8, 2) := by decide +kernel
theorem dX12_toldPupils_7 : decode cX12_toldPupils 7 = .ok (.if_icmp .ge 28, 3) := by decide +kernel
theorem dX12_toldPupils_10 : decode cX12_toldPupils 10 = .ok (.iload_n 1, 1) := by decide +kernel
theorem dX12_toldPupils_11 : decode cX12_toldPupils 11 = .ok (.aload_n 0, 1) := by decide +kernel
theorem dX12_toldPupils_12 : decode cX12_toldPupils 12 = .ok (.getfield 100, 3) := by decide +kernel
theorem dX12_toldPupils_15 : decode cX12_toldPupils 15 = .ok (.iload_n 2, 1) := by decide +kernel
theorem dX12_toldPupils_16 : decode cX12_toldPupils 16 = .ok (.baload, 1) := by decide +kernel
theorem dX12_toldPupils_17 : decode cX12_toldPupils 17 = .ok (.ifCond .eq 9, 3) := by decide +kernel
theorem dX12_toldPupils_20 : decode cX12_toldPupils 20 = .ok (.iconst 1, 1) := by decide +kernel
theorem dX12_toldPupils_21 : decode cX12_toldPupils 21 = .ok (.iload_n 2, 1) := by decide +kernel
theorem dX12_toldPupils_22 : decode cX12_toldPupils 22 = .ok (.ishl, 1) := by decide +kernel
theorem dX12_toldPupils_23 : decode cX12_toldPupils 23 = .ok (.goto 4, 3) := by decide +kernel
theorem dX12_toldPupils_26 : decode cX12_toldPupils 26 = .ok (.iconst 0, 1) := by decide +kernel
theorem dX12_toldPupils_27 : decode cX12_toldPupils 27 = .ok (.ior, 1) := by decide +kernel
theorem dX12_toldPupils_28 : decode cX12_toldPupils 28 = .ok (.istore_n 1, 1) := by decide +kernel
theorem dX12_toldPupils_29 : decode cX12_toldPupils 29 = .ok (.iinc 2 1, 3) := by decide +kernel
theorem dX12_toldPupils_32 : decode cX12_toldPupils 32 = .ok (.goto (-28), 3) := by decide +kernel
theorem dX12_toldPupils_35 : decode cX12_toldPupils 35 = .ok (.iload_n 1, 1) := by decide +kernel
theorem dX12_toldPupils_36 : decode cX12_toldPupils 36 = .ok (.ireturn, 1) := by decide +kernel
set_option maxRecDepth 100000 in
set_option maxHeartbeats 4000000 in
theorem a_X12_toldPupils (l : Launch) (D : va_G) (cA : Nat → ClassId) (ad : Nat → Nat) (g0 : Nat → va_E)  (hSh : Shp ad cA g0) (hG : Rng g0) : CT l NN ad cA D yX12_toldPupils cX12_toldPupils 3 (some FieldType.int) (0, 0) [.ref (ad 129)] g0 (PU g0 (fun r => 0 ≤ r.toInt ∧ r.toInt < 256)) := by
  refine q_enterI (by decide) (Nat.le_of_ble_eq_true rfl) rfl (fun K H locs ls _ _ hM hW0 hR hC hE hl => ?_)
  have hl : lv_has ls 3 [(0, .ref (ad 129))] := hl
  have hW : WS ad cA (fun i k => False) g0 K g0 H locs := ⟨hW0, hSh, FR.rf⟩
  refine q_iconst (v := (0 : Int32)) hM dX12_toldPupils_0 (by decide) ?_
  refine q_istore_n (lv9 := [(1, .int (0 : Int32)), (0, .ref (ad 129))]) hM dX12_toldPupils_1 hl (by decide) rfl (fun ls hl => ?_)
  refine q_iconst (v := (0 : Int32)) hM dX12_toldPupils_2 (by decide) ?_
  refine q_istore_n (lv9 := [(2, .int (0 : Int32)), (1, .int (0 : Int32)), (0, .ref (ad 129))]) hM dX12_toldPupils_3 hl (by decide) rfl (fun ls hl => ?_)
  have L4 : ∀ (fu4 : Nat) (w4_1 : Int32) (w4_2 : Int32) (H : Heap) (locs : List Loc) (ls : Array Slot), (8 - w4_2.toInt).toNat < fu4 → (0 ≤ w4_2.toInt) → (w4_2.toInt ≤ 8) → (0 ≤ w4_1.toInt) → (w4_1.toInt < 256) → lv_has ls 3 [(0, .ref (ad 129)), (1, .int w4_1), (2, .int w4_2)] → WS ad cA (fun i k => False) g0 K g0 H locs → XX K 0 0 H locs 4 ls [] := by
    intro fu4
    induction fu4 with
    | zero => intro w4_1 w4_2 H locs ls h0; omega
    | succ fu4 ih4 =>
      intro w4_1 w4_2 H locs ls hm4 i4_0 i4_1 i4_2 i4_3 hl hW
      refine q_iload_n hM dX12_toldPupils_4 (lv_at hl 2 rfl) ?_
      refine q_bipush (v := (8 : Int32)) hM dX12_toldPupils_5 (by decide) ?_
      refine q_icmp_ge (tgt := 35) hM dX12_toldPupils_7 (by decide) (rfl : w4_2.toInt = w4_2.toInt) (kc_8 : (8 : Int32).toInt = 8) (fun h7 => ?_) (fun h7 => ?_)
      · refine q_iload_n hM dX12_toldPupils_35 (lv_at hl 1 rfl) ?_
        exact hE _ _ _ _ _ _ hW.1 ⟨_, rfl, (by omega), rfl⟩ dX12_toldPupils_36
      · refine q_iload_n hM dX12_toldPupils_10 (lv_at hl 1 rfl) ?_
        refine q_aload_n hM dX12_toldPupils_11 (lv_at hl 0 rfl) ?_
        refine w_get (v := .ref (ad 158)) hM hW FG_X12_100 lb_129 (rf_129_52 hW.2.1) dX12_toldPupils_12 ?_
        refine q_iload_n hM dX12_toldPupils_15 (lv_at hl 2 rfl) ?_
        refine w_zald hM hW lb_158 (i_in (by omega) (by omega)) dX12_toldPupils_16 ?_
        refine q_top (fun y5422 hy5422 => ?_)
        refine q_if_eq (tgt := 26) hM dX12_toldPupils_17 (by decide) (rfl : y5422.toInt = y5422.toInt) (fun h17 => ?_) (fun h17 => ?_)
        · refine q_iconst (v := (0 : Int32)) hM dX12_toldPupils_26 (by decide) ?_
          refine q_ior hM dX12_toldPupils_27 (fun z5424 hz5424 => ?_)
          first | have oz5424 := i_ork 8 (by decide) hz5424 (by have := kc_0; omega) (by have := kc_0; omega) (by have := kc_0; omega) (by have := kc_0; omega) | skip
          first | have ogz5424 := i_or_ge hz5424 (by have := kc_0; omega) (by have := kc_0; omega) | skip
          refine q_istore_n (lv9 := [(1, .int z5424), (0, .ref (ad 129)), (2, .int w4_2)]) hM dX12_toldPupils_28 hl (by decide) rfl (fun ls hl => ?_)
          refine q_iinc (lv9 := fun z5425 => [(2, .int z5425), (1, .int z5424), (0, .ref (ad 129))]) hM dX12_toldPupils_29 hl (kq := 2) rfl (by decide) (fun _ => rfl) (fun z5425 ls hz5425 hl => ?_)
          first | have tz5425 := i_addT hz5425 (rfl : w4_2.toInt = w4_2.toInt) (kc_1 : (Int32.ofInt 1).toInt = 1) (by omega) (by omega) | skip
          refine q_goto (tgt := 4) hM dX12_toldPupils_32 (by decide) ?_
          exact ih4 z5424 z5425 _ _ _ (by omega) (by omega) (by omega) (by omega) (by omega) (lv_sub hl [2, 1, 0] rfl) hW
        · refine q_iconst (v := (1 : Int32)) hM dX12_toldPupils_20 (by decide) ?_
          refine q_iload_n hM dX12_toldPupils_21 (lv_at hl 2 rfl) ?_
          refine q_ishl hM dX12_toldPupils_22 (fun z5427 hz5427 => ?_)
          first | have sz5427 := i_shl1 8 (by decide) hz5427 (by omega) (by omega) | skip
          refine q_goto (tgt := 27) hM dX12_toldPupils_23 (by decide) ?_
          refine q_ior hM dX12_toldPupils_27 (fun z5428 hz5428 => ?_)
          first | have oz5428 := i_ork 8 (by decide) hz5428 (by omega) (by omega) (by omega) (by omega) | skip
          first | have ogz5428 := i_or_ge hz5428 (by omega) (by omega) | skip
          refine q_istore_n (lv9 := [(1, .int z5428), (0, .ref (ad 129)), (2, .int w4_2)]) hM dX12_toldPupils_28 hl (by decide) rfl (fun ls hl => ?_)
          refine q_iinc (lv9 := fun z5429 => [(2, .int z5429), (1, .int z5428), (0, .ref (ad 129))]) hM dX12_toldPupils_29 hl (kq := 2) rfl (by decide) (fun _ => rfl) (fun z5429 ls hz5429 hl => ?_)
          first | have tz5429 := i_addT hz5429 (rfl : w4_2.toInt = w4_2.toInt) (kc_1 : (Int32.ofInt 1).toInt = 1) (by omega) (by omega) | skip
          refine q_goto (tgt := 4) hM dX12_toldPupils_32 (by decide) ?_
          exact ih4 z5428 z5429 _ _ _ (by omega) (by omega) (by omega) (by omega) (by omega) (lv_sub hl [2, 1, 0] rfl) hW
  have := kc_0
  have := kc_0
  exact L4 _ (0 : Int32) (0 : Int32) _ _ _ (Nat.lt_succ_self _) (by omega) (by omega) (by omega) (by omega) (lv_sub hl [2, 1, 0] rfl) hW

theorem dX12_toldArts_0 : decode cX12_toldArts 0 = .ok (.iconst 0, 1) := by decide +kernel
theorem dX12_toldArts_1 : decode cX12_toldArts 1 = .ok (.istore_n 1, 1) := by decide +kernel
theorem dX12_toldArts_2 : decode cX12_toldArts 2 = .ok (.iconst 0, 1) := by decide +kernel
theorem dX12_toldArts_3 : decode cX12_toldArts 3 = .ok (.istore_n 2, 1) := by decide +kernel
theorem dX12_toldArts_4 : decode cX12_toldArts 4 = .ok (.iload_n 2, 1) := by decide +kernel
theorem dX12_toldArts_5 : decode cX12_toldArts 5 = .ok (.bipush 6, 2) := by decide +kernel
theorem dX12_toldArts_7 : decode cX12_toldArts 7 = .ok (.if_icmp .ge 28, 3) := by decide +kernel
theorem dX12_toldArts_10 : decode cX12_toldArts 10 = .ok (.iload_n 1, 1) := by decide +kernel
theorem dX12_toldArts_11 : decode cX12_toldArts 11 = .ok (.aload_n 0, 1) := by decide +kernel
theorem dX12_toldArts_12 : decode cX12_toldArts 12 = .ok (.getfield 28, 3) := by decide +kernel
theorem dX12_toldArts_15 : decode cX12_toldArts 15 = .ok (.iload_n 2, 1) := by decide +kernel
theorem dX12_toldArts_16 : decode cX12_toldArts 16 = .ok (.baload, 1) := by decide +kernel
theorem dX12_toldArts_17 : decode cX12_toldArts 17 = .ok (.ifCond .eq 9, 3) := by decide +kernel
theorem dX12_toldArts_20 : decode cX12_toldArts 20 = .ok (.iconst 1, 1) := by decide +kernel
theorem dX12_toldArts_21 : decode cX12_toldArts 21 = .ok (.iload_n 2, 1) := by decide +kernel
theorem dX12_toldArts_22 : decode cX12_toldArts 22 = .ok (.ishl, 1) := by decide +kernel
theorem dX12_toldArts_23 : decode cX12_toldArts 23 = .ok (.goto 4, 3) := by decide +kernel
theorem dX12_toldArts_26 : decode cX12_toldArts 26 = .ok (.iconst 0, 1) := by decide +kernel
theorem dX12_toldArts_27 : decode cX12_toldArts 27 = .ok (.ior, 1) := by decide +kernel
theorem dX12_toldArts_28 : decode cX12_toldArts 28 = .ok (.istore_n 1, 1) := by decide +kernel
theorem dX12_toldArts_29 : decode cX12_toldArts 29 = .ok (.iinc 2 1, 3) := by decide +kernel
theorem dX12_toldArts_32 : decode cX12_toldArts 32 = .ok (.goto (-28), 3) := by decide +kernel
theorem dX12_toldArts_35 : decode cX12_toldArts 35 = .ok (.iload_n 1, 1) := by decide +kernel
theorem dX12_toldArts_36 : decode cX12_toldArts 36 = .ok (.ireturn, 1) := by decide +kernel
set_option maxRecDepth 100000 in
set_option maxHeartbeats 4000000 in
theorem a_X12_toldArts (l : Launch) (D : va_G) (cA : Nat → ClassId) (ad : Nat → Nat) (g0 : Nat → va_E)  (hSh : Shp ad cA g0) (hG : Rng g0) : CT l NN ad cA D yX12_toldArts cX12_toldArts 3 (some FieldType.int) (0, 0) [.ref (ad 129)] g0 (PU g0 (fun r => 0 ≤ r.toInt ∧ r.toInt < 64)) := by
  refine q_enterI (by decide) (Nat.le_of_ble_eq_true rfl) rfl (fun K H locs ls _ _ hM hW0 hR hC hE hl => ?_)
  have hl : lv_has ls 3 [(0, .ref (ad 129))] := hl
  have hW : WS ad cA (fun i k => False) g0 K g0 H locs := ⟨hW0, hSh, FR.rf⟩
  refine q_iconst (v := (0 : Int32)) hM dX12_toldArts_0 (by decide) ?_
  refine q_istore_n (lv9 := [(1, .int (0 : Int32)), (0, .ref (ad 129))]) hM dX12_toldArts_1 hl (by decide) rfl (fun ls hl => ?_)
  refine q_iconst (v := (0 : Int32)) hM dX12_toldArts_2 (by decide) ?_
  refine q_istore_n (lv9 := [(2, .int (0 : Int32)), (1, .int (0 : Int32)), (0, .ref (ad 129))]) hM dX12_toldArts_3 hl (by decide) rfl (fun ls hl => ?_)
  have L4 : ∀ (fu4 : Nat) (w4_1 : Int32) (w4_2 : Int32) (H : Heap) (locs : List Loc) (ls : Array Slot), (6 - w4_2.toInt).toNat < fu4 → (0 ≤ w4_2.toInt) → (w4_2.toInt ≤ 6) → (0 ≤ w4_1.toInt) → (w4_1.toInt < 64) → lv_has ls 3 [(0, .ref (ad 129)), (1, .int w4_1), (2, .int w4_2)] → WS ad cA (fun i k => False) g0 K g0 H locs → XX K 0 0 H locs 4 ls [] := by
    intro fu4
    induction fu4 with
    | zero => intro w4_1 w4_2 H locs ls h0; omega
    | succ fu4 ih4 =>
      intro w4_1 w4_2 H locs ls hm4 i4_0 i4_1 i4_2 i4_3 hl hW
      refine q_iload_n hM dX12_toldArts_4 (lv_at hl 2 rfl) ?_
      refine q_bipush (v := (6 : Int32)) hM dX12_toldArts_5 (by decide) ?_
      refine q_icmp_ge (tgt := 35) hM dX12_toldArts_7 (by decide) (rfl : w4_2.toInt = w4_2.toInt) (kc_6 : (6 : Int32).toInt = 6) (fun h7 => ?_) (fun h7 => ?_)
      · refine q_iload_n hM dX12_toldArts_35 (lv_at hl 1 rfl) ?_
        exact hE _ _ _ _ _ _ hW.1 ⟨_, rfl, (by omega), rfl⟩ dX12_toldArts_36
      · refine q_iload_n hM dX12_toldArts_10 (lv_at hl 1 rfl) ?_
        refine q_aload_n hM dX12_toldArts_11 (lv_at hl 0 rfl) ?_
        refine w_get (v := .ref (ad 134)) hM hW FG_X12_28 lb_129 (rf_129_13 hW.2.1) dX12_toldArts_12 ?_
        refine q_iload_n hM dX12_toldArts_15 (lv_at hl 2 rfl) ?_
        refine w_zald hM hW lb_134 (i_in (by omega) (by omega)) dX12_toldArts_16 ?_
        refine q_top (fun y5433 hy5433 => ?_)
        refine q_if_eq (tgt := 26) hM dX12_toldArts_17 (by decide) (rfl : y5433.toInt = y5433.toInt) (fun h17 => ?_) (fun h17 => ?_)
        · refine q_iconst (v := (0 : Int32)) hM dX12_toldArts_26 (by decide) ?_
          refine q_ior hM dX12_toldArts_27 (fun z5435 hz5435 => ?_)
          first | have oz5435 := i_ork 6 (by decide) hz5435 (by have := kc_0; omega) (by have := kc_0; omega) (by have := kc_0; omega) (by have := kc_0; omega) | skip
          first | have ogz5435 := i_or_ge hz5435 (by have := kc_0; omega) (by have := kc_0; omega) | skip
          refine q_istore_n (lv9 := [(1, .int z5435), (0, .ref (ad 129)), (2, .int w4_2)]) hM dX12_toldArts_28 hl (by decide) rfl (fun ls hl => ?_)
          refine q_iinc (lv9 := fun z5436 => [(2, .int z5436), (1, .int z5435), (0, .ref (ad 129))]) hM dX12_toldArts_29 hl (kq := 2) rfl (by decide) (fun _ => rfl) (fun z5436 ls hz5436 hl => ?_)
          first | have tz5436 := i_addT hz5436 (rfl : w4_2.toInt = w4_2.toInt) (kc_1 : (Int32.ofInt 1).toInt = 1) (by omega) (by omega) | skip
          refine q_goto (tgt := 4) hM dX12_toldArts_32 (by decide) ?_
          exact ih4 z5435 z5436 _ _ _ (by omega) (by omega) (by omega) (by omega) (by omega) (lv_sub hl [2, 1, 0] rfl) hW
        · refine q_iconst (v := (1 : Int32)) hM dX12_toldArts_20 (by decide) ?_
          refine q_iload_n hM dX12_toldArts_21 (lv_at hl 2 rfl) ?_
          refine q_ishl hM dX12_toldArts_22 (fun z5438 hz5438 => ?_)
          first | have sz5438 := i_shl1 6 (by decide) hz5438 (by omega) (by omega) | skip
          refine q_goto (tgt := 27) hM dX12_toldArts_23 (by decide) ?_
          refine q_ior hM dX12_toldArts_27 (fun z5439 hz5439 => ?_)
          first | have oz5439 := i_ork 6 (by decide) hz5439 (by omega) (by omega) (by omega) (by omega) | skip
          first | have ogz5439 := i_or_ge hz5439 (by omega) (by omega) | skip
          refine q_istore_n (lv9 := [(1, .int z5439), (0, .ref (ad 129)), (2, .int w4_2)]) hM dX12_toldArts_28 hl (by decide) rfl (fun ls hl => ?_)
          refine q_iinc (lv9 := fun z5440 => [(2, .int z5440), (1, .int z5439), (0, .ref (ad 129))]) hM dX12_toldArts_29 hl (kq := 2) rfl (by decide) (fun _ => rfl) (fun z5440 ls hz5440 hl => ?_)
          first | have tz5440 := i_addT hz5440 (rfl : w4_2.toInt = w4_2.toInt) (kc_1 : (Int32.ofInt 1).toInt = 1) (by omega) (by omega) | skip
          refine q_goto (tgt := 4) hM dX12_toldArts_32 (by decide) ?_
          exact ih4 z5439 z5440 _ _ _ (by omega) (by omega) (by omega) (by omega) (by omega) (lv_sub hl [2, 1, 0] rfl) hW
  have := kc_0
  have := kc_0
  exact L4 _ (0 : Int32) (0 : Int32) _ _ _ (Nat.lt_succ_self _) (by omega) (by omega) (by omega) (by omega) (lv_sub hl [2, 1, 0] rfl) hW

theorem dX12_comesTo_0 : decode cX12_comesTo 0 = .ok (.iconst 0, 1) := by decide +kernel
theorem dX12_comesTo_1 : decode cX12_comesTo 1 = .ok (.istore_n 3, 1) := by decide +kernel
theorem dX12_comesTo_2 : decode cX12_comesTo 2 = .ok (.iconst 0, 1) := by decide +kernel
theorem dX12_comesTo_3 : decode cX12_comesTo 3 = .ok (.istore 4, 2) := by decide +kernel
theorem dX12_comesTo_5 : decode cX12_comesTo 5 = .ok (.iload 4, 2) := by decide +kernel
theorem dX12_comesTo_7 : decode cX12_comesTo 7 = .ok (.bipush 12, 2) := by decide +kernel
theorem dX12_comesTo_9 : decode cX12_comesTo 9 = .ok (.if_icmp .ge 66, 3) := by decide +kernel
theorem dX12_comesTo_12 : decode cX12_comesTo 12 = .ok (.iconst 0, 1) := by decide +kernel
theorem dX12_comesTo_13 : decode cX12_comesTo 13 = .ok (.istore 5, 2) := by decide +kernel
theorem dX12_comesTo_15 : decode cX12_comesTo 15 = .ok (.iload 5, 2) := by decide +kernel
theorem dX12_comesTo_17 : decode cX12_comesTo 17 = .ok (.bipush 12, 2) := by decide +kernel
theorem dX12_comesTo_19 : decode cX12_comesTo 19 = .ok (.if_icmp .ge 50, 3) := by decide +kernel
theorem dX12_comesTo_22 : decode cX12_comesTo 22 = .ok (.iload_n 1, 1) := by decide +kernel
theorem dX12_comesTo_23 : decode cX12_comesTo 23 = .ok (.iload 4, 2) := by decide +kernel
theorem dX12_comesTo_25 : decode cX12_comesTo 25 = .ok (.invokestatic 204, 3) := by decide +kernel
theorem dX12_comesTo_28 : decode cX12_comesTo 28 = .ok (.ifCond .eq 41, 3) := by decide +kernel
theorem dX12_comesTo_31 : decode cX12_comesTo 31 = .ok (.aload_n 0, 1) := by decide +kernel
theorem dX12_comesTo_32 : decode cX12_comesTo 32 = .ok (.getfield 25, 3) := by decide +kernel
theorem dX12_comesTo_35 : decode cX12_comesTo 35 = .ok (.bipush 12, 2) := by decide +kernel
theorem dX12_comesTo_37 : decode cX12_comesTo 37 = .ok (.iload 4, 2) := by decide +kernel
theorem dX12_comesTo_39 : decode cX12_comesTo 39 = .ok (.imul, 1) := by decide +kernel
theorem dX12_comesTo_40 : decode cX12_comesTo 40 = .ok (.iload 5, 2) := by decide +kernel
theorem dX12_comesTo_42 : decode cX12_comesTo 42 = .ok (.iadd, 1) := by decide +kernel
theorem dX12_comesTo_43 : decode cX12_comesTo 43 = .ok (.iaload, 1) := by decide +kernel
theorem dX12_comesTo_44 : decode cX12_comesTo 44 = .ok (.ifCond .le 19, 3) := by decide +kernel
theorem dX12_comesTo_47 : decode cX12_comesTo 47 = .ok (.iload_n 2, 1) := by decide +kernel
theorem dX12_comesTo_48 : decode cX12_comesTo 48 = .ok (.iload 5, 2) := by decide +kernel
theorem dX12_comesTo_50 : decode cX12_comesTo 50 = .ok (.invokestatic 204, 3) := by decide +kernel
theorem dX12_comesTo_53 : decode cX12_comesTo 53 = .ok (.ifCond .ne 10, 3) := by decide +kernel
theorem dX12_comesTo_56 : decode cX12_comesTo 56 = .ok (.iload_n 3, 1) := by decide +kernel
theorem dX12_comesTo_57 : decode cX12_comesTo 57 = .ok (.iconst 1, 1) := by decide +kernel
theorem dX12_comesTo_58 : decode cX12_comesTo 58 = .ok (.iload 5, 2) := by decide +kernel
theorem dX12_comesTo_60 : decode cX12_comesTo 60 = .ok (.ishl, 1) := by decide +kernel
theorem dX12_comesTo_61 : decode cX12_comesTo 61 = .ok (.ior, 1) := by decide +kernel
theorem dX12_comesTo_62 : decode cX12_comesTo 62 = .ok (.istore_n 3, 1) := by decide +kernel
theorem dX12_comesTo_63 : decode cX12_comesTo 63 = .ok (.iinc 5 1, 3) := by decide +kernel
theorem dX12_comesTo_66 : decode cX12_comesTo 66 = .ok (.goto (-51), 3) := by decide +kernel
theorem dX12_comesTo_69 : decode cX12_comesTo 69 = .ok (.iinc 4 1, 3) := by decide +kernel
theorem dX12_comesTo_72 : decode cX12_comesTo 72 = .ok (.goto (-67), 3) := by decide +kernel
theorem dX12_comesTo_75 : decode cX12_comesTo 75 = .ok (.iload_n 3, 1) := by decide +kernel
theorem dX12_comesTo_76 : decode cX12_comesTo 76 = .ok (.ireturn, 1) := by decide +kernel
theorem myX12_has : MS yX12_has cX12_has 2 (some FieldType.boolean) 2 := ⟨kAW (v_5_6 (List.mem_of_getElem? (i := 9) rfl)) rfl, kAW (v_0_0 (List.mem_of_getElem? (i := 13) rfl)) rfl, kAW (v_5_6 (List.mem_of_getElem? (i := 8) rfl)) rfl, by decide, by decide, by decide +kernel⟩
theorem FG_X12_25 : FG RX12 25 12 86 12 := ⟨RX12, TX12, rfl, wX12, by decide, kAW (v_4_3 (List.mem_of_getElem? (i := 9) rfl)) rfl, rfl⟩
set_option maxRecDepth 100000 in
set_option maxHeartbeats 4000000 in
theorem a_X12_comesTo (l : Launch) (D : va_G) (cA : Nat → ClassId) (ad : Nat → Nat) (g0 : Nat → va_E) (fr : Int32) (wi : Int32) (hSh : Shp ad cA g0) (hG : Rng g0) : CT l NN ad cA D yX12_comesTo cX12_comesTo 6 (some FieldType.int) (1, 21) [.ref (ad 129), .int fr, .int wi] g0 (PU g0 (fun r => 0 ≤ r.toInt ∧ r.toInt < 4096)) := by
  refine q_enterI (by decide) (Nat.le_of_ble_eq_true rfl) rfl (fun K H locs ls _ _ hM hW0 hR hC hE hl => ?_)
  have hl : lv_has ls 6 [(0, .ref (ad 129)), (1, .int fr), (2, .int wi)] := hl
  have hW : WS ad cA (fun i k => False) g0 K g0 H locs := ⟨hW0, hSh, FR.rf⟩
  refine q_iconst (v := (0 : Int32)) hM dX12_comesTo_0 (by decide) ?_
  refine q_istore_n (lv9 := [(3, .int (0 : Int32)), (0, .ref (ad 129)), (1, .int fr), (2, .int wi)]) hM dX12_comesTo_1 hl (by decide) rfl (fun ls hl => ?_)
  refine q_iconst (v := (0 : Int32)) hM dX12_comesTo_2 (by decide) ?_
  refine q_istore (lv9 := [(4, .int (0 : Int32)), (3, .int (0 : Int32)), (0, .ref (ad 129)), (1, .int fr), (2, .int wi)]) hM dX12_comesTo_3 hl (by decide) rfl (fun ls hl => ?_)
  have L5 : ∀ (fu5 : Nat) (w5_3 : Int32) (w5_4 : Int32) (H : Heap) (locs : List Loc) (ls : Array Slot), (12 - w5_4.toInt).toNat < fu5 → (0 ≤ w5_4.toInt) → (w5_4.toInt ≤ 12) → (0 ≤ w5_3.toInt) → (w5_3.toInt < 4096) → lv_has ls 6 [(0, .ref (ad 129)), (1, .int fr), (2, .int wi), (3, .int w5_3), (4, .int w5_4)] → WS ad cA (fun i k => False) g0 K g0 H locs → XX K 0 0 H locs 5 ls [] := by
    intro fu5
    induction fu5 with
    | zero => intro w5_3 w5_4 H locs ls h0; omega
    | succ fu5 ih5 =>
      intro w5_3 w5_4 H locs ls hm5 i5_0 i5_1 i5_2 i5_3 hl hW
      refine q_iload hM dX12_comesTo_5 (lv_at hl 4 rfl) ?_
      refine q_bipush (v := (12 : Int32)) hM dX12_comesTo_7 (by decide) ?_
      refine q_icmp_ge (tgt := 75) hM dX12_comesTo_9 (by decide) (rfl : w5_4.toInt = w5_4.toInt) (kc_12 : (12 : Int32).toInt = 12) (fun h9 => ?_) (fun h9 => ?_)
      · refine q_iload_n hM dX12_comesTo_75 (lv_at hl 3 rfl) ?_
        exact hE _ _ _ _ _ _ hW.1 ⟨_, rfl, (by omega), rfl⟩ dX12_comesTo_76
      · refine q_iconst (v := (0 : Int32)) hM dX12_comesTo_12 (by decide) ?_
        refine q_istore (lv9 := [(5, .int (0 : Int32)), (0, .ref (ad 129)), (1, .int fr), (2, .int wi), (3, .int w5_3), (4, .int w5_4)]) hM dX12_comesTo_13 hl (by decide) rfl (fun ls hl => ?_)
        have L15 : ∀ (fu15 : Nat) (w15_3 : Int32) (w15_5 : Int32) (H : Heap) (locs : List Loc) (ls : Array Slot), (12 - w15_5.toInt).toNat < fu15 → (0 ≤ w15_5.toInt) → (w15_5.toInt ≤ 12) → (0 ≤ w15_3.toInt) → (w15_3.toInt < 4096) → lv_has ls 6 [(0, .ref (ad 129)), (1, .int fr), (2, .int wi), (3, .int w15_3), (4, .int w5_4), (5, .int w15_5)] → WS ad cA (fun i k => False) g0 K g0 H locs → XX K 0 0 H locs 15 ls [] := by
          intro fu15
          induction fu15 with
          | zero => intro w15_3 w15_5 H locs ls h0; omega
          | succ fu15 ih15 =>
            intro w15_3 w15_5 H locs ls hm15 i15_0 i15_1 i15_2 i15_3 hl hW
            refine q_iload hM dX12_comesTo_15 (lv_at hl 5 rfl) ?_
            refine q_bipush (v := (12 : Int32)) hM dX12_comesTo_17 (by decide) ?_
            refine q_icmp_ge (tgt := 69) hM dX12_comesTo_19 (by decide) (rfl : w15_5.toInt = w15_5.toInt) (kc_12 : (12 : Int32).toInt = 12) (fun h19 => ?_) (fun h19 => ?_)
            · refine q_iinc (lv9 := fun z5446 => [(4, .int z5446), (0, .ref (ad 129)), (1, .int fr), (2, .int wi), (3, .int w15_3), (5, .int w15_5)]) hM dX12_comesTo_69 hl (kq := 4) rfl (by decide) (fun _ => rfl) (fun z5446 ls hz5446 hl => ?_)
              first | have tz5446 := i_addT hz5446 (rfl : w5_4.toInt = w5_4.toInt) (kc_1 : (Int32.ofInt 1).toInt = 1) (by omega) (by omega) | skip
              refine q_goto (tgt := 5) hM dX12_comesTo_72 (by decide) ?_
              exact ih5 w15_3 z5446 _ _ _ (by omega) (by omega) (by omega) (by omega) (by omega) (lv_sub hl [1, 2, 3, 4, 0] rfl) hW
            · refine q_iload_n hM dX12_comesTo_22 (lv_at hl 1 rfl) ?_
              refine q_iload hM dX12_comesTo_23 (lv_at hl 4 rfl) ?_
              refine q_callS (As := [.int fr, .int w5_4]) (rest := []) hM hW.1 hR hC myX12_has (kAW (v_5_6 (List.mem_of_getElem? (i := 7) rfl)) rfl) (c_X12_has _ _ cA ad g0 fr w5_4 hW.2.1 (by omega) (by omega)) ⟨by decide, by decide⟩ rfl rfl hl.1 (Nat.le_of_ble_eq_true rfl) dX12_comesTo_25 (fun v g5449 H locs hp hW1 => ?_)
              obtain ⟨r5448, rfl, hr5448, rfl⟩ := hp
              have hW : WS ad cA (fun i k => False) g0 K g0 H locs := ⟨hW1, hW.2.1, hW.2.2⟩
              refine q_if_eq (tgt := 69) hM dX12_comesTo_28 (by decide) (rfl : r5448.toInt = r5448.toInt) (fun h28 => ?_) (fun h28 => ?_)
              · refine q_iinc (lv9 := fun z5451 => [(4, .int z5451), (0, .ref (ad 129)), (1, .int fr), (2, .int wi), (3, .int w15_3), (5, .int w15_5)]) hM dX12_comesTo_69 hl (kq := 4) rfl (by decide) (fun _ => rfl) (fun z5451 ls hz5451 hl => ?_)
                first | have tz5451 := i_addT hz5451 (rfl : w5_4.toInt = w5_4.toInt) (kc_1 : (Int32.ofInt 1).toInt = 1) (by omega) (by omega) | skip
                refine q_goto (tgt := 5) hM dX12_comesTo_72 (by decide) ?_
                exact ih5 w15_3 z5451 _ _ _ (by omega) (by omega) (by omega) (by omega) (by omega) (lv_sub hl [1, 2, 3, 4, 0] rfl) hW
              · refine q_aload_n hM dX12_comesTo_31 (lv_at hl 0 rfl) ?_
                refine w_get (v := .ref (ad 133)) hM hW FG_X12_25 lb_129 (rf_129_12 hW.2.1) dX12_comesTo_32 ?_
                refine q_bipush (v := (12 : Int32)) hM dX12_comesTo_35 (by decide) ?_
                refine q_iload hM dX12_comesTo_37 (lv_at hl 4 rfl) ?_
                refine q_imul hM dX12_comesTo_39 (fun z5453 hz5453 => ?_)
                first | have tz5453 := i_mulT hz5453 (kc_12 : (12 : Int32).toInt = 12) (rfl : w5_4.toInt = w5_4.toInt) (by omega) (by omega) | skip
                refine q_iload hM dX12_comesTo_40 (lv_at hl 5 rfl) ?_
                refine q_iadd hM dX12_comesTo_42 (fun z5454 hz5454 => ?_)
                first | have tz5454 := i_addT hz5454 (rfl : z5453.toInt = z5453.toInt) (rfl : w15_5.toInt = w15_5.toInt) (by omega) (by omega) | skip
                refine w_iald hM hW lb_133 (i_in (by omega) (by omega)) dX12_comesTo_43 ?_
                refine q_top (fun y5455 hy5455 => ?_)
                refine q_if_le (tgt := 63) hM dX12_comesTo_44 (by decide) (rfl : y5455.toInt = y5455.toInt) (fun h44 => ?_) (fun h44 => ?_)
                · refine q_iinc (lv9 := fun z5457 => [(5, .int z5457), (0, .ref (ad 129)), (1, .int fr), (2, .int wi), (3, .int w15_3), (4, .int w5_4)]) hM dX12_comesTo_63 hl (kq := 5) rfl (by decide) (fun _ => rfl) (fun z5457 ls hz5457 hl => ?_)
                  first | have tz5457 := i_addT hz5457 (rfl : w15_5.toInt = w15_5.toInt) (kc_1 : (Int32.ofInt 1).toInt = 1) (by omega) (by omega) | skip
                  refine q_goto (tgt := 15) hM dX12_comesTo_66 (by decide) ?_
                  exact ih15 w15_3 z5457 _ _ _ (by omega) (by omega) (by omega) (by omega) (by omega) (lv_sub hl [1, 2, 3, 4, 5, 0] rfl) hW
                · refine q_iload_n hM dX12_comesTo_47 (lv_at hl 2 rfl) ?_
                  refine q_iload hM dX12_comesTo_48 (lv_at hl 5 rfl) ?_
                  refine q_callS (As := [.int wi, .int w15_5]) (rest := []) hM hW.1 hR hC myX12_has (kAW (v_5_6 (List.mem_of_getElem? (i := 7) rfl)) rfl) (c_X12_has _ _ cA ad g0 wi w15_5 hW.2.1 (by omega) (by omega)) ⟨by decide, by decide⟩ rfl rfl hl.1 (Nat.le_of_ble_eq_true rfl) dX12_comesTo_50 (fun v g5460 H locs hp hW1 => ?_)
                  obtain ⟨r5459, rfl, hr5459, rfl⟩ := hp
                  have hW : WS ad cA (fun i k => False) g0 K g0 H locs := ⟨hW1, hW.2.1, hW.2.2⟩
                  refine q_if_ne (tgt := 63) hM dX12_comesTo_53 (by decide) (rfl : r5459.toInt = r5459.toInt) (fun h53 => ?_) (fun h53 => ?_)
                  · refine q_iinc (lv9 := fun z5462 => [(5, .int z5462), (0, .ref (ad 129)), (1, .int fr), (2, .int wi), (3, .int w15_3), (4, .int w5_4)]) hM dX12_comesTo_63 hl (kq := 5) rfl (by decide) (fun _ => rfl) (fun z5462 ls hz5462 hl => ?_)
                    first | have tz5462 := i_addT hz5462 (rfl : w15_5.toInt = w15_5.toInt) (kc_1 : (Int32.ofInt 1).toInt = 1) (by omega) (by omega) | skip
                    refine q_goto (tgt := 15) hM dX12_comesTo_66 (by decide) ?_
                    exact ih15 w15_3 z5462 _ _ _ (by omega) (by omega) (by omega) (by omega) (by omega) (lv_sub hl [1, 2, 3, 4, 5, 0] rfl) hW
                  · refine q_iload_n hM dX12_comesTo_56 (lv_at hl 3 rfl) ?_
                    refine q_iconst (v := (1 : Int32)) hM dX12_comesTo_57 (by decide) ?_
                    refine q_iload hM dX12_comesTo_58 (lv_at hl 5 rfl) ?_
                    refine q_ishl hM dX12_comesTo_60 (fun z5464 hz5464 => ?_)
                    first | have sz5464 := i_shl1 12 (by decide) hz5464 (by omega) (by omega) | skip
                    refine q_ior hM dX12_comesTo_61 (fun z5465 hz5465 => ?_)
                    first | have oz5465 := i_ork 12 (by decide) hz5465 (by omega) (by omega) (by omega) (by omega) | skip
                    first | have ogz5465 := i_or_ge hz5465 (by omega) (by omega) | skip
                    refine q_istore_n (lv9 := [(3, .int z5465), (0, .ref (ad 129)), (1, .int fr), (2, .int wi), (4, .int w5_4), (5, .int w15_5)]) hM dX12_comesTo_62 hl (by decide) rfl (fun ls hl => ?_)
                    refine q_iinc (lv9 := fun z5466 => [(5, .int z5466), (3, .int z5465), (0, .ref (ad 129)), (1, .int fr), (2, .int wi), (4, .int w5_4)]) hM dX12_comesTo_63 hl (kq := 5) rfl (by decide) (fun _ => rfl) (fun z5466 ls hz5466 hl => ?_)
                    first | have tz5466 := i_addT hz5466 (rfl : w15_5.toInt = w15_5.toInt) (kc_1 : (Int32.ofInt 1).toInt = 1) (by omega) (by omega) | skip
                    refine q_goto (tgt := 15) hM dX12_comesTo_66 (by decide) ?_
                    exact ih15 z5465 z5466 _ _ _ (by omega) (by omega) (by omega) (by omega) (by omega) (lv_sub hl [2, 3, 4, 1, 5, 0] rfl) hW
        have := kc_0
        exact L15 _ w5_3 (0 : Int32) _ _ _ (Nat.lt_succ_self _) (by omega) (by omega) (by omega) (by omega) (lv_sub hl [1, 2, 3, 4, 5, 0] rfl) hW
  have := kc_0
  have := kc_0
  exact L5 _ (0 : Int32) (0 : Int32) _ _ _ (Nat.lt_succ_self _) (by omega) (by omega) (by omega) (by omega) (lv_sub hl [2, 3, 4, 1, 0] rfl) hW

theorem dX12_reachOf_0 : decode cX12_reachOf 0 = .ok (.iconst 0, 1) := by decide +kernel
theorem dX12_reachOf_1 : decode cX12_reachOf 1 = .ok (.istore_n 3, 1) := by decide +kernel
theorem dX12_reachOf_2 : decode cX12_reachOf 2 = .ok (.aload_n 0, 1) := by decide +kernel
theorem dX12_reachOf_3 : decode cX12_reachOf 3 = .ok (.iconst 1, 1) := by decide +kernel
theorem dX12_reachOf_4 : decode cX12_reachOf 4 = .ok (.iload_n 1, 1) := by decide +kernel
theorem dX12_reachOf_5 : decode cX12_reachOf 5 = .ok (.ishl, 1) := by decide +kernel
theorem dX12_reachOf_6 : decode cX12_reachOf 6 = .ok (.iload_n 2, 1) := by decide +kernel
theorem dX12_reachOf_7 : decode cX12_reachOf 7 = .ok (.invokevirtual 208, 3) := by decide +kernel
theorem dX12_reachOf_10 : decode cX12_reachOf 10 = .ok (.istore 4, 2) := by decide +kernel
theorem dX12_reachOf_12 : decode cX12_reachOf 12 = .ok (.iload 4, 2) := by decide +kernel
theorem dX12_reachOf_14 : decode cX12_reachOf 14 = .ok (.iload_n 3, 1) := by decide +kernel
theorem dX12_reachOf_15 : decode cX12_reachOf 15 = .ok (.if_icmp .eq 19, 3) := by decide +kernel
theorem dX12_reachOf_18 : decode cX12_reachOf 18 = .ok (.iload 4, 2) := by decide +kernel
theorem dX12_reachOf_20 : decode cX12_reachOf 20 = .ok (.istore_n 3, 1) := by decide +kernel
theorem dX12_reachOf_21 : decode cX12_reachOf 21 = .ok (.iload_n 3, 1) := by decide +kernel
theorem dX12_reachOf_22 : decode cX12_reachOf 22 = .ok (.aload_n 0, 1) := by decide +kernel
theorem dX12_reachOf_23 : decode cX12_reachOf 23 = .ok (.iload_n 3, 1) := by decide +kernel
theorem dX12_reachOf_24 : decode cX12_reachOf 24 = .ok (.iload_n 2, 1) := by decide +kernel
theorem dX12_reachOf_25 : decode cX12_reachOf 25 = .ok (.invokevirtual 208, 3) := by decide +kernel
theorem dX12_reachOf_28 : decode cX12_reachOf 28 = .ok (.ior, 1) := by decide +kernel
theorem dX12_reachOf_29 : decode cX12_reachOf 29 = .ok (.istore 4, 2) := by decide +kernel
theorem dX12_reachOf_31 : decode cX12_reachOf 31 = .ok (.goto (-19), 3) := by decide +kernel
theorem dX12_reachOf_34 : decode cX12_reachOf 34 = .ok (.iload_n 3, 1) := by decide +kernel
theorem dX12_reachOf_35 : decode cX12_reachOf 35 = .ok (.ireturn, 1) := by decide +kernel
theorem myX12_comesTo : MI yX12_comesTo cX12_comesTo 6 (some FieldType.int) 2 := ⟨kAW (v_5_6 (List.mem_of_getElem? (i := 6) rfl)) rfl, kAW (v_0_0 (List.mem_of_getElem? (i := 13) rfl)) rfl, kAW (v_5_6 (List.mem_of_getElem? (i := 5) rfl)) rfl, kAW (tp_t2 (List.mem_of_getElem? (i := 3) rfl)) rfl, by decide, by decide, by decide +kernel⟩
set_option maxRecDepth 100000 in
set_option maxHeartbeats 4000000 in
theorem a_X12_reachOf (l : Launch) (D : va_G) (cA : Nat → ClassId) (ad : Nat → Nat) (g0 : Nat → va_E) (i : Int32) (wi : Int32) (hSh : Shp ad cA g0) (hG : Rng g0) (i0 : 0 ≤ i.toInt) (i12 : i.toInt < 12) : CT l NN ad cA D yX12_reachOf cX12_reachOf 5 (some FieldType.int) (2, 46) [.ref (ad 129), .int i, .int wi] g0 (PU g0 (fun r => 0 ≤ r.toInt ∧ r.toInt < 4096)) := by
  refine q_enterI (by decide) (Nat.le_of_ble_eq_true rfl) rfl (fun K H locs ls _ _ hM hW0 hR hC hE hl => ?_)
  have hl : lv_has ls 5 [(0, .ref (ad 129)), (1, .int i), (2, .int wi)] := hl
  have hW : WS ad cA (fun i k => False) g0 K g0 H locs := ⟨hW0, hSh, FR.rf⟩
  refine q_iconst (v := (0 : Int32)) hM dX12_reachOf_0 (by decide) ?_
  refine q_istore_n (lv9 := [(3, .int (0 : Int32)), (0, .ref (ad 129)), (1, .int i), (2, .int wi)]) hM dX12_reachOf_1 hl (by decide) rfl (fun ls hl => ?_)
  refine q_aload_n hM dX12_reachOf_2 (lv_at hl 1 rfl) ?_
  refine q_iconst (v := (1 : Int32)) hM dX12_reachOf_3 (by decide) ?_
  refine q_iload_n hM dX12_reachOf_4 (lv_at hl 2 rfl) ?_
  refine q_ishl hM dX12_reachOf_5 (fun z5467 hz5467 => ?_)
  first | have sz5467 := i_shl1 12 (by decide) hz5467 (by omega) (by omega) | skip
  refine q_iload_n hM dX12_reachOf_6 (lv_at hl 3 rfl) ?_
  refine q_callV (As := [.int z5467, .int wi]) (rest := []) hM hW.1 hR hC myX12_comesTo (kAW (v_5_6 (List.mem_of_getElem? (i := 3) rfl)) rfl) (rfl : vwCl[12]? = some (RX12, TX12, 86)) rfl lb_129.1 (shO hW.2.1 lb_129) (a_X12_comesTo _ _ cA ad g0 z5467 wi hW.2.1 hG) ⟨by decide, by decide⟩ rfl rfl hl.1 (Nat.le_of_ble_eq_true rfl) dX12_reachOf_7 (fun v g5469 H locs hp hW1 => ?_)
  obtain ⟨r5468, rfl, hr5468, rfl⟩ := hp
  have hW : WS ad cA (fun i k => False) g0 K g0 H locs := ⟨hW1, hW.2.1, hW.2.2⟩
  refine q_istore (lv9 := [(4, .int r5468), (3, .int (0 : Int32)), (0, .ref (ad 129)), (1, .int i), (2, .int wi)]) hM dX12_reachOf_10 hl (by decide) rfl (fun ls hl => ?_)
  have L12 : ∀ (fu12 : Nat) (w12_3 : Int32) (w12_4 : Int32) (H : Heap) (locs : List Loc) (ls : Array Slot), (4096 - w12_3.toInt).toNat < fu12 → (0 ≤ w12_3.toInt) → (w12_3.toInt ≤ w12_4.toInt) → (w12_4.toInt < 4096) → lv_has ls 5 [(0, .ref (ad 129)), (1, .int i), (2, .int wi), (3, .int w12_3), (4, .int w12_4)] → WS ad cA (fun i k => False) g0 K g0 H locs → XX K 0 0 H locs 12 ls [] := by
    intro fu12
    induction fu12 with
    | zero => intro w12_3 w12_4 H locs ls h0; omega
    | succ fu12 ih12 =>
      intro w12_3 w12_4 H locs ls hm12 i12_0 i12_1 i12_2 hl hW
      refine q_iload hM dX12_reachOf_12 (lv_at hl 4 rfl) ?_
      refine q_iload_n hM dX12_reachOf_14 (lv_at hl 3 rfl) ?_
      refine q_icmp_eq (tgt := 34) hM dX12_reachOf_15 (by decide) (rfl : w12_4.toInt = w12_4.toInt) (rfl : w12_3.toInt = w12_3.toInt) (fun h15 => ?_) (fun h15 => ?_)
      · refine q_iload_n hM dX12_reachOf_34 (lv_at hl 3 rfl) ?_
        exact hE _ _ _ _ _ _ hW.1 ⟨_, rfl, (by omega), rfl⟩ dX12_reachOf_35
      · refine q_iload hM dX12_reachOf_18 (lv_at hl 4 rfl) ?_
        refine q_istore_n (lv9 := [(3, .int w12_4), (0, .ref (ad 129)), (1, .int i), (2, .int wi), (4, .int w12_4)]) hM dX12_reachOf_20 hl (by decide) rfl (fun ls hl => ?_)
        refine q_iload_n hM dX12_reachOf_21 (lv_at hl 0 rfl) ?_
        refine q_aload_n hM dX12_reachOf_22 (lv_at hl 1 rfl) ?_
        refine q_iload_n hM dX12_reachOf_23 (lv_at hl 0 rfl) ?_
        refine q_iload_n hM dX12_reachOf_24 (lv_at hl 3 rfl) ?_
        refine q_callV (As := [.int w12_4, .int wi]) (rest := [.int w12_4]) hM hW.1 hR hC myX12_comesTo (kAW (v_5_6 (List.mem_of_getElem? (i := 3) rfl)) rfl) (rfl : vwCl[12]? = some (RX12, TX12, 86)) rfl lb_129.1 (shO hW.2.1 lb_129) (a_X12_comesTo _ _ cA ad g0 w12_4 wi hW.2.1 hG) ⟨by decide, by decide⟩ rfl rfl hl.1 (Nat.le_of_ble_eq_true rfl) dX12_reachOf_25 (fun v g5474 H locs hp hW1 => ?_)
        obtain ⟨r5473, rfl, hr5473, rfl⟩ := hp
        have hW : WS ad cA (fun i k => False) g0 K g0 H locs := ⟨hW1, hW.2.1, hW.2.2⟩
        refine q_ior hM dX12_reachOf_28 (fun z5475 hz5475 => ?_)
        first | have oz5475 := i_ork 12 (by decide) hz5475 (by omega) (by omega) (by omega) (by omega) | skip
        first | have ogz5475 := i_or_ge hz5475 (by omega) (by omega) | skip
        refine q_istore (lv9 := [(4, .int z5475), (3, .int w12_4), (0, .ref (ad 129)), (1, .int i), (2, .int wi)]) hM dX12_reachOf_29 hl (by decide) rfl (fun ls hl => ?_)
        refine q_goto (tgt := 12) hM dX12_reachOf_31 (by decide) ?_
        exact ih12 w12_4 z5475 _ _ _ (by omega) (by omega) (by omega) (by omega) (lv_sub hl [2, 3, 4, 1, 0] rfl) hW
  have := kc_0
  exact L12 _ (0 : Int32) r5468 _ _ _ (Nat.lt_succ_self _) (by omega) (by omega) (by omega) (lv_sub hl [2, 3, 4, 1, 0] rfl) hW

theorem dX12_kinOf_0 : decode cX12_kinOf 0 = .ok (.iconst 1, 1) := by decide +kernel
theorem dX12_kinOf_1 : decode cX12_kinOf 1 = .ok (.iload_n 1, 1) := by decide +kernel
theorem dX12_kinOf_2 : decode cX12_kinOf 2 = .ok (.ishl, 1) := by decide +kernel
theorem dX12_kinOf_3 : decode cX12_kinOf 3 = .ok (.istore_n 2, 1) := by decide +kernel
theorem dX12_kinOf_4 : decode cX12_kinOf 4 = .ok (.iconst 0, 1) := by decide +kernel
theorem dX12_kinOf_5 : decode cX12_kinOf 5 = .ok (.istore_n 3, 1) := by decide +kernel
theorem dX12_kinOf_6 : decode cX12_kinOf 6 = .ok (.iload_n 3, 1) := by decide +kernel
theorem dX12_kinOf_7 : decode cX12_kinOf 7 = .ok (.bipush 12, 2) := by decide +kernel
theorem dX12_kinOf_9 : decode cX12_kinOf 9 = .ok (.if_icmp .ge 41, 3) := by decide +kernel
theorem dX12_kinOf_12 : decode cX12_kinOf 12 = .ok (.aload_n 0, 1) := by decide +kernel
theorem dX12_kinOf_13 : decode cX12_kinOf 13 = .ok (.iload_n 1, 1) := by decide +kernel
theorem dX12_kinOf_14 : decode cX12_kinOf 14 = .ok (.iconst 0, 1) := by decide +kernel
theorem dX12_kinOf_15 : decode cX12_kinOf 15 = .ok (.invokevirtual 212, 3) := by decide +kernel
theorem dX12_kinOf_18 : decode cX12_kinOf 18 = .ok (.iload_n 3, 1) := by decide +kernel
theorem dX12_kinOf_19 : decode cX12_kinOf 19 = .ok (.invokestatic 204, 3) := by decide +kernel
theorem dX12_kinOf_22 : decode cX12_kinOf 22 = .ok (.ifCond .eq 22, 3) := by decide +kernel
theorem dX12_kinOf_25 : decode cX12_kinOf 25 = .ok (.aload_n 0, 1) := by decide +kernel
theorem dX12_kinOf_26 : decode cX12_kinOf 26 = .ok (.iload_n 3, 1) := by decide +kernel
theorem dX12_kinOf_27 : decode cX12_kinOf 27 = .ok (.iconst 0, 1) := by decide +kernel
theorem dX12_kinOf_28 : decode cX12_kinOf 28 = .ok (.invokevirtual 212, 3) := by decide +kernel
theorem dX12_kinOf_31 : decode cX12_kinOf 31 = .ok (.iload_n 1, 1) := by decide +kernel
theorem dX12_kinOf_32 : decode cX12_kinOf 32 = .ok (.invokestatic 204, 3) := by decide +kernel
theorem dX12_kinOf_35 : decode cX12_kinOf 35 = .ok (.ifCond .eq 9, 3) := by decide +kernel
theorem dX12_kinOf_38 : decode cX12_kinOf 38 = .ok (.iload_n 2, 1) := by decide +kernel
theorem dX12_kinOf_39 : decode cX12_kinOf 39 = .ok (.iconst 1, 1) := by decide +kernel
theorem dX12_kinOf_40 : decode cX12_kinOf 40 = .ok (.iload_n 3, 1) := by decide +kernel
theorem dX12_kinOf_41 : decode cX12_kinOf 41 = .ok (.ishl, 1) := by decide +kernel
theorem dX12_kinOf_42 : decode cX12_kinOf 42 = .ok (.ior, 1) := by decide +kernel
theorem dX12_kinOf_43 : decode cX12_kinOf 43 = .ok (.istore_n 2, 1) := by decide +kernel
theorem dX12_kinOf_44 : decode cX12_kinOf 44 = .ok (.iinc 3 1, 3) := by decide +kernel
theorem dX12_kinOf_47 : decode cX12_kinOf 47 = .ok (.goto (-41), 3) := by decide +kernel
theorem dX12_kinOf_50 : decode cX12_kinOf 50 = .ok (.iload_n 2, 1) := by decide +kernel
theorem dX12_kinOf_51 : decode cX12_kinOf 51 = .ok (.ireturn, 1) := by decide +kernel
theorem myX12_reachOf : MI yX12_reachOf cX12_reachOf 5 (some FieldType.int) 2 := ⟨kAW (v_5_6 (List.mem_of_getElem? (i := 2) rfl)) rfl, kAW (v_0_0 (List.mem_of_getElem? (i := 13) rfl)) rfl, kAW (v_5_6 (List.mem_of_getElem? (i := 1) rfl)) rfl, kAW (tp_t2 (List.mem_of_getElem? (i := 2) rfl)) rfl, by decide, by decide, by decide +kernel⟩
set_option maxRecDepth 100000 in
set_option maxHeartbeats 4000000 in
theorem a_X12_kinOf (l : Launch) (D : va_G) (cA : Nat → ClassId) (ad : Nat → Nat) (g0 : Nat → va_E) (i : Int32) (hSh : Shp ad cA g0) (hG : Rng g0) (i0 : 0 ≤ i.toInt) (i12 : i.toInt < 12) : CT l NN ad cA D yX12_kinOf cX12_kinOf 4 (some FieldType.int) (3, 70) [.ref (ad 129), .int i] g0 (PU g0 (fun r => 0 ≤ r.toInt ∧ r.toInt < 4096)) := by
  refine q_enterI (by decide) (Nat.le_of_ble_eq_true rfl) rfl (fun K H locs ls _ _ hM hW0 hR hC hE hl => ?_)
  have hl : lv_has ls 4 [(0, .ref (ad 129)), (1, .int i)] := hl
  have hW : WS ad cA (fun i k => False) g0 K g0 H locs := ⟨hW0, hSh, FR.rf⟩
  refine q_iconst (v := (1 : Int32)) hM dX12_kinOf_0 (by decide) ?_
  refine q_iload_n hM dX12_kinOf_1 (lv_at hl 1 rfl) ?_
  refine q_ishl hM dX12_kinOf_2 (fun z5476 hz5476 => ?_)
  first | have sz5476 := i_shl1 12 (by decide) hz5476 (by omega) (by omega) | skip
  refine q_istore_n (lv9 := [(2, .int z5476), (0, .ref (ad 129)), (1, .int i)]) hM dX12_kinOf_3 hl (by decide) rfl (fun ls hl => ?_)
  refine q_iconst (v := (0 : Int32)) hM dX12_kinOf_4 (by decide) ?_
  refine q_istore_n (lv9 := [(3, .int (0 : Int32)), (2, .int z5476), (0, .ref (ad 129)), (1, .int i)]) hM dX12_kinOf_5 hl (by decide) rfl (fun ls hl => ?_)
  have L6 : ∀ (fu6 : Nat) (w6_2 : Int32) (w6_3 : Int32) (H : Heap) (locs : List Loc) (ls : Array Slot), (12 - w6_3.toInt).toNat < fu6 → (0 ≤ w6_3.toInt) → (w6_3.toInt ≤ 12) → (0 ≤ w6_2.toInt) → (w6_2.toInt < 4096) → lv_has ls 4 [(0, .ref (ad 129)), (1, .int i), (2, .int w6_2), (3, .int w6_3)] → WS ad cA (fun i k => False) g0 K g0 H locs → XX K 0 0 H locs 6 ls [] := by
    intro fu6
    induction fu6 with
    | zero => intro w6_2 w6_3 H locs ls h0; omega
    | succ fu6 ih6 =>
      intro w6_2 w6_3 H locs ls hm6 i6_0 i6_1 i6_2 i6_3 hl hW
      refine q_iload_n hM dX12_kinOf_6 (lv_at hl 3 rfl) ?_
      refine q_bipush (v := (12 : Int32)) hM dX12_kinOf_7 (by decide) ?_
      refine q_icmp_ge (tgt := 50) hM dX12_kinOf_9 (by decide) (rfl : w6_3.toInt = w6_3.toInt) (kc_12 : (12 : Int32).toInt = 12) (fun h9 => ?_) (fun h9 => ?_)
      · refine q_iload_n hM dX12_kinOf_50 (lv_at hl 2 rfl) ?_
        exact hE _ _ _ _ _ _ hW.1 ⟨_, rfl, (by omega), rfl⟩ dX12_kinOf_51
      · refine q_aload_n hM dX12_kinOf_12 (lv_at hl 0 rfl) ?_
        refine q_iload_n hM dX12_kinOf_13 (lv_at hl 1 rfl) ?_
        refine q_iconst (v := (0 : Int32)) hM dX12_kinOf_14 (by decide) ?_
        refine q_callV (As := [.int i, .int (0 : Int32)]) (rest := []) hM hW.1 hR hC myX12_reachOf (kAW (v_5_5 (List.mem_of_getElem? (i := 15) rfl)) rfl) (rfl : vwCl[12]? = some (RX12, TX12, 86)) rfl lb_129.1 (shO hW.2.1 lb_129) (a_X12_reachOf _ _ cA ad g0 i (0 : Int32) hW.2.1 hG (by have := kc_0; omega) (by have := kc_0; omega)) ⟨by decide, by decide⟩ rfl rfl hl.1 (Nat.le_of_ble_eq_true rfl) dX12_kinOf_15 (fun v g5481 H locs hp hW1 => ?_)
        obtain ⟨r5480, rfl, hr5480, rfl⟩ := hp
        have hW : WS ad cA (fun i k => False) g0 K g0 H locs := ⟨hW1, hW.2.1, hW.2.2⟩
        refine q_iload_n hM dX12_kinOf_18 (lv_at hl 3 rfl) ?_
        refine q_callS (As := [.int r5480, .int w6_3]) (rest := []) hM hW.1 hR hC myX12_has (kAW (v_5_6 (List.mem_of_getElem? (i := 7) rfl)) rfl) (c_X12_has _ _ cA ad g0 r5480 w6_3 hW.2.1 (by omega) (by omega)) ⟨by decide, by decide⟩ rfl rfl hl.1 (Nat.le_of_ble_eq_true rfl) dX12_kinOf_19 (fun v g5483 H locs hp hW1 => ?_)
        obtain ⟨r5482, rfl, hr5482, rfl⟩ := hp
        have hW : WS ad cA (fun i k => False) g0 K g0 H locs := ⟨hW1, hW.2.1, hW.2.2⟩
        refine q_if_eq (tgt := 44) hM dX12_kinOf_22 (by decide) (rfl : r5482.toInt = r5482.toInt) (fun h22 => ?_) (fun h22 => ?_)
        · refine q_iinc (lv9 := fun z5485 => [(3, .int z5485), (0, .ref (ad 129)), (1, .int i), (2, .int w6_2)]) hM dX12_kinOf_44 hl (kq := 3) rfl (by decide) (fun _ => rfl) (fun z5485 ls hz5485 hl => ?_)
          first | have tz5485 := i_addT hz5485 (rfl : w6_3.toInt = w6_3.toInt) (kc_1 : (Int32.ofInt 1).toInt = 1) (by omega) (by omega) | skip
          refine q_goto (tgt := 6) hM dX12_kinOf_47 (by decide) ?_
          exact ih6 w6_2 z5485 _ _ _ (by omega) (by omega) (by omega) (by omega) (by omega) (lv_sub hl [1, 2, 3, 0] rfl) hW
        · refine q_aload_n hM dX12_kinOf_25 (lv_at hl 0 rfl) ?_
          refine q_iload_n hM dX12_kinOf_26 (lv_at hl 3 rfl) ?_
          refine q_iconst (v := (0 : Int32)) hM dX12_kinOf_27 (by decide) ?_
          refine q_callV (As := [.int w6_3, .int (0 : Int32)]) (rest := []) hM hW.1 hR hC myX12_reachOf (kAW (v_5_5 (List.mem_of_getElem? (i := 15) rfl)) rfl) (rfl : vwCl[12]? = some (RX12, TX12, 86)) rfl lb_129.1 (shO hW.2.1 lb_129) (a_X12_reachOf _ _ cA ad g0 w6_3 (0 : Int32) hW.2.1 hG (by have := kc_0; omega) (by have := kc_0; omega)) ⟨by decide, by decide⟩ rfl rfl hl.1 (Nat.le_of_ble_eq_true rfl) dX12_kinOf_28 (fun v g5488 H locs hp hW1 => ?_)
          obtain ⟨r5487, rfl, hr5487, rfl⟩ := hp
          have hW : WS ad cA (fun i k => False) g0 K g0 H locs := ⟨hW1, hW.2.1, hW.2.2⟩
          refine q_iload_n hM dX12_kinOf_31 (lv_at hl 1 rfl) ?_
          refine q_callS (As := [.int r5487, .int i]) (rest := []) hM hW.1 hR hC myX12_has (kAW (v_5_6 (List.mem_of_getElem? (i := 7) rfl)) rfl) (c_X12_has _ _ cA ad g0 r5487 i hW.2.1 (by omega) (by omega)) ⟨by decide, by decide⟩ rfl rfl hl.1 (Nat.le_of_ble_eq_true rfl) dX12_kinOf_32 (fun v g5490 H locs hp hW1 => ?_)
          obtain ⟨r5489, rfl, hr5489, rfl⟩ := hp
          have hW : WS ad cA (fun i k => False) g0 K g0 H locs := ⟨hW1, hW.2.1, hW.2.2⟩
          refine q_if_eq (tgt := 44) hM dX12_kinOf_35 (by decide) (rfl : r5489.toInt = r5489.toInt) (fun h35 => ?_) (fun h35 => ?_)
          · refine q_iinc (lv9 := fun z5492 => [(3, .int z5492), (0, .ref (ad 129)), (1, .int i), (2, .int w6_2)]) hM dX12_kinOf_44 hl (kq := 3) rfl (by decide) (fun _ => rfl) (fun z5492 ls hz5492 hl => ?_)
            first | have tz5492 := i_addT hz5492 (rfl : w6_3.toInt = w6_3.toInt) (kc_1 : (Int32.ofInt 1).toInt = 1) (by omega) (by omega) | skip
            refine q_goto (tgt := 6) hM dX12_kinOf_47 (by decide) ?_
            exact ih6 w6_2 z5492 _ _ _ (by omega) (by omega) (by omega) (by omega) (by omega) (lv_sub hl [1, 2, 3, 0] rfl) hW
          · refine q_iload_n hM dX12_kinOf_38 (lv_at hl 2 rfl) ?_
            refine q_iconst (v := (1 : Int32)) hM dX12_kinOf_39 (by decide) ?_
            refine q_iload_n hM dX12_kinOf_40 (lv_at hl 3 rfl) ?_
            refine q_ishl hM dX12_kinOf_41 (fun z5494 hz5494 => ?_)
            first | have sz5494 := i_shl1 12 (by decide) hz5494 (by omega) (by omega) | skip
            refine q_ior hM dX12_kinOf_42 (fun z5495 hz5495 => ?_)
            first | have oz5495 := i_ork 12 (by decide) hz5495 (by omega) (by omega) (by omega) (by omega) | skip
            first | have ogz5495 := i_or_ge hz5495 (by omega) (by omega) | skip
            refine q_istore_n (lv9 := [(2, .int z5495), (0, .ref (ad 129)), (1, .int i), (3, .int w6_3)]) hM dX12_kinOf_43 hl (by decide) rfl (fun ls hl => ?_)
            refine q_iinc (lv9 := fun z5496 => [(3, .int z5496), (2, .int z5495), (0, .ref (ad 129)), (1, .int i)]) hM dX12_kinOf_44 hl (kq := 3) rfl (by decide) (fun _ => rfl) (fun z5496 ls hz5496 hl => ?_)
            first | have tz5496 := i_addT hz5496 (rfl : w6_3.toInt = w6_3.toInt) (kc_1 : (Int32.ofInt 1).toInt = 1) (by omega) (by omega) | skip
            refine q_goto (tgt := 6) hM dX12_kinOf_47 (by decide) ?_
            exact ih6 z5495 z5496 _ _ _ (by omega) (by omega) (by omega) (by omega) (by omega) (lv_sub hl [2, 3, 1, 0] rfl) hW
  have := kc_0
  exact L6 _ z5476 (0 : Int32) _ _ _ (Nat.lt_succ_self _) (by omega) (by omega) (by omega) (by omega) (lv_sub hl [2, 3, 1, 0] rfl) hW

theorem dX12_knownBy_0 : decode cX12_knownBy 0 = .ok (.iconst 0, 1) := by decide +kernel
theorem dX12_knownBy_1 : decode cX12_knownBy 1 = .ok (.istore_n 2, 1) := by decide +kernel
theorem dX12_knownBy_2 : decode cX12_knownBy 2 = .ok (.iconst 0, 1) := by decide +kernel
theorem dX12_knownBy_3 : decode cX12_knownBy 3 = .ok (.istore_n 3, 1) := by decide +kernel
theorem dX12_knownBy_4 : decode cX12_knownBy 4 = .ok (.iload_n 3, 1) := by decide +kernel
theorem dX12_knownBy_5 : decode cX12_knownBy 5 = .ok (.bipush 12, 2) := by decide +kernel
theorem dX12_knownBy_7 : decode cX12_knownBy 7 = .ok (.if_icmp .ge 33, 3) := by decide +kernel
theorem dX12_knownBy_10 : decode cX12_knownBy 10 = .ok (.iload_n 2, 1) := by decide +kernel
theorem dX12_knownBy_11 : decode cX12_knownBy 11 = .ok (.aload_n 0, 1) := by decide +kernel
theorem dX12_knownBy_12 : decode cX12_knownBy 12 = .ok (.getfield 109, 3) := by decide +kernel
theorem dX12_knownBy_15 : decode cX12_knownBy 15 = .ok (.bipush 12, 2) := by decide +kernel
theorem dX12_knownBy_17 : decode cX12_knownBy 17 = .ok (.iload_n 1, 1) := by decide +kernel
theorem dX12_knownBy_18 : decode cX12_knownBy 18 = .ok (.imul, 1) := by decide +kernel
theorem dX12_knownBy_19 : decode cX12_knownBy 19 = .ok (.iload_n 3, 1) := by decide +kernel
theorem dX12_knownBy_20 : decode cX12_knownBy 20 = .ok (.iadd, 1) := by decide +kernel
theorem dX12_knownBy_21 : decode cX12_knownBy 21 = .ok (.iaload, 1) := by decide +kernel
theorem dX12_knownBy_22 : decode cX12_knownBy 22 = .ok (.ifCond .le 9, 3) := by decide +kernel
theorem dX12_knownBy_25 : decode cX12_knownBy 25 = .ok (.iconst 1, 1) := by decide +kernel
theorem dX12_knownBy_26 : decode cX12_knownBy 26 = .ok (.iload_n 3, 1) := by decide +kernel
theorem dX12_knownBy_27 : decode cX12_knownBy 27 = .ok (.ishl, 1) := by decide +kernel
theorem dX12_knownBy_28 : decode cX12_knownBy 28 = .ok (.goto 4, 3) := by decide +kernel
theorem dX12_knownBy_31 : decode cX12_knownBy 31 = .ok (.iconst 0, 1) := by decide +kernel
theorem dX12_knownBy_32 : decode cX12_knownBy 32 = .ok (.ior, 1) := by decide +kernel
theorem dX12_knownBy_33 : decode cX12_knownBy 33 = .ok (.istore_n 2, 1) := by decide +kernel
theorem dX12_knownBy_34 : decode cX12_knownBy 34 = .ok (.iinc 3 1, 3) := by decide +kernel
theorem dX12_knownBy_37 : decode cX12_knownBy 37 = .ok (.goto (-33), 3) := by decide +kernel
theorem dX12_knownBy_40 : decode cX12_knownBy 40 = .ok (.iload_n 2, 1) := by decide +kernel
theorem dX12_knownBy_41 : decode cX12_knownBy 41 = .ok (.ireturn, 1) := by decide +kernel
theorem FG_X12_109 : FG RX12 109 12 86 55 := ⟨RX12, TX12, rfl, wX12, by decide, kAW (v_4_6 (List.mem_of_getElem? (i := 4) rfl)) rfl, rfl⟩
set_option maxRecDepth 100000 in
set_option maxHeartbeats 4000000 in
theorem a_X12_knownBy (l : Launch) (D : va_G) (cA : Nat → ClassId) (ad : Nat → Nat) (g0 : Nat → va_E) (p : Int32) (hSh : Shp ad cA g0) (hG : Rng g0) (p0 : 0 ≤ p.toInt) (p7 : p.toInt < 8) : CT l NN ad cA D yX12_knownBy cX12_knownBy 4 (some FieldType.int) (0, 0) [.ref (ad 129), .int p] g0 (PU g0 (fun r => 0 ≤ r.toInt ∧ r.toInt < 4096)) := by
  refine q_enterI (by decide) (Nat.le_of_ble_eq_true rfl) rfl (fun K H locs ls _ _ hM hW0 hR hC hE hl => ?_)
  have hl : lv_has ls 4 [(0, .ref (ad 129)), (1, .int p)] := hl
  have hW : WS ad cA (fun i k => False) g0 K g0 H locs := ⟨hW0, hSh, FR.rf⟩
  refine q_iconst (v := (0 : Int32)) hM dX12_knownBy_0 (by decide) ?_
  refine q_istore_n (lv9 := [(2, .int (0 : Int32)), (0, .ref (ad 129)), (1, .int p)]) hM dX12_knownBy_1 hl (by decide) rfl (fun ls hl => ?_)
  refine q_iconst (v := (0 : Int32)) hM dX12_knownBy_2 (by decide) ?_
  refine q_istore_n (lv9 := [(3, .int (0 : Int32)), (2, .int (0 : Int32)), (0, .ref (ad 129)), (1, .int p)]) hM dX12_knownBy_3 hl (by decide) rfl (fun ls hl => ?_)
  have L4 : ∀ (fu4 : Nat) (w4_2 : Int32) (w4_3 : Int32) (H : Heap) (locs : List Loc) (ls : Array Slot), (12 - w4_3.toInt).toNat < fu4 → (0 ≤ w4_3.toInt) → (w4_3.toInt ≤ 12) → (0 ≤ w4_2.toInt) → (w4_2.toInt < 4096) → lv_has ls 4 [(0, .ref (ad 129)), (1, .int p), (2, .int w4_2), (3, .int w4_3)] → WS ad cA (fun i k => False) g0 K g0 H locs → XX K 0 0 H locs 4 ls [] := by
    intro fu4
    induction fu4 with
    | zero => intro w4_2 w4_3 H locs ls h0; omega
    | succ fu4 ih4 =>
      intro w4_2 w4_3 H locs ls hm4 i4_0 i4_1 i4_2 i4_3 hl hW
      refine q_iload_n hM dX12_knownBy_4 (lv_at hl 3 rfl) ?_
      refine q_bipush (v := (12 : Int32)) hM dX12_knownBy_5 (by decide) ?_
      refine q_icmp_ge (tgt := 40) hM dX12_knownBy_7 (by decide) (rfl : w4_3.toInt = w4_3.toInt) (kc_12 : (12 : Int32).toInt = 12) (fun h7 => ?_) (fun h7 => ?_)
      · refine q_iload_n hM dX12_knownBy_40 (lv_at hl 2 rfl) ?_
        exact hE _ _ _ _ _ _ hW.1 ⟨_, rfl, (by omega), rfl⟩ dX12_knownBy_41
      · refine q_iload_n hM dX12_knownBy_10 (lv_at hl 2 rfl) ?_
        refine q_aload_n hM dX12_knownBy_11 (lv_at hl 0 rfl) ?_
        refine w_get (v := .ref (ad 161)) hM hW FG_X12_109 lb_129 (rf_129_55 hW.2.1) dX12_knownBy_12 ?_
        refine q_bipush (v := (12 : Int32)) hM dX12_knownBy_15 (by decide) ?_
        refine q_iload_n hM dX12_knownBy_17 (lv_at hl 1 rfl) ?_
        refine q_imul hM dX12_knownBy_18 (fun z5500 hz5500 => ?_)
        first | have tz5500 := i_mulT hz5500 (kc_12 : (12 : Int32).toInt = 12) (rfl : p.toInt = p.toInt) (by omega) (by omega) | skip
        refine q_iload_n hM dX12_knownBy_19 (lv_at hl 3 rfl) ?_
        refine q_iadd hM dX12_knownBy_20 (fun z5501 hz5501 => ?_)
        first | have tz5501 := i_addT hz5501 (rfl : z5500.toInt = z5500.toInt) (rfl : w4_3.toInt = w4_3.toInt) (by omega) (by omega) | skip
        refine w_iald hM hW lb_161 (i_in (by omega) (by omega)) dX12_knownBy_21 ?_
        refine q_top (fun y5502 hy5502 => ?_)
        refine q_if_le (tgt := 31) hM dX12_knownBy_22 (by decide) (rfl : y5502.toInt = y5502.toInt) (fun h22 => ?_) (fun h22 => ?_)
        · refine q_iconst (v := (0 : Int32)) hM dX12_knownBy_31 (by decide) ?_
          refine q_ior hM dX12_knownBy_32 (fun z5504 hz5504 => ?_)
          first | have oz5504 := i_ork 12 (by decide) hz5504 (by have := kc_0; omega) (by have := kc_0; omega) (by have := kc_0; omega) (by have := kc_0; omega) | skip
          first | have ogz5504 := i_or_ge hz5504 (by have := kc_0; omega) (by have := kc_0; omega) | skip
          refine q_istore_n (lv9 := [(2, .int z5504), (0, .ref (ad 129)), (1, .int p), (3, .int w4_3)]) hM dX12_knownBy_33 hl (by decide) rfl (fun ls hl => ?_)
          refine q_iinc (lv9 := fun z5505 => [(3, .int z5505), (2, .int z5504), (0, .ref (ad 129)), (1, .int p)]) hM dX12_knownBy_34 hl (kq := 3) rfl (by decide) (fun _ => rfl) (fun z5505 ls hz5505 hl => ?_)
          first | have tz5505 := i_addT hz5505 (rfl : w4_3.toInt = w4_3.toInt) (kc_1 : (Int32.ofInt 1).toInt = 1) (by omega) (by omega) | skip
          refine q_goto (tgt := 4) hM dX12_knownBy_37 (by decide) ?_
          exact ih4 z5504 z5505 _ _ _ (by omega) (by omega) (by omega) (by omega) (by omega) (lv_sub hl [2, 3, 1, 0] rfl) hW
        · refine q_iconst (v := (1 : Int32)) hM dX12_knownBy_25 (by decide) ?_
          refine q_iload_n hM dX12_knownBy_26 (lv_at hl 3 rfl) ?_
          refine q_ishl hM dX12_knownBy_27 (fun z5507 hz5507 => ?_)
          first | have sz5507 := i_shl1 12 (by decide) hz5507 (by omega) (by omega) | skip
          refine q_goto (tgt := 32) hM dX12_knownBy_28 (by decide) ?_
          refine q_ior hM dX12_knownBy_32 (fun z5508 hz5508 => ?_)
          first | have oz5508 := i_ork 12 (by decide) hz5508 (by omega) (by omega) (by omega) (by omega) | skip
          first | have ogz5508 := i_or_ge hz5508 (by omega) (by omega) | skip
          refine q_istore_n (lv9 := [(2, .int z5508), (0, .ref (ad 129)), (1, .int p), (3, .int w4_3)]) hM dX12_knownBy_33 hl (by decide) rfl (fun ls hl => ?_)
          refine q_iinc (lv9 := fun z5509 => [(3, .int z5509), (2, .int z5508), (0, .ref (ad 129)), (1, .int p)]) hM dX12_knownBy_34 hl (kq := 3) rfl (by decide) (fun _ => rfl) (fun z5509 ls hz5509 hl => ?_)
          first | have tz5509 := i_addT hz5509 (rfl : w4_3.toInt = w4_3.toInt) (kc_1 : (Int32.ofInt 1).toInt = 1) (by omega) (by omega) | skip
          refine q_goto (tgt := 4) hM dX12_knownBy_37 (by decide) ?_
          exact ih4 z5508 z5509 _ _ _ (by omega) (by omega) (by omega) (by omega) (by omega) (lv_sub hl [2, 3, 1, 0] rfl) hW
  have := kc_0
  have := kc_0
  exact L4 _ (0 : Int32) (0 : Int32) _ _ _ (Nat.lt_succ_self _) (by omega) (by omega) (by omega) (by omega) (lv_sub hl [2, 3, 1, 0] rfl) hW

theorem dX12_whoKnows_0 : decode cX12_whoKnows 0 = .ok (.iconst 0, 1) := by decide +kernel
theorem dX12_whoKnows_1 : decode cX12_whoKnows 1 = .ok (.istore_n 2, 1) := by decide +kernel
theorem dX12_whoKnows_2 : decode cX12_whoKnows 2 = .ok (.iconst 0, 1) := by decide +kernel
theorem dX12_whoKnows_3 : decode cX12_whoKnows 3 = .ok (.istore_n 3, 1) := by decide +kernel
theorem dX12_whoKnows_4 : decode cX12_whoKnows 4 = .ok (.iload_n 3, 1) := by decide +kernel
theorem dX12_whoKnows_5 : decode cX12_whoKnows 5 = .ok (.bipush 8, 2) := by decide +kernel
theorem dX12_whoKnows_7 : decode cX12_whoKnows 7 = .ok (.if_icmp .ge 40, 3) := by decide +kernel
theorem dX12_whoKnows_10 : decode cX12_whoKnows 10 = .ok (.iload_n 2, 1) := by decide +kernel
theorem dX12_whoKnows_11 : decode cX12_whoKnows 11 = .ok (.aload_n 0, 1) := by decide +kernel
theorem dX12_whoKnows_12 : decode cX12_whoKnows 12 = .ok (.getfield 100, 3) := by decide +kernel
theorem dX12_whoKnows_15 : decode cX12_whoKnows 15 = .ok (.iload_n 3, 1) := by decide +kernel
theorem dX12_whoKnows_16 : decode cX12_whoKnows 16 = .ok (.baload, 1) := by decide +kernel
theorem dX12_whoKnows_17 : decode cX12_whoKnows 17 = .ok (.ifCond .eq 21, 3) := by decide +kernel
theorem dX12_whoKnows_20 : decode cX12_whoKnows 20 = .ok (.aload_n 0, 1) := by decide +kernel
theorem dX12_whoKnows_21 : decode cX12_whoKnows 21 = .ok (.getfield 109, 3) := by decide +kernel
theorem dX12_whoKnows_24 : decode cX12_whoKnows 24 = .ok (.bipush 12, 2) := by decide +kernel
theorem dX12_whoKnows_26 : decode cX12_whoKnows 26 = .ok (.iload_n 3, 1) := by decide +kernel
theorem dX12_whoKnows_27 : decode cX12_whoKnows 27 = .ok (.imul, 1) := by decide +kernel
theorem dX12_whoKnows_28 : decode cX12_whoKnows 28 = .ok (.iload_n 1, 1) := by decide +kernel
theorem dX12_whoKnows_29 : decode cX12_whoKnows 29 = .ok (.iadd, 1) := by decide +kernel
theorem dX12_whoKnows_30 : decode cX12_whoKnows 30 = .ok (.iaload, 1) := by decide +kernel
theorem dX12_whoKnows_31 : decode cX12_whoKnows 31 = .ok (.ifCond .le 7, 3) := by decide +kernel
theorem dX12_whoKnows_34 : decode cX12_whoKnows 34 = .ok (.iconst 1, 1) := by decide +kernel
theorem dX12_whoKnows_35 : decode cX12_whoKnows 35 = .ok (.goto 4, 3) := by decide +kernel
theorem dX12_whoKnows_38 : decode cX12_whoKnows 38 = .ok (.iconst 0, 1) := by decide +kernel
theorem dX12_whoKnows_39 : decode cX12_whoKnows 39 = .ok (.iadd, 1) := by decide +kernel
theorem dX12_whoKnows_40 : decode cX12_whoKnows 40 = .ok (.istore_n 2, 1) := by decide +kernel
theorem dX12_whoKnows_41 : decode cX12_whoKnows 41 = .ok (.iinc 3 1, 3) := by decide +kernel
theorem dX12_whoKnows_44 : decode cX12_whoKnows 44 = .ok (.goto (-40), 3) := by decide +kernel
theorem dX12_whoKnows_47 : decode cX12_whoKnows 47 = .ok (.iload_n 2, 1) := by decide +kernel
theorem dX12_whoKnows_48 : decode cX12_whoKnows 48 = .ok (.ireturn, 1) := by decide +kernel
set_option maxRecDepth 100000 in
set_option maxHeartbeats 4000000 in
theorem a_X12_whoKnows (l : Launch) (D : va_G) (cA : Nat → ClassId) (ad : Nat → Nat) (g0 : Nat → va_E) (i : Int32) (hSh : Shp ad cA g0) (hG : Rng g0) (i0 : 0 ≤ i.toInt) (i12 : i.toInt < 12) : CT l NN ad cA D yX12_whoKnows cX12_whoKnows 4 (some FieldType.int) (0, 0) [.ref (ad 129), .int i] g0 (PU g0 (fun r => True)) := by
  refine q_enterI (by decide) (Nat.le_of_ble_eq_true rfl) rfl (fun K H locs ls _ _ hM hW0 hR hC hE hl => ?_)
  have hl : lv_has ls 4 [(0, .ref (ad 129)), (1, .int i)] := hl
  have hW : WS ad cA (fun i k => False) g0 K g0 H locs := ⟨hW0, hSh, FR.rf⟩
  refine q_iconst (v := (0 : Int32)) hM dX12_whoKnows_0 (by decide) ?_
  refine q_istore_n (lv9 := [(2, .int (0 : Int32)), (0, .ref (ad 129)), (1, .int i)]) hM dX12_whoKnows_1 hl (by decide) rfl (fun ls hl => ?_)
  refine q_iconst (v := (0 : Int32)) hM dX12_whoKnows_2 (by decide) ?_
  refine q_istore_n (lv9 := [(3, .int (0 : Int32)), (2, .int (0 : Int32)), (0, .ref (ad 129)), (1, .int i)]) hM dX12_whoKnows_3 hl (by decide) rfl (fun ls hl => ?_)
  have L4 : ∀ (fu4 : Nat) (w4_2 : Int32) (w4_3 : Int32) (H : Heap) (locs : List Loc) (ls : Array Slot), (8 - w4_3.toInt).toNat < fu4 → (0 ≤ w4_3.toInt) → (w4_3.toInt ≤ 8) → lv_has ls 4 [(0, .ref (ad 129)), (1, .int i), (2, .int w4_2), (3, .int w4_3)] → WS ad cA (fun i k => False) g0 K g0 H locs → XX K 0 0 H locs 4 ls [] := by
    intro fu4
    induction fu4 with
    | zero => intro w4_2 w4_3 H locs ls h0; omega
    | succ fu4 ih4 =>
      intro w4_2 w4_3 H locs ls hm4 i4_0 i4_1 hl hW
      refine q_iload_n hM dX12_whoKnows_4 (lv_at hl 3 rfl) ?_
      refine q_bipush (v := (8 : Int32)) hM dX12_whoKnows_5 (by decide) ?_
      refine q_icmp_ge (tgt := 47) hM dX12_whoKnows_7 (by decide) (rfl : w4_3.toInt = w4_3.toInt) (kc_8 : (8 : Int32).toInt = 8) (fun h7 => ?_) (fun h7 => ?_)
      · refine q_iload_n hM dX12_whoKnows_47 (lv_at hl 2 rfl) ?_
        exact hE _ _ _ _ _ _ hW.1 ⟨_, rfl, (by trivial), rfl⟩ dX12_whoKnows_48
      · refine q_iload_n hM dX12_whoKnows_10 (lv_at hl 2 rfl) ?_
        refine q_aload_n hM dX12_whoKnows_11 (lv_at hl 0 rfl) ?_
        refine w_get (v := .ref (ad 158)) hM hW FG_X12_100 lb_129 (rf_129_52 hW.2.1) dX12_whoKnows_12 ?_
        refine q_iload_n hM dX12_whoKnows_15 (lv_at hl 3 rfl) ?_
        refine w_zald hM hW lb_158 (i_in (by omega) (by omega)) dX12_whoKnows_16 ?_
        refine q_top (fun y5513 hy5513 => ?_)
        refine q_if_eq (tgt := 38) hM dX12_whoKnows_17 (by decide) (rfl : y5513.toInt = y5513.toInt) (fun h17 => ?_) (fun h17 => ?_)
        · refine q_iconst (v := (0 : Int32)) hM dX12_whoKnows_38 (by decide) ?_
          refine q_iadd hM dX12_whoKnows_39 (fun z5515 hz5515 => ?_)
          first | have tz5515 := i_addT hz5515 (rfl : w4_2.toInt = w4_2.toInt) (kc_0 : (0 : Int32).toInt = 0) (by omega) (by omega) | skip
          refine q_istore_n (lv9 := [(2, .int z5515), (0, .ref (ad 129)), (1, .int i), (3, .int w4_3)]) hM dX12_whoKnows_40 hl (by decide) rfl (fun ls hl => ?_)
          refine q_iinc (lv9 := fun z5516 => [(3, .int z5516), (2, .int z5515), (0, .ref (ad 129)), (1, .int i)]) hM dX12_whoKnows_41 hl (kq := 3) rfl (by decide) (fun _ => rfl) (fun z5516 ls hz5516 hl => ?_)
          first | have tz5516 := i_addT hz5516 (rfl : w4_3.toInt = w4_3.toInt) (kc_1 : (Int32.ofInt 1).toInt = 1) (by omega) (by omega) | skip
          refine q_goto (tgt := 4) hM dX12_whoKnows_44 (by decide) ?_
          exact ih4 z5515 z5516 _ _ _ (by omega) (by omega) (by omega) (lv_sub hl [2, 3, 1, 0] rfl) hW
        · refine q_aload_n hM dX12_whoKnows_20 (lv_at hl 0 rfl) ?_
          refine w_get (v := .ref (ad 161)) hM hW FG_X12_109 lb_129 (rf_129_55 hW.2.1) dX12_whoKnows_21 ?_
          refine q_bipush (v := (12 : Int32)) hM dX12_whoKnows_24 (by decide) ?_
          refine q_iload_n hM dX12_whoKnows_26 (lv_at hl 3 rfl) ?_
          refine q_imul hM dX12_whoKnows_27 (fun z5518 hz5518 => ?_)
          first | have tz5518 := i_mulT hz5518 (kc_12 : (12 : Int32).toInt = 12) (rfl : w4_3.toInt = w4_3.toInt) (by omega) (by omega) | skip
          refine q_iload_n hM dX12_whoKnows_28 (lv_at hl 1 rfl) ?_
          refine q_iadd hM dX12_whoKnows_29 (fun z5519 hz5519 => ?_)
          first | have tz5519 := i_addT hz5519 (rfl : z5518.toInt = z5518.toInt) (rfl : i.toInt = i.toInt) (by omega) (by omega) | skip
          refine w_iald hM hW lb_161 (i_in (by omega) (by omega)) dX12_whoKnows_30 ?_
          refine q_top (fun y5520 hy5520 => ?_)
          refine q_if_le (tgt := 38) hM dX12_whoKnows_31 (by decide) (rfl : y5520.toInt = y5520.toInt) (fun h31 => ?_) (fun h31 => ?_)
          · refine q_iconst (v := (0 : Int32)) hM dX12_whoKnows_38 (by decide) ?_
            refine q_iadd hM dX12_whoKnows_39 (fun z5522 hz5522 => ?_)
            first | have tz5522 := i_addT hz5522 (rfl : w4_2.toInt = w4_2.toInt) (kc_0 : (0 : Int32).toInt = 0) (by omega) (by omega) | skip
            refine q_istore_n (lv9 := [(2, .int z5522), (0, .ref (ad 129)), (1, .int i), (3, .int w4_3)]) hM dX12_whoKnows_40 hl (by decide) rfl (fun ls hl => ?_)
            refine q_iinc (lv9 := fun z5523 => [(3, .int z5523), (2, .int z5522), (0, .ref (ad 129)), (1, .int i)]) hM dX12_whoKnows_41 hl (kq := 3) rfl (by decide) (fun _ => rfl) (fun z5523 ls hz5523 hl => ?_)
            first | have tz5523 := i_addT hz5523 (rfl : w4_3.toInt = w4_3.toInt) (kc_1 : (Int32.ofInt 1).toInt = 1) (by omega) (by omega) | skip
            refine q_goto (tgt := 4) hM dX12_whoKnows_44 (by decide) ?_
            exact ih4 z5522 z5523 _ _ _ (by omega) (by omega) (by omega) (lv_sub hl [2, 3, 1, 0] rfl) hW
          · refine q_iconst (v := (1 : Int32)) hM dX12_whoKnows_34 (by decide) ?_
            refine q_goto (tgt := 39) hM dX12_whoKnows_35 (by decide) ?_
            refine q_iadd hM dX12_whoKnows_39 (fun z5525 hz5525 => ?_)
            first | have tz5525 := i_addT hz5525 (rfl : w4_2.toInt = w4_2.toInt) (kc_1 : (1 : Int32).toInt = 1) (by omega) (by omega) | skip
            refine q_istore_n (lv9 := [(2, .int z5525), (0, .ref (ad 129)), (1, .int i), (3, .int w4_3)]) hM dX12_whoKnows_40 hl (by decide) rfl (fun ls hl => ?_)
            refine q_iinc (lv9 := fun z5526 => [(3, .int z5526), (2, .int z5525), (0, .ref (ad 129)), (1, .int i)]) hM dX12_whoKnows_41 hl (kq := 3) rfl (by decide) (fun _ => rfl) (fun z5526 ls hz5526 hl => ?_)
            first | have tz5526 := i_addT hz5526 (rfl : w4_3.toInt = w4_3.toInt) (kc_1 : (Int32.ofInt 1).toInt = 1) (by omega) (by omega) | skip
            refine q_goto (tgt := 4) hM dX12_whoKnows_44 (by decide) ?_
            exact ih4 z5525 z5526 _ _ _ (by omega) (by omega) (by omega) (lv_sub hl [2, 3, 1, 0] rfl) hW
  have := kc_0
  have := kc_0
  exact L4 _ (0 : Int32) (0 : Int32) _ _ _ (Nat.lt_succ_self _) (by omega) (by omega) (lv_sub hl [2, 3, 1, 0] rfl) hW

theorem dX12_togetherOf_0 : decode cX12_togetherOf 0 = .ok (.iconst 0, 1) := by decide +kernel
theorem dX12_togetherOf_1 : decode cX12_togetherOf 1 = .ok (.istore_n 2, 1) := by decide +kernel
theorem dX12_togetherOf_2 : decode cX12_togetherOf 2 = .ok (.iconst 0, 1) := by decide +kernel
theorem dX12_togetherOf_3 : decode cX12_togetherOf 3 = .ok (.istore_n 3, 1) := by decide +kernel
theorem dX12_togetherOf_4 : decode cX12_togetherOf 4 = .ok (.iload_n 3, 1) := by decide +kernel
theorem dX12_togetherOf_5 : decode cX12_togetherOf 5 = .ok (.bipush 12, 2) := by decide +kernel
theorem dX12_togetherOf_7 : decode cX12_togetherOf 7 = .ok (.if_icmp .ge 23, 3) := by decide +kernel
theorem dX12_togetherOf_10 : decode cX12_togetherOf 10 = .ok (.iload_n 2, 1) := by decide +kernel
theorem dX12_togetherOf_11 : decode cX12_togetherOf 11 = .ok (.aload_n 0, 1) := by decide +kernel
theorem dX12_togetherOf_12 : decode cX12_togetherOf 12 = .ok (.getfield 109, 3) := by decide +kernel
theorem dX12_togetherOf_15 : decode cX12_togetherOf 15 = .ok (.bipush 12, 2) := by decide +kernel
theorem dX12_togetherOf_17 : decode cX12_togetherOf 17 = .ok (.iload_n 1, 1) := by decide +kernel
theorem dX12_togetherOf_18 : decode cX12_togetherOf 18 = .ok (.imul, 1) := by decide +kernel
theorem dX12_togetherOf_19 : decode cX12_togetherOf 19 = .ok (.iload_n 3, 1) := by decide +kernel
theorem dX12_togetherOf_20 : decode cX12_togetherOf 20 = .ok (.iadd, 1) := by decide +kernel
theorem dX12_togetherOf_21 : decode cX12_togetherOf 21 = .ok (.iaload, 1) := by decide +kernel
theorem dX12_togetherOf_22 : decode cX12_togetherOf 22 = .ok (.iadd, 1) := by decide +kernel
theorem dX12_togetherOf_23 : decode cX12_togetherOf 23 = .ok (.istore_n 2, 1) := by decide +kernel
theorem dX12_togetherOf_24 : decode cX12_togetherOf 24 = .ok (.iinc 3 1, 3) := by decide +kernel
theorem dX12_togetherOf_27 : decode cX12_togetherOf 27 = .ok (.goto (-23), 3) := by decide +kernel
theorem dX12_togetherOf_30 : decode cX12_togetherOf 30 = .ok (.iload_n 2, 1) := by decide +kernel
theorem dX12_togetherOf_31 : decode cX12_togetherOf 31 = .ok (.ireturn, 1) := by decide +kernel
set_option maxRecDepth 100000 in
set_option maxHeartbeats 4000000 in
theorem a_X12_togetherOf (l : Launch) (D : va_G) (cA : Nat → ClassId) (ad : Nat → Nat) (g0 : Nat → va_E) (p : Int32) (hSh : Shp ad cA g0) (hG : Rng g0) (p0 : 0 ≤ p.toInt) (p7 : p.toInt < 8) : CT l NN ad cA D yX12_togetherOf cX12_togetherOf 4 (some FieldType.int) (0, 0) [.ref (ad 129), .int p] g0 (PU g0 (fun r => True)) := by
  refine q_enterI (by decide) (Nat.le_of_ble_eq_true rfl) rfl (fun K H locs ls _ _ hM hW0 hR hC hE hl => ?_)
  have hl : lv_has ls 4 [(0, .ref (ad 129)), (1, .int p)] := hl
  have hW : WS ad cA (fun i k => False) g0 K g0 H locs := ⟨hW0, hSh, FR.rf⟩
  refine q_iconst (v := (0 : Int32)) hM dX12_togetherOf_0 (by decide) ?_
  refine q_istore_n (lv9 := [(2, .int (0 : Int32)), (0, .ref (ad 129)), (1, .int p)]) hM dX12_togetherOf_1 hl (by decide) rfl (fun ls hl => ?_)
  refine q_iconst (v := (0 : Int32)) hM dX12_togetherOf_2 (by decide) ?_
  refine q_istore_n (lv9 := [(3, .int (0 : Int32)), (2, .int (0 : Int32)), (0, .ref (ad 129)), (1, .int p)]) hM dX12_togetherOf_3 hl (by decide) rfl (fun ls hl => ?_)
  have L4 : ∀ (fu4 : Nat) (w4_2 : Int32) (w4_3 : Int32) (H : Heap) (locs : List Loc) (ls : Array Slot), (12 - w4_3.toInt).toNat < fu4 → (0 ≤ w4_3.toInt) → (w4_3.toInt ≤ 12) → lv_has ls 4 [(0, .ref (ad 129)), (1, .int p), (2, .int w4_2), (3, .int w4_3)] → WS ad cA (fun i k => False) g0 K g0 H locs → XX K 0 0 H locs 4 ls [] := by
    intro fu4
    induction fu4 with
    | zero => intro w4_2 w4_3 H locs ls h0; omega
    | succ fu4 ih4 =>
      intro w4_2 w4_3 H locs ls hm4 i4_0 i4_1 hl hW
      refine q_iload_n hM dX12_togetherOf_4 (lv_at hl 3 rfl) ?_
      refine q_bipush (v := (12 : Int32)) hM dX12_togetherOf_5 (by decide) ?_
      refine q_icmp_ge (tgt := 30) hM dX12_togetherOf_7 (by decide) (rfl : w4_3.toInt = w4_3.toInt) (kc_12 : (12 : Int32).toInt = 12) (fun h7 => ?_) (fun h7 => ?_)
      · refine q_iload_n hM dX12_togetherOf_30 (lv_at hl 2 rfl) ?_
        exact hE _ _ _ _ _ _ hW.1 ⟨_, rfl, (by trivial), rfl⟩ dX12_togetherOf_31
      · refine q_iload_n hM dX12_togetherOf_10 (lv_at hl 2 rfl) ?_
        refine q_aload_n hM dX12_togetherOf_11 (lv_at hl 0 rfl) ?_
        refine w_get (v := .ref (ad 161)) hM hW FG_X12_109 lb_129 (rf_129_55 hW.2.1) dX12_togetherOf_12 ?_
        refine q_bipush (v := (12 : Int32)) hM dX12_togetherOf_15 (by decide) ?_
        refine q_iload_n hM dX12_togetherOf_17 (lv_at hl 1 rfl) ?_
        refine q_imul hM dX12_togetherOf_18 (fun z5530 hz5530 => ?_)
        first | have tz5530 := i_mulT hz5530 (kc_12 : (12 : Int32).toInt = 12) (rfl : p.toInt = p.toInt) (by omega) (by omega) | skip
        refine q_iload_n hM dX12_togetherOf_19 (lv_at hl 3 rfl) ?_
        refine q_iadd hM dX12_togetherOf_20 (fun z5531 hz5531 => ?_)
        first | have tz5531 := i_addT hz5531 (rfl : z5530.toInt = z5530.toInt) (rfl : w4_3.toInt = w4_3.toInt) (by omega) (by omega) | skip
        refine w_iald hM hW lb_161 (i_in (by omega) (by omega)) dX12_togetherOf_21 ?_
        refine q_top (fun y5532 hy5532 => ?_)
        refine q_iadd hM dX12_togetherOf_22 (fun z5533 hz5533 => ?_)
        first | have tz5533 := i_addT hz5533 (rfl : w4_2.toInt = w4_2.toInt) (rfl : y5532.toInt = y5532.toInt) (by omega) (by omega) | skip
        refine q_istore_n (lv9 := [(2, .int z5533), (0, .ref (ad 129)), (1, .int p), (3, .int w4_3)]) hM dX12_togetherOf_23 hl (by decide) rfl (fun ls hl => ?_)
        refine q_iinc (lv9 := fun z5534 => [(3, .int z5534), (2, .int z5533), (0, .ref (ad 129)), (1, .int p)]) hM dX12_togetherOf_24 hl (kq := 3) rfl (by decide) (fun _ => rfl) (fun z5534 ls hz5534 hl => ?_)
        first | have tz5534 := i_addT hz5534 (rfl : w4_3.toInt = w4_3.toInt) (kc_1 : (Int32.ofInt 1).toInt = 1) (by omega) (by omega) | skip
        refine q_goto (tgt := 4) hM dX12_togetherOf_27 (by decide) ?_
        exact ih4 z5533 z5534 _ _ _ (by omega) (by omega) (by omega) (lv_sub hl [2, 3, 1, 0] rfl) hW
  have := kc_0
  have := kc_0
  exact L4 _ (0 : Int32) (0 : Int32) _ _ _ (Nat.lt_succ_self _) (by omega) (by omega) (lv_sub hl [2, 3, 1, 0] rfl) hW

theorem dX12_strongestOf_0 : decode cX12_strongestOf 0 = .ok (.bipush (-2), 2) := by decide +kernel
theorem dX12_strongestOf_2 : decode cX12_strongestOf 2 = .ok (.istore_n 2, 1) := by decide +kernel
theorem dX12_strongestOf_3 : decode cX12_strongestOf 3 = .ok (.iconst 0, 1) := by decide +kernel
theorem dX12_strongestOf_4 : decode cX12_strongestOf 4 = .ok (.istore_n 3, 1) := by decide +kernel
theorem dX12_strongestOf_5 : decode cX12_strongestOf 5 = .ok (.iconst 0, 1) := by decide +kernel
theorem dX12_strongestOf_6 : decode cX12_strongestOf 6 = .ok (.istore 4, 2) := by decide +kernel
theorem dX12_strongestOf_8 : decode cX12_strongestOf 8 = .ok (.iload 4, 2) := by decide +kernel
theorem dX12_strongestOf_10 : decode cX12_strongestOf 10 = .ok (.bipush 12, 2) := by decide +kernel
theorem dX12_strongestOf_12 : decode cX12_strongestOf 12 = .ok (.if_icmp .ge 44, 3) := by decide +kernel
theorem dX12_strongestOf_15 : decode cX12_strongestOf 15 = .ok (.aload_n 0, 1) := by decide +kernel
theorem dX12_strongestOf_16 : decode cX12_strongestOf 16 = .ok (.getfield 109, 3) := by decide +kernel
theorem dX12_strongestOf_19 : decode cX12_strongestOf 19 = .ok (.bipush 12, 2) := by decide +kernel
theorem dX12_strongestOf_21 : decode cX12_strongestOf 21 = .ok (.iload_n 1, 1) := by decide +kernel
theorem dX12_strongestOf_22 : decode cX12_strongestOf 22 = .ok (.imul, 1) := by decide +kernel
theorem dX12_strongestOf_23 : decode cX12_strongestOf 23 = .ok (.iload 4, 2) := by decide +kernel
theorem dX12_strongestOf_25 : decode cX12_strongestOf 25 = .ok (.iadd, 1) := by decide +kernel
theorem dX12_strongestOf_26 : decode cX12_strongestOf 26 = .ok (.iaload, 1) := by decide +kernel
theorem dX12_strongestOf_27 : decode cX12_strongestOf 27 = .ok (.iload_n 3, 1) := by decide +kernel
theorem dX12_strongestOf_28 : decode cX12_strongestOf 28 = .ok (.if_icmp .gt 6, 3) := by decide +kernel
theorem dX12_strongestOf_31 : decode cX12_strongestOf 31 = .ok (.goto 19, 3) := by decide +kernel
theorem dX12_strongestOf_34 : decode cX12_strongestOf 34 = .ok (.iload 4, 2) := by decide +kernel
theorem dX12_strongestOf_36 : decode cX12_strongestOf 36 = .ok (.istore_n 2, 1) := by decide +kernel
theorem dX12_strongestOf_37 : decode cX12_strongestOf 37 = .ok (.aload_n 0, 1) := by decide +kernel
theorem dX12_strongestOf_38 : decode cX12_strongestOf 38 = .ok (.getfield 109, 3) := by decide +kernel
theorem dX12_strongestOf_41 : decode cX12_strongestOf 41 = .ok (.bipush 12, 2) := by decide +kernel
theorem dX12_strongestOf_43 : decode cX12_strongestOf 43 = .ok (.iload_n 1, 1) := by decide +kernel
theorem dX12_strongestOf_44 : decode cX12_strongestOf 44 = .ok (.imul, 1) := by decide +kernel
theorem dX12_strongestOf_45 : decode cX12_strongestOf 45 = .ok (.iload 4, 2) := by decide +kernel
theorem dX12_strongestOf_47 : decode cX12_strongestOf 47 = .ok (.iadd, 1) := by decide +kernel
theorem dX12_strongestOf_48 : decode cX12_strongestOf 48 = .ok (.iaload, 1) := by decide +kernel
theorem dX12_strongestOf_49 : decode cX12_strongestOf 49 = .ok (.istore_n 3, 1) := by decide +kernel
theorem dX12_strongestOf_50 : decode cX12_strongestOf 50 = .ok (.iinc 4 1, 3) := by decide +kernel
theorem dX12_strongestOf_53 : decode cX12_strongestOf 53 = .ok (.goto (-45), 3) := by decide +kernel
theorem dX12_strongestOf_56 : decode cX12_strongestOf 56 = .ok (.iload_n 2, 1) := by decide +kernel
theorem dX12_strongestOf_57 : decode cX12_strongestOf 57 = .ok (.ireturn, 1) := by decide +kernel
set_option maxRecDepth 100000 in
set_option maxHeartbeats 4000000 in
theorem a_X12_strongestOf (l : Launch) (D : va_G) (cA : Nat → ClassId) (ad : Nat → Nat) (g0 : Nat → va_E) (p : Int32) (hSh : Shp ad cA g0) (hG : Rng g0) (p0 : 0 ≤ p.toInt) (p7 : p.toInt < 8) : CT l NN ad cA D yX12_strongestOf cX12_strongestOf 5 (some FieldType.int) (0, 0) [.ref (ad 129), .int p] g0 (PU g0 (fun r => True)) := by
  refine q_enterI (by decide) (Nat.le_of_ble_eq_true rfl) rfl (fun K H locs ls _ _ hM hW0 hR hC hE hl => ?_)
  have hl : lv_has ls 5 [(0, .ref (ad 129)), (1, .int p)] := hl
  have hW : WS ad cA (fun i k => False) g0 K g0 H locs := ⟨hW0, hSh, FR.rf⟩
  refine q_bipush (v := ((-2) : Int32)) hM dX12_strongestOf_0 (by decide) ?_
  refine q_istore_n (lv9 := [(2, .int ((-2) : Int32)), (0, .ref (ad 129)), (1, .int p)]) hM dX12_strongestOf_2 hl (by decide) rfl (fun ls hl => ?_)
  refine q_iconst (v := (0 : Int32)) hM dX12_strongestOf_3 (by decide) ?_
  refine q_istore_n (lv9 := [(3, .int (0 : Int32)), (2, .int ((-2) : Int32)), (0, .ref (ad 129)), (1, .int p)]) hM dX12_strongestOf_4 hl (by decide) rfl (fun ls hl => ?_)
  refine q_iconst (v := (0 : Int32)) hM dX12_strongestOf_5 (by decide) ?_
  refine q_istore (lv9 := [(4, .int (0 : Int32)), (3, .int (0 : Int32)), (2, .int ((-2) : Int32)), (0, .ref (ad 129)), (1, .int p)]) hM dX12_strongestOf_6 hl (by decide) rfl (fun ls hl => ?_)
  have L8 : ∀ (fu8 : Nat) (w8_2 : Int32) (w8_3 : Int32) (w8_4 : Int32) (H : Heap) (locs : List Loc) (ls : Array Slot), (12 - w8_4.toInt).toNat < fu8 → (0 ≤ w8_4.toInt) → (w8_4.toInt ≤ 12) → lv_has ls 5 [(0, .ref (ad 129)), (1, .int p), (2, .int w8_2), (3, .int w8_3), (4, .int w8_4)] → WS ad cA (fun i k => False) g0 K g0 H locs → XX K 0 0 H locs 8 ls [] := by
    intro fu8
    induction fu8 with
    | zero => intro w8_2 w8_3 w8_4 H locs ls h0; omega
    | succ fu8 ih8 =>
      intro w8_2 w8_3 w8_4 H locs ls hm8 i8_0 i8_1 hl hW
      refine q_iload hM dX12_strongestOf_8 (lv_at hl 4 rfl) ?_
      refine q_bipush (v := (12 : Int32)) hM dX12_strongestOf_10 (by decide) ?_
      refine q_icmp_ge (tgt := 56) hM dX12_strongestOf_12 (by decide) (rfl : w8_4.toInt = w8_4.toInt) (kc_12 : (12 : Int32).toInt = 12) (fun h12 => ?_) (fun h12 => ?_)
      · refine q_iload_n hM dX12_strongestOf_56 (lv_at hl 2 rfl) ?_
        exact hE _ _ _ _ _ _ hW.1 ⟨_, rfl, (by trivial), rfl⟩ dX12_strongestOf_57
      · refine q_aload_n hM dX12_strongestOf_15 (lv_at hl 0 rfl) ?_
        refine w_get (v := .ref (ad 161)) hM hW FG_X12_109 lb_129 (rf_129_55 hW.2.1) dX12_strongestOf_16 ?_
        refine q_bipush (v := (12 : Int32)) hM dX12_strongestOf_19 (by decide) ?_
        refine q_iload_n hM dX12_strongestOf_21 (lv_at hl 1 rfl) ?_
        refine q_imul hM dX12_strongestOf_22 (fun z5538 hz5538 => ?_)
        first | have tz5538 := i_mulT hz5538 (kc_12 : (12 : Int32).toInt = 12) (rfl : p.toInt = p.toInt) (by omega) (by omega) | skip
        refine q_iload hM dX12_strongestOf_23 (lv_at hl 4 rfl) ?_
        refine q_iadd hM dX12_strongestOf_25 (fun z5539 hz5539 => ?_)
        first | have tz5539 := i_addT hz5539 (rfl : z5538.toInt = z5538.toInt) (rfl : w8_4.toInt = w8_4.toInt) (by omega) (by omega) | skip
        refine w_iald hM hW lb_161 (i_in (by omega) (by omega)) dX12_strongestOf_26 ?_
        refine q_top (fun y5540 hy5540 => ?_)
        refine q_iload_n hM dX12_strongestOf_27 (lv_at hl 3 rfl) ?_
        refine q_icmp_gt (tgt := 34) hM dX12_strongestOf_28 (by decide) (rfl : y5540.toInt = y5540.toInt) (rfl : w8_3.toInt = w8_3.toInt) (fun h28 => ?_) (fun h28 => ?_)
        · refine q_iload hM dX12_strongestOf_34 (lv_at hl 4 rfl) ?_
          refine q_istore_n (lv9 := [(2, .int w8_4), (0, .ref (ad 129)), (1, .int p), (3, .int w8_3), (4, .int w8_4)]) hM dX12_strongestOf_36 hl (by decide) rfl (fun ls hl => ?_)
          refine q_aload_n hM dX12_strongestOf_37 (lv_at hl 1 rfl) ?_
          refine w_get (v := .ref (ad 161)) hM hW FG_X12_109 lb_129 (rf_129_55 hW.2.1) dX12_strongestOf_38 ?_
          refine q_bipush (v := (12 : Int32)) hM dX12_strongestOf_41 (by decide) ?_
          refine q_iload_n hM dX12_strongestOf_43 (lv_at hl 2 rfl) ?_
          refine q_imul hM dX12_strongestOf_44 (fun z5542 hz5542 => ?_)
          first | have tz5542 := i_mulT hz5542 (kc_12 : (12 : Int32).toInt = 12) (rfl : p.toInt = p.toInt) (by omega) (by omega) | skip
          refine q_iload hM dX12_strongestOf_45 (lv_at hl 4 rfl) ?_
          refine q_iadd hM dX12_strongestOf_47 (fun z5543 hz5543 => ?_)
          first | have tz5543 := i_addT hz5543 (rfl : z5542.toInt = z5542.toInt) (rfl : w8_4.toInt = w8_4.toInt) (by omega) (by omega) | skip
          refine w_iald hM hW lb_161 (i_in (by omega) (by omega)) dX12_strongestOf_48 ?_
          refine q_top (fun y5544 hy5544 => ?_)
          refine q_istore_n (lv9 := [(3, .int y5544), (2, .int w8_4), (0, .ref (ad 129)), (1, .int p), (4, .int w8_4)]) hM dX12_strongestOf_49 hl (by decide) rfl (fun ls hl => ?_)
          refine q_iinc (lv9 := fun z5545 => [(4, .int z5545), (3, .int y5544), (2, .int w8_4), (0, .ref (ad 129)), (1, .int p)]) hM dX12_strongestOf_50 hl (kq := 4) rfl (by decide) (fun _ => rfl) (fun z5545 ls hz5545 hl => ?_)
          first | have tz5545 := i_addT hz5545 (rfl : w8_4.toInt = w8_4.toInt) (kc_1 : (Int32.ofInt 1).toInt = 1) (by omega) (by omega) | skip
          refine q_goto (tgt := 8) hM dX12_strongestOf_53 (by decide) ?_
          exact ih8 w8_4 y5544 z5545 _ _ _ (by omega) (by omega) (by omega) (lv_sub hl [3, 4, 2, 1, 0] rfl) hW
        · refine q_goto (tgt := 50) hM dX12_strongestOf_31 (by decide) ?_
          refine q_iinc (lv9 := fun z5547 => [(4, .int z5547), (0, .ref (ad 129)), (1, .int p), (2, .int w8_2), (3, .int w8_3)]) hM dX12_strongestOf_50 hl (kq := 4) rfl (by decide) (fun _ => rfl) (fun z5547 ls hz5547 hl => ?_)
          first | have tz5547 := i_addT hz5547 (rfl : w8_4.toInt = w8_4.toInt) (kc_1 : (Int32.ofInt 1).toInt = 1) (by omega) (by omega) | skip
          refine q_goto (tgt := 8) hM dX12_strongestOf_53 (by decide) ?_
          exact ih8 w8_2 w8_3 z5547 _ _ _ (by omega) (by omega) (by omega) (lv_sub hl [1, 2, 3, 4, 0] rfl) hW
  have := kc_m2
  have := kc_0
  have := kc_0
  exact L8 _ ((-2) : Int32) (0 : Int32) (0 : Int32) _ _ _ (Nat.lt_succ_self _) (by omega) (by omega) (lv_sub hl [3, 4, 2, 1, 0] rfl) hW

theorem dX12_heardOf_0 : decode cX12_heardOf 0 = .ok (.iconst 0, 1) := by decide +kernel
theorem dX12_heardOf_1 : decode cX12_heardOf 1 = .ok (.istore_n 3, 1) := by decide +kernel
theorem dX12_heardOf_2 : decode cX12_heardOf 2 = .ok (.iconst 0, 1) := by decide +kernel
theorem dX12_heardOf_3 : decode cX12_heardOf 3 = .ok (.istore 4, 2) := by decide +kernel
theorem dX12_heardOf_5 : decode cX12_heardOf 5 = .ok (.iload 4, 2) := by decide +kernel
theorem dX12_heardOf_7 : decode cX12_heardOf 7 = .ok (.bipush 12, 2) := by decide +kernel
theorem dX12_heardOf_9 : decode cX12_heardOf 9 = .ok (.if_icmp .ge 40, 3) := by decide +kernel
theorem dX12_heardOf_12 : decode cX12_heardOf 12 = .ok (.iload_n 3, 1) := by decide +kernel
theorem dX12_heardOf_13 : decode cX12_heardOf 13 = .ok (.aload_n 0, 1) := by decide +kernel
theorem dX12_heardOf_14 : decode cX12_heardOf 14 = .ok (.getfield 109, 3) := by decide +kernel
theorem dX12_heardOf_17 : decode cX12_heardOf 17 = .ok (.bipush 12, 2) := by decide +kernel
theorem dX12_heardOf_19 : decode cX12_heardOf 19 = .ok (.iload_n 1, 1) := by decide +kernel
theorem dX12_heardOf_20 : decode cX12_heardOf 20 = .ok (.imul, 1) := by decide +kernel
theorem dX12_heardOf_21 : decode cX12_heardOf 21 = .ok (.iload 4, 2) := by decide +kernel
theorem dX12_heardOf_23 : decode cX12_heardOf 23 = .ok (.iadd, 1) := by decide +kernel
theorem dX12_heardOf_24 : decode cX12_heardOf 24 = .ok (.iaload, 1) := by decide +kernel
theorem dX12_heardOf_25 : decode cX12_heardOf 25 = .ok (.aload_n 0, 1) := by decide +kernel
theorem dX12_heardOf_26 : decode cX12_heardOf 26 = .ok (.getfield 25, 3) := by decide +kernel
theorem dX12_heardOf_29 : decode cX12_heardOf 29 = .ok (.bipush 12, 2) := by decide +kernel
theorem dX12_heardOf_31 : decode cX12_heardOf 31 = .ok (.iload 4, 2) := by decide +kernel
theorem dX12_heardOf_33 : decode cX12_heardOf 33 = .ok (.imul, 1) := by decide +kernel
theorem dX12_heardOf_34 : decode cX12_heardOf 34 = .ok (.iload_n 2, 1) := by decide +kernel
theorem dX12_heardOf_35 : decode cX12_heardOf 35 = .ok (.iadd, 1) := by decide +kernel
theorem dX12_heardOf_36 : decode cX12_heardOf 36 = .ok (.iaload, 1) := by decide +kernel
theorem dX12_heardOf_37 : decode cX12_heardOf 37 = .ok (.imul, 1) := by decide +kernel
theorem dX12_heardOf_38 : decode cX12_heardOf 38 = .ok (.bipush 10, 2) := by decide +kernel
theorem dX12_heardOf_40 : decode cX12_heardOf 40 = .ok (.idiv, 1) := by decide +kernel
theorem dX12_heardOf_41 : decode cX12_heardOf 41 = .ok (.iadd, 1) := by decide +kernel
theorem dX12_heardOf_42 : decode cX12_heardOf 42 = .ok (.istore_n 3, 1) := by decide +kernel
theorem dX12_heardOf_43 : decode cX12_heardOf 43 = .ok (.iinc 4 1, 3) := by decide +kernel
theorem dX12_heardOf_46 : decode cX12_heardOf 46 = .ok (.goto (-41), 3) := by decide +kernel
theorem dX12_heardOf_49 : decode cX12_heardOf 49 = .ok (.iload_n 3, 1) := by decide +kernel
theorem dX12_heardOf_50 : decode cX12_heardOf 50 = .ok (.ireturn, 1) := by decide +kernel
set_option maxRecDepth 100000 in
set_option maxHeartbeats 4000000 in
theorem a_X12_heardOf (l : Launch) (D : va_G) (cA : Nat → ClassId) (ad : Nat → Nat) (g0 : Nat → va_E) (p : Int32) (i : Int32) (hSh : Shp ad cA g0) (hG : Rng g0) (p0 : 0 ≤ p.toInt) (p7 : p.toInt < 8) (i0 : 0 ≤ i.toInt) (i12 : i.toInt < 12) : CT l NN ad cA D yX12_heardOf cX12_heardOf 5 (some FieldType.int) (0, 0) [.ref (ad 129), .int p, .int i] g0 (PU g0 (fun r => True)) := by
  refine q_enterI (by decide) (Nat.le_of_ble_eq_true rfl) rfl (fun K H locs ls _ _ hM hW0 hR hC hE hl => ?_)
  have hl : lv_has ls 5 [(0, .ref (ad 129)), (1, .int p), (2, .int i)] := hl
  have hW : WS ad cA (fun i k => False) g0 K g0 H locs := ⟨hW0, hSh, FR.rf⟩
  refine q_iconst (v := (0 : Int32)) hM dX12_heardOf_0 (by decide) ?_
  refine q_istore_n (lv9 := [(3, .int (0 : Int32)), (0, .ref (ad 129)), (1, .int p), (2, .int i)]) hM dX12_heardOf_1 hl (by decide) rfl (fun ls hl => ?_)
  refine q_iconst (v := (0 : Int32)) hM dX12_heardOf_2 (by decide) ?_
  refine q_istore (lv9 := [(4, .int (0 : Int32)), (3, .int (0 : Int32)), (0, .ref (ad 129)), (1, .int p), (2, .int i)]) hM dX12_heardOf_3 hl (by decide) rfl (fun ls hl => ?_)
  have L5 : ∀ (fu5 : Nat) (w5_3 : Int32) (w5_4 : Int32) (H : Heap) (locs : List Loc) (ls : Array Slot), (12 - w5_4.toInt).toNat < fu5 → (0 ≤ w5_4.toInt) → (w5_4.toInt ≤ 12) → lv_has ls 5 [(0, .ref (ad 129)), (1, .int p), (2, .int i), (3, .int w5_3), (4, .int w5_4)] → WS ad cA (fun i k => False) g0 K g0 H locs → XX K 0 0 H locs 5 ls [] := by
    intro fu5
    induction fu5 with
    | zero => intro w5_3 w5_4 H locs ls h0; omega
    | succ fu5 ih5 =>
      intro w5_3 w5_4 H locs ls hm5 i5_0 i5_1 hl hW
      refine q_iload hM dX12_heardOf_5 (lv_at hl 4 rfl) ?_
      refine q_bipush (v := (12 : Int32)) hM dX12_heardOf_7 (by decide) ?_
      refine q_icmp_ge (tgt := 49) hM dX12_heardOf_9 (by decide) (rfl : w5_4.toInt = w5_4.toInt) (kc_12 : (12 : Int32).toInt = 12) (fun h9 => ?_) (fun h9 => ?_)
      · refine q_iload_n hM dX12_heardOf_49 (lv_at hl 3 rfl) ?_
        exact hE _ _ _ _ _ _ hW.1 ⟨_, rfl, (by trivial), rfl⟩ dX12_heardOf_50
      · refine q_iload_n hM dX12_heardOf_12 (lv_at hl 3 rfl) ?_
        refine q_aload_n hM dX12_heardOf_13 (lv_at hl 0 rfl) ?_
        refine w_get (v := .ref (ad 161)) hM hW FG_X12_109 lb_129 (rf_129_55 hW.2.1) dX12_heardOf_14 ?_
        refine q_bipush (v := (12 : Int32)) hM dX12_heardOf_17 (by decide) ?_
        refine q_iload_n hM dX12_heardOf_19 (lv_at hl 1 rfl) ?_
        refine q_imul hM dX12_heardOf_20 (fun z5551 hz5551 => ?_)
        first | have tz5551 := i_mulT hz5551 (kc_12 : (12 : Int32).toInt = 12) (rfl : p.toInt = p.toInt) (by omega) (by omega) | skip
        refine q_iload hM dX12_heardOf_21 (lv_at hl 4 rfl) ?_
        refine q_iadd hM dX12_heardOf_23 (fun z5552 hz5552 => ?_)
        first | have tz5552 := i_addT hz5552 (rfl : z5551.toInt = z5551.toInt) (rfl : w5_4.toInt = w5_4.toInt) (by omega) (by omega) | skip
        refine w_iald hM hW lb_161 (i_in (by omega) (by omega)) dX12_heardOf_24 ?_
        refine q_top (fun y5553 hy5553 => ?_)
        refine q_aload_n hM dX12_heardOf_25 (lv_at hl 0 rfl) ?_
        refine w_get (v := .ref (ad 133)) hM hW FG_X12_25 lb_129 (rf_129_12 hW.2.1) dX12_heardOf_26 ?_
        refine q_bipush (v := (12 : Int32)) hM dX12_heardOf_29 (by decide) ?_
        refine q_iload hM dX12_heardOf_31 (lv_at hl 4 rfl) ?_
        refine q_imul hM dX12_heardOf_33 (fun z5554 hz5554 => ?_)
        first | have tz5554 := i_mulT hz5554 (kc_12 : (12 : Int32).toInt = 12) (rfl : w5_4.toInt = w5_4.toInt) (by omega) (by omega) | skip
        refine q_iload_n hM dX12_heardOf_34 (lv_at hl 2 rfl) ?_
        refine q_iadd hM dX12_heardOf_35 (fun z5555 hz5555 => ?_)
        first | have tz5555 := i_addT hz5555 (rfl : z5554.toInt = z5554.toInt) (rfl : i.toInt = i.toInt) (by omega) (by omega) | skip
        refine w_iald hM hW lb_133 (i_in (by omega) (by omega)) dX12_heardOf_36 ?_
        refine q_top (fun y5556 hy5556 => ?_)
        refine q_imul hM dX12_heardOf_37 (fun z5557 hz5557 => ?_)
        first | have tz5557 := i_mulT hz5557 (rfl : y5553.toInt = y5553.toInt) (rfl : y5556.toInt = y5556.toInt) (by omega) (by omega) | skip
        refine q_bipush (v := (10 : Int32)) hM dX12_heardOf_38 (by decide) ?_
        refine q_idiv hM (by decide) dX12_heardOf_40 (fun z5558 hz5558 => ?_)
        first | have tz5558 := i_divT hz5558 (rfl : z5557.toInt = z5557.toInt) (kc_10 : (10 : Int32).toInt = 10) (by omega) (by omega) | skip
        refine q_iadd hM dX12_heardOf_41 (fun z5559 hz5559 => ?_)
        first | have tz5559 := i_addT hz5559 (rfl : w5_3.toInt = w5_3.toInt) (rfl : z5558.toInt = z5558.toInt) (by omega) (by omega) | skip
        refine q_istore_n (lv9 := [(3, .int z5559), (0, .ref (ad 129)), (1, .int p), (2, .int i), (4, .int w5_4)]) hM dX12_heardOf_42 hl (by decide) rfl (fun ls hl => ?_)
        refine q_iinc (lv9 := fun z5560 => [(4, .int z5560), (3, .int z5559), (0, .ref (ad 129)), (1, .int p), (2, .int i)]) hM dX12_heardOf_43 hl (kq := 4) rfl (by decide) (fun _ => rfl) (fun z5560 ls hz5560 hl => ?_)
        first | have tz5560 := i_addT hz5560 (rfl : w5_4.toInt = w5_4.toInt) (kc_1 : (Int32.ofInt 1).toInt = 1) (by omega) (by omega) | skip
        refine q_goto (tgt := 5) hM dX12_heardOf_46 (by decide) ?_
        exact ih5 z5559 z5560 _ _ _ (by omega) (by omega) (by omega) (lv_sub hl [2, 3, 4, 1, 0] rfl) hW
  have := kc_0
  have := kc_0
  exact L5 _ (0 : Int32) (0 : Int32) _ _ _ (Nat.lt_succ_self _) (by omega) (by omega) (lv_sub hl [2, 3, 4, 1, 0] rfl) hW

theorem dX12_areFacts_0 : decode cX12_areFacts 0 = .ok (.iload_n 1, 1) := by decide +kernel
theorem dX12_areFacts_1 : decode cX12_areFacts 1 = .ok (.i2l, 1) := by decide +kernel
theorem dX12_areFacts_2 : decode cX12_areFacts 2 = .ok (.lconst 0, 1) := by decide +kernel
theorem dX12_areFacts_3 : decode cX12_areFacts 3 = .ok (.ldc2_w 424, 3) := by decide +kernel
theorem dX12_areFacts_6 : decode cX12_areFacts 6 = .ok (.invokestatic 190, 3) := by decide +kernel
theorem dX12_areFacts_9 : decode cX12_areFacts 9 = .ok (.ifCond .eq 18, 3) := by decide +kernel
theorem dX12_areFacts_12 : decode cX12_areFacts 12 = .ok (.iload_n 1, 1) := by decide +kernel
theorem dX12_areFacts_13 : decode cX12_areFacts 13 = .ok (.aload_n 0, 1) := by decide +kernel
theorem dX12_areFacts_14 : decode cX12_areFacts 14 = .ok (.invokevirtual 222, 3) := by decide +kernel
theorem dX12_areFacts_17 : decode cX12_areFacts 17 = .ok (.iconst (-1), 1) := by decide +kernel
theorem dX12_areFacts_18 : decode cX12_areFacts 18 = .ok (.ixor, 1) := by decide +kernel
theorem dX12_areFacts_19 : decode cX12_areFacts 19 = .ok (.iand, 1) := by decide +kernel
theorem dX12_areFacts_20 : decode cX12_areFacts 20 = .ok (.ifCond .ne 7, 3) := by decide +kernel
theorem dX12_areFacts_23 : decode cX12_areFacts 23 = .ok (.iconst 1, 1) := by decide +kernel
theorem dX12_areFacts_24 : decode cX12_areFacts 24 = .ok (.goto 4, 3) := by decide +kernel
theorem dX12_areFacts_27 : decode cX12_areFacts 27 = .ok (.iconst 0, 1) := by decide +kernel
theorem dX12_areFacts_28 : decode cX12_areFacts 28 = .ok (.ireturn, 1) := by decide +kernel
theorem myX12_toldFacts : MI yX12_toldFacts cX12_toldFacts 3 (some FieldType.int) 0 := ⟨kAW (v_5_8 (List.mem_of_getElem? (i := 0) rfl)) rfl, kAW (v_0_0 (List.mem_of_getElem? (i := 13) rfl)) rfl, kAW (v_5_7 (List.mem_of_getElem? (i := 15) rfl)) rfl, kAW (tp_t2 (List.mem_of_getElem? (i := 5) rfl)) rfl, by decide, by decide, by decide +kernel⟩
set_option maxRecDepth 100000 in
set_option maxHeartbeats 4000000 in
theorem a_X12_areFacts (l : Launch) (D : va_G) (cA : Nat → ClassId) (ad : Nat → Nat) (g0 : Nat → va_E) (s : Int32) (hSh : Shp ad cA g0) (hG : Rng g0) : CT l NN ad cA D yX12_areFacts cX12_areFacts 2 (some FieldType.boolean) (1, 25) [.ref (ad 129), .int s] g0 (PU g0 (fun r => (r.toInt = 1 ∧ 0 ≤ s.toInt ∧ s.toInt < 4096) ∨ r.toInt = 0)) := by
  refine q_enterZ (by decide) (Nat.le_of_ble_eq_true rfl) (fun K H locs ls _ _ hM hW0 hR hC hE hl => ?_)
  have hl : lv_has ls 2 [(0, .ref (ad 129)), (1, .int s)] := hl
  have hW : WS ad cA (fun i k => False) g0 K g0 H locs := ⟨hW0, hSh, FR.rf⟩
  refine q_iload_n hM dX12_areFacts_0 (lv_at hl 1 rfl) ?_
  refine q_i2l hM dX12_areFacts_1 ?_
  have := l_i2l s
  refine q_lconst (v := 0) hM dX12_areFacts_2 (by decide) ?_
  have := kl_0
  refine q_ldc2 (v := 4095) hM (kAW (v_6_3 (List.mem_of_getElem? (i := 1) rfl)) rfl) dX12_areFacts_3 ?_
  have := kl_4095
  refine q_callS (As := [.long s.toInt64, .long (0 : Int64), .long (4095 : Int64)]) (rest := []) hM hW.1 hR hC myX12_lies (kAW (v_5_4 (List.mem_of_getElem? (i := 14) rfl)) rfl) (c_X12_lies _ _ cA ad g0 s.toInt64 (0 : Int64) (4095 : Int64) hW.2.1) ⟨by decide, by decide⟩ rfl rfl hl.1 (Nat.le_of_ble_eq_true rfl) dX12_areFacts_6 (fun v g5562 H locs hp hW1 => ?_)
  obtain ⟨r5561, rfl, hr5561, rfl⟩ := hp
  have hW : WS ad cA (fun i k => False) g0 K g0 H locs := ⟨hW1, hW.2.1, hW.2.2⟩
  refine q_if_eq (tgt := 27) hM dX12_areFacts_9 (by decide) (rfl : r5561.toInt = r5561.toInt) (fun h9 => ?_) (fun h9 => ?_)
  · refine q_iconst (v := (0 : Int32)) hM dX12_areFacts_27 (by decide) ?_
    exact hE _ _ _ _ _ _ hW.1 nz_0 ⟨_, rfl, (by have := kc_0; omega), rfl⟩ dX12_areFacts_28
  · refine q_iload_n hM dX12_areFacts_12 (lv_at hl 1 rfl) ?_
    refine q_aload_n hM dX12_areFacts_13 (lv_at hl 0 rfl) ?_
    refine q_callV (As := []) (rest := [.int s]) hM hW.1 hR hC myX12_toldFacts (kAW (v_5_7 (List.mem_of_getElem? (i := 13) rfl)) rfl) (rfl : vwCl[12]? = some (RX12, TX12, 86)) rfl lb_129.1 (shO hW.2.1 lb_129) (a_X12_toldFacts _ _ cA ad g0  hW.2.1 hG) ⟨by decide, by decide⟩ rfl rfl hl.1 (Nat.le_of_ble_eq_true rfl) dX12_areFacts_14 (fun v g5566 H locs hp hW1 => ?_)
    obtain ⟨r5565, rfl, hr5565, rfl⟩ := hp
    have hW : WS ad cA (fun i k => False) g0 K g0 H locs := ⟨hW1, hW.2.1, hW.2.2⟩
    refine q_iconst (v := ((-1) : Int32)) hM dX12_areFacts_17 (by decide) ?_
    refine q_ixor hM dX12_areFacts_18 (fun z5567 hz5567 => ?_)
    refine q_iand hM dX12_areFacts_19 (fun z5568 hz5568 => ?_)
    refine q_if_ne (tgt := 27) hM dX12_areFacts_20 (by decide) (rfl : z5568.toInt = z5568.toInt) (fun h20 => ?_) (fun h20 => ?_)
    · refine q_iconst (v := (0 : Int32)) hM dX12_areFacts_27 (by decide) ?_
      exact hE _ _ _ _ _ _ hW.1 nz_0 ⟨_, rfl, (by have := kc_0; omega), rfl⟩ dX12_areFacts_28
    · refine q_iconst (v := (1 : Int32)) hM dX12_areFacts_23 (by decide) ?_
      refine q_goto (tgt := 28) hM dX12_areFacts_24 (by decide) ?_
      exact hE _ _ _ _ _ _ hW.1 nz_1 ⟨_, rfl, (by have := kc_1; omega), rfl⟩ dX12_areFacts_28

theorem dX12_areArts_0 : decode cX12_areArts 0 = .ok (.iload_n 1, 1) := by decide +kernel
theorem dX12_areArts_1 : decode cX12_areArts 1 = .ok (.i2l, 1) := by decide +kernel
theorem dX12_areArts_2 : decode cX12_areArts 2 = .ok (.lconst 1, 1) := by decide +kernel
theorem dX12_areArts_3 : decode cX12_areArts 3 = .ok (.ldc2_w 543, 3) := by decide +kernel
theorem dX12_areArts_6 : decode cX12_areArts 6 = .ok (.invokestatic 190, 3) := by decide +kernel
theorem dX12_areArts_9 : decode cX12_areArts 9 = .ok (.ifCond .eq 11, 3) := by decide +kernel
theorem dX12_areArts_12 : decode cX12_areArts 12 = .ok (.iload_n 1, 1) := by decide +kernel
theorem dX12_areArts_13 : decode cX12_areArts 13 = .ok (.invokestatic 215, 3) := by decide +kernel
theorem dX12_areArts_16 : decode cX12_areArts 16 = .ok (.iconst 4, 1) := by decide +kernel
theorem dX12_areArts_17 : decode cX12_areArts 17 = .ok (.if_icmp .le 5, 3) := by decide +kernel
theorem dX12_areArts_20 : decode cX12_areArts 20 = .ok (.iconst 0, 1) := by decide +kernel
theorem dX12_areArts_21 : decode cX12_areArts 21 = .ok (.ireturn, 1) := by decide +kernel
theorem dX12_areArts_22 : decode cX12_areArts 22 = .ok (.iconst 0, 1) := by decide +kernel
theorem dX12_areArts_23 : decode cX12_areArts 23 = .ok (.istore_n 2, 1) := by decide +kernel
theorem dX12_areArts_24 : decode cX12_areArts 24 = .ok (.iload_n 2, 1) := by decide +kernel
theorem dX12_areArts_25 : decode cX12_areArts 25 = .ok (.bipush 6, 2) := by decide +kernel
theorem dX12_areArts_27 : decode cX12_areArts 27 = .ok (.if_icmp .ge 28, 3) := by decide +kernel
theorem dX12_areArts_30 : decode cX12_areArts 30 = .ok (.iload_n 1, 1) := by decide +kernel
theorem dX12_areArts_31 : decode cX12_areArts 31 = .ok (.iload_n 2, 1) := by decide +kernel
theorem dX12_areArts_32 : decode cX12_areArts 32 = .ok (.invokestatic 204, 3) := by decide +kernel
theorem dX12_areArts_35 : decode cX12_areArts 35 = .ok (.ifCond .eq 14, 3) := by decide +kernel
theorem dX12_areArts_38 : decode cX12_areArts 38 = .ok (.aload_n 0, 1) := by decide +kernel
theorem dX12_areArts_39 : decode cX12_areArts 39 = .ok (.getfield 28, 3) := by decide +kernel
theorem dX12_areArts_42 : decode cX12_areArts 42 = .ok (.iload_n 2, 1) := by decide +kernel
theorem dX12_areArts_43 : decode cX12_areArts 43 = .ok (.baload, 1) := by decide +kernel
theorem dX12_areArts_44 : decode cX12_areArts 44 = .ok (.ifCond .ne 5, 3) := by decide +kernel
theorem dX12_areArts_47 : decode cX12_areArts 47 = .ok (.iconst 0, 1) := by decide +kernel
theorem dX12_areArts_48 : decode cX12_areArts 48 = .ok (.ireturn, 1) := by decide +kernel
theorem dX12_areArts_49 : decode cX12_areArts 49 = .ok (.iinc 2 1, 3) := by decide +kernel
theorem dX12_areArts_52 : decode cX12_areArts 52 = .ok (.goto (-28), 3) := by decide +kernel
theorem dX12_areArts_55 : decode cX12_areArts 55 = .ok (.iconst 1, 1) := by decide +kernel
theorem dX12_areArts_56 : decode cX12_areArts 56 = .ok (.ireturn, 1) := by decide +kernel
theorem myX12_sizeOf : MS yX12_sizeOf cX12_sizeOf 3 (some FieldType.int) 1 := ⟨kAW (v_5_7 (List.mem_of_getElem? (i := 0) rfl)) rfl, kAW (v_0_0 (List.mem_of_getElem? (i := 13) rfl)) rfl, kAW (v_5_6 (List.mem_of_getElem? (i := 15) rfl)) rfl, by decide, by decide, by decide +kernel⟩
set_option maxRecDepth 100000 in
set_option maxHeartbeats 4000000 in
theorem a_X12_areArts (l : Launch) (D : va_G) (cA : Nat → ClassId) (ad : Nat → Nat) (g0 : Nat → va_E) (s : Int32) (hSh : Shp ad cA g0) (hG : Rng g0) : CT l NN ad cA D yX12_areArts cX12_areArts 3 (some FieldType.boolean) (1, 25) [.ref (ad 129), .int s] g0 (PU g0 (fun r => (r.toInt = 1 ∧ 1 ≤ s.toInt ∧ s.toInt < 64) ∨ r.toInt = 0)) := by
  refine q_enterZ (by decide) (Nat.le_of_ble_eq_true rfl) (fun K H locs ls _ _ hM hW0 hR hC hE hl => ?_)
  have hl : lv_has ls 3 [(0, .ref (ad 129)), (1, .int s)] := hl
  have hW : WS ad cA (fun i k => False) g0 K g0 H locs := ⟨hW0, hSh, FR.rf⟩
  refine q_iload_n hM dX12_areArts_0 (lv_at hl 1 rfl) ?_
  refine q_i2l hM dX12_areArts_1 ?_
  have := l_i2l s
  refine q_lconst (v := 1) hM dX12_areArts_2 (by decide) ?_
  have := kl_1
  refine q_ldc2 (v := 63) hM (kAW (v_6_12 (List.mem_of_getElem? (i := 14) rfl)) rfl) dX12_areArts_3 ?_
  have := kl_63
  refine q_callS (As := [.long s.toInt64, .long (1 : Int64), .long (63 : Int64)]) (rest := []) hM hW.1 hR hC myX12_lies (kAW (v_5_4 (List.mem_of_getElem? (i := 14) rfl)) rfl) (c_X12_lies _ _ cA ad g0 s.toInt64 (1 : Int64) (63 : Int64) hW.2.1) ⟨by decide, by decide⟩ rfl rfl hl.1 (Nat.le_of_ble_eq_true rfl) dX12_areArts_6 (fun v g5572 H locs hp hW1 => ?_)
  obtain ⟨r5571, rfl, hr5571, rfl⟩ := hp
  have hW : WS ad cA (fun i k => False) g0 K g0 H locs := ⟨hW1, hW.2.1, hW.2.2⟩
  refine q_if_eq (tgt := 20) hM dX12_areArts_9 (by decide) (rfl : r5571.toInt = r5571.toInt) (fun h9 => ?_) (fun h9 => ?_)
  · refine q_iconst (v := (0 : Int32)) hM dX12_areArts_20 (by decide) ?_
    exact hE _ _ _ _ _ _ hW.1 nz_0 ⟨_, rfl, (by have := kc_0; omega), rfl⟩ dX12_areArts_21
  · refine q_iload_n hM dX12_areArts_12 (lv_at hl 1 rfl) ?_
    refine q_callS (As := [.int s]) (rest := []) hM hW.1 hR hC myX12_sizeOf (kAW (v_5_6 (List.mem_of_getElem? (i := 14) rfl)) rfl) (a_X12_sizeOf _ _ cA ad g0 s hW.2.1 hG (by  omega)) ⟨by decide, by decide⟩ rfl rfl hl.1 (Nat.le_of_ble_eq_true rfl) dX12_areArts_13 (fun v g5576 H locs hp hW1 => ?_)
    obtain ⟨r5575, rfl, hr5575, rfl⟩ := hp
    have hW : WS ad cA (fun i k => False) g0 K g0 H locs := ⟨hW1, hW.2.1, hW.2.2⟩
    refine q_iconst (v := (4 : Int32)) hM dX12_areArts_16 (by decide) ?_
    refine q_icmp_le (tgt := 22) hM dX12_areArts_17 (by decide) (rfl : r5575.toInt = r5575.toInt) (kc_4 : (4 : Int32).toInt = 4) (fun h17 => ?_) (fun h17 => ?_)
    · refine q_iconst (v := (0 : Int32)) hM dX12_areArts_22 (by decide) ?_
      refine q_istore_n (lv9 := [(2, .int (0 : Int32)), (0, .ref (ad 129)), (1, .int s)]) hM dX12_areArts_23 hl (by decide) rfl (fun ls hl => ?_)
      have L24 : ∀ (fu24 : Nat) (w24_2 : Int32) (H : Heap) (locs : List Loc) (ls : Array Slot), (6 - w24_2.toInt).toNat < fu24 → (0 ≤ w24_2.toInt) → (w24_2.toInt ≤ 6) → lv_has ls 3 [(0, .ref (ad 129)), (1, .int s), (2, .int w24_2)] → WS ad cA (fun i k => False) g0 K g0 H locs → XX K 0 0 H locs 24 ls [] := by
        intro fu24
        induction fu24 with
        | zero => intro w24_2 H locs ls h0; omega
        | succ fu24 ih24 =>
          intro w24_2 H locs ls hm24 i24_0 i24_1 hl hW
          refine q_iload_n hM dX12_areArts_24 (lv_at hl 2 rfl) ?_
          refine q_bipush (v := (6 : Int32)) hM dX12_areArts_25 (by decide) ?_
          refine q_icmp_ge (tgt := 55) hM dX12_areArts_27 (by decide) (rfl : w24_2.toInt = w24_2.toInt) (kc_6 : (6 : Int32).toInt = 6) (fun h27 => ?_) (fun h27 => ?_)
          · refine q_iconst (v := (1 : Int32)) hM dX12_areArts_55 (by decide) ?_
            exact hE _ _ _ _ _ _ hW.1 nz_1 ⟨_, rfl, (by have := kc_1; omega), rfl⟩ dX12_areArts_56
          · refine q_iload_n hM dX12_areArts_30 (lv_at hl 1 rfl) ?_
            refine q_iload_n hM dX12_areArts_31 (lv_at hl 2 rfl) ?_
            refine q_callS (As := [.int s, .int w24_2]) (rest := []) hM hW.1 hR hC myX12_has (kAW (v_5_6 (List.mem_of_getElem? (i := 7) rfl)) rfl) (c_X12_has _ _ cA ad g0 s w24_2 hW.2.1 (by omega) (by omega)) ⟨by decide, by decide⟩ rfl rfl hl.1 (Nat.le_of_ble_eq_true rfl) dX12_areArts_32 (fun v g5582 H locs hp hW1 => ?_)
            obtain ⟨r5581, rfl, hr5581, rfl⟩ := hp
            have hW : WS ad cA (fun i k => False) g0 K g0 H locs := ⟨hW1, hW.2.1, hW.2.2⟩
            refine q_if_eq (tgt := 49) hM dX12_areArts_35 (by decide) (rfl : r5581.toInt = r5581.toInt) (fun h35 => ?_) (fun h35 => ?_)
            · refine q_iinc (lv9 := fun z5584 => [(2, .int z5584), (0, .ref (ad 129)), (1, .int s)]) hM dX12_areArts_49 hl (kq := 2) rfl (by decide) (fun _ => rfl) (fun z5584 ls hz5584 hl => ?_)
              first | have tz5584 := i_addT hz5584 (rfl : w24_2.toInt = w24_2.toInt) (kc_1 : (Int32.ofInt 1).toInt = 1) (by omega) (by omega) | skip
              refine q_goto (tgt := 24) hM dX12_areArts_52 (by decide) ?_
              exact ih24 z5584 _ _ _ (by omega) (by omega) (by omega) (lv_sub hl [1, 2, 0] rfl) hW
            · refine q_aload_n hM dX12_areArts_38 (lv_at hl 0 rfl) ?_
              refine w_get (v := .ref (ad 134)) hM hW FG_X12_28 lb_129 (rf_129_13 hW.2.1) dX12_areArts_39 ?_
              refine q_iload_n hM dX12_areArts_42 (lv_at hl 2 rfl) ?_
              refine w_zald hM hW lb_134 (i_in (by omega) (by omega)) dX12_areArts_43 ?_
              refine q_top (fun y5586 hy5586 => ?_)
              refine q_if_ne (tgt := 49) hM dX12_areArts_44 (by decide) (rfl : y5586.toInt = y5586.toInt) (fun h44 => ?_) (fun h44 => ?_)
              · refine q_iinc (lv9 := fun z5588 => [(2, .int z5588), (0, .ref (ad 129)), (1, .int s)]) hM dX12_areArts_49 hl (kq := 2) rfl (by decide) (fun _ => rfl) (fun z5588 ls hz5588 hl => ?_)
                first | have tz5588 := i_addT hz5588 (rfl : w24_2.toInt = w24_2.toInt) (kc_1 : (Int32.ofInt 1).toInt = 1) (by omega) (by omega) | skip
                refine q_goto (tgt := 24) hM dX12_areArts_52 (by decide) ?_
                exact ih24 z5588 _ _ _ (by omega) (by omega) (by omega) (lv_sub hl [1, 2, 0] rfl) hW
              · refine q_iconst (v := (0 : Int32)) hM dX12_areArts_47 (by decide) ?_
                exact hE _ _ _ _ _ _ hW.1 nz_0 ⟨_, rfl, (by have := kc_0; omega), rfl⟩ dX12_areArts_48
      have := kc_0
      exact L24 _ (0 : Int32) _ _ _ (Nat.lt_succ_self _) (by omega) (by omega) (lv_sub hl [1, 2, 0] rfl) hW
    · refine q_iconst (v := (0 : Int32)) hM dX12_areArts_20 (by decide) ?_
      exact hE _ _ _ _ _ _ hW.1 nz_0 ⟨_, rfl, (by have := kc_0; omega), rfl⟩ dX12_areArts_21

theorem dX12_arePupils_0 : decode cX12_arePupils 0 = .ok (.iload_n 1, 1) := by decide +kernel
theorem dX12_arePupils_1 : decode cX12_arePupils 1 = .ok (.i2l, 1) := by decide +kernel
theorem dX12_arePupils_2 : decode cX12_arePupils 2 = .ok (.lconst 1, 1) := by decide +kernel
theorem dX12_arePupils_3 : decode cX12_arePupils 3 = .ok (.ldc2_w 561, 3) := by decide +kernel
theorem dX12_arePupils_6 : decode cX12_arePupils 6 = .ok (.invokestatic 190, 3) := by decide +kernel
theorem dX12_arePupils_9 : decode cX12_arePupils 9 = .ok (.ifCond .eq 11, 3) := by decide +kernel
theorem dX12_arePupils_12 : decode cX12_arePupils 12 = .ok (.iload_n 1, 1) := by decide +kernel
theorem dX12_arePupils_13 : decode cX12_arePupils 13 = .ok (.invokestatic 215, 3) := by decide +kernel
theorem dX12_arePupils_16 : decode cX12_arePupils 16 = .ok (.iconst 2, 1) := by decide +kernel
theorem dX12_arePupils_17 : decode cX12_arePupils 17 = .ok (.if_icmp .ge 5, 3) := by decide +kernel
theorem dX12_arePupils_20 : decode cX12_arePupils 20 = .ok (.iconst 0, 1) := by decide +kernel
theorem dX12_arePupils_21 : decode cX12_arePupils 21 = .ok (.ireturn, 1) := by decide +kernel
theorem dX12_arePupils_22 : decode cX12_arePupils 22 = .ok (.iconst 0, 1) := by decide +kernel
theorem dX12_arePupils_23 : decode cX12_arePupils 23 = .ok (.istore_n 2, 1) := by decide +kernel
theorem dX12_arePupils_24 : decode cX12_arePupils 24 = .ok (.iload_n 2, 1) := by decide +kernel
theorem dX12_arePupils_25 : decode cX12_arePupils 25 = .ok (.bipush 8, 2) := by decide +kernel
theorem dX12_arePupils_27 : decode cX12_arePupils 27 = .ok (.if_icmp .ge 28, 3) := by decide +kernel
theorem dX12_arePupils_30 : decode cX12_arePupils 30 = .ok (.iload_n 1, 1) := by decide +kernel
theorem dX12_arePupils_31 : decode cX12_arePupils 31 = .ok (.iload_n 2, 1) := by decide +kernel
theorem dX12_arePupils_32 : decode cX12_arePupils 32 = .ok (.invokestatic 204, 3) := by decide +kernel
theorem dX12_arePupils_35 : decode cX12_arePupils 35 = .ok (.ifCond .eq 14, 3) := by decide +kernel
theorem dX12_arePupils_38 : decode cX12_arePupils 38 = .ok (.aload_n 0, 1) := by decide +kernel
theorem dX12_arePupils_39 : decode cX12_arePupils 39 = .ok (.getfield 100, 3) := by decide +kernel
theorem dX12_arePupils_42 : decode cX12_arePupils 42 = .ok (.iload_n 2, 1) := by decide +kernel
theorem dX12_arePupils_43 : decode cX12_arePupils 43 = .ok (.baload, 1) := by decide +kernel
theorem dX12_arePupils_44 : decode cX12_arePupils 44 = .ok (.ifCond .ne 5, 3) := by decide +kernel
theorem dX12_arePupils_47 : decode cX12_arePupils 47 = .ok (.iconst 0, 1) := by decide +kernel
theorem dX12_arePupils_48 : decode cX12_arePupils 48 = .ok (.ireturn, 1) := by decide +kernel
theorem dX12_arePupils_49 : decode cX12_arePupils 49 = .ok (.iinc 2 1, 3) := by decide +kernel
theorem dX12_arePupils_52 : decode cX12_arePupils 52 = .ok (.goto (-28), 3) := by decide +kernel
theorem dX12_arePupils_55 : decode cX12_arePupils 55 = .ok (.iconst 1, 1) := by decide +kernel
theorem dX12_arePupils_56 : decode cX12_arePupils 56 = .ok (.ireturn, 1) := by decide +kernel
set_option maxRecDepth 100000 in
set_option maxHeartbeats 4000000 in
theorem a_X12_arePupils (l : Launch) (D : va_G) (cA : Nat → ClassId) (ad : Nat → Nat) (g0 : Nat → va_E) (s : Int32) (hSh : Shp ad cA g0) (hG : Rng g0) : CT l NN ad cA D yX12_arePupils cX12_arePupils 3 (some FieldType.boolean) (1, 25) [.ref (ad 129), .int s] g0 (PU g0 (fun r => (r.toInt = 1 ∧ 1 ≤ s.toInt ∧ s.toInt < 256) ∨ r.toInt = 0)) := by
  refine q_enterZ (by decide) (Nat.le_of_ble_eq_true rfl) (fun K H locs ls _ _ hM hW0 hR hC hE hl => ?_)
  have hl : lv_has ls 3 [(0, .ref (ad 129)), (1, .int s)] := hl
  have hW : WS ad cA (fun i k => False) g0 K g0 H locs := ⟨hW0, hSh, FR.rf⟩
  refine q_iload_n hM dX12_arePupils_0 (lv_at hl 1 rfl) ?_
  refine q_i2l hM dX12_arePupils_1 ?_
  have := l_i2l s
  refine q_lconst (v := 1) hM dX12_arePupils_2 (by decide) ?_
  have := kl_1
  refine q_ldc2 (v := 255) hM (kAW (v_7_0 (List.mem_of_getElem? (i := 14) rfl)) rfl) dX12_arePupils_3 ?_
  have := kl_255
  refine q_callS (As := [.long s.toInt64, .long (1 : Int64), .long (255 : Int64)]) (rest := []) hM hW.1 hR hC myX12_lies (kAW (v_5_4 (List.mem_of_getElem? (i := 14) rfl)) rfl) (c_X12_lies _ _ cA ad g0 s.toInt64 (1 : Int64) (255 : Int64) hW.2.1) ⟨by decide, by decide⟩ rfl rfl hl.1 (Nat.le_of_ble_eq_true rfl) dX12_arePupils_6 (fun v g5592 H locs hp hW1 => ?_)
  obtain ⟨r5591, rfl, hr5591, rfl⟩ := hp
  have hW : WS ad cA (fun i k => False) g0 K g0 H locs := ⟨hW1, hW.2.1, hW.2.2⟩
  refine q_if_eq (tgt := 20) hM dX12_arePupils_9 (by decide) (rfl : r5591.toInt = r5591.toInt) (fun h9 => ?_) (fun h9 => ?_)
  · refine q_iconst (v := (0 : Int32)) hM dX12_arePupils_20 (by decide) ?_
    exact hE _ _ _ _ _ _ hW.1 nz_0 ⟨_, rfl, (by have := kc_0; omega), rfl⟩ dX12_arePupils_21
  · refine q_iload_n hM dX12_arePupils_12 (lv_at hl 1 rfl) ?_
    refine q_callS (As := [.int s]) (rest := []) hM hW.1 hR hC myX12_sizeOf (kAW (v_5_6 (List.mem_of_getElem? (i := 14) rfl)) rfl) (a_X12_sizeOf _ _ cA ad g0 s hW.2.1 hG (by  omega)) ⟨by decide, by decide⟩ rfl rfl hl.1 (Nat.le_of_ble_eq_true rfl) dX12_arePupils_13 (fun v g5596 H locs hp hW1 => ?_)
    obtain ⟨r5595, rfl, hr5595, rfl⟩ := hp
    have hW : WS ad cA (fun i k => False) g0 K g0 H locs := ⟨hW1, hW.2.1, hW.2.2⟩
    refine q_iconst (v := (2 : Int32)) hM dX12_arePupils_16 (by decide) ?_
    refine q_icmp_ge (tgt := 22) hM dX12_arePupils_17 (by decide) (rfl : r5595.toInt = r5595.toInt) (kc_2 : (2 : Int32).toInt = 2) (fun h17 => ?_) (fun h17 => ?_)
    · refine q_iconst (v := (0 : Int32)) hM dX12_arePupils_22 (by decide) ?_
      refine q_istore_n (lv9 := [(2, .int (0 : Int32)), (0, .ref (ad 129)), (1, .int s)]) hM dX12_arePupils_23 hl (by decide) rfl (fun ls hl => ?_)
      have L24 : ∀ (fu24 : Nat) (w24_2 : Int32) (H : Heap) (locs : List Loc) (ls : Array Slot), (8 - w24_2.toInt).toNat < fu24 → (0 ≤ w24_2.toInt) → (w24_2.toInt ≤ 8) → lv_has ls 3 [(0, .ref (ad 129)), (1, .int s), (2, .int w24_2)] → WS ad cA (fun i k => False) g0 K g0 H locs → XX K 0 0 H locs 24 ls [] := by
        intro fu24
        induction fu24 with
        | zero => intro w24_2 H locs ls h0; omega
        | succ fu24 ih24 =>
          intro w24_2 H locs ls hm24 i24_0 i24_1 hl hW
          refine q_iload_n hM dX12_arePupils_24 (lv_at hl 2 rfl) ?_
          refine q_bipush (v := (8 : Int32)) hM dX12_arePupils_25 (by decide) ?_
          refine q_icmp_ge (tgt := 55) hM dX12_arePupils_27 (by decide) (rfl : w24_2.toInt = w24_2.toInt) (kc_8 : (8 : Int32).toInt = 8) (fun h27 => ?_) (fun h27 => ?_)
          · refine q_iconst (v := (1 : Int32)) hM dX12_arePupils_55 (by decide) ?_
            exact hE _ _ _ _ _ _ hW.1 nz_1 ⟨_, rfl, (by have := kc_1; omega), rfl⟩ dX12_arePupils_56
          · refine q_iload_n hM dX12_arePupils_30 (lv_at hl 1 rfl) ?_
            refine q_iload_n hM dX12_arePupils_31 (lv_at hl 2 rfl) ?_
            refine q_callS (As := [.int s, .int w24_2]) (rest := []) hM hW.1 hR hC myX12_has (kAW (v_5_6 (List.mem_of_getElem? (i := 7) rfl)) rfl) (c_X12_has _ _ cA ad g0 s w24_2 hW.2.1 (by omega) (by omega)) ⟨by decide, by decide⟩ rfl rfl hl.1 (Nat.le_of_ble_eq_true rfl) dX12_arePupils_32 (fun v g5602 H locs hp hW1 => ?_)
            obtain ⟨r5601, rfl, hr5601, rfl⟩ := hp
            have hW : WS ad cA (fun i k => False) g0 K g0 H locs := ⟨hW1, hW.2.1, hW.2.2⟩
            refine q_if_eq (tgt := 49) hM dX12_arePupils_35 (by decide) (rfl : r5601.toInt = r5601.toInt) (fun h35 => ?_) (fun h35 => ?_)
            · refine q_iinc (lv9 := fun z5604 => [(2, .int z5604), (0, .ref (ad 129)), (1, .int s)]) hM dX12_arePupils_49 hl (kq := 2) rfl (by decide) (fun _ => rfl) (fun z5604 ls hz5604 hl => ?_)
              first | have tz5604 := i_addT hz5604 (rfl : w24_2.toInt = w24_2.toInt) (kc_1 : (Int32.ofInt 1).toInt = 1) (by omega) (by omega) | skip
              refine q_goto (tgt := 24) hM dX12_arePupils_52 (by decide) ?_
              exact ih24 z5604 _ _ _ (by omega) (by omega) (by omega) (lv_sub hl [1, 2, 0] rfl) hW
            · refine q_aload_n hM dX12_arePupils_38 (lv_at hl 0 rfl) ?_
              refine w_get (v := .ref (ad 158)) hM hW FG_X12_100 lb_129 (rf_129_52 hW.2.1) dX12_arePupils_39 ?_
              refine q_iload_n hM dX12_arePupils_42 (lv_at hl 2 rfl) ?_
              refine w_zald hM hW lb_158 (i_in (by omega) (by omega)) dX12_arePupils_43 ?_
              refine q_top (fun y5606 hy5606 => ?_)
              refine q_if_ne (tgt := 49) hM dX12_arePupils_44 (by decide) (rfl : y5606.toInt = y5606.toInt) (fun h44 => ?_) (fun h44 => ?_)
              · refine q_iinc (lv9 := fun z5608 => [(2, .int z5608), (0, .ref (ad 129)), (1, .int s)]) hM dX12_arePupils_49 hl (kq := 2) rfl (by decide) (fun _ => rfl) (fun z5608 ls hz5608 hl => ?_)
                first | have tz5608 := i_addT hz5608 (rfl : w24_2.toInt = w24_2.toInt) (kc_1 : (Int32.ofInt 1).toInt = 1) (by omega) (by omega) | skip
                refine q_goto (tgt := 24) hM dX12_arePupils_52 (by decide) ?_
                exact ih24 z5608 _ _ _ (by omega) (by omega) (by omega) (lv_sub hl [1, 2, 0] rfl) hW
              · refine q_iconst (v := (0 : Int32)) hM dX12_arePupils_47 (by decide) ?_
                exact hE _ _ _ _ _ _ hW.1 nz_0 ⟨_, rfl, (by have := kc_0; omega), rfl⟩ dX12_arePupils_48
      have := kc_0
      exact L24 _ (0 : Int32) _ _ _ (Nat.lt_succ_self _) (by omega) (by omega) (lv_sub hl [1, 2, 0] rfl) hW
    · refine q_iconst (v := (0 : Int32)) hM dX12_arePupils_20 (by decide) ?_
      exact hE _ _ _ _ _ _ hW.1 nz_0 ⟨_, rfl, (by have := kc_0; omega), rfl⟩ dX12_arePupils_21

theorem dX12_areTold_0 : decode cX12_areTold 0 = .ok (.iconst 0, 1) := by decide +kernel
theorem dX12_areTold_1 : decode cX12_areTold 1 = .ok (.istore_n 3, 1) := by decide +kernel
theorem dX12_areTold_2 : decode cX12_areTold 2 = .ok (.iload_n 3, 1) := by decide +kernel
theorem dX12_areTold_3 : decode cX12_areTold 3 = .ok (.bipush 8, 2) := by decide +kernel
theorem dX12_areTold_5 : decode cX12_areTold 5 = .ok (.if_icmp .ge 60, 3) := by decide +kernel
theorem dX12_areTold_8 : decode cX12_areTold 8 = .ok (.iconst 0, 1) := by decide +kernel
theorem dX12_areTold_9 : decode cX12_areTold 9 = .ok (.istore 4, 2) := by decide +kernel
theorem dX12_areTold_11 : decode cX12_areTold 11 = .ok (.iload 4, 2) := by decide +kernel
theorem dX12_areTold_13 : decode cX12_areTold 13 = .ok (.iload_n 3, 1) := by decide +kernel
theorem dX12_areTold_14 : decode cX12_areTold 14 = .ok (.if_icmp .ge 45, 3) := by decide +kernel
theorem dX12_areTold_17 : decode cX12_areTold 17 = .ok (.iload_n 1, 1) := by decide +kernel
theorem dX12_areTold_18 : decode cX12_areTold 18 = .ok (.iload_n 3, 1) := by decide +kernel
theorem dX12_areTold_19 : decode cX12_areTold 19 = .ok (.invokestatic 204, 3) := by decide +kernel
theorem dX12_areTold_22 : decode cX12_areTold 22 = .ok (.ifCond .eq 31, 3) := by decide +kernel
theorem dX12_areTold_25 : decode cX12_areTold 25 = .ok (.iload_n 1, 1) := by decide +kernel
theorem dX12_areTold_26 : decode cX12_areTold 26 = .ok (.iload 4, 2) := by decide +kernel
theorem dX12_areTold_28 : decode cX12_areTold 28 = .ok (.invokestatic 204, 3) := by decide +kernel
theorem dX12_areTold_31 : decode cX12_areTold 31 = .ok (.ifCond .eq 22, 3) := by decide +kernel
theorem dX12_areTold_34 : decode cX12_areTold 34 = .ok (.aload_n 0, 1) := by decide +kernel
theorem dX12_areTold_35 : decode cX12_areTold 35 = .ok (.iload_n 3, 1) := by decide +kernel
theorem dX12_areTold_36 : decode cX12_areTold 36 = .ok (.invokevirtual 413, 3) := by decide +kernel
theorem dX12_areTold_39 : decode cX12_areTold 39 = .ok (.aload_n 0, 1) := by decide +kernel
theorem dX12_areTold_40 : decode cX12_areTold 40 = .ok (.iload 4, 2) := by decide +kernel
theorem dX12_areTold_42 : decode cX12_areTold 42 = .ok (.invokevirtual 413, 3) := by decide +kernel
theorem dX12_areTold_45 : decode cX12_areTold 45 = .ok (.ixor, 1) := by decide +kernel
theorem dX12_areTold_46 : decode cX12_areTold 46 = .ok (.iload_n 2, 1) := by decide +kernel
theorem dX12_areTold_47 : decode cX12_areTold 47 = .ok (.iand, 1) := by decide +kernel
theorem dX12_areTold_48 : decode cX12_areTold 48 = .ok (.ifCond .ne 5, 3) := by decide +kernel
theorem dX12_areTold_51 : decode cX12_areTold 51 = .ok (.iconst 0, 1) := by decide +kernel
theorem dX12_areTold_52 : decode cX12_areTold 52 = .ok (.ireturn, 1) := by decide +kernel
theorem dX12_areTold_53 : decode cX12_areTold 53 = .ok (.iinc 4 1, 3) := by decide +kernel
theorem dX12_areTold_56 : decode cX12_areTold 56 = .ok (.goto (-45), 3) := by decide +kernel
theorem dX12_areTold_59 : decode cX12_areTold 59 = .ok (.iinc 3 1, 3) := by decide +kernel
theorem dX12_areTold_62 : decode cX12_areTold 62 = .ok (.goto (-60), 3) := by decide +kernel
theorem dX12_areTold_65 : decode cX12_areTold 65 = .ok (.iconst 1, 1) := by decide +kernel
theorem dX12_areTold_66 : decode cX12_areTold 66 = .ok (.ireturn, 1) := by decide +kernel
theorem myX12_knownBy : MI yX12_knownBy cX12_knownBy 4 (some FieldType.int) 1 := ⟨kAW (v_6_4 (List.mem_of_getElem? (i := 14) rfl)) rfl, kAW (v_0_0 (List.mem_of_getElem? (i := 13) rfl)) rfl, kAW (v_6_4 (List.mem_of_getElem? (i := 13) rfl)) rfl, kAW (tp_t4 (List.mem_of_getElem? (i := 5) rfl)) rfl, by decide, by decide, by decide +kernel⟩
set_option maxRecDepth 100000 in
set_option maxHeartbeats 4000000 in
theorem a_X12_areTold (l : Launch) (D : va_G) (cA : Nat → ClassId) (ad : Nat → Nat) (g0 : Nat → va_E) (pu : Int32) (fa : Int32) (hSh : Shp ad cA g0) (hG : Rng g0) : CT l NN ad cA D yX12_areTold cX12_areTold 5 (some FieldType.boolean) (1, 23) [.ref (ad 129), .int pu, .int fa] g0 (PU g0 (fun r => r.toInt = 0 ∨ r.toInt = 1)) := by
  refine q_enterZ (by decide) (Nat.le_of_ble_eq_true rfl) (fun K H locs ls _ _ hM hW0 hR hC hE hl => ?_)
  have hl : lv_has ls 5 [(0, .ref (ad 129)), (1, .int pu), (2, .int fa)] := hl
  have hW : WS ad cA (fun i k => False) g0 K g0 H locs := ⟨hW0, hSh, FR.rf⟩
  refine q_iconst (v := (0 : Int32)) hM dX12_areTold_0 (by decide) ?_
  refine q_istore_n (lv9 := [(3, .int (0 : Int32)), (0, .ref (ad 129)), (1, .int pu), (2, .int fa)]) hM dX12_areTold_1 hl (by decide) rfl (fun ls hl => ?_)
  have L2 : ∀ (fu2 : Nat) (w2_3 : Int32) (H : Heap) (locs : List Loc) (ls : Array Slot), (8 - w2_3.toInt).toNat < fu2 → (0 ≤ w2_3.toInt) → (w2_3.toInt ≤ 8) → lv_has ls 5 [(0, .ref (ad 129)), (1, .int pu), (2, .int fa), (3, .int w2_3)] → WS ad cA (fun i k => False) g0 K g0 H locs → XX K 0 0 H locs 2 ls [] := by
    intro fu2
    induction fu2 with
    | zero => intro w2_3 H locs ls h0; omega
    | succ fu2 ih2 =>
      intro w2_3 H locs ls hm2 i2_0 i2_1 hl hW
      refine q_iload_n hM dX12_areTold_2 (lv_at hl 3 rfl) ?_
      refine q_bipush (v := (8 : Int32)) hM dX12_areTold_3 (by decide) ?_
      refine q_icmp_ge (tgt := 65) hM dX12_areTold_5 (by decide) (rfl : w2_3.toInt = w2_3.toInt) (kc_8 : (8 : Int32).toInt = 8) (fun h5 => ?_) (fun h5 => ?_)
      · refine q_iconst (v := (1 : Int32)) hM dX12_areTold_65 (by decide) ?_
        exact hE _ _ _ _ _ _ hW.1 nz_1 ⟨_, rfl, (by have := kc_1; omega), rfl⟩ dX12_areTold_66
      · refine q_iconst (v := (0 : Int32)) hM dX12_areTold_8 (by decide) ?_
        refine q_istore (lv9 := [(4, .int (0 : Int32)), (0, .ref (ad 129)), (1, .int pu), (2, .int fa), (3, .int w2_3)]) hM dX12_areTold_9 hl (by decide) rfl (fun ls hl => ?_)
        have L11 : ∀ (fu11 : Nat) (w11_4 : Int32) (H : Heap) (locs : List Loc) (ls : Array Slot), (w2_3.toInt - w11_4.toInt + 1).toNat < fu11 → (0 ≤ w11_4.toInt) → lv_has ls 5 [(0, .ref (ad 129)), (1, .int pu), (2, .int fa), (3, .int w2_3), (4, .int w11_4)] → WS ad cA (fun i k => False) g0 K g0 H locs → XX K 0 0 H locs 11 ls [] := by
          intro fu11
          induction fu11 with
          | zero => intro w11_4 H locs ls h0; omega
          | succ fu11 ih11 =>
            intro w11_4 H locs ls hm11 i11_0 hl hW
            have := i_rng w2_3
            refine q_iload hM dX12_areTold_11 (lv_at hl 4 rfl) ?_
            refine q_iload_n hM dX12_areTold_13 (lv_at hl 3 rfl) ?_
            refine q_icmp_ge (tgt := 59) hM dX12_areTold_14 (by decide) (rfl : w11_4.toInt = w11_4.toInt) (rfl : w2_3.toInt = w2_3.toInt) (fun h14 => ?_) (fun h14 => ?_)
            · refine q_iinc (lv9 := fun z5616 => [(3, .int z5616), (0, .ref (ad 129)), (1, .int pu), (2, .int fa), (4, .int w11_4)]) hM dX12_areTold_59 hl (kq := 3) rfl (by decide) (fun _ => rfl) (fun z5616 ls hz5616 hl => ?_)
              first | have tz5616 := i_addT hz5616 (rfl : w2_3.toInt = w2_3.toInt) (kc_1 : (Int32.ofInt 1).toInt = 1) (by omega) (by omega) | skip
              refine q_goto (tgt := 2) hM dX12_areTold_62 (by decide) ?_
              exact ih2 z5616 _ _ _ (by omega) (by omega) (by omega) (lv_sub hl [1, 2, 3, 0] rfl) hW
            · refine q_iload_n hM dX12_areTold_17 (lv_at hl 1 rfl) ?_
              refine q_iload_n hM dX12_areTold_18 (lv_at hl 3 rfl) ?_
              refine q_callS (As := [.int pu, .int w2_3]) (rest := []) hM hW.1 hR hC myX12_has (kAW (v_5_6 (List.mem_of_getElem? (i := 7) rfl)) rfl) (c_X12_has _ _ cA ad g0 pu w2_3 hW.2.1 (by omega) (by omega)) ⟨by decide, by decide⟩ rfl rfl hl.1 (Nat.le_of_ble_eq_true rfl) dX12_areTold_19 (fun v g5619 H locs hp hW1 => ?_)
              obtain ⟨r5618, rfl, hr5618, rfl⟩ := hp
              have hW : WS ad cA (fun i k => False) g0 K g0 H locs := ⟨hW1, hW.2.1, hW.2.2⟩
              refine q_if_eq (tgt := 53) hM dX12_areTold_22 (by decide) (rfl : r5618.toInt = r5618.toInt) (fun h22 => ?_) (fun h22 => ?_)
              · refine q_iinc (lv9 := fun z5621 => [(4, .int z5621), (0, .ref (ad 129)), (1, .int pu), (2, .int fa), (3, .int w2_3)]) hM dX12_areTold_53 hl (kq := 4) rfl (by decide) (fun _ => rfl) (fun z5621 ls hz5621 hl => ?_)
                first | have tz5621 := i_addT hz5621 (rfl : w11_4.toInt = w11_4.toInt) (kc_1 : (Int32.ofInt 1).toInt = 1) (by omega) (by omega) | skip
                refine q_goto (tgt := 11) hM dX12_areTold_56 (by decide) ?_
                exact ih11 z5621 _ _ _ (by omega) (by omega) (lv_sub hl [1, 2, 3, 4, 0] rfl) hW
              · refine q_iload_n hM dX12_areTold_25 (lv_at hl 1 rfl) ?_
                refine q_iload hM dX12_areTold_26 (lv_at hl 4 rfl) ?_
                refine q_callS (As := [.int pu, .int w11_4]) (rest := []) hM hW.1 hR hC myX12_has (kAW (v_5_6 (List.mem_of_getElem? (i := 7) rfl)) rfl) (c_X12_has _ _ cA ad g0 pu w11_4 hW.2.1 (by omega) (by omega)) ⟨by decide, by decide⟩ rfl rfl hl.1 (Nat.le_of_ble_eq_true rfl) dX12_areTold_28 (fun v g5624 H locs hp hW1 => ?_)
                obtain ⟨r5623, rfl, hr5623, rfl⟩ := hp
                have hW : WS ad cA (fun i k => False) g0 K g0 H locs := ⟨hW1, hW.2.1, hW.2.2⟩
                refine q_if_eq (tgt := 53) hM dX12_areTold_31 (by decide) (rfl : r5623.toInt = r5623.toInt) (fun h31 => ?_) (fun h31 => ?_)
                · refine q_iinc (lv9 := fun z5626 => [(4, .int z5626), (0, .ref (ad 129)), (1, .int pu), (2, .int fa), (3, .int w2_3)]) hM dX12_areTold_53 hl (kq := 4) rfl (by decide) (fun _ => rfl) (fun z5626 ls hz5626 hl => ?_)
                  first | have tz5626 := i_addT hz5626 (rfl : w11_4.toInt = w11_4.toInt) (kc_1 : (Int32.ofInt 1).toInt = 1) (by omega) (by omega) | skip
                  refine q_goto (tgt := 11) hM dX12_areTold_56 (by decide) ?_
                  exact ih11 z5626 _ _ _ (by omega) (by omega) (lv_sub hl [1, 2, 3, 4, 0] rfl) hW
                · refine q_aload_n hM dX12_areTold_34 (lv_at hl 0 rfl) ?_
                  refine q_iload_n hM dX12_areTold_35 (lv_at hl 3 rfl) ?_
                  refine q_callV (As := [.int w2_3]) (rest := []) hM hW.1 hR hC myX12_knownBy (kAW (v_6_4 (List.mem_of_getElem? (i := 11) rfl)) rfl) (rfl : vwCl[12]? = some (RX12, TX12, 86)) rfl lb_129.1 (shO hW.2.1 lb_129) (a_X12_knownBy _ _ cA ad g0 w2_3 hW.2.1 hG (by  omega) (by  omega)) ⟨by decide, by decide⟩ rfl rfl hl.1 (Nat.le_of_ble_eq_true rfl) dX12_areTold_36 (fun v g5629 H locs hp hW1 => ?_)
                  obtain ⟨r5628, rfl, hr5628, rfl⟩ := hp
                  have hW : WS ad cA (fun i k => False) g0 K g0 H locs := ⟨hW1, hW.2.1, hW.2.2⟩
                  refine q_aload_n hM dX12_areTold_39 (lv_at hl 0 rfl) ?_
                  refine q_iload hM dX12_areTold_40 (lv_at hl 4 rfl) ?_
                  refine q_callV (As := [.int w11_4]) (rest := [.int r5628]) hM hW.1 hR hC myX12_knownBy (kAW (v_6_4 (List.mem_of_getElem? (i := 11) rfl)) rfl) (rfl : vwCl[12]? = some (RX12, TX12, 86)) rfl lb_129.1 (shO hW.2.1 lb_129) (a_X12_knownBy _ _ cA ad g0 w11_4 hW.2.1 hG (by  omega) (by  omega)) ⟨by decide, by decide⟩ rfl rfl hl.1 (Nat.le_of_ble_eq_true rfl) dX12_areTold_42 (fun v g5631 H locs hp hW1 => ?_)
                  obtain ⟨r5630, rfl, hr5630, rfl⟩ := hp
                  have hW : WS ad cA (fun i k => False) g0 K g0 H locs := ⟨hW1, hW.2.1, hW.2.2⟩
                  refine q_ixor hM dX12_areTold_45 (fun z5632 hz5632 => ?_)
                  refine q_iload_n hM dX12_areTold_46 (lv_at hl 2 rfl) ?_
                  refine q_iand hM dX12_areTold_47 (fun z5633 hz5633 => ?_)
                  refine q_if_ne (tgt := 53) hM dX12_areTold_48 (by decide) (rfl : z5633.toInt = z5633.toInt) (fun h48 => ?_) (fun h48 => ?_)
                  · refine q_iinc (lv9 := fun z5635 => [(4, .int z5635), (0, .ref (ad 129)), (1, .int pu), (2, .int fa), (3, .int w2_3)]) hM dX12_areTold_53 hl (kq := 4) rfl (by decide) (fun _ => rfl) (fun z5635 ls hz5635 hl => ?_)
                    first | have tz5635 := i_addT hz5635 (rfl : w11_4.toInt = w11_4.toInt) (kc_1 : (Int32.ofInt 1).toInt = 1) (by omega) (by omega) | skip
                    refine q_goto (tgt := 11) hM dX12_areTold_56 (by decide) ?_
                    exact ih11 z5635 _ _ _ (by omega) (by omega) (lv_sub hl [1, 2, 3, 4, 0] rfl) hW
                  · refine q_iconst (v := (0 : Int32)) hM dX12_areTold_51 (by decide) ?_
                    exact hE _ _ _ _ _ _ hW.1 nz_0 ⟨_, rfl, (by have := kc_0; omega), rfl⟩ dX12_areTold_52
        have := kc_0
        exact L11 _ (0 : Int32) _ _ _ (Nat.lt_succ_self _) (by omega) (lv_sub hl [1, 2, 3, 4, 0] rfl) hW
  have := kc_0
  exact L2 _ (0 : Int32) _ _ _ (Nat.lt_succ_self _) (by omega) (by omega) (lv_sub hl [1, 2, 3, 0] rfl) hW

theorem dX12_remindedIn_0 : decode cX12_remindedIn 0 = .ok (.iconst 0, 1) := by decide +kernel
theorem dX12_remindedIn_1 : decode cX12_remindedIn 1 = .ok (.istore_n 2, 1) := by decide +kernel
theorem dX12_remindedIn_2 : decode cX12_remindedIn 2 = .ok (.iconst 0, 1) := by decide +kernel
theorem dX12_remindedIn_3 : decode cX12_remindedIn 3 = .ok (.istore_n 3, 1) := by decide +kernel
theorem dX12_remindedIn_4 : decode cX12_remindedIn 4 = .ok (.iload_n 3, 1) := by decide +kernel
theorem dX12_remindedIn_5 : decode cX12_remindedIn 5 = .ok (.bipush 8, 2) := by decide +kernel
theorem dX12_remindedIn_7 : decode cX12_remindedIn 7 = .ok (.if_icmp .ge 60, 3) := by decide +kernel
theorem dX12_remindedIn_10 : decode cX12_remindedIn 10 = .ok (.iconst 0, 1) := by decide +kernel
theorem dX12_remindedIn_11 : decode cX12_remindedIn 11 = .ok (.istore 4, 2) := by decide +kernel
theorem dX12_remindedIn_13 : decode cX12_remindedIn 13 = .ok (.iload 4, 2) := by decide +kernel
theorem dX12_remindedIn_15 : decode cX12_remindedIn 15 = .ok (.iload_n 3, 1) := by decide +kernel
theorem dX12_remindedIn_16 : decode cX12_remindedIn 16 = .ok (.if_icmp .ge 45, 3) := by decide +kernel
theorem dX12_remindedIn_19 : decode cX12_remindedIn 19 = .ok (.iload_n 2, 1) := by decide +kernel
theorem dX12_remindedIn_20 : decode cX12_remindedIn 20 = .ok (.iload_n 1, 1) := by decide +kernel
theorem dX12_remindedIn_21 : decode cX12_remindedIn 21 = .ok (.iload_n 3, 1) := by decide +kernel
theorem dX12_remindedIn_22 : decode cX12_remindedIn 22 = .ok (.invokestatic 204, 3) := by decide +kernel
theorem dX12_remindedIn_25 : decode cX12_remindedIn 25 = .ok (.ifCond .eq 27, 3) := by decide +kernel
theorem dX12_remindedIn_28 : decode cX12_remindedIn 28 = .ok (.iload_n 1, 1) := by decide +kernel
theorem dX12_remindedIn_29 : decode cX12_remindedIn 29 = .ok (.iload 4, 2) := by decide +kernel
theorem dX12_remindedIn_31 : decode cX12_remindedIn 31 = .ok (.invokestatic 204, 3) := by decide +kernel
theorem dX12_remindedIn_34 : decode cX12_remindedIn 34 = .ok (.ifCond .eq 18, 3) := by decide +kernel
theorem dX12_remindedIn_37 : decode cX12_remindedIn 37 = .ok (.aload_n 0, 1) := by decide +kernel
theorem dX12_remindedIn_38 : decode cX12_remindedIn 38 = .ok (.getfield 151, 3) := by decide +kernel
theorem dX12_remindedIn_41 : decode cX12_remindedIn 41 = .ok (.bipush 8, 2) := by decide +kernel
theorem dX12_remindedIn_43 : decode cX12_remindedIn 43 = .ok (.iload_n 3, 1) := by decide +kernel
theorem dX12_remindedIn_44 : decode cX12_remindedIn 44 = .ok (.imul, 1) := by decide +kernel
theorem dX12_remindedIn_45 : decode cX12_remindedIn 45 = .ok (.iload 4, 2) := by decide +kernel
theorem dX12_remindedIn_47 : decode cX12_remindedIn 47 = .ok (.iadd, 1) := by decide +kernel
theorem dX12_remindedIn_48 : decode cX12_remindedIn 48 = .ok (.iaload, 1) := by decide +kernel
theorem dX12_remindedIn_49 : decode cX12_remindedIn 49 = .ok (.goto 4, 3) := by decide +kernel
theorem dX12_remindedIn_52 : decode cX12_remindedIn 52 = .ok (.iconst 0, 1) := by decide +kernel
theorem dX12_remindedIn_53 : decode cX12_remindedIn 53 = .ok (.iadd, 1) := by decide +kernel
theorem dX12_remindedIn_54 : decode cX12_remindedIn 54 = .ok (.istore_n 2, 1) := by decide +kernel
theorem dX12_remindedIn_55 : decode cX12_remindedIn 55 = .ok (.iinc 4 1, 3) := by decide +kernel
theorem dX12_remindedIn_58 : decode cX12_remindedIn 58 = .ok (.goto (-45), 3) := by decide +kernel
theorem dX12_remindedIn_61 : decode cX12_remindedIn 61 = .ok (.iinc 3 1, 3) := by decide +kernel
theorem dX12_remindedIn_64 : decode cX12_remindedIn 64 = .ok (.goto (-60), 3) := by decide +kernel
theorem dX12_remindedIn_67 : decode cX12_remindedIn 67 = .ok (.iload_n 2, 1) := by decide +kernel
theorem dX12_remindedIn_68 : decode cX12_remindedIn 68 = .ok (.ireturn, 1) := by decide +kernel
theorem FG_X12_151 : FG RX12 151 12 86 81 := ⟨RX12, TX12, rfl, wX12, by decide, kAW (v_4_7 (List.mem_of_getElem? (i := 14) rfl)) rfl, rfl⟩
set_option maxRecDepth 100000 in
set_option maxHeartbeats 4000000 in
theorem a_X12_remindedIn (l : Launch) (D : va_G) (cA : Nat → ClassId) (ad : Nat → Nat) (g0 : Nat → va_E) (s : Int32) (hSh : Shp ad cA g0) (hG : Rng g0) : CT l NN ad cA D yX12_remindedIn cX12_remindedIn 5 (some FieldType.int) (1, 21) [.ref (ad 129), .int s] g0 (PU g0 (fun r => True)) := by
  refine q_enterI (by decide) (Nat.le_of_ble_eq_true rfl) rfl (fun K H locs ls _ _ hM hW0 hR hC hE hl => ?_)
  have hl : lv_has ls 5 [(0, .ref (ad 129)), (1, .int s)] := hl
  have hW : WS ad cA (fun i k => False) g0 K g0 H locs := ⟨hW0, hSh, FR.rf⟩
  refine q_iconst (v := (0 : Int32)) hM dX12_remindedIn_0 (by decide) ?_
  refine q_istore_n (lv9 := [(2, .int (0 : Int32)), (0, .ref (ad 129)), (1, .int s)]) hM dX12_remindedIn_1 hl (by decide) rfl (fun ls hl => ?_)
  refine q_iconst (v := (0 : Int32)) hM dX12_remindedIn_2 (by decide) ?_
  refine q_istore_n (lv9 := [(3, .int (0 : Int32)), (2, .int (0 : Int32)), (0, .ref (ad 129)), (1, .int s)]) hM dX12_remindedIn_3 hl (by decide) rfl (fun ls hl => ?_)
  have L4 : ∀ (fu4 : Nat) (w4_2 : Int32) (w4_3 : Int32) (H : Heap) (locs : List Loc) (ls : Array Slot), (8 - w4_3.toInt).toNat < fu4 → (0 ≤ w4_3.toInt) → (w4_3.toInt ≤ 8) → lv_has ls 5 [(0, .ref (ad 129)), (1, .int s), (2, .int w4_2), (3, .int w4_3)] → WS ad cA (fun i k => False) g0 K g0 H locs → XX K 0 0 H locs 4 ls [] := by
    intro fu4
    induction fu4 with
    | zero => intro w4_2 w4_3 H locs ls h0; omega
    | succ fu4 ih4 =>
      intro w4_2 w4_3 H locs ls hm4 i4_0 i4_1 hl hW
      refine q_iload_n hM dX12_remindedIn_4 (lv_at hl 3 rfl) ?_
      refine q_bipush (v := (8 : Int32)) hM dX12_remindedIn_5 (by decide) ?_
      refine q_icmp_ge (tgt := 67) hM dX12_remindedIn_7 (by decide) (rfl : w4_3.toInt = w4_3.toInt) (kc_8 : (8 : Int32).toInt = 8) (fun h7 => ?_) (fun h7 => ?_)
      · refine q_iload_n hM dX12_remindedIn_67 (lv_at hl 2 rfl) ?_
        exact hE _ _ _ _ _ _ hW.1 ⟨_, rfl, (by trivial), rfl⟩ dX12_remindedIn_68
      · refine q_iconst (v := (0 : Int32)) hM dX12_remindedIn_10 (by decide) ?_
        refine q_istore (lv9 := [(4, .int (0 : Int32)), (0, .ref (ad 129)), (1, .int s), (2, .int w4_2), (3, .int w4_3)]) hM dX12_remindedIn_11 hl (by decide) rfl (fun ls hl => ?_)
        have L13 : ∀ (fu13 : Nat) (w13_2 : Int32) (w13_4 : Int32) (H : Heap) (locs : List Loc) (ls : Array Slot), (w4_3.toInt - w13_4.toInt + 1).toNat < fu13 → (0 ≤ w13_4.toInt) → lv_has ls 5 [(0, .ref (ad 129)), (1, .int s), (2, .int w13_2), (3, .int w4_3), (4, .int w13_4)] → WS ad cA (fun i k => False) g0 K g0 H locs → XX K 0 0 H locs 13 ls [] := by
          intro fu13
          induction fu13 with
          | zero => intro w13_2 w13_4 H locs ls h0; omega
          | succ fu13 ih13 =>
            intro w13_2 w13_4 H locs ls hm13 i13_0 hl hW
            have := i_rng w4_3
            refine q_iload hM dX12_remindedIn_13 (lv_at hl 4 rfl) ?_
            refine q_iload_n hM dX12_remindedIn_15 (lv_at hl 3 rfl) ?_
            refine q_icmp_ge (tgt := 61) hM dX12_remindedIn_16 (by decide) (rfl : w13_4.toInt = w13_4.toInt) (rfl : w4_3.toInt = w4_3.toInt) (fun h16 => ?_) (fun h16 => ?_)
            · refine q_iinc (lv9 := fun z5642 => [(3, .int z5642), (0, .ref (ad 129)), (1, .int s), (2, .int w13_2), (4, .int w13_4)]) hM dX12_remindedIn_61 hl (kq := 3) rfl (by decide) (fun _ => rfl) (fun z5642 ls hz5642 hl => ?_)
              first | have tz5642 := i_addT hz5642 (rfl : w4_3.toInt = w4_3.toInt) (kc_1 : (Int32.ofInt 1).toInt = 1) (by omega) (by omega) | skip
              refine q_goto (tgt := 4) hM dX12_remindedIn_64 (by decide) ?_
              exact ih4 w13_2 z5642 _ _ _ (by omega) (by omega) (by omega) (lv_sub hl [1, 2, 3, 0] rfl) hW
            · refine q_iload_n hM dX12_remindedIn_19 (lv_at hl 2 rfl) ?_
              refine q_iload_n hM dX12_remindedIn_20 (lv_at hl 1 rfl) ?_
              refine q_iload_n hM dX12_remindedIn_21 (lv_at hl 3 rfl) ?_
              refine q_callS (As := [.int s, .int w4_3]) (rest := [.int w13_2]) hM hW.1 hR hC myX12_has (kAW (v_5_6 (List.mem_of_getElem? (i := 7) rfl)) rfl) (c_X12_has _ _ cA ad g0 s w4_3 hW.2.1 (by omega) (by omega)) ⟨by decide, by decide⟩ rfl rfl hl.1 (Nat.le_of_ble_eq_true rfl) dX12_remindedIn_22 (fun v g5645 H locs hp hW1 => ?_)
              obtain ⟨r5644, rfl, hr5644, rfl⟩ := hp
              have hW : WS ad cA (fun i k => False) g0 K g0 H locs := ⟨hW1, hW.2.1, hW.2.2⟩
              refine q_if_eq (tgt := 52) hM dX12_remindedIn_25 (by decide) (rfl : r5644.toInt = r5644.toInt) (fun h25 => ?_) (fun h25 => ?_)
              · refine q_iconst (v := (0 : Int32)) hM dX12_remindedIn_52 (by decide) ?_
                refine q_iadd hM dX12_remindedIn_53 (fun z5647 hz5647 => ?_)
                first | have tz5647 := i_addT hz5647 (rfl : w13_2.toInt = w13_2.toInt) (kc_0 : (0 : Int32).toInt = 0) (by omega) (by omega) | skip
                refine q_istore_n (lv9 := [(2, .int z5647), (0, .ref (ad 129)), (1, .int s), (3, .int w4_3), (4, .int w13_4)]) hM dX12_remindedIn_54 hl (by decide) rfl (fun ls hl => ?_)
                refine q_iinc (lv9 := fun z5648 => [(4, .int z5648), (2, .int z5647), (0, .ref (ad 129)), (1, .int s), (3, .int w4_3)]) hM dX12_remindedIn_55 hl (kq := 4) rfl (by decide) (fun _ => rfl) (fun z5648 ls hz5648 hl => ?_)
                first | have tz5648 := i_addT hz5648 (rfl : w13_4.toInt = w13_4.toInt) (kc_1 : (Int32.ofInt 1).toInt = 1) (by omega) (by omega) | skip
                refine q_goto (tgt := 13) hM dX12_remindedIn_58 (by decide) ?_
                exact ih13 z5647 z5648 _ _ _ (by omega) (by omega) (lv_sub hl [2, 3, 1, 4, 0] rfl) hW
              · refine q_iload_n hM dX12_remindedIn_28 (lv_at hl 1 rfl) ?_
                refine q_iload hM dX12_remindedIn_29 (lv_at hl 4 rfl) ?_
                refine q_callS (As := [.int s, .int w13_4]) (rest := [.int w13_2]) hM hW.1 hR hC myX12_has (kAW (v_5_6 (List.mem_of_getElem? (i := 7) rfl)) rfl) (c_X12_has _ _ cA ad g0 s w13_4 hW.2.1 (by omega) (by omega)) ⟨by decide, by decide⟩ rfl rfl hl.1 (Nat.le_of_ble_eq_true rfl) dX12_remindedIn_31 (fun v g5651 H locs hp hW1 => ?_)
                obtain ⟨r5650, rfl, hr5650, rfl⟩ := hp
                have hW : WS ad cA (fun i k => False) g0 K g0 H locs := ⟨hW1, hW.2.1, hW.2.2⟩
                refine q_if_eq (tgt := 52) hM dX12_remindedIn_34 (by decide) (rfl : r5650.toInt = r5650.toInt) (fun h34 => ?_) (fun h34 => ?_)
                · refine q_iconst (v := (0 : Int32)) hM dX12_remindedIn_52 (by decide) ?_
                  refine q_iadd hM dX12_remindedIn_53 (fun z5653 hz5653 => ?_)
                  first | have tz5653 := i_addT hz5653 (rfl : w13_2.toInt = w13_2.toInt) (kc_0 : (0 : Int32).toInt = 0) (by omega) (by omega) | skip
                  refine q_istore_n (lv9 := [(2, .int z5653), (0, .ref (ad 129)), (1, .int s), (3, .int w4_3), (4, .int w13_4)]) hM dX12_remindedIn_54 hl (by decide) rfl (fun ls hl => ?_)
                  refine q_iinc (lv9 := fun z5654 => [(4, .int z5654), (2, .int z5653), (0, .ref (ad 129)), (1, .int s), (3, .int w4_3)]) hM dX12_remindedIn_55 hl (kq := 4) rfl (by decide) (fun _ => rfl) (fun z5654 ls hz5654 hl => ?_)
                  first | have tz5654 := i_addT hz5654 (rfl : w13_4.toInt = w13_4.toInt) (kc_1 : (Int32.ofInt 1).toInt = 1) (by omega) (by omega) | skip
                  refine q_goto (tgt := 13) hM dX12_remindedIn_58 (by decide) ?_
                  exact ih13 z5653 z5654 _ _ _ (by omega) (by omega) (lv_sub hl [2, 3, 1, 4, 0] rfl) hW
                · refine q_aload_n hM dX12_remindedIn_37 (lv_at hl 0 rfl) ?_
                  refine w_get (v := .ref (ad 175)) hM hW FG_X12_151 lb_129 (rf_129_81 hW.2.1) dX12_remindedIn_38 ?_
                  refine q_bipush (v := (8 : Int32)) hM dX12_remindedIn_41 (by decide) ?_
                  refine q_iload_n hM dX12_remindedIn_43 (lv_at hl 3 rfl) ?_
                  refine q_imul hM dX12_remindedIn_44 (fun z5656 hz5656 => ?_)
                  first | have tz5656 := i_mulT hz5656 (kc_8 : (8 : Int32).toInt = 8) (rfl : w4_3.toInt = w4_3.toInt) (by omega) (by omega) | skip
                  refine q_iload hM dX12_remindedIn_45 (lv_at hl 4 rfl) ?_
                  refine q_iadd hM dX12_remindedIn_47 (fun z5657 hz5657 => ?_)
                  first | have tz5657 := i_addT hz5657 (rfl : z5656.toInt = z5656.toInt) (rfl : w13_4.toInt = w13_4.toInt) (by omega) (by omega) | skip
                  refine w_iald hM hW lb_175 (i_in (by omega) (by omega)) dX12_remindedIn_48 ?_
                  refine q_top (fun y5658 hy5658 => ?_)
                  refine q_goto (tgt := 53) hM dX12_remindedIn_49 (by decide) ?_
                  refine q_iadd hM dX12_remindedIn_53 (fun z5659 hz5659 => ?_)
                  first | have tz5659 := i_addT hz5659 (rfl : w13_2.toInt = w13_2.toInt) (rfl : y5658.toInt = y5658.toInt) (by omega) (by omega) | skip
                  refine q_istore_n (lv9 := [(2, .int z5659), (0, .ref (ad 129)), (1, .int s), (3, .int w4_3), (4, .int w13_4)]) hM dX12_remindedIn_54 hl (by decide) rfl (fun ls hl => ?_)
                  refine q_iinc (lv9 := fun z5660 => [(4, .int z5660), (2, .int z5659), (0, .ref (ad 129)), (1, .int s), (3, .int w4_3)]) hM dX12_remindedIn_55 hl (kq := 4) rfl (by decide) (fun _ => rfl) (fun z5660 ls hz5660 hl => ?_)
                  first | have tz5660 := i_addT hz5660 (rfl : w13_4.toInt = w13_4.toInt) (kc_1 : (Int32.ofInt 1).toInt = 1) (by omega) (by omega) | skip
                  refine q_goto (tgt := 13) hM dX12_remindedIn_58 (by decide) ?_
                  exact ih13 z5659 z5660 _ _ _ (by omega) (by omega) (lv_sub hl [2, 3, 1, 4, 0] rfl) hW
        have := kc_0
        exact L13 _ w4_2 (0 : Int32) _ _ _ (Nat.lt_succ_self _) (by omega) (lv_sub hl [1, 2, 3, 4, 0] rfl) hW
  have := kc_0
  have := kc_0
  exact L4 _ (0 : Int32) (0 : Int32) _ _ _ (Nat.lt_succ_self _) (by omega) (by omega) (lv_sub hl [2, 3, 1, 0] rfl) hW

theorem dX12_isLinked_0 : decode cX12_isLinked 0 = .ok (.aload_n 0, 1) := by decide +kernel
theorem dX12_isLinked_1 : decode cX12_isLinked 1 = .ok (.getfield 25, 3) := by decide +kernel
theorem dX12_isLinked_4 : decode cX12_isLinked 4 = .ok (.bipush 12, 2) := by decide +kernel
theorem dX12_isLinked_6 : decode cX12_isLinked 6 = .ok (.iload_n 1, 1) := by decide +kernel
theorem dX12_isLinked_7 : decode cX12_isLinked 7 = .ok (.imul, 1) := by decide +kernel
theorem dX12_isLinked_8 : decode cX12_isLinked 8 = .ok (.iload_n 2, 1) := by decide +kernel
theorem dX12_isLinked_9 : decode cX12_isLinked 9 = .ok (.iadd, 1) := by decide +kernel
theorem dX12_isLinked_10 : decode cX12_isLinked 10 = .ok (.iaload, 1) := by decide +kernel
theorem dX12_isLinked_11 : decode cX12_isLinked 11 = .ok (.iload_n 3, 1) := by decide +kernel
theorem dX12_isLinked_12 : decode cX12_isLinked 12 = .ok (.if_icmp .lt 7, 3) := by decide +kernel
theorem dX12_isLinked_15 : decode cX12_isLinked 15 = .ok (.iconst 1, 1) := by decide +kernel
theorem dX12_isLinked_16 : decode cX12_isLinked 16 = .ok (.goto 4, 3) := by decide +kernel
theorem dX12_isLinked_19 : decode cX12_isLinked 19 = .ok (.iconst 0, 1) := by decide +kernel
theorem dX12_isLinked_20 : decode cX12_isLinked 20 = .ok (.ireturn, 1) := by decide +kernel
set_option maxRecDepth 100000 in
set_option maxHeartbeats 4000000 in
theorem a_X12_isLinked (l : Launch) (D : va_G) (cA : Nat → ClassId) (ad : Nat → Nat) (g0 : Nat → va_E) (i : Int32) (j : Int32) (le : Int32) (hSh : Shp ad cA g0) (hG : Rng g0) (i0 : 0 ≤ i.toInt) (i12 : i.toInt < 12) (j0 : 0 ≤ j.toInt) (j12 : j.toInt < 12) : CT l NN ad cA D yX12_isLinked cX12_isLinked 4 (some FieldType.boolean) (0, 0) [.ref (ad 129), .int i, .int j, .int le] g0 (PU g0 (fun r => r.toInt = 0 ∨ r.toInt = 1)) := by
  refine q_enterZ (by decide) (Nat.le_of_ble_eq_true rfl) (fun K H locs ls _ _ hM hW0 hR hC hE hl => ?_)
  have hl : lv_has ls 4 [(0, .ref (ad 129)), (1, .int i), (2, .int j), (3, .int le)] := hl
  have hW : WS ad cA (fun i k => False) g0 K g0 H locs := ⟨hW0, hSh, FR.rf⟩
  refine q_aload_n hM dX12_isLinked_0 (lv_at hl 0 rfl) ?_
  refine w_get (v := .ref (ad 133)) hM hW FG_X12_25 lb_129 (rf_129_12 hW.2.1) dX12_isLinked_1 ?_
  refine q_bipush (v := (12 : Int32)) hM dX12_isLinked_4 (by decide) ?_
  refine q_iload_n hM dX12_isLinked_6 (lv_at hl 1 rfl) ?_
  refine q_imul hM dX12_isLinked_7 (fun z5661 hz5661 => ?_)
  first | have tz5661 := i_mulT hz5661 (kc_12 : (12 : Int32).toInt = 12) (rfl : i.toInt = i.toInt) (by omega) (by omega) | skip
  refine q_iload_n hM dX12_isLinked_8 (lv_at hl 2 rfl) ?_
  refine q_iadd hM dX12_isLinked_9 (fun z5662 hz5662 => ?_)
  first | have tz5662 := i_addT hz5662 (rfl : z5661.toInt = z5661.toInt) (rfl : j.toInt = j.toInt) (by omega) (by omega) | skip
  refine w_iald hM hW lb_133 (i_in (by omega) (by omega)) dX12_isLinked_10 ?_
  refine q_top (fun y5663 hy5663 => ?_)
  refine q_iload_n hM dX12_isLinked_11 (lv_at hl 3 rfl) ?_
  refine q_icmp_lt (tgt := 19) hM dX12_isLinked_12 (by decide) (rfl : y5663.toInt = y5663.toInt) (rfl : le.toInt = le.toInt) (fun h12 => ?_) (fun h12 => ?_)
  · refine q_iconst (v := (0 : Int32)) hM dX12_isLinked_19 (by decide) ?_
    exact hE _ _ _ _ _ _ hW.1 nz_0 ⟨_, rfl, (by have := kc_0; omega), rfl⟩ dX12_isLinked_20
  · refine q_iconst (v := (1 : Int32)) hM dX12_isLinked_15 (by decide) ?_
    refine q_goto (tgt := 20) hM dX12_isLinked_16 (by decide) ?_
    exact hE _ _ _ _ _ _ hW.1 nz_1 ⟨_, rfl, (by have := kc_1; omega), rfl⟩ dX12_isLinked_20

theorem dX12_between_0 : decode cX12_between 0 = .ok (.iconst 0, 1) := by decide +kernel
theorem dX12_between_1 : decode cX12_between 1 = .ok (.istore 4, 2) := by decide +kernel
theorem dX12_between_3 : decode cX12_between 3 = .ok (.iconst 0, 1) := by decide +kernel
theorem dX12_between_4 : decode cX12_between 4 = .ok (.istore 5, 2) := by decide +kernel
theorem dX12_between_6 : decode cX12_between 6 = .ok (.iload 5, 2) := by decide +kernel
theorem dX12_between_8 : decode cX12_between 8 = .ok (.bipush 12, 2) := by decide +kernel
theorem dX12_between_10 : decode cX12_between 10 = .ok (.if_icmp .ge 50, 3) := by decide +kernel
theorem dX12_between_13 : decode cX12_between 13 = .ok (.aload_n 0, 1) := by decide +kernel
theorem dX12_between_14 : decode cX12_between 14 = .ok (.getfield 17, 3) := by decide +kernel
theorem dX12_between_17 : decode cX12_between 17 = .ok (.iload 5, 2) := by decide +kernel
theorem dX12_between_19 : decode cX12_between 19 = .ok (.baload, 1) := by decide +kernel
theorem dX12_between_20 : decode cX12_between 20 = .ok (.ifCond .eq 34, 3) := by decide +kernel
theorem dX12_between_23 : decode cX12_between 23 = .ok (.aload_n 0, 1) := by decide +kernel
theorem dX12_between_24 : decode cX12_between 24 = .ok (.iload_n 1, 1) := by decide +kernel
theorem dX12_between_25 : decode cX12_between 25 = .ok (.iload 5, 2) := by decide +kernel
theorem dX12_between_27 : decode cX12_between 27 = .ok (.iload_n 3, 1) := by decide +kernel
theorem dX12_between_28 : decode cX12_between 28 = .ok (.invokevirtual 583, 3) := by decide +kernel
theorem dX12_between_31 : decode cX12_between 31 = .ok (.ifCond .eq 23, 3) := by decide +kernel
theorem dX12_between_34 : decode cX12_between 34 = .ok (.aload_n 0, 1) := by decide +kernel
theorem dX12_between_35 : decode cX12_between 35 = .ok (.iload 5, 2) := by decide +kernel
theorem dX12_between_37 : decode cX12_between 37 = .ok (.iload_n 2, 1) := by decide +kernel
theorem dX12_between_38 : decode cX12_between 38 = .ok (.iload_n 3, 1) := by decide +kernel
theorem dX12_between_39 : decode cX12_between 39 = .ok (.invokevirtual 583, 3) := by decide +kernel
theorem dX12_between_42 : decode cX12_between 42 = .ok (.ifCond .eq 12, 3) := by decide +kernel
theorem dX12_between_45 : decode cX12_between 45 = .ok (.iload 4, 2) := by decide +kernel
theorem dX12_between_47 : decode cX12_between 47 = .ok (.iconst 1, 1) := by decide +kernel
theorem dX12_between_48 : decode cX12_between 48 = .ok (.iload 5, 2) := by decide +kernel
theorem dX12_between_50 : decode cX12_between 50 = .ok (.ishl, 1) := by decide +kernel
theorem dX12_between_51 : decode cX12_between 51 = .ok (.ior, 1) := by decide +kernel
theorem dX12_between_52 : decode cX12_between 52 = .ok (.istore 4, 2) := by decide +kernel
theorem dX12_between_54 : decode cX12_between 54 = .ok (.iinc 5 1, 3) := by decide +kernel
theorem dX12_between_57 : decode cX12_between 57 = .ok (.goto (-51), 3) := by decide +kernel
theorem dX12_between_60 : decode cX12_between 60 = .ok (.iload 4, 2) := by decide +kernel
theorem dX12_between_62 : decode cX12_between 62 = .ok (.ireturn, 1) := by decide +kernel
theorem myX12_isLinked : MI yX12_isLinked cX12_isLinked 4 (some FieldType.boolean) 3 := ⟨kAW (v_7_4 (List.mem_of_getElem? (i := 2) rfl)) rfl, kAW (v_0_0 (List.mem_of_getElem? (i := 13) rfl)) rfl, kAW (v_7_4 (List.mem_of_getElem? (i := 1) rfl)) rfl, kAW (tp_t6 (List.mem_of_getElem? (i := 10) rfl)) rfl, by decide, by decide, by decide +kernel⟩
set_option maxRecDepth 100000 in
set_option maxHeartbeats 4000000 in
theorem a_X12_between (l : Launch) (D : va_G) (cA : Nat → ClassId) (ad : Nat → Nat) (g0 : Nat → va_E) (i : Int32) (j : Int32) (le : Int32) (hSh : Shp ad cA g0) (hG : Rng g0) (i0 : 0 ≤ i.toInt) (i12 : i.toInt < 12) (j0 : 0 ≤ j.toInt) (j12 : j.toInt < 12) : CT l NN ad cA D yX12_between cX12_between 6 (some FieldType.int) (1, 23) [.ref (ad 129), .int i, .int j, .int le] g0 (PU g0 (fun r => 0 ≤ r.toInt ∧ r.toInt < 4096)) := by
  refine q_enterI (by decide) (Nat.le_of_ble_eq_true rfl) rfl (fun K H locs ls _ _ hM hW0 hR hC hE hl => ?_)
  have hl : lv_has ls 6 [(0, .ref (ad 129)), (1, .int i), (2, .int j), (3, .int le)] := hl
  have hW : WS ad cA (fun i k => False) g0 K g0 H locs := ⟨hW0, hSh, FR.rf⟩
  refine q_iconst (v := (0 : Int32)) hM dX12_between_0 (by decide) ?_
  refine q_istore (lv9 := [(4, .int (0 : Int32)), (0, .ref (ad 129)), (1, .int i), (2, .int j), (3, .int le)]) hM dX12_between_1 hl (by decide) rfl (fun ls hl => ?_)
  refine q_iconst (v := (0 : Int32)) hM dX12_between_3 (by decide) ?_
  refine q_istore (lv9 := [(5, .int (0 : Int32)), (4, .int (0 : Int32)), (0, .ref (ad 129)), (1, .int i), (2, .int j), (3, .int le)]) hM dX12_between_4 hl (by decide) rfl (fun ls hl => ?_)
  have L6 : ∀ (fu6 : Nat) (w6_4 : Int32) (w6_5 : Int32) (H : Heap) (locs : List Loc) (ls : Array Slot), (12 - w6_5.toInt).toNat < fu6 → (0 ≤ w6_5.toInt) → (w6_5.toInt ≤ 12) → (0 ≤ w6_4.toInt) → (w6_4.toInt < 4096) → lv_has ls 6 [(0, .ref (ad 129)), (1, .int i), (2, .int j), (3, .int le), (4, .int w6_4), (5, .int w6_5)] → WS ad cA (fun i k => False) g0 K g0 H locs → XX K 0 0 H locs 6 ls [] := by
    intro fu6
    induction fu6 with
    | zero => intro w6_4 w6_5 H locs ls h0; omega
    | succ fu6 ih6 =>
      intro w6_4 w6_5 H locs ls hm6 i6_0 i6_1 i6_2 i6_3 hl hW
      refine q_iload hM dX12_between_6 (lv_at hl 5 rfl) ?_
      refine q_bipush (v := (12 : Int32)) hM dX12_between_8 (by decide) ?_
      refine q_icmp_ge (tgt := 60) hM dX12_between_10 (by decide) (rfl : w6_5.toInt = w6_5.toInt) (kc_12 : (12 : Int32).toInt = 12) (fun h10 => ?_) (fun h10 => ?_)
      · refine q_iload hM dX12_between_60 (lv_at hl 4 rfl) ?_
        exact hE _ _ _ _ _ _ hW.1 ⟨_, rfl, (by omega), rfl⟩ dX12_between_62
      · refine q_aload_n hM dX12_between_13 (lv_at hl 0 rfl) ?_
        refine w_get (v := .ref (ad 131)) hM hW FG_X12_17 lb_129 (rf_129_10 hW.2.1) dX12_between_14 ?_
        refine q_iload hM dX12_between_17 (lv_at hl 5 rfl) ?_
        refine w_zald hM hW lb_131 (i_in (by omega) (by omega)) dX12_between_19 ?_
        refine q_top (fun y5669 hy5669 => ?_)
        refine q_if_eq (tgt := 54) hM dX12_between_20 (by decide) (rfl : y5669.toInt = y5669.toInt) (fun h20 => ?_) (fun h20 => ?_)
        · refine q_iinc (lv9 := fun z5671 => [(5, .int z5671), (0, .ref (ad 129)), (1, .int i), (2, .int j), (3, .int le), (4, .int w6_4)]) hM dX12_between_54 hl (kq := 5) rfl (by decide) (fun _ => rfl) (fun z5671 ls hz5671 hl => ?_)
          first | have tz5671 := i_addT hz5671 (rfl : w6_5.toInt = w6_5.toInt) (kc_1 : (Int32.ofInt 1).toInt = 1) (by omega) (by omega) | skip
          refine q_goto (tgt := 6) hM dX12_between_57 (by decide) ?_
          exact ih6 w6_4 z5671 _ _ _ (by omega) (by omega) (by omega) (by omega) (by omega) (lv_sub hl [1, 2, 3, 4, 5, 0] rfl) hW
        · refine q_aload_n hM dX12_between_23 (lv_at hl 0 rfl) ?_
          refine q_iload_n hM dX12_between_24 (lv_at hl 1 rfl) ?_
          refine q_iload hM dX12_between_25 (lv_at hl 5 rfl) ?_
          refine q_iload_n hM dX12_between_27 (lv_at hl 3 rfl) ?_
          refine q_callV (As := [.int i, .int w6_5, .int le]) (rest := []) hM hW.1 hR hC myX12_isLinked (kAW (v_7_3 (List.mem_of_getElem? (i := 15) rfl)) rfl) (rfl : vwCl[12]? = some (RX12, TX12, 86)) rfl lb_129.1 (shO hW.2.1 lb_129) (a_X12_isLinked _ _ cA ad g0 i w6_5 le hW.2.1 hG (by  omega) (by  omega) (by  omega) (by  omega)) ⟨by decide, by decide⟩ rfl rfl hl.1 (Nat.le_of_ble_eq_true rfl) dX12_between_28 (fun v g5674 H locs hp hW1 => ?_)
          obtain ⟨r5673, rfl, hr5673, rfl⟩ := hp
          have hW : WS ad cA (fun i k => False) g0 K g0 H locs := ⟨hW1, hW.2.1, hW.2.2⟩
          refine q_if_eq (tgt := 54) hM dX12_between_31 (by decide) (rfl : r5673.toInt = r5673.toInt) (fun h31 => ?_) (fun h31 => ?_)
          · refine q_iinc (lv9 := fun z5676 => [(5, .int z5676), (0, .ref (ad 129)), (1, .int i), (2, .int j), (3, .int le), (4, .int w6_4)]) hM dX12_between_54 hl (kq := 5) rfl (by decide) (fun _ => rfl) (fun z5676 ls hz5676 hl => ?_)
            first | have tz5676 := i_addT hz5676 (rfl : w6_5.toInt = w6_5.toInt) (kc_1 : (Int32.ofInt 1).toInt = 1) (by omega) (by omega) | skip
            refine q_goto (tgt := 6) hM dX12_between_57 (by decide) ?_
            exact ih6 w6_4 z5676 _ _ _ (by omega) (by omega) (by omega) (by omega) (by omega) (lv_sub hl [1, 2, 3, 4, 5, 0] rfl) hW
          · refine q_aload_n hM dX12_between_34 (lv_at hl 0 rfl) ?_
            refine q_iload hM dX12_between_35 (lv_at hl 5 rfl) ?_
            refine q_iload_n hM dX12_between_37 (lv_at hl 2 rfl) ?_
            refine q_iload_n hM dX12_between_38 (lv_at hl 3 rfl) ?_
            refine q_callV (As := [.int w6_5, .int j, .int le]) (rest := []) hM hW.1 hR hC myX12_isLinked (kAW (v_7_3 (List.mem_of_getElem? (i := 15) rfl)) rfl) (rfl : vwCl[12]? = some (RX12, TX12, 86)) rfl lb_129.1 (shO hW.2.1 lb_129) (a_X12_isLinked _ _ cA ad g0 w6_5 j le hW.2.1 hG (by  omega) (by  omega) (by  omega) (by  omega)) ⟨by decide, by decide⟩ rfl rfl hl.1 (Nat.le_of_ble_eq_true rfl) dX12_between_39 (fun v g5679 H locs hp hW1 => ?_)
            obtain ⟨r5678, rfl, hr5678, rfl⟩ := hp
            have hW : WS ad cA (fun i k => False) g0 K g0 H locs := ⟨hW1, hW.2.1, hW.2.2⟩
            refine q_if_eq (tgt := 54) hM dX12_between_42 (by decide) (rfl : r5678.toInt = r5678.toInt) (fun h42 => ?_) (fun h42 => ?_)
            · refine q_iinc (lv9 := fun z5681 => [(5, .int z5681), (0, .ref (ad 129)), (1, .int i), (2, .int j), (3, .int le), (4, .int w6_4)]) hM dX12_between_54 hl (kq := 5) rfl (by decide) (fun _ => rfl) (fun z5681 ls hz5681 hl => ?_)
              first | have tz5681 := i_addT hz5681 (rfl : w6_5.toInt = w6_5.toInt) (kc_1 : (Int32.ofInt 1).toInt = 1) (by omega) (by omega) | skip
              refine q_goto (tgt := 6) hM dX12_between_57 (by decide) ?_
              exact ih6 w6_4 z5681 _ _ _ (by omega) (by omega) (by omega) (by omega) (by omega) (lv_sub hl [1, 2, 3, 4, 5, 0] rfl) hW
            · refine q_iload hM dX12_between_45 (lv_at hl 4 rfl) ?_
              refine q_iconst (v := (1 : Int32)) hM dX12_between_47 (by decide) ?_
              refine q_iload hM dX12_between_48 (lv_at hl 5 rfl) ?_
              refine q_ishl hM dX12_between_50 (fun z5683 hz5683 => ?_)
              first | have sz5683 := i_shl1 12 (by decide) hz5683 (by omega) (by omega) | skip
              refine q_ior hM dX12_between_51 (fun z5684 hz5684 => ?_)
              first | have oz5684 := i_ork 12 (by decide) hz5684 (by omega) (by omega) (by omega) (by omega) | skip
              first | have ogz5684 := i_or_ge hz5684 (by omega) (by omega) | skip
              refine q_istore (lv9 := [(4, .int z5684), (0, .ref (ad 129)), (1, .int i), (2, .int j), (3, .int le), (5, .int w6_5)]) hM dX12_between_52 hl (by decide) rfl (fun ls hl => ?_)
              refine q_iinc (lv9 := fun z5685 => [(5, .int z5685), (4, .int z5684), (0, .ref (ad 129)), (1, .int i), (2, .int j), (3, .int le)]) hM dX12_between_54 hl (kq := 5) rfl (by decide) (fun _ => rfl) (fun z5685 ls hz5685 hl => ?_)
              first | have tz5685 := i_addT hz5685 (rfl : w6_5.toInt = w6_5.toInt) (kc_1 : (Int32.ofInt 1).toInt = 1) (by omega) (by omega) | skip
              refine q_goto (tgt := 6) hM dX12_between_57 (by decide) ?_
              exact ih6 z5684 z5685 _ _ _ (by omega) (by omega) (by omega) (by omega) (by omega) (lv_sub hl [2, 3, 4, 5, 1, 0] rfl) hW
  have := kc_0
  have := kc_0
  exact L6 _ (0 : Int32) (0 : Int32) _ _ _ (Nat.lt_succ_self _) (by omega) (by omega) (by omega) (by omega) (lv_sub hl [2, 3, 4, 5, 1, 0] rfl) hW
