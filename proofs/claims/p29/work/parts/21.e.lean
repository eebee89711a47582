theorem bm (a : Int) : ∃ k : Int, Int.bmod a 4294967296 = a + 4294967296 * k := by
  refine ⟨(Int.bmod a 4294967296 - a) / 4294967296, ?_⟩
  rw [Int.bmod_def]
  split <;> omega
theorem i_remA {x y z : Int32} (h : x - x / y * y = z) (hy : y.toInt ≠ 0) : z.toInt.toNat + (-z.toInt).toNat < y.toInt.toNat + (-y.toInt).toNat := by
  have rx := i_rng x
  have ry := i_rng y
  have rz := i_rng z
  have h1 := Int.tmod_add_mul_tdiv x.toInt y.toInt
  have h2 : (x.toInt.tmod y.toInt).natAbs < y.toInt.natAbs := by
    rw [Int.natAbs_tmod]
    exact Nat.mod_lt _ (by omega)
  obtain ⟨k1, e1⟩ := bm (x.toInt.tdiv y.toInt)
  have e2 : (x / y).toInt = x.toInt.tdiv y.toInt + 4294967296 * k1 := by rw [Int32.toInt_div]; exact e1
  obtain ⟨k2, e3⟩ := bm ((x / y).toInt * y.toInt)
  have e4 : (x / y * y).toInt = (x / y).toInt * y.toInt + 4294967296 * k2 := by rw [Int32.toInt_mul]; exact e3
  obtain ⟨k3, e5⟩ := bm (x.toInt - (x / y * y).toInt)
  have e6 : z.toInt = x.toInt - (x / y * y).toInt + 4294967296 * k3 := by rw [← h, Int32.toInt_sub]; exact e5
  rw [e4, e2, Int.add_mul, Int.mul_assoc] at e6
  rw [Int.mul_comm] at h1
  generalize x.toInt.tdiv y.toInt * y.toInt = A at *
  generalize k1 * y.toInt = B at *
  omega
def pw : Nat → Int32
  | 0 => 1
  | n + 1 => pw n * 10
theorem pw_ne : ∀ j, j < 13 → (pw j).toInt ≠ 0 := by decide +kernel
/-- the tape's bytes are bytes -/
def TB (g : Nat → va_E) : Prop := ∀ j, -128 ≤ (arI g 130 j).toInt ∧ (arI g 130 j).toInt ≤ 127
theorem TB_st {g g1 : Nat → va_E} {j : Nat} {x : Int32} (h : TB g) (e : arI g1 130 = upd (arI g 130) j (vp_nar .byte x)) : TB g1 := by
  intro q
  rw [e]
  unfold upd
  split
  · have e2 : (vp_nar .byte x).toInt = x.toInt8.toInt := Int8.toInt_toInt32 _
    have a := Int8.le_toInt x.toInt8
    have b := Int8.toInt_lt x.toInt8
    omega
  · exact h q
theorem TB_fr {T : Nat → Nat → Prop} {g g1 : Nat → va_E} (h : TB g) (hf : FR T g g1) (n : ¬ T 130 0) : TB g1 := by
  intro q
  rw [hf.2.1 130 n]
  exact h q

theorem dX12_push_0 : decode cX12_push 0 = .ok (.bipush 24, 2) := by decide +kernel
theorem dX12_push_2 : decode cX12_push 2 = .ok (.istore_n 2, 1) := by decide +kernel
theorem dX12_push_3 : decode cX12_push 3 = .ok (.iload_n 2, 1) := by decide +kernel
theorem dX12_push_4 : decode cX12_push 4 = .ok (.ifCond .lt 32, 3) := by decide +kernel
theorem dX12_push_7 : decode cX12_push 7 = .ok (.aload_n 0, 1) := by decide +kernel
theorem dX12_push_8 : decode cX12_push 8 = .ok (.getfield 7, 3) := by decide +kernel
theorem dX12_push_11 : decode cX12_push 11 = .ok (.aload_n 0, 1) := by decide +kernel
theorem dX12_push_12 : decode cX12_push 12 = .ok (.getfield 166, 3) := by decide +kernel
theorem dX12_push_15 : decode cX12_push 15 = .ok (.iload_n 1, 1) := by decide +kernel
theorem dX12_push_16 : decode cX12_push 16 = .ok (.iload_n 2, 1) := by decide +kernel
theorem dX12_push_17 : decode cX12_push 17 = .ok (.ishr, 1) := by decide +kernel
theorem dX12_push_18 : decode cX12_push 18 = .ok (.i2b, 1) := by decide +kernel
theorem dX12_push_19 : decode cX12_push 19 = .ok (.bastore, 1) := by decide +kernel
theorem dX12_push_20 : decode cX12_push 20 = .ok (.aload_n 0, 1) := by decide +kernel
theorem dX12_push_21 : decode cX12_push 21 = .ok (.dup, 1) := by decide +kernel
theorem dX12_push_22 : decode cX12_push 22 = .ok (.getfield 166, 3) := by decide +kernel
theorem dX12_push_25 : decode cX12_push 25 = .ok (.iconst 1, 1) := by decide +kernel
theorem dX12_push_26 : decode cX12_push 26 = .ok (.iadd, 1) := by decide +kernel
theorem dX12_push_27 : decode cX12_push 27 = .ok (.putfield 166, 3) := by decide +kernel
theorem dX12_push_30 : decode cX12_push 30 = .ok (.iinc 2 (-8), 3) := by decide +kernel
theorem dX12_push_33 : decode cX12_push 33 = .ok (.goto (-30), 3) := by decide +kernel
theorem dX12_push_36 : decode cX12_push 36 = .ok (.return_, 1) := by decide +kernel
theorem FG_X12_7 : FG RX12 7 12 86 0 := ⟨RX12, TX12, rfl, wX12, by decide, kAW (v_4_2 (List.mem_of_getElem? (i := 13) rfl)) rfl, rfl⟩
theorem FG_X12_166 : FG RX12 166 12 86 1 := ⟨RX12, TX12, rfl, wX12, by decide, kAW (v_4_2 (List.mem_of_getElem? (i := 14) rfl)) rfl, rfl⟩
theorem FP_X12_166 : FPX RX12 166 12 86 1 .int := ⟨⟨RX12, TX12, tyX12, rfl, wX12, by decide, kAW (v_4_2 (List.mem_of_getElem? (i := 14) rfl)) rfl, rfl, tyX12_ok, nmX12, by decide +kernel, rfl⟩, by decide +kernel⟩
set_option maxRecDepth 100000 in
set_option maxHeartbeats 4000000 in
theorem a_X12_push (l : Launch) (D : va_G) (cA : Nat → ClassId) (ad : Nat → Nat) (g0 : Nat → va_E) (v : Int32) (s : Int32)  (hSh : Shp ad cA g0) (hG : Rng g0) (h_s : fld g0 129 1 = .int s) (s1 : s.toInt ≤ 256) (hT : TB g0) : CT l NN ad cA D yX12_push cX12_push 3 none (0, 0) [.ref (ad 129), .int v] g0 (fun v g' => ∃ (s9 : Int32), v = none ∧ Shp ad cA g' ∧ Rng g' ∧ FR (fun i k => (i = 129 ∧ (k = 1)) ∨ i = 130) g0 g' ∧ fld g' 129 1 = .int s9 ∧ (s9.toInt = s.toInt + 4) ∧ (TB g')) := by
  refine q_enterV (by decide) (Nat.le_of_ble_eq_true rfl) (fun K H locs ls _ _ hM hW0 hR hC hE hl => ?_)
  have hl : lv_has ls 3 [(0, .ref (ad 129)), (1, .int v)] := hl
  have hW : WS ad cA (fun i k => (i = 129 ∧ (k = 1)) ∨ i = 130) g0 K g0 H locs := ⟨hW0, hSh, FR.rf⟩
  have b_s := hG.f h_s rF_129_1 (by decide)
  have f7041 : fld g0 129 1 = .int s := h_s
  refine q_bipush (v := (24 : Int32)) hM dX12_push_0 (by decide) ?_
  refine q_istore_n (lv9 := [(2, .int (24 : Int32)), (0, .ref (ad 129)), (1, .int v)]) hM dX12_push_2 hl (by decide) rfl (fun ls hl => ?_)
  have L3 : ∀ (fu3 : Nat) (w3_2 : Int32) (zz : Int32) (g9 : Nat → va_E) (H : Heap) (locs : List Loc) (ls : Array Slot), (w3_2.toInt + 8).toNat < fu3 → (Rng g9) → (w3_2.toInt = 24 - 8 * (zz.toInt - s.toInt)) → (s.toInt ≤ zz.toInt) → (zz.toInt ≤ s.toInt + 4) → (TB g9) → (fld g9 129 1 = .int zz) → lv_has ls 3 [(0, .ref (ad 129)), (1, .int v), (2, .int w3_2)] → WS ad cA (fun i k => (i = 129 ∧ (k = 1)) ∨ i = 130) g0 K g9 H locs → XX K 0 0 H locs 3 ls [] := by
    intro fu3
    induction fu3 with
    | zero => intro w3_2 zz g9 H locs ls h0; omega
    | succ fu3 ih3 =>
      intro w3_2 zz g9 H locs ls hm3 i3_0 i3_1 i3_2 i3_3 i3_4 c3_129_1 hl hW
      have hG := i3_0
      refine q_iload_n hM dX12_push_3 (lv_at hl 2 rfl) ?_
      refine q_if_lt (tgt := 36) hM dX12_push_4 (by decide) (rfl : w3_2.toInt = w3_2.toInt) (fun h4 => ?_) (fun h4 => ?_)
      · exact hE _ _ _ _ _ hW.1 ⟨zz, rfl, hW.2.1, hG, hW.2.2, c3_129_1, (by omega), i3_4⟩ dX12_push_36
      · refine q_aload_n hM dX12_push_7 (lv_at hl 0 rfl) ?_
        refine w_get (v := .ref (ad 130)) hM hW FG_X12_7 lb_129 (rf_129_0 hW.2.1) dX12_push_8 ?_
        refine q_aload_n hM dX12_push_11 (lv_at hl 0 rfl) ?_
        refine w_get (v := .int zz) hM hW FG_X12_166 lb_129 c3_129_1 dX12_push_12 ?_
        have bzz := hG.f c3_129_1 rF_129_1 (by decide)
        refine q_iload_n hM dX12_push_15 (lv_at hl 1 rfl) ?_
        refine q_iload_n hM dX12_push_16 (lv_at hl 2 rfl) ?_
        refine q_ishr hM dX12_push_17 (fun z7045 hz7045 => ?_)
        refine q_i2b hM dX12_push_18 ?_
        refine w_bast hM hW lb_130 (by omega) (i_in (by omega) (by omega)) dX12_push_19 (fun g7046 H locs hW e1 e2 => ?_)
        have f7047 : fld g7046 129 1 = .int zz := (e2.1 129 1 (by unfold Only; omega)).trans c3_129_1
        have hG := hG.st e1 e2 (rfl : rA 130 = (-2147483648, 2147483647)) (by have := i_rng (vp_nar .byte z7045.toInt8.toInt32); omega) (by have := i_rng (vp_nar .byte z7045.toInt8.toInt32); omega)
        have hT := TB_st i3_4 e1
        refine q_aload_n hM dX12_push_20 (lv_at hl 0 rfl) ?_
        refine q_dup hM dX12_push_21 rfl ?_
        refine w_get (v := .int zz) hM hW FG_X12_166 lb_129 f7047 dX12_push_22 ?_
        have bzz := hG.f f7047 rF_129_1 (by decide)
        refine q_iconst (v := (1 : Int32)) hM dX12_push_25 (by decide) ?_
        refine q_iadd hM dX12_push_26 (fun z7048 hz7048 => ?_)
        first | have tz7048 := i_addT hz7048 (rfl : zz.toInt = zz.toInt) (kc_1 : (1 : Int32).toInt = 1) (by omega) (by omega) | skip
        refine w_put hM hW FP_X12_166 lb_129 (by omega) (Or.inl ⟨_, rfl⟩) rfl rfl dX12_push_27 (fun g7049 H locs hW e1 e2 => ?_)
        have f7050 : fld g7049 129 1 = .int z7048 := e1
        have hG := hG.put e1 e2 rF_129_1 (by decide) (by have := i_rng z7048; omega) (by have := i_rng z7048; omega)
        have hT := TB_fr hT e2 (by unfold Only; omega)
        refine q_iinc (lv9 := fun z7051 => [(2, .int z7051), (0, .ref (ad 129)), (1, .int v)]) hM dX12_push_30 hl (kq := 2) rfl (by decide) (fun _ => rfl) (fun z7051 ls hz7051 hl => ?_)
        first | have tz7051 := i_addT hz7051 (rfl : w3_2.toInt = w3_2.toInt) (kc_m8 : (Int32.ofInt (-8)).toInt = (-8)) (by omega) (by omega) | skip
        refine q_goto (tgt := 3) hM dX12_push_33 (by decide) ?_
        exact ih3 z7051 z7048 _ _ _ _ (by omega) hG (by omega) (by omega) (by omega) hT f7050 (lv_sub hl [1, 2, 0] rfl) hW
  have := kc_24
  exact L3 _ (24 : Int32) s _ _ _ _ (Nat.lt_succ_self _) hG (by omega) (by omega) (by omega) hT f7041 (lv_sub hl [1, 2, 0] rfl) hW

theorem dX12_dividing_0 : decode cX12_dividing 0 = .ok (.iload_n 0, 1) := by decide +kernel
theorem dX12_dividing_1 : decode cX12_dividing 1 = .ok (.istore_n 2, 1) := by decide +kernel
theorem dX12_dividing_2 : decode cX12_dividing 2 = .ok (.iload_n 1, 1) := by decide +kernel
theorem dX12_dividing_3 : decode cX12_dividing 3 = .ok (.istore_n 3, 1) := by decide +kernel
theorem dX12_dividing_4 : decode cX12_dividing 4 = .ok (.iload_n 3, 1) := by decide +kernel
theorem dX12_dividing_5 : decode cX12_dividing 5 = .ok (.ifCond .eq 16, 3) := by decide +kernel
theorem dX12_dividing_8 : decode cX12_dividing 8 = .ok (.iload_n 2, 1) := by decide +kernel
theorem dX12_dividing_9 : decode cX12_dividing 9 = .ok (.iload_n 3, 1) := by decide +kernel
theorem dX12_dividing_10 : decode cX12_dividing 10 = .ok (.irem, 1) := by decide +kernel
theorem dX12_dividing_11 : decode cX12_dividing 11 = .ok (.istore 4, 2) := by decide +kernel
theorem dX12_dividing_13 : decode cX12_dividing 13 = .ok (.iload_n 3, 1) := by decide +kernel
theorem dX12_dividing_14 : decode cX12_dividing 14 = .ok (.istore_n 2, 1) := by decide +kernel
theorem dX12_dividing_15 : decode cX12_dividing 15 = .ok (.iload 4, 2) := by decide +kernel
theorem dX12_dividing_17 : decode cX12_dividing 17 = .ok (.istore_n 3, 1) := by decide +kernel
theorem dX12_dividing_18 : decode cX12_dividing 18 = .ok (.goto (-14), 3) := by decide +kernel
theorem dX12_dividing_21 : decode cX12_dividing 21 = .ok (.iload_n 2, 1) := by decide +kernel
theorem dX12_dividing_22 : decode cX12_dividing 22 = .ok (.ireturn, 1) := by decide +kernel
set_option maxRecDepth 100000 in
set_option maxHeartbeats 4000000 in
theorem a_X12_dividing (l : Launch) (D : va_G) (cA : Nat → ClassId) (ad : Nat → Nat) (g0 : Nat → va_E) (a : Int32) (b : Int32) (hSh : Shp ad cA g0) (hG : Rng g0) (b0 : b.toInt ≠ 0) : CT l NN ad cA D yX12_dividing cX12_dividing 5 (some FieldType.int) (0, 0) [.int a, .int b] g0 (PU g0 (fun r => r.toInt ≠ 0)) := by
  refine q_enterI (by decide) (Nat.le_of_ble_eq_true rfl) rfl (fun K H locs ls _ _ hM hW0 hR hC hE hl => ?_)
  have hl : lv_has ls 5 [(0, .int a), (1, .int b)] := hl
  have hW : WS ad cA (fun i k => False) g0 K g0 H locs := ⟨hW0, hSh, FR.rf⟩
  refine q_iload_n hM dX12_dividing_0 (lv_at hl 0 rfl) ?_
  refine q_istore_n (lv9 := [(2, .int a), (0, .int a), (1, .int b)]) hM dX12_dividing_1 hl (by decide) rfl (fun ls hl => ?_)
  refine q_iload_n hM dX12_dividing_2 (lv_at hl 2 rfl) ?_
  refine q_istore_n (lv9 := [(3, .int b), (2, .int a), (0, .int a), (1, .int b)]) hM dX12_dividing_3 hl (by decide) rfl (fun ls hl => ?_)
  have L4 : ∀ (fu4 : Nat) (w4_2 : Int32) (w4_3 : Int32) (H : Heap) (locs : List Loc) (ls : Array Slot), w4_3.toInt.toNat + (-w4_3.toInt).toNat < fu4 → (w4_2.toInt ≠ 0 ∨ w4_3.toInt ≠ 0) → lv_has ls 5 [(0, .int a), (1, .int b), (2, .int w4_2), (3, .int w4_3)] → WS ad cA (fun i k => False) g0 K g0 H locs → XX K 0 0 H locs 4 ls [] := by
    intro fu4
    induction fu4 with
    | zero => intro w4_2 w4_3 H locs ls h0; omega
    | succ fu4 ih4 =>
      intro w4_2 w4_3 H locs ls hm4 i4_0 hl hW
      refine q_iload_n hM dX12_dividing_4 (lv_at hl 3 rfl) ?_
      refine q_if_eq (tgt := 21) hM dX12_dividing_5 (by decide) (rfl : w4_3.toInt = w4_3.toInt) (fun h5 => ?_) (fun h5 => ?_)
      · refine q_iload_n hM dX12_dividing_21 (lv_at hl 2 rfl) ?_
        exact hE _ _ _ _ _ _ hW.1 ⟨_, rfl, (by omega), rfl⟩ dX12_dividing_22
      · refine q_iload_n hM dX12_dividing_8 (lv_at hl 2 rfl) ?_
        refine q_iload_n hM dX12_dividing_9 (lv_at hl 3 rfl) ?_
        refine q_irem hM (by intro e9; have e8 := congrArg Int32.toInt e9; have := kc_0; have e7 := kc_0; omega) dX12_dividing_10 (fun z7055 hz7055 => ?_)
        first | have tz7055 := i_remT hz7055 (rfl : w4_2.toInt = w4_2.toInt) (rfl : w4_3.toInt = w4_3.toInt) (by omega) (by omega) | skip
        have ra := i_remA hz7055 (by omega)
        refine q_istore (lv9 := [(4, .int z7055), (0, .int a), (1, .int b), (2, .int w4_2), (3, .int w4_3)]) hM dX12_dividing_11 hl (by decide) rfl (fun ls hl => ?_)
        refine q_iload_n hM dX12_dividing_13 (lv_at hl 4 rfl) ?_
        refine q_istore_n (lv9 := [(2, .int w4_3), (4, .int z7055), (0, .int a), (1, .int b), (3, .int w4_3)]) hM dX12_dividing_14 hl (by decide) rfl (fun ls hl => ?_)
        refine q_iload hM dX12_dividing_15 (lv_at hl 1 rfl) ?_
        refine q_istore_n (lv9 := [(3, .int z7055), (2, .int w4_3), (4, .int z7055), (0, .int a), (1, .int b)]) hM dX12_dividing_17 hl (by decide) rfl (fun ls hl => ?_)
        refine q_goto (tgt := 4) hM dX12_dividing_18 (by decide) ?_
        exact ih4 w4_3 z7055 _ _ _ (by omega) (by omega) (lv_sub hl [3, 4, 1, 0] rfl) hW
  exact L4 _ a b _ _ _ (Nat.lt_succ_self _) (by omega) (lv_sub hl [2, 3, 1, 0] rfl) hW

theorem dX12_byteAt_0 : decode cX12_byteAt 0 = .ok (.aload_n 0, 1) := by decide +kernel
theorem dX12_byteAt_1 : decode cX12_byteAt 1 = .ok (.getfield 7, 3) := by decide +kernel
theorem dX12_byteAt_4 : decode cX12_byteAt 4 = .ok (.iload_n 1, 1) := by decide +kernel
theorem dX12_byteAt_5 : decode cX12_byteAt 5 = .ok (.baload, 1) := by decide +kernel
theorem dX12_byteAt_6 : decode cX12_byteAt 6 = .ok (.sipush 255, 3) := by decide +kernel
theorem dX12_byteAt_9 : decode cX12_byteAt 9 = .ok (.iand, 1) := by decide +kernel
theorem dX12_byteAt_10 : decode cX12_byteAt 10 = .ok (.ireturn, 1) := by decide +kernel
set_option maxRecDepth 100000 in
set_option maxHeartbeats 4000000 in
theorem a_X12_byteAt (l : Launch) (D : va_G) (cA : Nat → ClassId) (ad : Nat → Nat) (g0 : Nat → va_E) (k : Int32) (hSh : Shp ad cA g0) (hG : Rng g0) (k0 : 0 ≤ k.toInt) (k1 : k.toInt < 260) : CT l NN ad cA D yX12_byteAt cX12_byteAt 2 (some FieldType.int) (0, 0) [.ref (ad 129), .int k] g0 (PU g0 (fun r => r.toInt = (arI g0 130 k.toNatClampNeg &&& 255).toInt ∧ 0 ≤ r.toInt ∧ r.toInt ≤ 255)) := by
  refine q_enterI (by decide) (Nat.le_of_ble_eq_true rfl) rfl (fun K H locs ls _ _ hM hW0 hR hC hE hl => ?_)
  have hl : lv_has ls 2 [(0, .ref (ad 129)), (1, .int k)] := hl
  have hW : WS ad cA (fun i k => False) g0 K g0 H locs := ⟨hW0, hSh, FR.rf⟩
  refine q_aload_n hM dX12_byteAt_0 (lv_at hl 0 rfl) ?_
  refine w_get (v := .ref (ad 130)) hM hW FG_X12_7 lb_129 (rf_129_0 hW.2.1) dX12_byteAt_1 ?_
  refine q_iload_n hM dX12_byteAt_4 (lv_at hl 1 rfl) ?_
  refine w_bald hM hW lb_130 (i_in (by omega) (by omega)) dX12_byteAt_5 ?_
  refine q_top (fun y7056 hy7056 => ?_)
  refine q_sipush (v := (255 : Int32)) hM dX12_byteAt_6 (by decide) ?_
  refine q_iand hM dX12_byteAt_9 (fun z7057 hz7057 => ?_)
  have az7057 := i_andk hz7057 (by rw [kc_255]; decide)
  rw [kc_255] at az7057
  exact hE _ _ _ _ _ _ hW.1 ⟨_, rfl, ⟨by rw [← hz7057, hy7056], by omega, by omega⟩, rfl⟩ dX12_byteAt_10

theorem dX12_fact_0 : decode cX12_fact 0 = .ok (.iload_n 1, 1) := by decide +kernel
theorem dX12_fact_1 : decode cX12_fact 1 = .ok (.i2l, 1) := by decide +kernel
theorem dX12_fact_2 : decode cX12_fact 2 = .ok (.lconst 0, 1) := by decide +kernel
theorem dX12_fact_3 : decode cX12_fact 3 = .ok (.ldc2_w 194, 3) := by decide +kernel
theorem dX12_fact_6 : decode cX12_fact 6 = .ok (.invokestatic 190, 3) := by decide +kernel
theorem dX12_fact_9 : decode cX12_fact 9 = .ok (.ifCond .eq 15, 3) := by decide +kernel
theorem dX12_fact_12 : decode cX12_fact 12 = .ok (.iload_n 2, 1) := by decide +kernel
theorem dX12_fact_13 : decode cX12_fact 13 = .ok (.i2l, 1) := by decide +kernel
theorem dX12_fact_14 : decode cX12_fact 14 = .ok (.lconst 0, 1) := by decide +kernel
theorem dX12_fact_15 : decode cX12_fact 15 = .ok (.ldc2_w 196, 3) := by decide +kernel
theorem dX12_fact_18 : decode cX12_fact 18 = .ok (.invokestatic 190, 3) := by decide +kernel
theorem dX12_fact_21 : decode cX12_fact 21 = .ok (.ifCond .ne 5, 3) := by decide +kernel
theorem dX12_fact_24 : decode cX12_fact 24 = .ok (.iconst 0, 1) := by decide +kernel
theorem dX12_fact_25 : decode cX12_fact 25 = .ok (.ireturn, 1) := by decide +kernel
theorem dX12_fact_26 : decode cX12_fact 26 = .ok (.aload_n 0, 1) := by decide +kernel
theorem dX12_fact_27 : decode cX12_fact 27 = .ok (.getfield 17, 3) := by decide +kernel
theorem dX12_fact_30 : decode cX12_fact 30 = .ok (.iload_n 1, 1) := by decide +kernel
theorem dX12_fact_31 : decode cX12_fact 31 = .ok (.iconst 1, 1) := by decide +kernel
theorem dX12_fact_32 : decode cX12_fact 32 = .ok (.bastore, 1) := by decide +kernel
theorem dX12_fact_33 : decode cX12_fact 33 = .ok (.aload_n 0, 1) := by decide +kernel
theorem dX12_fact_34 : decode cX12_fact 34 = .ok (.getfield 21, 3) := by decide +kernel
theorem dX12_fact_37 : decode cX12_fact 37 = .ok (.iload_n 1, 1) := by decide +kernel
theorem dX12_fact_38 : decode cX12_fact 38 = .ok (.iload_n 2, 1) := by decide +kernel
theorem dX12_fact_39 : decode cX12_fact 39 = .ok (.iastore, 1) := by decide +kernel
theorem dX12_fact_40 : decode cX12_fact 40 = .ok (.iconst 1, 1) := by decide +kernel
theorem dX12_fact_41 : decode cX12_fact 41 = .ok (.ireturn, 1) := by decide +kernel
set_option maxRecDepth 100000 in
set_option maxHeartbeats 4000000 in
theorem p_X12_fact (l : Launch) (D : va_G) (cA : Nat → ClassId) (ad : Nat → Nat) (g0 : Nat → va_E) (a : Int32) (b : Int32)   (hSh : Shp ad cA g0) (hG : Rng g0) : CT l NN ad cA D yX12_fact cX12_fact 3 (some FieldType.boolean) (1, 25) [.ref (ad 129), .int a, .int b] g0 (fun v g' => ∃ (r : Int32), v = some (.int r) ∧ Shp ad cA g' ∧ Rng g' ∧ FR (fun i k => i = 131 ∨ i = 132) g0 g' ∧ ((r.toInt = 1 ∧ 0 ≤ a.toInt ∧ a.toInt ≤ 11 ∧ 0 ≤ b.toInt ∧ b.toInt ≤ 8) ∨ (r.toInt = 0 ∧ ¬ (0 ≤ a.toInt ∧ a.toInt ≤ 11 ∧ 0 ≤ b.toInt ∧ b.toInt ≤ 8)))) := by
  refine q_enterZ (by decide) (Nat.le_of_ble_eq_true rfl) (fun K H locs ls _ _ hM hW0 hR hC hE hl => ?_)
  have hl : lv_has ls 3 [(0, .ref (ad 129)), (1, .int a), (2, .int b)] := hl
  have hW : WS ad cA (fun i k => i = 131 ∨ i = 132) g0 K g0 H locs := ⟨hW0, hSh, FR.rf⟩
  have := kc_0
  have := kc_1
  have := kc_m1
  have := kc_m2
  refine q_iload_n hM dX12_fact_0 (lv_at hl 1 rfl) ?_
  refine q_i2l hM dX12_fact_1 ?_
  have := l_i2l a
  refine q_lconst (v := 0) hM dX12_fact_2 (by decide) ?_
  have := kl_0
  refine q_ldc2 (v := 11) hM (kAW (v_5_4 (List.mem_of_getElem? (i := 13) rfl)) rfl) dX12_fact_3 ?_
  have := kl_11
  refine q_callS (As := [.long a.toInt64, .long (0 : Int64), .long (11 : Int64)]) (rest := []) hM hW.1 hR hC myX12_lies (kAW (v_5_4 (List.mem_of_getElem? (i := 14) rfl)) rfl) (c_X12_lies _ _ cA ad g0 a.toInt64 (0 : Int64) (11 : Int64) hW.2.1) ⟨by decide, by decide⟩ rfl rfl hl.1 (Nat.le_of_ble_eq_true rfl) dX12_fact_6 (fun v g7059 H locs hp hW1 => ?_)
  obtain ⟨r7058, rfl, hr7058, rfl⟩ := hp
  have hW : WS ad cA (fun i k => i = 131 ∨ i = 132) g0 K g0 H locs := ⟨hW1, hW.2.1, hW.2.2⟩
  refine q_if_eq (tgt := 24) hM dX12_fact_9 (by decide) (rfl : r7058.toInt = r7058.toInt) (fun h9 => ?_) (fun h9 => ?_)
  · refine q_iconst (v := (0 : Int32)) hM dX12_fact_24 (by decide) ?_
    exact hE _ _ _ _ _ _ hW.1 nz_0 ⟨_, rfl, hW.2.1, hG, hW.2.2, (by have := kc_0; omega)⟩ dX12_fact_25
  · refine q_iload_n hM dX12_fact_12 (lv_at hl 2 rfl) ?_
    refine q_i2l hM dX12_fact_13 ?_
    have := l_i2l b
    refine q_lconst (v := 0) hM dX12_fact_14 (by decide) ?_
    have := kl_0
    refine q_ldc2 (v := 8) hM (kAW (v_5_5 (List.mem_of_getElem? (i := 1) rfl)) rfl) dX12_fact_15 ?_
    have := kl_8
    refine q_callS (As := [.long b.toInt64, .long (0 : Int64), .long (8 : Int64)]) (rest := []) hM hW.1 hR hC myX12_lies (kAW (v_5_4 (List.mem_of_getElem? (i := 14) rfl)) rfl) (c_X12_lies _ _ cA ad g0 b.toInt64 (0 : Int64) (8 : Int64) hW.2.1) ⟨by decide, by decide⟩ rfl rfl hl.1 (Nat.le_of_ble_eq_true rfl) dX12_fact_18 (fun v g7063 H locs hp hW1 => ?_)
    obtain ⟨r7062, rfl, hr7062, rfl⟩ := hp
    have hW : WS ad cA (fun i k => i = 131 ∨ i = 132) g0 K g0 H locs := ⟨hW1, hW.2.1, hW.2.2⟩
    refine q_if_ne (tgt := 26) hM dX12_fact_21 (by decide) (rfl : r7062.toInt = r7062.toInt) (fun h21 => ?_) (fun h21 => ?_)
    · refine q_aload_n hM dX12_fact_26 (lv_at hl 0 rfl) ?_
      refine w_get (v := .ref (ad 131)) hM hW FG_X12_17 lb_129 (rf_129_10 hW.2.1) dX12_fact_27 ?_
      refine q_iload_n hM dX12_fact_30 (lv_at hl 1 rfl) ?_
      refine q_iconst (v := (1 : Int32)) hM dX12_fact_31 (by decide) ?_
      refine w_zast hM hW lb_131 (by omega) (i_in (by omega) (by omega)) dX12_fact_32 (fun g7065 H locs hW e1 e2 => ?_)
      have hG := hG.st e1 e2 (rfl : rA 131 = (-2147483648, 2147483647)) (by have := i_rng (vp_nar .boolean (1 : Int32)); omega) (by have := i_rng (vp_nar .boolean (1 : Int32)); omega)
      refine q_aload_n hM dX12_fact_33 (lv_at hl 0 rfl) ?_
      refine w_get (v := .ref (ad 132)) hM hW FG_X12_21 lb_129 (rf_129_11 hW.2.1) dX12_fact_34 ?_
      refine q_iload_n hM dX12_fact_37 (lv_at hl 1 rfl) ?_
      refine q_iload_n hM dX12_fact_38 (lv_at hl 2 rfl) ?_
      refine w_iast hM hW lb_132 (by omega) (i_in (by omega) (by omega)) dX12_fact_39 (fun g7066 H locs hW e1 e2 => ?_)
      have hG := hG.st e1 e2 (rfl : rA 132 = (-2147483648, 2147483647)) (by have := i_rng b; omega) (by have := i_rng b; omega)
      refine q_iconst (v := (1 : Int32)) hM dX12_fact_40 (by decide) ?_
      exact hE _ _ _ _ _ _ hW.1 nz_1 ⟨_, rfl, hW.2.1, hG, hW.2.2, (by have := kc_1; omega)⟩ dX12_fact_41
    · refine q_iconst (v := (0 : Int32)) hM dX12_fact_24 (by decide) ?_
      exact hE _ _ _ _ _ _ hW.1 nz_0 ⟨_, rfl, hW.2.1, hG, hW.2.2, (by have := kc_0; omega)⟩ dX12_fact_25

theorem dX12_link_0 : decode cX12_link 0 = .ok (.aload_n 0, 1) := by decide +kernel
theorem dX12_link_1 : decode cX12_link 1 = .ok (.iload_n 1, 1) := by decide +kernel
theorem dX12_link_2 : decode cX12_link 2 = .ok (.invokevirtual 198, 3) := by decide +kernel
theorem dX12_link_5 : decode cX12_link 5 = .ok (.ifCond .eq 28, 3) := by decide +kernel
theorem dX12_link_8 : decode cX12_link 8 = .ok (.aload_n 0, 1) := by decide +kernel
theorem dX12_link_9 : decode cX12_link 9 = .ok (.iload_n 2, 1) := by decide +kernel
theorem dX12_link_10 : decode cX12_link 10 = .ok (.invokevirtual 198, 3) := by decide +kernel
theorem dX12_link_13 : decode cX12_link 13 = .ok (.ifCond .eq 20, 3) := by decide +kernel
theorem dX12_link_16 : decode cX12_link 16 = .ok (.iload_n 1, 1) := by decide +kernel
theorem dX12_link_17 : decode cX12_link 17 = .ok (.iload_n 2, 1) := by decide +kernel
theorem dX12_link_18 : decode cX12_link 18 = .ok (.if_icmp .eq 15, 3) := by decide +kernel
theorem dX12_link_21 : decode cX12_link 21 = .ok (.iload_n 3, 1) := by decide +kernel
theorem dX12_link_22 : decode cX12_link 22 = .ok (.i2l, 1) := by decide +kernel
theorem dX12_link_23 : decode cX12_link 23 = .ok (.lconst 0, 1) := by decide +kernel
theorem dX12_link_24 : decode cX12_link 24 = .ok (.ldc2_w 202, 3) := by decide +kernel
theorem dX12_link_27 : decode cX12_link 27 = .ok (.invokestatic 190, 3) := by decide +kernel
theorem dX12_link_30 : decode cX12_link 30 = .ok (.ifCond .ne 5, 3) := by decide +kernel
theorem dX12_link_33 : decode cX12_link 33 = .ok (.iconst 0, 1) := by decide +kernel
theorem dX12_link_34 : decode cX12_link 34 = .ok (.ireturn, 1) := by decide +kernel
theorem dX12_link_35 : decode cX12_link 35 = .ok (.aload_n 0, 1) := by decide +kernel
theorem dX12_link_36 : decode cX12_link 36 = .ok (.getfield 25, 3) := by decide +kernel
theorem dX12_link_39 : decode cX12_link 39 = .ok (.bipush 12, 2) := by decide +kernel
theorem dX12_link_41 : decode cX12_link 41 = .ok (.iload_n 1, 1) := by decide +kernel
theorem dX12_link_42 : decode cX12_link 42 = .ok (.imul, 1) := by decide +kernel
theorem dX12_link_43 : decode cX12_link 43 = .ok (.iload_n 2, 1) := by decide +kernel
theorem dX12_link_44 : decode cX12_link 44 = .ok (.iadd, 1) := by decide +kernel
theorem dX12_link_45 : decode cX12_link 45 = .ok (.iload_n 3, 1) := by decide +kernel
theorem dX12_link_46 : decode cX12_link 46 = .ok (.iastore, 1) := by decide +kernel
theorem dX12_link_47 : decode cX12_link 47 = .ok (.iconst 1, 1) := by decide +kernel
theorem dX12_link_48 : decode cX12_link 48 = .ok (.ireturn, 1) := by decide +kernel
set_option maxRecDepth 100000 in
set_option maxHeartbeats 4000000 in
theorem p_X12_link (l : Launch) (D : va_G) (cA : Nat → ClassId) (ad : Nat → Nat) (g0 : Nat → va_E) (a : Int32) (b : Int32) (c : Int32)   (hSh : Shp ad cA g0) (hG : Rng g0) : CT l NN ad cA D yX12_link cX12_link 4 (some FieldType.boolean) (2, 46) [.ref (ad 129), .int a, .int b, .int c] g0 (fun v g' => ∃ (r : Int32), v = some (.int r) ∧ Shp ad cA g' ∧ Rng g' ∧ FR (fun i k => i = 133) g0 g' ∧ (r.toInt = 0 ∨ r.toInt = 1)) := by
  refine q_enterZ (by decide) (Nat.le_of_ble_eq_true rfl) (fun K H locs ls _ _ hM hW0 hR hC hE hl => ?_)
  have hl : lv_has ls 4 [(0, .ref (ad 129)), (1, .int a), (2, .int b), (3, .int c)] := hl
  have hW : WS ad cA (fun i k => i = 133) g0 K g0 H locs := ⟨hW0, hSh, FR.rf⟩
  have := kc_0
  have := kc_1
  have := kc_m1
  have := kc_m2
  refine q_aload_n hM dX12_link_0 (lv_at hl 0 rfl) ?_
  refine q_iload_n hM dX12_link_1 (lv_at hl 1 rfl) ?_
  refine q_callV (As := [.int a]) (rest := []) hM hW.1 hR hC myX12_isTold (kAW (v_5_5 (List.mem_of_getElem? (i := 6) rfl)) rfl) (rfl : vwCl[12]? = some (RX12, TX12, 86)) rfl lb_129.1 (shO hW.2.1 lb_129) (a_X12_isTold _ _ cA ad g0 a hW.2.1 hG) ⟨by decide, by decide⟩ rfl rfl hl.1 (Nat.le_of_ble_eq_true rfl) dX12_link_2 (fun v g7069 H locs hp hW1 => ?_)
  obtain ⟨r7068, rfl, hr7068, rfl⟩ := hp
  have hW : WS ad cA (fun i k => i = 133) g0 K g0 H locs := ⟨hW1, hW.2.1, hW.2.2⟩
  refine q_if_eq (tgt := 33) hM dX12_link_5 (by decide) (rfl : r7068.toInt = r7068.toInt) (fun h5 => ?_) (fun h5 => ?_)
  · refine q_iconst (v := (0 : Int32)) hM dX12_link_33 (by decide) ?_
    exact hE _ _ _ _ _ _ hW.1 nz_0 ⟨_, rfl, hW.2.1, hG, hW.2.2, (by have := kc_0; omega)⟩ dX12_link_34
  · refine q_aload_n hM dX12_link_8 (lv_at hl 0 rfl) ?_
    refine q_iload_n hM dX12_link_9 (lv_at hl 2 rfl) ?_
    refine q_callV (As := [.int b]) (rest := []) hM hW.1 hR hC myX12_isTold (kAW (v_5_5 (List.mem_of_getElem? (i := 6) rfl)) rfl) (rfl : vwCl[12]? = some (RX12, TX12, 86)) rfl lb_129.1 (shO hW.2.1 lb_129) (a_X12_isTold _ _ cA ad g0 b hW.2.1 hG) ⟨by decide, by decide⟩ rfl rfl hl.1 (Nat.le_of_ble_eq_true rfl) dX12_link_10 (fun v g7073 H locs hp hW1 => ?_)
    obtain ⟨r7072, rfl, hr7072, rfl⟩ := hp
    have hW : WS ad cA (fun i k => i = 133) g0 K g0 H locs := ⟨hW1, hW.2.1, hW.2.2⟩
    refine q_if_eq (tgt := 33) hM dX12_link_13 (by decide) (rfl : r7072.toInt = r7072.toInt) (fun h13 => ?_) (fun h13 => ?_)
    · refine q_iconst (v := (0 : Int32)) hM dX12_link_33 (by decide) ?_
      exact hE _ _ _ _ _ _ hW.1 nz_0 ⟨_, rfl, hW.2.1, hG, hW.2.2, (by have := kc_0; omega)⟩ dX12_link_34
    · refine q_iload_n hM dX12_link_16 (lv_at hl 1 rfl) ?_
      refine q_iload_n hM dX12_link_17 (lv_at hl 2 rfl) ?_
      refine q_icmp_eq (tgt := 33) hM dX12_link_18 (by decide) (rfl : a.toInt = a.toInt) (rfl : b.toInt = b.toInt) (fun h18 => ?_) (fun h18 => ?_)
      · refine q_iconst (v := (0 : Int32)) hM dX12_link_33 (by decide) ?_
        exact hE _ _ _ _ _ _ hW.1 nz_0 ⟨_, rfl, hW.2.1, hG, hW.2.2, (by have := kc_0; omega)⟩ dX12_link_34
      · refine q_iload_n hM dX12_link_21 (lv_at hl 3 rfl) ?_
        refine q_i2l hM dX12_link_22 ?_
        have := l_i2l c
        refine q_lconst (v := 0) hM dX12_link_23 (by decide) ?_
        have := kl_0
        refine q_ldc2 (v := 9) hM (kAW (v_5_5 (List.mem_of_getElem? (i := 10) rfl)) rfl) dX12_link_24 ?_
        have := kl_9
        refine q_callS (As := [.long c.toInt64, .long (0 : Int64), .long (9 : Int64)]) (rest := []) hM hW.1 hR hC myX12_lies (kAW (v_5_4 (List.mem_of_getElem? (i := 14) rfl)) rfl) (c_X12_lies _ _ cA ad g0 c.toInt64 (0 : Int64) (9 : Int64) hW.2.1) ⟨by decide, by decide⟩ rfl rfl hl.1 (Nat.le_of_ble_eq_true rfl) dX12_link_27 (fun v g7079 H locs hp hW1 => ?_)
        obtain ⟨r7078, rfl, hr7078, rfl⟩ := hp
        have hW : WS ad cA (fun i k => i = 133) g0 K g0 H locs := ⟨hW1, hW.2.1, hW.2.2⟩
        refine q_if_ne (tgt := 35) hM dX12_link_30 (by decide) (rfl : r7078.toInt = r7078.toInt) (fun h30 => ?_) (fun h30 => ?_)
        · refine q_aload_n hM dX12_link_35 (lv_at hl 0 rfl) ?_
          refine w_get (v := .ref (ad 133)) hM hW FG_X12_25 lb_129 (rf_129_12 hW.2.1) dX12_link_36 ?_
          refine q_bipush (v := (12 : Int32)) hM dX12_link_39 (by decide) ?_
          refine q_iload_n hM dX12_link_41 (lv_at hl 1 rfl) ?_
          refine q_imul hM dX12_link_42 (fun z7081 hz7081 => ?_)
          first | have tz7081 := i_mulT hz7081 (kc_12 : (12 : Int32).toInt = 12) (rfl : a.toInt = a.toInt) (by omega) (by omega) | skip
          refine q_iload_n hM dX12_link_43 (lv_at hl 2 rfl) ?_
          refine q_iadd hM dX12_link_44 (fun z7082 hz7082 => ?_)
          first | have tz7082 := i_addT hz7082 (rfl : z7081.toInt = z7081.toInt) (rfl : b.toInt = b.toInt) (by omega) (by omega) | skip
          refine q_iload_n hM dX12_link_45 (lv_at hl 3 rfl) ?_
          refine w_iast hM hW lb_133 (by omega) (i_in (by omega) (by omega)) dX12_link_46 (fun g7083 H locs hW e1 e2 => ?_)
          have hG := hG.st e1 e2 (rfl : rA 133 = (-2147483648, 2147483647)) (by have := i_rng c; omega) (by have := i_rng c; omega)
          refine q_iconst (v := (1 : Int32)) hM dX12_link_47 (by decide) ?_
          exact hE _ _ _ _ _ _ hW.1 nz_1 ⟨_, rfl, hW.2.1, hG, hW.2.2, (by have := kc_1; omega)⟩ dX12_link_48
        · refine q_iconst (v := (0 : Int32)) hM dX12_link_33 (by decide) ?_
          exact hE _ _ _ _ _ _ hW.1 nz_0 ⟨_, rfl, hW.2.1, hG, hW.2.2, (by have := kc_0; omega)⟩ dX12_link_34

theorem dX12_pupil_0 : decode cX12_pupil 0 = .ok (.iload_n 1, 1) := by decide +kernel
theorem dX12_pupil_1 : decode cX12_pupil 1 = .ok (.i2l, 1) := by decide +kernel
theorem dX12_pupil_2 : decode cX12_pupil 2 = .ok (.lconst 0, 1) := by decide +kernel
theorem dX12_pupil_3 : decode cX12_pupil 3 = .ok (.ldc2_w 411, 3) := by decide +kernel
theorem dX12_pupil_6 : decode cX12_pupil 6 = .ok (.invokestatic 190, 3) := by decide +kernel
theorem dX12_pupil_9 : decode cX12_pupil 9 = .ok (.ifCond .eq 27, 3) := by decide +kernel
theorem dX12_pupil_12 : decode cX12_pupil 12 = .ok (.iload_n 2, 1) := by decide +kernel
theorem dX12_pupil_13 : decode cX12_pupil 13 = .ok (.i2l, 1) := by decide +kernel
theorem dX12_pupil_14 : decode cX12_pupil 14 = .ok (.lconst 1, 1) := by decide +kernel
theorem dX12_pupil_15 : decode cX12_pupil 15 = .ok (.ldc2_w 202, 3) := by decide +kernel
theorem dX12_pupil_18 : decode cX12_pupil 18 = .ok (.invokestatic 190, 3) := by decide +kernel
theorem dX12_pupil_21 : decode cX12_pupil 21 = .ok (.ifCond .eq 15, 3) := by decide +kernel
theorem dX12_pupil_24 : decode cX12_pupil 24 = .ok (.iload_n 3, 1) := by decide +kernel
theorem dX12_pupil_25 : decode cX12_pupil 25 = .ok (.i2l, 1) := by decide +kernel
theorem dX12_pupil_26 : decode cX12_pupil 26 = .ok (.lconst 0, 1) := by decide +kernel
theorem dX12_pupil_27 : decode cX12_pupil 27 = .ok (.ldc2_w 419, 3) := by decide +kernel
theorem dX12_pupil_30 : decode cX12_pupil 30 = .ok (.invokestatic 190, 3) := by decide +kernel
theorem dX12_pupil_33 : decode cX12_pupil 33 = .ok (.ifCond .ne 5, 3) := by decide +kernel
theorem dX12_pupil_36 : decode cX12_pupil 36 = .ok (.iconst 0, 1) := by decide +kernel
theorem dX12_pupil_37 : decode cX12_pupil 37 = .ok (.ireturn, 1) := by decide +kernel
theorem dX12_pupil_38 : decode cX12_pupil 38 = .ok (.aload_n 0, 1) := by decide +kernel
theorem dX12_pupil_39 : decode cX12_pupil 39 = .ok (.getfield 100, 3) := by decide +kernel
theorem dX12_pupil_42 : decode cX12_pupil 42 = .ok (.iload_n 1, 1) := by decide +kernel
theorem dX12_pupil_43 : decode cX12_pupil 43 = .ok (.iconst 1, 1) := by decide +kernel
theorem dX12_pupil_44 : decode cX12_pupil 44 = .ok (.bastore, 1) := by decide +kernel
theorem dX12_pupil_45 : decode cX12_pupil 45 = .ok (.aload_n 0, 1) := by decide +kernel
theorem dX12_pupil_46 : decode cX12_pupil 46 = .ok (.getfield 103, 3) := by decide +kernel
theorem dX12_pupil_49 : decode cX12_pupil 49 = .ok (.iload_n 1, 1) := by decide +kernel
theorem dX12_pupil_50 : decode cX12_pupil 50 = .ok (.iload_n 2, 1) := by decide +kernel
theorem dX12_pupil_51 : decode cX12_pupil 51 = .ok (.iastore, 1) := by decide +kernel
theorem dX12_pupil_52 : decode cX12_pupil 52 = .ok (.aload_n 0, 1) := by decide +kernel
theorem dX12_pupil_53 : decode cX12_pupil 53 = .ok (.getfield 106, 3) := by decide +kernel
theorem dX12_pupil_56 : decode cX12_pupil 56 = .ok (.iload_n 1, 1) := by decide +kernel
theorem dX12_pupil_57 : decode cX12_pupil 57 = .ok (.iload_n 3, 1) := by decide +kernel
theorem dX12_pupil_58 : decode cX12_pupil 58 = .ok (.iastore, 1) := by decide +kernel
theorem dX12_pupil_59 : decode cX12_pupil 59 = .ok (.iconst 0, 1) := by decide +kernel
theorem dX12_pupil_60 : decode cX12_pupil 60 = .ok (.istore 4, 2) := by decide +kernel
theorem dX12_pupil_62 : decode cX12_pupil 62 = .ok (.iload 4, 2) := by decide +kernel
theorem dX12_pupil_64 : decode cX12_pupil 64 = .ok (.bipush 12, 2) := by decide +kernel
theorem dX12_pupil_66 : decode cX12_pupil 66 = .ok (.if_icmp .ge 22, 3) := by decide +kernel
theorem dX12_pupil_69 : decode cX12_pupil 69 = .ok (.aload_n 0, 1) := by decide +kernel
theorem dX12_pupil_70 : decode cX12_pupil 70 = .ok (.getfield 109, 3) := by decide +kernel
theorem dX12_pupil_73 : decode cX12_pupil 73 = .ok (.bipush 12, 2) := by decide +kernel
theorem dX12_pupil_75 : decode cX12_pupil 75 = .ok (.iload_n 1, 1) := by decide +kernel
theorem dX12_pupil_76 : decode cX12_pupil 76 = .ok (.imul, 1) := by decide +kernel
theorem dX12_pupil_77 : decode cX12_pupil 77 = .ok (.iload 4, 2) := by decide +kernel
theorem dX12_pupil_79 : decode cX12_pupil 79 = .ok (.iadd, 1) := by decide +kernel
theorem dX12_pupil_80 : decode cX12_pupil 80 = .ok (.iconst 0, 1) := by decide +kernel
theorem dX12_pupil_81 : decode cX12_pupil 81 = .ok (.iastore, 1) := by decide +kernel
theorem dX12_pupil_82 : decode cX12_pupil 82 = .ok (.iinc 4 1, 3) := by decide +kernel
theorem dX12_pupil_85 : decode cX12_pupil 85 = .ok (.goto (-23), 3) := by decide +kernel
theorem dX12_pupil_88 : decode cX12_pupil 88 = .ok (.iconst 1, 1) := by decide +kernel
theorem dX12_pupil_89 : decode cX12_pupil 89 = .ok (.ireturn, 1) := by decide +kernel
set_option maxRecDepth 100000 in
set_option maxHeartbeats 4000000 in
theorem p_X12_pupil (l : Launch) (D : va_G) (cA : Nat → ClassId) (ad : Nat → Nat) (g0 : Nat → va_E) (a : Int32) (b : Int32) (c : Int32)   (hSh : Shp ad cA g0) (hG : Rng g0) : CT l NN ad cA D yX12_pupil cX12_pupil 5 (some FieldType.boolean) (1, 25) [.ref (ad 129), .int a, .int b, .int c] g0 (fun v g' => ∃ (r : Int32), v = some (.int r) ∧ Shp ad cA g' ∧ Rng g' ∧ FR (fun i k => (158 ≤ i ∧ i < 162)) g0 g' ∧ ((r.toInt = 1 ∧ 0 ≤ a.toInt ∧ a.toInt ≤ 7 ∧ 1 ≤ b.toInt ∧ b.toInt ≤ 9 ∧ 0 ≤ c.toInt ∧ c.toInt ≤ 99) ∨ (r.toInt = 0 ∧ ¬ (0 ≤ a.toInt ∧ a.toInt ≤ 7 ∧ 1 ≤ b.toInt ∧ b.toInt ≤ 9 ∧ 0 ≤ c.toInt ∧ c.toInt ≤ 99)))) := by
  refine q_enterZ (by decide) (Nat.le_of_ble_eq_true rfl) (fun K H locs ls _ _ hM hW0 hR hC hE hl => ?_)
  have hl : lv_has ls 5 [(0, .ref (ad 129)), (1, .int a), (2, .int b), (3, .int c)] := hl
  have hW : WS ad cA (fun i k => (158 ≤ i ∧ i < 162)) g0 K g0 H locs := ⟨hW0, hSh, FR.rf⟩
  have := kc_0
  have := kc_1
  have := kc_m1
  have := kc_m2
  refine q_iload_n hM dX12_pupil_0 (lv_at hl 1 rfl) ?_
  refine q_i2l hM dX12_pupil_1 ?_
  have := l_i2l a
  refine q_lconst (v := 0) hM dX12_pupil_2 (by decide) ?_
  have := kl_0
  refine q_ldc2 (v := 7) hM (kAW (v_6_2 (List.mem_of_getElem? (i := 3) rfl)) rfl) dX12_pupil_3 ?_
  have := kl_7
  refine q_callS (As := [.long a.toInt64, .long (0 : Int64), .long (7 : Int64)]) (rest := []) hM hW.1 hR hC myX12_lies (kAW (v_5_4 (List.mem_of_getElem? (i := 14) rfl)) rfl) (c_X12_lies _ _ cA ad g0 a.toInt64 (0 : Int64) (7 : Int64) hW.2.1) ⟨by decide, by decide⟩ rfl rfl hl.1 (Nat.le_of_ble_eq_true rfl) dX12_pupil_6 (fun v g7086 H locs hp hW1 => ?_)
  obtain ⟨r7085, rfl, hr7085, rfl⟩ := hp
  have hW : WS ad cA (fun i k => (158 ≤ i ∧ i < 162)) g0 K g0 H locs := ⟨hW1, hW.2.1, hW.2.2⟩
  refine q_if_eq (tgt := 36) hM dX12_pupil_9 (by decide) (rfl : r7085.toInt = r7085.toInt) (fun h9 => ?_) (fun h9 => ?_)
  · refine q_iconst (v := (0 : Int32)) hM dX12_pupil_36 (by decide) ?_
    exact hE _ _ _ _ _ _ hW.1 nz_0 ⟨_, rfl, hW.2.1, hG, hW.2.2, (by have := kc_0; omega)⟩ dX12_pupil_37
  · refine q_iload_n hM dX12_pupil_12 (lv_at hl 2 rfl) ?_
    refine q_i2l hM dX12_pupil_13 ?_
    have := l_i2l b
    refine q_lconst (v := 1) hM dX12_pupil_14 (by decide) ?_
    have := kl_1
    refine q_ldc2 (v := 9) hM (kAW (v_5_5 (List.mem_of_getElem? (i := 10) rfl)) rfl) dX12_pupil_15 ?_
    have := kl_9
    refine q_callS (As := [.long b.toInt64, .long (1 : Int64), .long (9 : Int64)]) (rest := []) hM hW.1 hR hC myX12_lies (kAW (v_5_4 (List.mem_of_getElem? (i := 14) rfl)) rfl) (c_X12_lies _ _ cA ad g0 b.toInt64 (1 : Int64) (9 : Int64) hW.2.1) ⟨by decide, by decide⟩ rfl rfl hl.1 (Nat.le_of_ble_eq_true rfl) dX12_pupil_18 (fun v g7090 H locs hp hW1 => ?_)
    obtain ⟨r7089, rfl, hr7089, rfl⟩ := hp
    have hW : WS ad cA (fun i k => (158 ≤ i ∧ i < 162)) g0 K g0 H locs := ⟨hW1, hW.2.1, hW.2.2⟩
    refine q_if_eq (tgt := 36) hM dX12_pupil_21 (by decide) (rfl : r7089.toInt = r7089.toInt) (fun h21 => ?_) (fun h21 => ?_)
    · refine q_iconst (v := (0 : Int32)) hM dX12_pupil_36 (by decide) ?_
      exact hE _ _ _ _ _ _ hW.1 nz_0 ⟨_, rfl, hW.2.1, hG, hW.2.2, (by have := kc_0; omega)⟩ dX12_pupil_37
    · refine q_iload_n hM dX12_pupil_24 (lv_at hl 3 rfl) ?_
      refine q_i2l hM dX12_pupil_25 ?_
      have := l_i2l c
      refine q_lconst (v := 0) hM dX12_pupil_26 (by decide) ?_
      have := kl_0
      refine q_ldc2 (v := 99) hM (kAW (v_6_2 (List.mem_of_getElem? (i := 4) rfl)) rfl) dX12_pupil_27 ?_
      have := kl_99
      refine q_callS (As := [.long c.toInt64, .long (0 : Int64), .long (99 : Int64)]) (rest := []) hM hW.1 hR hC myX12_lies (kAW (v_5_4 (List.mem_of_getElem? (i := 14) rfl)) rfl) (c_X12_lies _ _ cA ad g0 c.toInt64 (0 : Int64) (99 : Int64) hW.2.1) ⟨by decide, by decide⟩ rfl rfl hl.1 (Nat.le_of_ble_eq_true rfl) dX12_pupil_30 (fun v g7094 H locs hp hW1 => ?_)
      obtain ⟨r7093, rfl, hr7093, rfl⟩ := hp
      have hW : WS ad cA (fun i k => (158 ≤ i ∧ i < 162)) g0 K g0 H locs := ⟨hW1, hW.2.1, hW.2.2⟩
      refine q_if_ne (tgt := 38) hM dX12_pupil_33 (by decide) (rfl : r7093.toInt = r7093.toInt) (fun h33 => ?_) (fun h33 => ?_)
      · refine q_aload_n hM dX12_pupil_38 (lv_at hl 0 rfl) ?_
        refine w_get (v := .ref (ad 158)) hM hW FG_X12_100 lb_129 (rf_129_52 hW.2.1) dX12_pupil_39 ?_
        refine q_iload_n hM dX12_pupil_42 (lv_at hl 1 rfl) ?_
        refine q_iconst (v := (1 : Int32)) hM dX12_pupil_43 (by decide) ?_
        refine w_zast hM hW lb_158 (by omega) (i_in (by omega) (by omega)) dX12_pupil_44 (fun g7096 H locs hW e1 e2 => ?_)
        have hG := hG.st e1 e2 (rfl : rA 158 = (-2147483648, 2147483647)) (by have := i_rng (vp_nar .boolean (1 : Int32)); omega) (by have := i_rng (vp_nar .boolean (1 : Int32)); omega)
        refine q_aload_n hM dX12_pupil_45 (lv_at hl 0 rfl) ?_
        refine w_get (v := .ref (ad 159)) hM hW FG_X12_103 lb_129 (rf_129_53 hW.2.1) dX12_pupil_46 ?_
        refine q_iload_n hM dX12_pupil_49 (lv_at hl 1 rfl) ?_
        refine q_iload_n hM dX12_pupil_50 (lv_at hl 2 rfl) ?_
        refine w_iast hM hW lb_159 (by omega) (i_in (by omega) (by omega)) dX12_pupil_51 (fun g7097 H locs hW e1 e2 => ?_)
        have hG := hG.st e1 e2 rA_159 (by have := i_rng b; omega) (by have := i_rng b; omega)
        refine q_aload_n hM dX12_pupil_52 (lv_at hl 0 rfl) ?_
        refine w_get (v := .ref (ad 160)) hM hW FG_X12_106 lb_129 (rf_129_54 hW.2.1) dX12_pupil_53 ?_
        refine q_iload_n hM dX12_pupil_56 (lv_at hl 1 rfl) ?_
        refine q_iload_n hM dX12_pupil_57 (lv_at hl 3 rfl) ?_
        refine w_iast hM hW lb_160 (by omega) (i_in (by omega) (by omega)) dX12_pupil_58 (fun g7098 H locs hW e1 e2 => ?_)
        have hG := hG.st e1 e2 (rfl : rA 160 = (-2147483648, 2147483647)) (by have := i_rng c; omega) (by have := i_rng c; omega)
        refine q_iconst (v := (0 : Int32)) hM dX12_pupil_59 (by decide) ?_
        refine q_istore (lv9 := [(4, .int (0 : Int32)), (0, .ref (ad 129)), (1, .int a), (2, .int b), (3, .int c)]) hM dX12_pupil_60 hl (by decide) rfl (fun ls hl => ?_)
        have L62 : ∀ (fu62 : Nat) (w62_4 : Int32) (g9 : Nat → va_E) (H : Heap) (locs : List Loc) (ls : Array Slot), (12 - w62_4.toInt).toNat < fu62 → (Rng g9) → (0 ≤ w62_4.toInt) → (w62_4.toInt ≤ 12) → lv_has ls 5 [(0, .ref (ad 129)), (1, .int a), (2, .int b), (3, .int c), (4, .int w62_4)] → WS ad cA (fun i k => (158 ≤ i ∧ i < 162)) g0 K g9 H locs → XX K 0 0 H locs 62 ls [] := by
          intro fu62
          induction fu62 with
          | zero => intro w62_4 g9 H locs ls h0; omega
          | succ fu62 ih62 =>
            intro w62_4 g9 H locs ls hm62 i62_0 i62_1 i62_2 hl hW
            have hG := i62_0
            refine q_iload hM dX12_pupil_62 (lv_at hl 4 rfl) ?_
            refine q_bipush (v := (12 : Int32)) hM dX12_pupil_64 (by decide) ?_
            refine q_icmp_ge (tgt := 88) hM dX12_pupil_66 (by decide) (rfl : w62_4.toInt = w62_4.toInt) (kc_12 : (12 : Int32).toInt = 12) (fun h66 => ?_) (fun h66 => ?_)
            · refine q_iconst (v := (1 : Int32)) hM dX12_pupil_88 (by decide) ?_
              exact hE _ _ _ _ _ _ hW.1 nz_1 ⟨_, rfl, hW.2.1, hG, hW.2.2, (by have := kc_1; omega)⟩ dX12_pupil_89
            · refine q_aload_n hM dX12_pupil_69 (lv_at hl 0 rfl) ?_
              refine w_get (v := .ref (ad 161)) hM hW FG_X12_109 lb_129 (rf_129_55 hW.2.1) dX12_pupil_70 ?_
              refine q_bipush (v := (12 : Int32)) hM dX12_pupil_73 (by decide) ?_
              refine q_iload_n hM dX12_pupil_75 (lv_at hl 1 rfl) ?_
              refine q_imul hM dX12_pupil_76 (fun z7102 hz7102 => ?_)
              first | have tz7102 := i_mulT hz7102 (kc_12 : (12 : Int32).toInt = 12) (rfl : a.toInt = a.toInt) (by omega) (by omega) | skip
              refine q_iload hM dX12_pupil_77 (lv_at hl 4 rfl) ?_
              refine q_iadd hM dX12_pupil_79 (fun z7103 hz7103 => ?_)
              first | have tz7103 := i_addT hz7103 (rfl : z7102.toInt = z7102.toInt) (rfl : w62_4.toInt = w62_4.toInt) (by omega) (by omega) | skip
              refine q_iconst (v := (0 : Int32)) hM dX12_pupil_80 (by decide) ?_
              refine w_iast hM hW lb_161 (by omega) (i_in (by omega) (by omega)) dX12_pupil_81 (fun g7104 H locs hW e1 e2 => ?_)
              have hG := hG.st e1 e2 (rfl : rA 161 = (-2147483648, 2147483647)) (by have := kc_0; have := i_rng (0 : Int32); omega) (by have := kc_0; have := i_rng (0 : Int32); omega)
              refine q_iinc (lv9 := fun z7105 => [(4, .int z7105), (0, .ref (ad 129)), (1, .int a), (2, .int b), (3, .int c)]) hM dX12_pupil_82 hl (kq := 4) rfl (by decide) (fun _ => rfl) (fun z7105 ls hz7105 hl => ?_)
              first | have tz7105 := i_addT hz7105 (rfl : w62_4.toInt = w62_4.toInt) (kc_1 : (Int32.ofInt 1).toInt = 1) (by omega) (by omega) | skip
              refine q_goto (tgt := 62) hM dX12_pupil_85 (by decide) ?_
              exact ih62 z7105 _ _ _ _ (by omega) hG (by omega) (by omega) (lv_sub hl [1, 2, 3, 4, 0] rfl) hW
        have := kc_0
        exact L62 _ (0 : Int32) _ _ _ _ (Nat.lt_succ_self _) hG (by omega) (by omega) (lv_sub hl [1, 2, 3, 4, 0] rfl) hW
      · refine q_iconst (v := (0 : Int32)) hM dX12_pupil_36 (by decide) ?_
        exact hE _ _ _ _ _ _ hW.1 nz_0 ⟨_, rfl, hW.2.1, hG, hW.2.2, (by have := kc_0; omega)⟩ dX12_pupil_37

theorem dX12_knows_0 : decode cX12_knows 0 = .ok (.aload_n 0, 1) := by decide +kernel
theorem dX12_knows_1 : decode cX12_knows 1 = .ok (.iload_n 1, 1) := by decide +kernel
theorem dX12_knows_2 : decode cX12_knows 2 = .ok (.invokevirtual 421, 3) := by decide +kernel
theorem dX12_knows_5 : decode cX12_knows 5 = .ok (.ifCond .eq 23, 3) := by decide +kernel
theorem dX12_knows_8 : decode cX12_knows 8 = .ok (.aload_n 0, 1) := by decide +kernel
theorem dX12_knows_9 : decode cX12_knows 9 = .ok (.iload_n 2, 1) := by decide +kernel
theorem dX12_knows_10 : decode cX12_knows 10 = .ok (.invokevirtual 198, 3) := by decide +kernel
theorem dX12_knows_13 : decode cX12_knows 13 = .ok (.ifCond .eq 15, 3) := by decide +kernel
theorem dX12_knows_16 : decode cX12_knows 16 = .ok (.iload_n 3, 1) := by decide +kernel
theorem dX12_knows_17 : decode cX12_knows 17 = .ok (.i2l, 1) := by decide +kernel
theorem dX12_knows_18 : decode cX12_knows 18 = .ok (.lconst 0, 1) := by decide +kernel
theorem dX12_knows_19 : decode cX12_knows 19 = .ok (.ldc2_w 419, 3) := by decide +kernel
theorem dX12_knows_22 : decode cX12_knows 22 = .ok (.invokestatic 190, 3) := by decide +kernel
theorem dX12_knows_25 : decode cX12_knows 25 = .ok (.ifCond .ne 5, 3) := by decide +kernel
theorem dX12_knows_28 : decode cX12_knows 28 = .ok (.iconst 0, 1) := by decide +kernel
theorem dX12_knows_29 : decode cX12_knows 29 = .ok (.ireturn, 1) := by decide +kernel
theorem dX12_knows_30 : decode cX12_knows 30 = .ok (.aload_n 0, 1) := by decide +kernel
theorem dX12_knows_31 : decode cX12_knows 31 = .ok (.getfield 109, 3) := by decide +kernel
theorem dX12_knows_34 : decode cX12_knows 34 = .ok (.bipush 12, 2) := by decide +kernel
theorem dX12_knows_36 : decode cX12_knows 36 = .ok (.iload_n 1, 1) := by decide +kernel
theorem dX12_knows_37 : decode cX12_knows 37 = .ok (.imul, 1) := by decide +kernel
theorem dX12_knows_38 : decode cX12_knows 38 = .ok (.iload_n 2, 1) := by decide +kernel
theorem dX12_knows_39 : decode cX12_knows 39 = .ok (.iadd, 1) := by decide +kernel
theorem dX12_knows_40 : decode cX12_knows 40 = .ok (.iload_n 3, 1) := by decide +kernel
theorem dX12_knows_41 : decode cX12_knows 41 = .ok (.iastore, 1) := by decide +kernel
theorem dX12_knows_42 : decode cX12_knows 42 = .ok (.iconst 1, 1) := by decide +kernel
theorem dX12_knows_43 : decode cX12_knows 43 = .ok (.ireturn, 1) := by decide +kernel
set_option maxRecDepth 100000 in
set_option maxHeartbeats 4000000 in
theorem p_X12_knows (l : Launch) (D : va_G) (cA : Nat → ClassId) (ad : Nat → Nat) (g0 : Nat → va_E) (a : Int32) (b : Int32) (c : Int32)   (hSh : Shp ad cA g0) (hG : Rng g0) : CT l NN ad cA D yX12_knows cX12_knows 4 (some FieldType.boolean) (2, 46) [.ref (ad 129), .int a, .int b, .int c] g0 (fun v g' => ∃ (r : Int32), v = some (.int r) ∧ Shp ad cA g' ∧ Rng g' ∧ FR (fun i k => i = 161) g0 g' ∧ (r.toInt = 0 ∨ r.toInt = 1)) := by
  refine q_enterZ (by decide) (Nat.le_of_ble_eq_true rfl) (fun K H locs ls _ _ hM hW0 hR hC hE hl => ?_)
  have hl : lv_has ls 4 [(0, .ref (ad 129)), (1, .int a), (2, .int b), (3, .int c)] := hl
  have hW : WS ad cA (fun i k => i = 161) g0 K g0 H locs := ⟨hW0, hSh, FR.rf⟩
  have := kc_0
  have := kc_1
  have := kc_m1
  have := kc_m2
  refine q_aload_n hM dX12_knows_0 (lv_at hl 0 rfl) ?_
  refine q_iload_n hM dX12_knows_1 (lv_at hl 1 rfl) ?_
  refine q_callV (As := [.int a]) (rest := []) hM hW.1 hR hC myX12_isThat (kAW (v_6_2 (List.mem_of_getElem? (i := 9) rfl)) rfl) (rfl : vwCl[12]? = some (RX12, TX12, 86)) rfl lb_129.1 (shO hW.2.1 lb_129) (a_X12_isThat _ _ cA ad g0 a hW.2.1 hG) ⟨by decide, by decide⟩ rfl rfl hl.1 (Nat.le_of_ble_eq_true rfl) dX12_knows_2 (fun v g7108 H locs hp hW1 => ?_)
  obtain ⟨r7107, rfl, hr7107, rfl⟩ := hp
  have hW : WS ad cA (fun i k => i = 161) g0 K g0 H locs := ⟨hW1, hW.2.1, hW.2.2⟩
  refine q_if_eq (tgt := 28) hM dX12_knows_5 (by decide) (rfl : r7107.toInt = r7107.toInt) (fun h5 => ?_) (fun h5 => ?_)
  · refine q_iconst (v := (0 : Int32)) hM dX12_knows_28 (by decide) ?_
    exact hE _ _ _ _ _ _ hW.1 nz_0 ⟨_, rfl, hW.2.1, hG, hW.2.2, (by have := kc_0; omega)⟩ dX12_knows_29
  · refine q_aload_n hM dX12_knows_8 (lv_at hl 0 rfl) ?_
    refine q_iload_n hM dX12_knows_9 (lv_at hl 2 rfl) ?_
    refine q_callV (As := [.int b]) (rest := []) hM hW.1 hR hC myX12_isTold (kAW (v_5_5 (List.mem_of_getElem? (i := 6) rfl)) rfl) (rfl : vwCl[12]? = some (RX12, TX12, 86)) rfl lb_129.1 (shO hW.2.1 lb_129) (a_X12_isTold _ _ cA ad g0 b hW.2.1 hG) ⟨by decide, by decide⟩ rfl rfl hl.1 (Nat.le_of_ble_eq_true rfl) dX12_knows_10 (fun v g7112 H locs hp hW1 => ?_)
    obtain ⟨r7111, rfl, hr7111, rfl⟩ := hp
    have hW : WS ad cA (fun i k => i = 161) g0 K g0 H locs := ⟨hW1, hW.2.1, hW.2.2⟩
    refine q_if_eq (tgt := 28) hM dX12_knows_13 (by decide) (rfl : r7111.toInt = r7111.toInt) (fun h13 => ?_) (fun h13 => ?_)
    · refine q_iconst (v := (0 : Int32)) hM dX12_knows_28 (by decide) ?_
      exact hE _ _ _ _ _ _ hW.1 nz_0 ⟨_, rfl, hW.2.1, hG, hW.2.2, (by have := kc_0; omega)⟩ dX12_knows_29
    · refine q_iload_n hM dX12_knows_16 (lv_at hl 3 rfl) ?_
      refine q_i2l hM dX12_knows_17 ?_
      have := l_i2l c
      refine q_lconst (v := 0) hM dX12_knows_18 (by decide) ?_
      have := kl_0
      refine q_ldc2 (v := 99) hM (kAW (v_6_2 (List.mem_of_getElem? (i := 4) rfl)) rfl) dX12_knows_19 ?_
      have := kl_99
      refine q_callS (As := [.long c.toInt64, .long (0 : Int64), .long (99 : Int64)]) (rest := []) hM hW.1 hR hC myX12_lies (kAW (v_5_4 (List.mem_of_getElem? (i := 14) rfl)) rfl) (c_X12_lies _ _ cA ad g0 c.toInt64 (0 : Int64) (99 : Int64) hW.2.1) ⟨by decide, by decide⟩ rfl rfl hl.1 (Nat.le_of_ble_eq_true rfl) dX12_knows_22 (fun v g7116 H locs hp hW1 => ?_)
      obtain ⟨r7115, rfl, hr7115, rfl⟩ := hp
      have hW : WS ad cA (fun i k => i = 161) g0 K g0 H locs := ⟨hW1, hW.2.1, hW.2.2⟩
      refine q_if_ne (tgt := 30) hM dX12_knows_25 (by decide) (rfl : r7115.toInt = r7115.toInt) (fun h25 => ?_) (fun h25 => ?_)
      · refine q_aload_n hM dX12_knows_30 (lv_at hl 0 rfl) ?_
        refine w_get (v := .ref (ad 161)) hM hW FG_X12_109 lb_129 (rf_129_55 hW.2.1) dX12_knows_31 ?_
        refine q_bipush (v := (12 : Int32)) hM dX12_knows_34 (by decide) ?_
        refine q_iload_n hM dX12_knows_36 (lv_at hl 1 rfl) ?_
        refine q_imul hM dX12_knows_37 (fun z7118 hz7118 => ?_)
        first | have tz7118 := i_mulT hz7118 (kc_12 : (12 : Int32).toInt = 12) (rfl : a.toInt = a.toInt) (by omega) (by omega) | skip
        refine q_iload_n hM dX12_knows_38 (lv_at hl 2 rfl) ?_
        refine q_iadd hM dX12_knows_39 (fun z7119 hz7119 => ?_)
        first | have tz7119 := i_addT hz7119 (rfl : z7118.toInt = z7118.toInt) (rfl : b.toInt = b.toInt) (by omega) (by omega) | skip
        refine q_iload_n hM dX12_knows_40 (lv_at hl 3 rfl) ?_
        refine w_iast hM hW lb_161 (by omega) (i_in (by omega) (by omega)) dX12_knows_41 (fun g7120 H locs hW e1 e2 => ?_)
        have hG := hG.st e1 e2 (rfl : rA 161 = (-2147483648, 2147483647)) (by have := i_rng c; omega) (by have := i_rng c; omega)
        refine q_iconst (v := (1 : Int32)) hM dX12_knows_42 (by decide) ?_
        exact hE _ _ _ _ _ _ hW.1 nz_1 ⟨_, rfl, hW.2.1, hG, hW.2.2, (by have := kc_1; omega)⟩ dX12_knows_43
      · refine q_iconst (v := (0 : Int32)) hM dX12_knows_28 (by decide) ?_
        exact hE _ _ _ _ _ _ hW.1 nz_0 ⟨_, rfl, hW.2.1, hG, hW.2.2, (by have := kc_0; omega)⟩ dX12_knows_29

theorem dX12_feed_0 : decode cX12_feed 0 = .ok (.aload_n 0, 1) := by decide +kernel
theorem dX12_feed_1 : decode cX12_feed 1 = .ok (.getfield 166, 3) := by decide +kernel
theorem dX12_feed_4 : decode cX12_feed 4 = .ok (.bipush 20, 2) := by decide +kernel
theorem dX12_feed_6 : decode cX12_feed 6 = .ok (.iadd, 1) := by decide +kernel
theorem dX12_feed_7 : decode cX12_feed 7 = .ok (.sipush 260, 3) := by decide +kernel
theorem dX12_feed_10 : decode cX12_feed 10 = .ok (.if_icmp .le 5, 3) := by decide +kernel
theorem dX12_feed_13 : decode cX12_feed 13 = .ok (.iconst (-1), 1) := by decide +kernel
theorem dX12_feed_14 : decode cX12_feed 14 = .ok (.ireturn, 1) := by decide +kernel
theorem dX12_feed_15 : decode cX12_feed 15 = .ok (.aload_n 0, 1) := by decide +kernel
theorem dX12_feed_16 : decode cX12_feed 16 = .ok (.iload_n 1, 1) := by decide +kernel
theorem dX12_feed_17 : decode cX12_feed 17 = .ok (.invokevirtual 169, 3) := by decide +kernel
theorem dX12_feed_20 : decode cX12_feed 20 = .ok (.aload_n 0, 1) := by decide +kernel
theorem dX12_feed_21 : decode cX12_feed 21 = .ok (.iload_n 2, 1) := by decide +kernel
theorem dX12_feed_22 : decode cX12_feed 22 = .ok (.invokevirtual 169, 3) := by decide +kernel
theorem dX12_feed_25 : decode cX12_feed 25 = .ok (.aload_n 0, 1) := by decide +kernel
theorem dX12_feed_26 : decode cX12_feed 26 = .ok (.iload_n 3, 1) := by decide +kernel
theorem dX12_feed_27 : decode cX12_feed 27 = .ok (.invokevirtual 169, 3) := by decide +kernel
theorem dX12_feed_30 : decode cX12_feed 30 = .ok (.aload_n 0, 1) := by decide +kernel
theorem dX12_feed_31 : decode cX12_feed 31 = .ok (.iload 4, 2) := by decide +kernel
theorem dX12_feed_33 : decode cX12_feed 33 = .ok (.invokevirtual 169, 3) := by decide +kernel
theorem dX12_feed_36 : decode cX12_feed 36 = .ok (.aload_n 0, 1) := by decide +kernel
theorem dX12_feed_37 : decode cX12_feed 37 = .ok (.iload 5, 2) := by decide +kernel
theorem dX12_feed_39 : decode cX12_feed 39 = .ok (.invokevirtual 169, 3) := by decide +kernel
theorem dX12_feed_42 : decode cX12_feed 42 = .ok (.aload_n 0, 1) := by decide +kernel
theorem dX12_feed_43 : decode cX12_feed 43 = .ok (.getfield 166, 3) := by decide +kernel
theorem dX12_feed_46 : decode cX12_feed 46 = .ok (.ireturn, 1) := by decide +kernel
theorem myX12_push : MI yX12_push cX12_push 3 none 1 := ⟨kAW (v_5_4 (List.mem_of_getElem? (i := 8) rfl)) rfl, kAW (v_0_0 (List.mem_of_getElem? (i := 13) rfl)) rfl, kAW (v_5_4 (List.mem_of_getElem? (i := 7) rfl)) rfl, kAW (tp_t2 (List.mem_of_getElem? (i := 0) rfl)) rfl, by decide, by decide, by decide +kernel⟩
set_option maxRecDepth 100000 in
set_option maxHeartbeats 4000000 in
theorem p_X12_feed (l : Launch) (D : va_G) (cA : Nat → ClassId) (ad : Nat → Nat) (g0 : Nat → va_E) (a : Int32) (b : Int32) (c : Int32) (d : Int32) (e : Int32)   (hSh : Shp ad cA g0) (hG : Rng g0) (hT : TB g0) : CT l NN ad cA D yX12_feed cX12_feed 6 (some FieldType.int) (1, 22) [.ref (ad 129), .int a, .int b, .int c, .int d, .int e] g0 (fun v g' => ∃ (r : Int32), v = some (.int r) ∧ Shp ad cA g' ∧ Rng g' ∧ FR (fun i k => (i = 129 ∧ (k = 1)) ∨ i = 130) g0 g' ∧ (TB g')) := by
  refine q_enterI (by decide) (Nat.le_of_ble_eq_true rfl) rfl (fun K H locs ls _ _ hM hW0 hR hC hE hl => ?_)
  have hl : lv_has ls 6 [(0, .ref (ad 129)), (1, .int a), (2, .int b), (3, .int c), (4, .int d), (5, .int e)] := hl
  have hW : WS ad cA (fun i k => (i = 129 ∧ (k = 1)) ∨ i = 130) g0 K g0 H locs := ⟨hW0, hSh, FR.rf⟩
  have := kc_0
  have := kc_1
  have := kc_m1
  have := kc_m2
  refine q_aload_n hM dX12_feed_0 (lv_at hl 0 rfl) ?_
  refine w_getI hM hW FG_X12_166 lb_129 (by decide) (by decide) dX12_feed_1 (fun x7122 fx7122 => ?_)
  have bx7122 := hG.f fx7122 rF_129_1 (by decide)
  refine q_bipush (v := (20 : Int32)) hM dX12_feed_4 (by decide) ?_
  refine q_iadd hM dX12_feed_6 (fun z7123 hz7123 => ?_)
  first | have tz7123 := i_addT hz7123 (rfl : x7122.toInt = x7122.toInt) (kc_20 : (20 : Int32).toInt = 20) (by omega) (by omega) | skip
  refine q_sipush (v := (260 : Int32)) hM dX12_feed_7 (by decide) ?_
  refine q_icmp_le (tgt := 15) hM dX12_feed_10 (by decide) (rfl : z7123.toInt = z7123.toInt) (kc_260 : (260 : Int32).toInt = 260) (fun h10 => ?_) (fun h10 => ?_)
  · refine q_aload_n hM dX12_feed_15 (lv_at hl 0 rfl) ?_
    refine q_iload_n hM dX12_feed_16 (lv_at hl 1 rfl) ?_
    refine q_callV (As := [.int a]) (rest := []) hM hW.1 hR hC myX12_push (kAW (v_5_4 (List.mem_of_getElem? (i := 5) rfl)) rfl) (rfl : vwCl[12]? = some (RX12, TX12, 86)) rfl lb_129.1 (shO hW.2.1 lb_129) (a_X12_push _ _ cA ad g0 a x7122 hW.2.1 hG fx7122 (by  omega) (by  omega)) ⟨by decide, by decide⟩ rfl rfl hl.1 (Nat.le_of_ble_eq_true rfl) dX12_feed_17 (fun v g7129 H locs hp hW1 => ?_)
    obtain ⟨v7125, rfl, hs1, hG, hf1, q7126, e7127, e7128⟩ := hp
    have hW : WS ad cA (fun i k => (i = 129 ∧ (k = 1)) ∨ i = 130) g0 K g7129 H locs := ⟨hW1, hs1, hW.2.2.tr hf1 (fun i k h => h.elim (fun h => (Or.inl h)) (fun h => (Or.inr h)))⟩
    refine q_aload_n hM dX12_feed_20 (lv_at hl 0 rfl) ?_
    refine q_iload_n hM dX12_feed_21 (lv_at hl 2 rfl) ?_
    refine q_callV (As := [.int b]) (rest := []) hM hW.1 hR hC myX12_push (kAW (v_5_4 (List.mem_of_getElem? (i := 5) rfl)) rfl) (rfl : vwCl[12]? = some (RX12, TX12, 86)) rfl lb_129.1 (shO hW.2.1 lb_129) (a_X12_push _ _ cA ad g7129 b v7125 hW.2.1 hG q7126 (by  omega) (by  omega)) ⟨by decide, by decide⟩ rfl rfl hl.1 (Nat.le_of_ble_eq_true rfl) dX12_feed_22 (fun v g7134 H locs hp hW1 => ?_)
    obtain ⟨v7130, rfl, hs1, hG, hf1, q7131, e7132, e7133⟩ := hp
    have hW : WS ad cA (fun i k => (i = 129 ∧ (k = 1)) ∨ i = 130) g0 K g7134 H locs := ⟨hW1, hs1, hW.2.2.tr hf1 (fun i k h => h.elim (fun h => (Or.inl h)) (fun h => (Or.inr h)))⟩
    refine q_aload_n hM dX12_feed_25 (lv_at hl 0 rfl) ?_
    refine q_iload_n hM dX12_feed_26 (lv_at hl 3 rfl) ?_
    refine q_callV (As := [.int c]) (rest := []) hM hW.1 hR hC myX12_push (kAW (v_5_4 (List.mem_of_getElem? (i := 5) rfl)) rfl) (rfl : vwCl[12]? = some (RX12, TX12, 86)) rfl lb_129.1 (shO hW.2.1 lb_129) (a_X12_push _ _ cA ad g7134 c v7130 hW.2.1 hG q7131 (by  omega) (by  omega)) ⟨by decide, by decide⟩ rfl rfl hl.1 (Nat.le_of_ble_eq_true rfl) dX12_feed_27 (fun v g7139 H locs hp hW1 => ?_)
    obtain ⟨v7135, rfl, hs1, hG, hf1, q7136, e7137, e7138⟩ := hp
    have hW : WS ad cA (fun i k => (i = 129 ∧ (k = 1)) ∨ i = 130) g0 K g7139 H locs := ⟨hW1, hs1, hW.2.2.tr hf1 (fun i k h => h.elim (fun h => (Or.inl h)) (fun h => (Or.inr h)))⟩
    refine q_aload_n hM dX12_feed_30 (lv_at hl 0 rfl) ?_
    refine q_iload hM dX12_feed_31 (lv_at hl 4 rfl) ?_
    refine q_callV (As := [.int d]) (rest := []) hM hW.1 hR hC myX12_push (kAW (v_5_4 (List.mem_of_getElem? (i := 5) rfl)) rfl) (rfl : vwCl[12]? = some (RX12, TX12, 86)) rfl lb_129.1 (shO hW.2.1 lb_129) (a_X12_push _ _ cA ad g7139 d v7135 hW.2.1 hG q7136 (by  omega) (by  omega)) ⟨by decide, by decide⟩ rfl rfl hl.1 (Nat.le_of_ble_eq_true rfl) dX12_feed_33 (fun v g7144 H locs hp hW1 => ?_)
    obtain ⟨v7140, rfl, hs1, hG, hf1, q7141, e7142, e7143⟩ := hp
    have hW : WS ad cA (fun i k => (i = 129 ∧ (k = 1)) ∨ i = 130) g0 K g7144 H locs := ⟨hW1, hs1, hW.2.2.tr hf1 (fun i k h => h.elim (fun h => (Or.inl h)) (fun h => (Or.inr h)))⟩
    refine q_aload_n hM dX12_feed_36 (lv_at hl 0 rfl) ?_
    refine q_iload hM dX12_feed_37 (lv_at hl 5 rfl) ?_
    refine q_callV (As := [.int e]) (rest := []) hM hW.1 hR hC myX12_push (kAW (v_5_4 (List.mem_of_getElem? (i := 5) rfl)) rfl) (rfl : vwCl[12]? = some (RX12, TX12, 86)) rfl lb_129.1 (shO hW.2.1 lb_129) (a_X12_push _ _ cA ad g7144 e v7140 hW.2.1 hG q7141 (by  omega) (by  omega)) ⟨by decide, by decide⟩ rfl rfl hl.1 (Nat.le_of_ble_eq_true rfl) dX12_feed_39 (fun v g7149 H locs hp hW1 => ?_)
    obtain ⟨v7145, rfl, hs1, hG, hf1, q7146, e7147, e7148⟩ := hp
    have hW : WS ad cA (fun i k => (i = 129 ∧ (k = 1)) ∨ i = 130) g0 K g7149 H locs := ⟨hW1, hs1, hW.2.2.tr hf1 (fun i k h => h.elim (fun h => (Or.inl h)) (fun h => (Or.inr h)))⟩
    refine q_aload_n hM dX12_feed_42 (lv_at hl 0 rfl) ?_
    refine w_get (v := .int v7145) hM hW FG_X12_166 lb_129 q7146 dX12_feed_43 ?_
    have bv7145 := hG.f q7146 rF_129_1 (by decide)
    exact hE _ _ _ _ _ _ hW.1 ⟨_, rfl, hW.2.1, hG, hW.2.2, e7148⟩ dX12_feed_46
  · refine q_iconst (v := ((-1) : Int32)) hM dX12_feed_13 (by decide) ?_
    exact hE _ _ _ _ _ _ hW.1 ⟨_, rfl, hW.2.1, hG, hW.2.2, hT⟩ dX12_feed_14

theorem dX12_grade_0 : decode cX12_grade 0 = .ok (.iload_n 1, 1) := by decide +kernel
theorem dX12_grade_1 : decode cX12_grade 1 = .ok (.i2l, 1) := by decide +kernel
theorem dX12_grade_2 : decode cX12_grade 2 = .ok (.lconst 1, 1) := by decide +kernel
theorem dX12_grade_3 : decode cX12_grade 3 = .ok (.ldc2_w 202, 3) := by decide +kernel
theorem dX12_grade_6 : decode cX12_grade 6 = .ok (.invokestatic 190, 3) := by decide +kernel
theorem dX12_grade_9 : decode cX12_grade 9 = .ok (.ifCond .eq 17, 3) := by decide +kernel
theorem dX12_grade_12 : decode cX12_grade 12 = .ok (.iload_n 2, 1) := by decide +kernel
theorem dX12_grade_13 : decode cX12_grade 13 = .ok (.i2l, 1) := by decide +kernel
theorem dX12_grade_14 : decode cX12_grade 14 = .ok (.ldc2_w 276, 3) := by decide +kernel
theorem dX12_grade_17 : decode cX12_grade 17 = .ok (.ldc2_w 225, 3) := by decide +kernel
theorem dX12_grade_20 : decode cX12_grade 20 = .ok (.invokestatic 190, 3) := by decide +kernel
theorem dX12_grade_23 : decode cX12_grade 23 = .ok (.ifCond .ne 5, 3) := by decide +kernel
theorem dX12_grade_26 : decode cX12_grade 26 = .ok (.iconst 0, 1) := by decide +kernel
theorem dX12_grade_27 : decode cX12_grade 27 = .ok (.ireturn, 1) := by decide +kernel
theorem dX12_grade_28 : decode cX12_grade 28 = .ok (.aload_n 0, 1) := by decide +kernel
theorem dX12_grade_29 : decode cX12_grade 29 = .ok (.getfield 40, 3) := by decide +kernel
theorem dX12_grade_32 : decode cX12_grade 32 = .ok (.iload_n 1, 1) := by decide +kernel
theorem dX12_grade_33 : decode cX12_grade 33 = .ok (.iload_n 2, 1) := by decide +kernel
theorem dX12_grade_34 : decode cX12_grade 34 = .ok (.iastore, 1) := by decide +kernel
theorem dX12_grade_35 : decode cX12_grade 35 = .ok (.iconst 1, 1) := by decide +kernel
theorem dX12_grade_36 : decode cX12_grade 36 = .ok (.ireturn, 1) := by decide +kernel
set_option maxRecDepth 100000 in
set_option maxHeartbeats 4000000 in
theorem p_X12_grade (l : Launch) (D : va_G) (cA : Nat → ClassId) (ad : Nat → Nat) (g0 : Nat → va_E) (a : Int32) (b : Int32)   (hSh : Shp ad cA g0) (hG : Rng g0) : CT l NN ad cA D yX12_grade cX12_grade 3 (some FieldType.boolean) (1, 25) [.ref (ad 129), .int a, .int b] g0 (fun v g' => ∃ (r : Int32), v = some (.int r) ∧ Shp ad cA g' ∧ Rng g' ∧ FR (fun i k => i = 138) g0 g' ∧ ((r.toInt = 1 ∧ 1 ≤ a.toInt ∧ a.toInt ≤ 9 ∧ -1 ≤ b.toInt ∧ b.toInt ≤ 5) ∨ (r.toInt = 0 ∧ ¬ (1 ≤ a.toInt ∧ a.toInt ≤ 9 ∧ -1 ≤ b.toInt ∧ b.toInt ≤ 5)))) := by
  refine q_enterZ (by decide) (Nat.le_of_ble_eq_true rfl) (fun K H locs ls _ _ hM hW0 hR hC hE hl => ?_)
  have hl : lv_has ls 3 [(0, .ref (ad 129)), (1, .int a), (2, .int b)] := hl
  have hW : WS ad cA (fun i k => i = 138) g0 K g0 H locs := ⟨hW0, hSh, FR.rf⟩
  have := kc_0
  have := kc_1
  have := kc_m1
  have := kc_m2
  refine q_iload_n hM dX12_grade_0 (lv_at hl 1 rfl) ?_
  refine q_i2l hM dX12_grade_1 ?_
  have := l_i2l a
  refine q_lconst (v := 1) hM dX12_grade_2 (by decide) ?_
  have := kl_1
  refine q_ldc2 (v := 9) hM (kAW (v_5_5 (List.mem_of_getElem? (i := 10) rfl)) rfl) dX12_grade_3 ?_
  have := kl_9
  refine q_callS (As := [.long a.toInt64, .long (1 : Int64), .long (9 : Int64)]) (rest := []) hM hW.1 hR hC myX12_lies (kAW (v_5_4 (List.mem_of_getElem? (i := 14) rfl)) rfl) (c_X12_lies _ _ cA ad g0 a.toInt64 (1 : Int64) (9 : Int64) hW.2.1) ⟨by decide, by decide⟩ rfl rfl hl.1 (Nat.le_of_ble_eq_true rfl) dX12_grade_6 (fun v g7152 H locs hp hW1 => ?_)
  obtain ⟨r7151, rfl, hr7151, rfl⟩ := hp
  have hW : WS ad cA (fun i k => i = 138) g0 K g0 H locs := ⟨hW1, hW.2.1, hW.2.2⟩
  refine q_if_eq (tgt := 26) hM dX12_grade_9 (by decide) (rfl : r7151.toInt = r7151.toInt) (fun h9 => ?_) (fun h9 => ?_)
  · refine q_iconst (v := (0 : Int32)) hM dX12_grade_26 (by decide) ?_
    exact hE _ _ _ _ _ _ hW.1 nz_0 ⟨_, rfl, hW.2.1, hG, hW.2.2, (by have := kc_0; omega)⟩ dX12_grade_27
  · refine q_iload_n hM dX12_grade_12 (lv_at hl 2 rfl) ?_
    refine q_i2l hM dX12_grade_13 ?_
    have := l_i2l b
    refine q_ldc2 (v := (-1)) hM (kAW (v_5_11 (List.mem_of_getElem? (i := 5) rfl)) rfl) dX12_grade_14 ?_
    have := kl_m1
    refine q_ldc2 (v := 5) hM (kAW (v_5_8 (List.mem_of_getElem? (i := 5) rfl)) rfl) dX12_grade_17 ?_
    have := kl_5
    refine q_callS (As := [.long b.toInt64, .long ((-1) : Int64), .long (5 : Int64)]) (rest := []) hM hW.1 hR hC myX12_lies (kAW (v_5_4 (List.mem_of_getElem? (i := 14) rfl)) rfl) (c_X12_lies _ _ cA ad g0 b.toInt64 ((-1) : Int64) (5 : Int64) hW.2.1) ⟨by decide, by decide⟩ rfl rfl hl.1 (Nat.le_of_ble_eq_true rfl) dX12_grade_20 (fun v g7156 H locs hp hW1 => ?_)
    obtain ⟨r7155, rfl, hr7155, rfl⟩ := hp
    have hW : WS ad cA (fun i k => i = 138) g0 K g0 H locs := ⟨hW1, hW.2.1, hW.2.2⟩
    refine q_if_ne (tgt := 28) hM dX12_grade_23 (by decide) (rfl : r7155.toInt = r7155.toInt) (fun h23 => ?_) (fun h23 => ?_)
    · refine q_aload_n hM dX12_grade_28 (lv_at hl 0 rfl) ?_
      refine w_get (v := .ref (ad 138)) hM hW FG_X12_40 lb_129 (rf_129_17 hW.2.1) dX12_grade_29 ?_
      refine q_iload_n hM dX12_grade_32 (lv_at hl 1 rfl) ?_
      refine q_iload_n hM dX12_grade_33 (lv_at hl 2 rfl) ?_
      refine w_iast hM hW lb_138 (by omega) (i_in (by omega) (by omega)) dX12_grade_34 (fun g7158 H locs hW e1 e2 => ?_)
      have hG := hG.st e1 e2 (rfl : rA 138 = (-2147483648, 2147483647)) (by have := i_rng b; omega) (by have := i_rng b; omega)
      refine q_iconst (v := (1 : Int32)) hM dX12_grade_35 (by decide) ?_
      exact hE _ _ _ _ _ _ hW.1 nz_1 ⟨_, rfl, hW.2.1, hG, hW.2.2, (by have := kc_1; omega)⟩ dX12_grade_36
    · refine q_iconst (v := (0 : Int32)) hM dX12_grade_26 (by decide) ?_
      exact hE _ _ _ _ _ _ hW.1 nz_0 ⟨_, rfl, hW.2.1, hG, hW.2.2, (by have := kc_0; omega)⟩ dX12_grade_27

theorem dX12_exam_0 : decode cX12_exam 0 = .ok (.iload_n 1, 1) := by decide +kernel
theorem dX12_exam_1 : decode cX12_exam 1 = .ok (.i2l, 1) := by decide +kernel
theorem dX12_exam_2 : decode cX12_exam 2 = .ok (.lconst 0, 1) := by decide +kernel
theorem dX12_exam_3 : decode cX12_exam 3 = .ok (.ldc2_w 424, 3) := by decide +kernel
theorem dX12_exam_6 : decode cX12_exam 6 = .ok (.invokestatic 190, 3) := by decide +kernel
theorem dX12_exam_9 : decode cX12_exam 9 = .ok (.ifCond .eq 15, 3) := by decide +kernel
theorem dX12_exam_12 : decode cX12_exam 12 = .ok (.iload_n 2, 1) := by decide +kernel
theorem dX12_exam_13 : decode cX12_exam 13 = .ok (.i2l, 1) := by decide +kernel
theorem dX12_exam_14 : decode cX12_exam 14 = .ok (.lconst 0, 1) := by decide +kernel
theorem dX12_exam_15 : decode cX12_exam 15 = .ok (.ldc2_w 426, 3) := by decide +kernel
theorem dX12_exam_18 : decode cX12_exam 18 = .ok (.invokestatic 190, 3) := by decide +kernel
theorem dX12_exam_21 : decode cX12_exam 21 = .ok (.ifCond .ne 5, 3) := by decide +kernel
theorem dX12_exam_24 : decode cX12_exam 24 = .ok (.iconst 0, 1) := by decide +kernel
theorem dX12_exam_25 : decode cX12_exam 25 = .ok (.ireturn, 1) := by decide +kernel
theorem dX12_exam_26 : decode cX12_exam 26 = .ok (.aload_n 0, 1) := by decide +kernel
theorem dX12_exam_27 : decode cX12_exam 27 = .ok (.iload_n 1, 1) := by decide +kernel
theorem dX12_exam_28 : decode cX12_exam 28 = .ok (.putfield 428, 3) := by decide +kernel
theorem dX12_exam_31 : decode cX12_exam 31 = .ok (.aload_n 0, 1) := by decide +kernel
theorem dX12_exam_32 : decode cX12_exam 32 = .ok (.iload_n 2, 1) := by decide +kernel
theorem dX12_exam_33 : decode cX12_exam 33 = .ok (.putfield 431, 3) := by decide +kernel
theorem dX12_exam_36 : decode cX12_exam 36 = .ok (.iconst 1, 1) := by decide +kernel
theorem dX12_exam_37 : decode cX12_exam 37 = .ok (.ireturn, 1) := by decide +kernel
theorem FP_X12_428 : FPX RX12 428 12 86 59 .int := ⟨⟨RX12, TX12, tyX12, rfl, wX12, by decide, kAW (v_4_6 (List.mem_of_getElem? (i := 8) rfl)) rfl, rfl, tyX12_ok, nmX12, by decide +kernel, rfl⟩, by decide +kernel⟩
theorem FP_X12_431 : FPX RX12 431 12 86 60 .int := ⟨⟨RX12, TX12, tyX12, rfl, wX12, by decide, kAW (v_4_6 (List.mem_of_getElem? (i := 9) rfl)) rfl, rfl, tyX12_ok, nmX12, by decide +kernel, rfl⟩, by decide +kernel⟩
set_option maxRecDepth 100000 in
set_option maxHeartbeats 4000000 in
theorem p_X12_exam (l : Launch) (D : va_G) (cA : Nat → ClassId) (ad : Nat → Nat) (g0 : Nat → va_E) (a : Int32) (b : Int32)   (hSh : Shp ad cA g0) (hG : Rng g0) : CT l NN ad cA D yX12_exam cX12_exam 3 (some FieldType.boolean) (1, 25) [.ref (ad 129), .int a, .int b] g0 (fun v g' => ∃ (r : Int32), v = some (.int r) ∧ Shp ad cA g' ∧ Rng g' ∧ FR (fun i k => (i = 129 ∧ (k = 59 ∨ k = 60))) g0 g' ∧ ((r.toInt = 1 ∧ 0 ≤ a.toInt ∧ a.toInt ≤ 4095 ∧ 0 ≤ b.toInt ∧ b.toInt ≤ 12) ∨ (r.toInt = 0 ∧ ¬ (0 ≤ a.toInt ∧ a.toInt ≤ 4095 ∧ 0 ≤ b.toInt ∧ b.toInt ≤ 12)))) := by
  refine q_enterZ (by decide) (Nat.le_of_ble_eq_true rfl) (fun K H locs ls _ _ hM hW0 hR hC hE hl => ?_)
  have hl : lv_has ls 3 [(0, .ref (ad 129)), (1, .int a), (2, .int b)] := hl
  have hW : WS ad cA (fun i k => (i = 129 ∧ (k = 59 ∨ k = 60))) g0 K g0 H locs := ⟨hW0, hSh, FR.rf⟩
  have := kc_0
  have := kc_1
  have := kc_m1
  have := kc_m2
  refine q_iload_n hM dX12_exam_0 (lv_at hl 1 rfl) ?_
  refine q_i2l hM dX12_exam_1 ?_
  have := l_i2l a
  refine q_lconst (v := 0) hM dX12_exam_2 (by decide) ?_
  have := kl_0
  refine q_ldc2 (v := 4095) hM (kAW (v_6_3 (List.mem_of_getElem? (i := 1) rfl)) rfl) dX12_exam_3 ?_
  have := kl_4095
  refine q_callS (As := [.long a.toInt64, .long (0 : Int64), .long (4095 : Int64)]) (rest := []) hM hW.1 hR hC myX12_lies (kAW (v_5_4 (List.mem_of_getElem? (i := 14) rfl)) rfl) (c_X12_lies _ _ cA ad g0 a.toInt64 (0 : Int64) (4095 : Int64) hW.2.1) ⟨by decide, by decide⟩ rfl rfl hl.1 (Nat.le_of_ble_eq_true rfl) dX12_exam_6 (fun v g7161 H locs hp hW1 => ?_)
  obtain ⟨r7160, rfl, hr7160, rfl⟩ := hp
  have hW : WS ad cA (fun i k => (i = 129 ∧ (k = 59 ∨ k = 60))) g0 K g0 H locs := ⟨hW1, hW.2.1, hW.2.2⟩
  refine q_if_eq (tgt := 24) hM dX12_exam_9 (by decide) (rfl : r7160.toInt = r7160.toInt) (fun h9 => ?_) (fun h9 => ?_)
  · refine q_iconst (v := (0 : Int32)) hM dX12_exam_24 (by decide) ?_
    exact hE _ _ _ _ _ _ hW.1 nz_0 ⟨_, rfl, hW.2.1, hG, hW.2.2, (by have := kc_0; omega)⟩ dX12_exam_25
  · refine q_iload_n hM dX12_exam_12 (lv_at hl 2 rfl) ?_
    refine q_i2l hM dX12_exam_13 ?_
    have := l_i2l b
    refine q_lconst (v := 0) hM dX12_exam_14 (by decide) ?_
    have := kl_0
    refine q_ldc2 (v := 12) hM (kAW (v_6_3 (List.mem_of_getElem? (i := 2) rfl)) rfl) dX12_exam_15 ?_
    have := kl_12
    refine q_callS (As := [.long b.toInt64, .long (0 : Int64), .long (12 : Int64)]) (rest := []) hM hW.1 hR hC myX12_lies (kAW (v_5_4 (List.mem_of_getElem? (i := 14) rfl)) rfl) (c_X12_lies _ _ cA ad g0 b.toInt64 (0 : Int64) (12 : Int64) hW.2.1) ⟨by decide, by decide⟩ rfl rfl hl.1 (Nat.le_of_ble_eq_true rfl) dX12_exam_18 (fun v g7165 H locs hp hW1 => ?_)
    obtain ⟨r7164, rfl, hr7164, rfl⟩ := hp
    have hW : WS ad cA (fun i k => (i = 129 ∧ (k = 59 ∨ k = 60))) g0 K g0 H locs := ⟨hW1, hW.2.1, hW.2.2⟩
    refine q_if_ne (tgt := 26) hM dX12_exam_21 (by decide) (rfl : r7164.toInt = r7164.toInt) (fun h21 => ?_) (fun h21 => ?_)
    · refine q_aload_n hM dX12_exam_26 (lv_at hl 0 rfl) ?_
      refine q_iload_n hM dX12_exam_27 (lv_at hl 1 rfl) ?_
      refine w_put hM hW FP_X12_428 lb_129 (by omega) (Or.inl ⟨_, rfl⟩) rfl rfl dX12_exam_28 (fun g7167 H locs hW e1 e2 => ?_)
      have f7168 : fld g7167 129 59 = .int a := e1
      have hG := hG.put e1 e2 (rfl : rF 129 59 = (-2147483648, 2147483647)) (by decide) (by have := i_rng a; omega) (by have := i_rng a; omega)
      refine q_aload_n hM dX12_exam_31 (lv_at hl 0 rfl) ?_
      refine q_iload_n hM dX12_exam_32 (lv_at hl 2 rfl) ?_
      refine w_put hM hW FP_X12_431 lb_129 (by omega) (Or.inl ⟨_, rfl⟩) rfl rfl dX12_exam_33 (fun g7169 H locs hW e1 e2 => ?_)
      have f7170 : fld g7169 129 59 = .int a := (e2.1 129 59 (by unfold Only; omega)).trans f7168
      have f7171 : fld g7169 129 60 = .int b := e1
      have hG := hG.put e1 e2 (rfl : rF 129 60 = (-2147483648, 2147483647)) (by decide) (by have := i_rng b; omega) (by have := i_rng b; omega)
      refine q_iconst (v := (1 : Int32)) hM dX12_exam_36 (by decide) ?_
      exact hE _ _ _ _ _ _ hW.1 nz_1 ⟨_, rfl, hW.2.1, hG, hW.2.2, (by have := kc_1; omega)⟩ dX12_exam_37
    · refine q_iconst (v := (0 : Int32)) hM dX12_exam_24 (by decide) ?_
      exact hE _ _ _ _ _ _ hW.1 nz_0 ⟨_, rfl, hW.2.1, hG, hW.2.2, (by have := kc_0; omega)⟩ dX12_exam_25

theorem dX12_weeks_0 : decode cX12_weeks 0 = .ok (.iload_n 1, 1) := by decide +kernel
theorem dX12_weeks_1 : decode cX12_weeks 1 = .ok (.i2l, 1) := by decide +kernel
theorem dX12_weeks_2 : decode cX12_weeks 2 = .ok (.lconst 1, 1) := by decide +kernel
theorem dX12_weeks_3 : decode cX12_weeks 3 = .ok (.ldc2_w 268, 3) := by decide +kernel
theorem dX12_weeks_6 : decode cX12_weeks 6 = .ok (.invokestatic 190, 3) := by decide +kernel
theorem dX12_weeks_9 : decode cX12_weeks 9 = .ok (.ifCond .ne 5, 3) := by decide +kernel
theorem dX12_weeks_12 : decode cX12_weeks 12 = .ok (.iconst (-1), 1) := by decide +kernel
theorem dX12_weeks_13 : decode cX12_weeks 13 = .ok (.ireturn, 1) := by decide +kernel
theorem dX12_weeks_14 : decode cX12_weeks 14 = .ok (.aload_n 0, 1) := by decide +kernel
theorem dX12_weeks_15 : decode cX12_weeks 15 = .ok (.iload_n 1, 1) := by decide +kernel
theorem dX12_weeks_16 : decode cX12_weeks 16 = .ok (.iconst (-1), 1) := by decide +kernel
theorem dX12_weeks_17 : decode cX12_weeks 17 = .ok (.invokevirtual 504, 3) := by decide +kernel
theorem dX12_weeks_20 : decode cX12_weeks 20 = .ok (.aload_n 0, 1) := by decide +kernel
theorem dX12_weeks_21 : decode cX12_weeks 21 = .ok (.getfield 474, 3) := by decide +kernel
theorem dX12_weeks_24 : decode cX12_weeks 24 = .ok (.ireturn, 1) := by decide +kernel
set_option maxRecDepth 100000 in
set_option maxHeartbeats 4000000 in
theorem p_X12_weeks (l : Launch) (D : va_G) (cA : Nat → ClassId) (ad : Nat → Nat) (g0 : Nat → va_E) (a : Int32)   (hSh : Shp ad cA g0) (hG : Rng g0) (hL : LawOK g0) : CT l NN ad cA D yX12_weeks cX12_weeks 2 (some FieldType.int) (10, 232) [.ref (ad 129), .int a] g0 (fun v g' => ∃ (r : Int32), v = some (.int r) ∧ Shp ad cA g' ∧ Rng g' ∧ FR (fun i k => i = 161 ∨ i = 156 ∨ i = 157 ∨ (i = 129 ∧ (k = 42 ∨ k = 43 ∨ k = 44 ∨ k = 45 ∨ k = 46 ∨ k = 47 ∨ k = 48 ∨ k = 49)) ∨ (i = 129 ∧ (k = 2 ∨ k = 57 ∨ k = 58 ∨ k = 61 ∨ k = 62 ∨ k = 63 ∨ k = 64)) ∨ i = 159 ∨ (i = 129 ∧ (k = 56 ∨ k = 65 ∨ k = 66))) g0 g') := by
  refine q_enterI (by decide) (Nat.le_of_ble_eq_true rfl) rfl (fun K H locs ls _ _ hM hW0 hR hC hE hl => ?_)
  have hl : lv_has ls 2 [(0, .ref (ad 129)), (1, .int a)] := hl
  have hW : WS ad cA (fun i k => i = 161 ∨ i = 156 ∨ i = 157 ∨ (i = 129 ∧ (k = 42 ∨ k = 43 ∨ k = 44 ∨ k = 45 ∨ k = 46 ∨ k = 47 ∨ k = 48 ∨ k = 49)) ∨ (i = 129 ∧ (k = 2 ∨ k = 57 ∨ k = 58 ∨ k = 61 ∨ k = 62 ∨ k = 63 ∨ k = 64)) ∨ i = 159 ∨ (i = 129 ∧ (k = 56 ∨ k = 65 ∨ k = 66))) g0 K g0 H locs := ⟨hW0, hSh, FR.rf⟩
  have := kc_0
  have := kc_1
  have := kc_m1
  have := kc_m2
  refine q_iload_n hM dX12_weeks_0 (lv_at hl 1 rfl) ?_
  refine q_i2l hM dX12_weeks_1 ?_
  have := l_i2l a
  refine q_lconst (v := 1) hM dX12_weeks_2 (by decide) ?_
  have := kl_1
  refine q_ldc2 (v := 60) hM (kAW (v_5_8 (List.mem_of_getElem? (i := 6) rfl)) rfl) dX12_weeks_3 ?_
  have := kl_60
  refine q_callS (As := [.long a.toInt64, .long (1 : Int64), .long (60 : Int64)]) (rest := []) hM hW.1 hR hC myX12_lies (kAW (v_5_4 (List.mem_of_getElem? (i := 14) rfl)) rfl) (c_X12_lies _ _ cA ad g0 a.toInt64 (1 : Int64) (60 : Int64) hW.2.1) ⟨by decide, by decide⟩ rfl rfl hl.1 (Nat.le_of_ble_eq_true rfl) dX12_weeks_6 (fun v g7174 H locs hp hW1 => ?_)
  obtain ⟨r7173, rfl, hr7173, rfl⟩ := hp
  have hW : WS ad cA (fun i k => i = 161 ∨ i = 156 ∨ i = 157 ∨ (i = 129 ∧ (k = 42 ∨ k = 43 ∨ k = 44 ∨ k = 45 ∨ k = 46 ∨ k = 47 ∨ k = 48 ∨ k = 49)) ∨ (i = 129 ∧ (k = 2 ∨ k = 57 ∨ k = 58 ∨ k = 61 ∨ k = 62 ∨ k = 63 ∨ k = 64)) ∨ i = 159 ∨ (i = 129 ∧ (k = 56 ∨ k = 65 ∨ k = 66))) g0 K g0 H locs := ⟨hW1, hW.2.1, hW.2.2⟩
  refine q_if_ne (tgt := 14) hM dX12_weeks_9 (by decide) (rfl : r7173.toInt = r7173.toInt) (fun h9 => ?_) (fun h9 => ?_)
  · refine q_aload_n hM dX12_weeks_14 (lv_at hl 0 rfl) ?_
    refine q_iload_n hM dX12_weeks_15 (lv_at hl 1 rfl) ?_
    refine q_iconst (v := ((-1) : Int32)) hM dX12_weeks_16 (by decide) ?_
    refine q_callV (As := [.int a, .int ((-1) : Int32)]) (rest := []) hM hW.1 hR hC myX12_go (kAW (v_6_7 (List.mem_of_getElem? (i := 13) rfl)) rfl) (rfl : vwCl[12]? = some (RX12, TX12, 86)) rfl lb_129.1 (shO hW.2.1 lb_129) (a_X12_go_m _ _ cA ad g0 a hW.2.1 hG (by have := kc_m1; omega) (LawOK_fr hL hW.2.2 (by omega) (by omega) (by omega) (by omega) (by omega))) ⟨by decide, by decide⟩ rfl rfl hl.1 (Nat.le_of_ble_eq_true rfl) dX12_weeks_17 (fun v g7176 H locs hp hW1 => ?_)
    obtain ⟨rfl, hs1, hG, hf1⟩ := hp
    have hW : WS ad cA (fun i k => i = 161 ∨ i = 156 ∨ i = 157 ∨ (i = 129 ∧ (k = 42 ∨ k = 43 ∨ k = 44 ∨ k = 45 ∨ k = 46 ∨ k = 47 ∨ k = 48 ∨ k = 49)) ∨ (i = 129 ∧ (k = 2 ∨ k = 57 ∨ k = 58 ∨ k = 61 ∨ k = 62 ∨ k = 63 ∨ k = 64)) ∨ i = 159 ∨ (i = 129 ∧ (k = 56 ∨ k = 65 ∨ k = 66))) g0 K g7176 H locs := ⟨hW1, hs1, hW.2.2.tr hf1 (fun i k h => h.elim (fun h => (Or.inl h)) (fun h => h.elim (fun h => (Or.inr (Or.inl h))) (fun h => h.elim (fun h => (Or.inr (Or.inr (Or.inl h)))) (fun h => h.elim (fun h => (Or.inr (Or.inr (Or.inr (Or.inl h))))) (fun h => h.elim (fun h => (Or.inr (Or.inr (Or.inr (Or.inr (Or.inl h)))))) (fun h => h.elim (fun h => (Or.inr (Or.inr (Or.inr (Or.inr (Or.inr (Or.inl h))))))) (fun h => (Or.inr (Or.inr (Or.inr (Or.inr (Or.inr (Or.inr h)))))))))))))⟩
    refine q_aload_n hM dX12_weeks_20 (lv_at hl 0 rfl) ?_
    refine w_getI hM hW FG_X12_474 lb_129 (by decide) (by decide) dX12_weeks_21 (fun x7177 fx7177 => ?_)
    exact hE _ _ _ _ _ _ hW.1 ⟨_, rfl, hW.2.1, hG, hW.2.2⟩ dX12_weeks_24
  · refine q_iconst (v := ((-1) : Int32)) hM dX12_weeks_12 (by decide) ?_
    exact hE _ _ _ _ _ _ hW.1 ⟨_, rfl, hW.2.1, hG, hW.2.2⟩ dX12_weeks_13

theorem dX12_tried_0 : decode cX12_tried 0 = .ok (.aload_n 0, 1) := by decide +kernel
theorem dX12_tried_1 : decode cX12_tried 1 = .ok (.iconst 0, 1) := by decide +kernel
theorem dX12_tried_2 : decode cX12_tried 2 = .ok (.iload_n 1, 1) := by decide +kernel
theorem dX12_tried_3 : decode cX12_tried 3 = .ok (.iload_n 2, 1) := by decide +kernel
theorem dX12_tried_4 : decode cX12_tried 4 = .ok (.invokevirtual 518, 3) := by decide +kernel
theorem dX12_tried_7 : decode cX12_tried 7 = .ok (.ireturn, 1) := by decide +kernel
theorem myX12_triedBy : MI yX12_triedBy cX12_triedBy 5 (some FieldType.int) 3 := ⟨kAW (v_6_10 (List.mem_of_getElem? (i := 0) rfl)) rfl, kAW (v_0_0 (List.mem_of_getElem? (i := 13) rfl)) rfl, kAW (v_6_9 (List.mem_of_getElem? (i := 15) rfl)) rfl, kAW (tp_t5 (List.mem_of_getElem? (i := 4) rfl)) rfl, by decide, by decide, by decide +kernel⟩
set_option maxRecDepth 100000 in
set_option maxHeartbeats 4000000 in
theorem p_X12_tried (l : Launch) (D : va_G) (cA : Nat → ClassId) (ad : Nat → Nat) (g0 : Nat → va_E) (a : Int32) (b : Int32)   (hSh : Shp ad cA g0) (hG : Rng g0) (hL : LawOK g0) : CT l NN ad cA D yX12_tried cX12_tried 3 (some FieldType.int) (11, 256) [.ref (ad 129), .int a, .int b] g0 (fun v g' => ∃ (r : Int32), v = some (.int r) ∧ Shp ad cA g' ∧ Rng g' ∧ FR (fun i k => i = 161 ∨ i = 156 ∨ i = 157 ∨ (i = 129 ∧ (k = 42 ∨ k = 43 ∨ k = 44 ∨ k = 45 ∨ k = 46 ∨ k = 47 ∨ k = 48 ∨ k = 49)) ∨ (i = 129 ∧ (k = 2 ∨ k = 57 ∨ k = 58 ∨ k = 61 ∨ k = 62 ∨ k = 63 ∨ k = 64)) ∨ i = 159 ∨ (i = 129 ∧ (k = 56 ∨ k = 65 ∨ k = 66)) ∨ (162 ≤ i ∧ i < 170) ∨ (158 ≤ i ∧ i < 162) ∨ (i = 129 ∧ (k = 31))) g0 g') := by
  refine q_enterI (by decide) (Nat.le_of_ble_eq_true rfl) rfl (fun K H locs ls _ _ hM hW0 hR hC hE hl => ?_)
  have hl : lv_has ls 3 [(0, .ref (ad 129)), (1, .int a), (2, .int b)] := hl
  have hW : WS ad cA (fun i k => i = 161 ∨ i = 156 ∨ i = 157 ∨ (i = 129 ∧ (k = 42 ∨ k = 43 ∨ k = 44 ∨ k = 45 ∨ k = 46 ∨ k = 47 ∨ k = 48 ∨ k = 49)) ∨ (i = 129 ∧ (k = 2 ∨ k = 57 ∨ k = 58 ∨ k = 61 ∨ k = 62 ∨ k = 63 ∨ k = 64)) ∨ i = 159 ∨ (i = 129 ∧ (k = 56 ∨ k = 65 ∨ k = 66)) ∨ (162 ≤ i ∧ i < 170) ∨ (158 ≤ i ∧ i < 162) ∨ (i = 129 ∧ (k = 31))) g0 K g0 H locs := ⟨hW0, hSh, FR.rf⟩
  have := kc_0
  have := kc_1
  have := kc_m1
  have := kc_m2
  refine q_aload_n hM dX12_tried_0 (lv_at hl 0 rfl) ?_
  refine q_iconst (v := (0 : Int32)) hM dX12_tried_1 (by decide) ?_
  refine q_iload_n hM dX12_tried_2 (lv_at hl 1 rfl) ?_
  refine q_iload_n hM dX12_tried_3 (lv_at hl 2 rfl) ?_
  refine q_callV (As := [.int (0 : Int32), .int a, .int b]) (rest := []) hM hW.1 hR hC myX12_triedBy (kAW (v_6_9 (List.mem_of_getElem? (i := 13) rfl)) rfl) (rfl : vwCl[12]? = some (RX12, TX12, 86)) rfl lb_129.1 (shO hW.2.1 lb_129) (a_X12_triedBy _ _ cA ad g0 (0 : Int32) a b hW.2.1 hG (by have := kc_0; omega) (by have := kc_0; omega) (LawOK_fr hL hW.2.2 (by omega) (by omega) (by omega) (by omega) (by omega))) ⟨by decide, by decide⟩ rfl rfl hl.1 (Nat.le_of_ble_eq_true rfl) dX12_tried_4 (fun v g7180 H locs hp hW1 => ?_)
  obtain ⟨r7179, rfl, hs1, hG, hf1⟩ := hp
  have hW : WS ad cA (fun i k => i = 161 ∨ i = 156 ∨ i = 157 ∨ (i = 129 ∧ (k = 42 ∨ k = 43 ∨ k = 44 ∨ k = 45 ∨ k = 46 ∨ k = 47 ∨ k = 48 ∨ k = 49)) ∨ (i = 129 ∧ (k = 2 ∨ k = 57 ∨ k = 58 ∨ k = 61 ∨ k = 62 ∨ k = 63 ∨ k = 64)) ∨ i = 159 ∨ (i = 129 ∧ (k = 56 ∨ k = 65 ∨ k = 66)) ∨ (162 ≤ i ∧ i < 170) ∨ (158 ≤ i ∧ i < 162) ∨ (i = 129 ∧ (k = 31))) g0 K g7180 H locs := ⟨hW1, hs1, hW.2.2.tr hf1 (fun i k h => h.elim (fun h => (Or.inl h)) (fun h => h.elim (fun h => (Or.inr (Or.inl h))) (fun h => h.elim (fun h => (Or.inr (Or.inr (Or.inl h)))) (fun h => h.elim (fun h => (Or.inr (Or.inr (Or.inr (Or.inl h))))) (fun h => h.elim (fun h => (Or.inr (Or.inr (Or.inr (Or.inr (Or.inl h)))))) (fun h => h.elim (fun h => (Or.inr (Or.inr (Or.inr (Or.inr (Or.inr (Or.inl h))))))) (fun h => h.elim (fun h => (Or.inr (Or.inr (Or.inr (Or.inr (Or.inr (Or.inr (Or.inl h)))))))) (fun h => h.elim (fun h => (Or.inr (Or.inr (Or.inr (Or.inr (Or.inr (Or.inr (Or.inr (Or.inl h))))))))) (fun h => h.elim (fun h => (Or.inr (Or.inr (Or.inr (Or.inr (Or.inr (Or.inr (Or.inr (Or.inr (Or.inl h)))))))))) (fun h => (Or.inr (Or.inr (Or.inr (Or.inr (Or.inr (Or.inr (Or.inr (Or.inr (Or.inr h)))))))))))))))))))⟩
  exact hE _ _ _ _ _ _ hW.1 ⟨_, rfl, hW.2.1, hG, hW.2.2⟩ dX12_tried_7

theorem dX12_other_0 : decode cX12_other 0 = .ok (.aload_n 0, 1) := by decide +kernel
theorem dX12_other_1 : decode cX12_other 1 = .ok (.iconst 1, 1) := by decide +kernel
theorem dX12_other_2 : decode cX12_other 2 = .ok (.iload_n 1, 1) := by decide +kernel
theorem dX12_other_3 : decode cX12_other 3 = .ok (.iload_n 2, 1) := by decide +kernel
theorem dX12_other_4 : decode cX12_other 4 = .ok (.invokevirtual 518, 3) := by decide +kernel
theorem dX12_other_7 : decode cX12_other 7 = .ok (.ireturn, 1) := by decide +kernel
set_option maxRecDepth 100000 in
set_option maxHeartbeats 4000000 in
theorem p_X12_other (l : Launch) (D : va_G) (cA : Nat → ClassId) (ad : Nat → Nat) (g0 : Nat → va_E) (a : Int32) (b : Int32)   (hSh : Shp ad cA g0) (hG : Rng g0) (hL : LawOK g0) : CT l NN ad cA D yX12_other cX12_other 3 (some FieldType.int) (11, 256) [.ref (ad 129), .int a, .int b] g0 (fun v g' => ∃ (r : Int32), v = some (.int r) ∧ Shp ad cA g' ∧ Rng g' ∧ FR (fun i k => i = 161 ∨ i = 156 ∨ i = 157 ∨ (i = 129 ∧ (k = 42 ∨ k = 43 ∨ k = 44 ∨ k = 45 ∨ k = 46 ∨ k = 47 ∨ k = 48 ∨ k = 49)) ∨ (i = 129 ∧ (k = 2 ∨ k = 57 ∨ k = 58 ∨ k = 61 ∨ k = 62 ∨ k = 63 ∨ k = 64)) ∨ i = 159 ∨ (i = 129 ∧ (k = 56 ∨ k = 65 ∨ k = 66)) ∨ (162 ≤ i ∧ i < 170) ∨ (158 ≤ i ∧ i < 162) ∨ (i = 129 ∧ (k = 31))) g0 g') := by
  refine q_enterI (by decide) (Nat.le_of_ble_eq_true rfl) rfl (fun K H locs ls _ _ hM hW0 hR hC hE hl => ?_)
  have hl : lv_has ls 3 [(0, .ref (ad 129)), (1, .int a), (2, .int b)] := hl
  have hW : WS ad cA (fun i k => i = 161 ∨ i = 156 ∨ i = 157 ∨ (i = 129 ∧ (k = 42 ∨ k = 43 ∨ k = 44 ∨ k = 45 ∨ k = 46 ∨ k = 47 ∨ k = 48 ∨ k = 49)) ∨ (i = 129 ∧ (k = 2 ∨ k = 57 ∨ k = 58 ∨ k = 61 ∨ k = 62 ∨ k = 63 ∨ k = 64)) ∨ i = 159 ∨ (i = 129 ∧ (k = 56 ∨ k = 65 ∨ k = 66)) ∨ (162 ≤ i ∧ i < 170) ∨ (158 ≤ i ∧ i < 162) ∨ (i = 129 ∧ (k = 31))) g0 K g0 H locs := ⟨hW0, hSh, FR.rf⟩
  have := kc_0
  have := kc_1
  have := kc_m1
  have := kc_m2
  refine q_aload_n hM dX12_other_0 (lv_at hl 0 rfl) ?_
  refine q_iconst (v := (1 : Int32)) hM dX12_other_1 (by decide) ?_
  refine q_iload_n hM dX12_other_2 (lv_at hl 1 rfl) ?_
  refine q_iload_n hM dX12_other_3 (lv_at hl 2 rfl) ?_
  refine q_callV (As := [.int (1 : Int32), .int a, .int b]) (rest := []) hM hW.1 hR hC myX12_triedBy (kAW (v_6_9 (List.mem_of_getElem? (i := 13) rfl)) rfl) (rfl : vwCl[12]? = some (RX12, TX12, 86)) rfl lb_129.1 (shO hW.2.1 lb_129) (a_X12_triedBy _ _ cA ad g0 (1 : Int32) a b hW.2.1 hG (by have := kc_1; omega) (by have := kc_1; omega) (LawOK_fr hL hW.2.2 (by omega) (by omega) (by omega) (by omega) (by omega))) ⟨by decide, by decide⟩ rfl rfl hl.1 (Nat.le_of_ble_eq_true rfl) dX12_other_4 (fun v g7182 H locs hp hW1 => ?_)
  obtain ⟨r7181, rfl, hs1, hG, hf1⟩ := hp
  have hW : WS ad cA (fun i k => i = 161 ∨ i = 156 ∨ i = 157 ∨ (i = 129 ∧ (k = 42 ∨ k = 43 ∨ k = 44 ∨ k = 45 ∨ k = 46 ∨ k = 47 ∨ k = 48 ∨ k = 49)) ∨ (i = 129 ∧ (k = 2 ∨ k = 57 ∨ k = 58 ∨ k = 61 ∨ k = 62 ∨ k = 63 ∨ k = 64)) ∨ i = 159 ∨ (i = 129 ∧ (k = 56 ∨ k = 65 ∨ k = 66)) ∨ (162 ≤ i ∧ i < 170) ∨ (158 ≤ i ∧ i < 162) ∨ (i = 129 ∧ (k = 31))) g0 K g7182 H locs := ⟨hW1, hs1, hW.2.2.tr hf1 (fun i k h => h.elim (fun h => (Or.inl h)) (fun h => h.elim (fun h => (Or.inr (Or.inl h))) (fun h => h.elim (fun h => (Or.inr (Or.inr (Or.inl h)))) (fun h => h.elim (fun h => (Or.inr (Or.inr (Or.inr (Or.inl h))))) (fun h => h.elim (fun h => (Or.inr (Or.inr (Or.inr (Or.inr (Or.inl h)))))) (fun h => h.elim (fun h => (Or.inr (Or.inr (Or.inr (Or.inr (Or.inr (Or.inl h))))))) (fun h => h.elim (fun h => (Or.inr (Or.inr (Or.inr (Or.inr (Or.inr (Or.inr (Or.inl h)))))))) (fun h => h.elim (fun h => (Or.inr (Or.inr (Or.inr (Or.inr (Or.inr (Or.inr (Or.inr (Or.inl h))))))))) (fun h => h.elim (fun h => (Or.inr (Or.inr (Or.inr (Or.inr (Or.inr (Or.inr (Or.inr (Or.inr (Or.inl h)))))))))) (fun h => (Or.inr (Or.inr (Or.inr (Or.inr (Or.inr (Or.inr (Or.inr (Or.inr (Or.inr h)))))))))))))))))))⟩
  exact hE _ _ _ _ _ _ hW.1 ⟨_, rfl, hW.2.1, hG, hW.2.2⟩ dX12_other_7

theorem dX12_first_0 : decode cX12_first 0 = .ok (.iload_n 1, 1) := by decide +kernel
theorem dX12_first_1 : decode cX12_first 1 = .ok (.i2l, 1) := by decide +kernel
theorem dX12_first_2 : decode cX12_first 2 = .ok (.lconst 1, 1) := by decide +kernel
theorem dX12_first_3 : decode cX12_first 3 = .ok (.ldc2_w 268, 3) := by decide +kernel
theorem dX12_first_6 : decode cX12_first 6 = .ok (.invokestatic 190, 3) := by decide +kernel
theorem dX12_first_9 : decode cX12_first 9 = .ok (.ifCond .eq 21, 3) := by decide +kernel
theorem dX12_first_12 : decode cX12_first 12 = .ok (.aload_n 0, 1) := by decide +kernel
theorem dX12_first_13 : decode cX12_first 13 = .ok (.iload_n 2, 1) := by decide +kernel
theorem dX12_first_14 : decode cX12_first 14 = .ok (.invokevirtual 198, 3) := by decide +kernel
theorem dX12_first_17 : decode cX12_first 17 = .ok (.ifCond .eq 13, 3) := by decide +kernel
theorem dX12_first_20 : decode cX12_first 20 = .ok (.iload_n 3, 1) := by decide +kernel
theorem dX12_first_21 : decode cX12_first 21 = .ok (.i2l, 1) := by decide +kernel
theorem dX12_first_22 : decode cX12_first 22 = .ok (.lconst 0, 1) := by decide +kernel
theorem dX12_first_23 : decode cX12_first 23 = .ok (.lconst 1, 1) := by decide +kernel
theorem dX12_first_24 : decode cX12_first 24 = .ok (.invokestatic 190, 3) := by decide +kernel
theorem dX12_first_27 : decode cX12_first 27 = .ok (.ifCond .ne 5, 3) := by decide +kernel
theorem dX12_first_30 : decode cX12_first 30 = .ok (.iconst (-1), 1) := by decide +kernel
theorem dX12_first_31 : decode cX12_first 31 = .ok (.ireturn, 1) := by decide +kernel
theorem dX12_first_32 : decode cX12_first 32 = .ok (.aload_n 0, 1) := by decide +kernel
theorem dX12_first_33 : decode cX12_first 33 = .ok (.iconst 0, 1) := by decide +kernel
theorem dX12_first_34 : decode cX12_first 34 = .ok (.invokevirtual 509, 3) := by decide +kernel
theorem dX12_first_37 : decode cX12_first 37 = .ok (.aload_n 0, 1) := by decide +kernel
theorem dX12_first_38 : decode cX12_first 38 = .ok (.iload_n 1, 1) := by decide +kernel
theorem dX12_first_39 : decode cX12_first 39 = .ok (.iload_n 2, 1) := by decide +kernel
theorem dX12_first_40 : decode cX12_first 40 = .ok (.invokevirtual 504, 3) := by decide +kernel
theorem dX12_first_43 : decode cX12_first 43 = .ok (.aload_n 0, 1) := by decide +kernel
theorem dX12_first_44 : decode cX12_first 44 = .ok (.iconst 0, 1) := by decide +kernel
theorem dX12_first_45 : decode cX12_first 45 = .ok (.invokevirtual 515, 3) := by decide +kernel
theorem dX12_first_48 : decode cX12_first 48 = .ok (.iload_n 3, 1) := by decide +kernel
theorem dX12_first_49 : decode cX12_first 49 = .ok (.ifCond .ne 10, 3) := by decide +kernel
theorem dX12_first_52 : decode cX12_first 52 = .ok (.aload_n 0, 1) := by decide +kernel
theorem dX12_first_53 : decode cX12_first 53 = .ok (.getfield 495, 3) := by decide +kernel
theorem dX12_first_56 : decode cX12_first 56 = .ok (.goto 7, 3) := by decide +kernel
theorem dX12_first_59 : decode cX12_first 59 = .ok (.aload_n 0, 1) := by decide +kernel
theorem dX12_first_60 : decode cX12_first 60 = .ok (.getfield 498, 3) := by decide +kernel
theorem dX12_first_63 : decode cX12_first 63 = .ok (.ireturn, 1) := by decide +kernel
theorem FG_X12_498 : FG RX12 498 12 86 66 := ⟨RX12, TX12, rfl, wX12, by decide, kAW (v_4_6 (List.mem_of_getElem? (i := 15) rfl)) rfl, rfl⟩
set_option maxRecDepth 100000 in
set_option maxHeartbeats 4000000 in
theorem p_X12_first (l : Launch) (D : va_G) (cA : Nat → ClassId) (ad : Nat → Nat) (g0 : Nat → va_E) (a : Int32) (b : Int32) (c : Int32)   (hSh : Shp ad cA g0) (hG : Rng g0) (hL : LawOK g0) : CT l NN ad cA D yX12_first cX12_first 4 (some FieldType.int) (10, 232) [.ref (ad 129), .int a, .int b, .int c] g0 (fun v g' => ∃ (r : Int32), v = some (.int r) ∧ Shp ad cA g' ∧ Rng g' ∧ FR (fun i k => i = 161 ∨ i = 156 ∨ i = 157 ∨ (i = 129 ∧ (k = 42 ∨ k = 43 ∨ k = 44 ∨ k = 45 ∨ k = 46 ∨ k = 47 ∨ k = 48 ∨ k = 49)) ∨ (i = 129 ∧ (k = 2 ∨ k = 57 ∨ k = 58 ∨ k = 61 ∨ k = 62 ∨ k = 63 ∨ k = 64)) ∨ i = 159 ∨ (i = 129 ∧ (k = 56 ∨ k = 65 ∨ k = 66)) ∨ (162 ≤ i ∧ i < 170) ∨ (158 ≤ i ∧ i < 162)) g0 g') := by
  refine q_enterI (by decide) (Nat.le_of_ble_eq_true rfl) rfl (fun K H locs ls _ _ hM hW0 hR hC hE hl => ?_)
  have hl : lv_has ls 4 [(0, .ref (ad 129)), (1, .int a), (2, .int b), (3, .int c)] := hl
  have hW : WS ad cA (fun i k => i = 161 ∨ i = 156 ∨ i = 157 ∨ (i = 129 ∧ (k = 42 ∨ k = 43 ∨ k = 44 ∨ k = 45 ∨ k = 46 ∨ k = 47 ∨ k = 48 ∨ k = 49)) ∨ (i = 129 ∧ (k = 2 ∨ k = 57 ∨ k = 58 ∨ k = 61 ∨ k = 62 ∨ k = 63 ∨ k = 64)) ∨ i = 159 ∨ (i = 129 ∧ (k = 56 ∨ k = 65 ∨ k = 66)) ∨ (162 ≤ i ∧ i < 170) ∨ (158 ≤ i ∧ i < 162)) g0 K g0 H locs := ⟨hW0, hSh, FR.rf⟩
  have := kc_0
  have := kc_1
  have := kc_m1
  have := kc_m2
  refine q_iload_n hM dX12_first_0 (lv_at hl 1 rfl) ?_
  refine q_i2l hM dX12_first_1 ?_
  have := l_i2l a
  refine q_lconst (v := 1) hM dX12_first_2 (by decide) ?_
  have := kl_1
  refine q_ldc2 (v := 60) hM (kAW (v_5_8 (List.mem_of_getElem? (i := 6) rfl)) rfl) dX12_first_3 ?_
  have := kl_60
  refine q_callS (As := [.long a.toInt64, .long (1 : Int64), .long (60 : Int64)]) (rest := []) hM hW.1 hR hC myX12_lies (kAW (v_5_4 (List.mem_of_getElem? (i := 14) rfl)) rfl) (c_X12_lies _ _ cA ad g0 a.toInt64 (1 : Int64) (60 : Int64) hW.2.1) ⟨by decide, by decide⟩ rfl rfl hl.1 (Nat.le_of_ble_eq_true rfl) dX12_first_6 (fun v g7184 H locs hp hW1 => ?_)
  obtain ⟨r7183, rfl, hr7183, rfl⟩ := hp
  have hW : WS ad cA (fun i k => i = 161 ∨ i = 156 ∨ i = 157 ∨ (i = 129 ∧ (k = 42 ∨ k = 43 ∨ k = 44 ∨ k = 45 ∨ k = 46 ∨ k = 47 ∨ k = 48 ∨ k = 49)) ∨ (i = 129 ∧ (k = 2 ∨ k = 57 ∨ k = 58 ∨ k = 61 ∨ k = 62 ∨ k = 63 ∨ k = 64)) ∨ i = 159 ∨ (i = 129 ∧ (k = 56 ∨ k = 65 ∨ k = 66)) ∨ (162 ≤ i ∧ i < 170) ∨ (158 ≤ i ∧ i < 162)) g0 K g0 H locs := ⟨hW1, hW.2.1, hW.2.2⟩
  refine q_if_eq (tgt := 30) hM dX12_first_9 (by decide) (rfl : r7183.toInt = r7183.toInt) (fun h9 => ?_) (fun h9 => ?_)
  · refine q_iconst (v := ((-1) : Int32)) hM dX12_first_30 (by decide) ?_
    exact hE _ _ _ _ _ _ hW.1 ⟨_, rfl, hW.2.1, hG, hW.2.2⟩ dX12_first_31
  · refine q_aload_n hM dX12_first_12 (lv_at hl 0 rfl) ?_
    refine q_iload_n hM dX12_first_13 (lv_at hl 2 rfl) ?_
    refine q_callV (As := [.int b]) (rest := []) hM hW.1 hR hC myX12_isTold (kAW (v_5_5 (List.mem_of_getElem? (i := 6) rfl)) rfl) (rfl : vwCl[12]? = some (RX12, TX12, 86)) rfl lb_129.1 (shO hW.2.1 lb_129) (a_X12_isTold _ _ cA ad g0 b hW.2.1 hG) ⟨by decide, by decide⟩ rfl rfl hl.1 (Nat.le_of_ble_eq_true rfl) dX12_first_14 (fun v g7188 H locs hp hW1 => ?_)
    obtain ⟨r7187, rfl, hr7187, rfl⟩ := hp
    have hW : WS ad cA (fun i k => i = 161 ∨ i = 156 ∨ i = 157 ∨ (i = 129 ∧ (k = 42 ∨ k = 43 ∨ k = 44 ∨ k = 45 ∨ k = 46 ∨ k = 47 ∨ k = 48 ∨ k = 49)) ∨ (i = 129 ∧ (k = 2 ∨ k = 57 ∨ k = 58 ∨ k = 61 ∨ k = 62 ∨ k = 63 ∨ k = 64)) ∨ i = 159 ∨ (i = 129 ∧ (k = 56 ∨ k = 65 ∨ k = 66)) ∨ (162 ≤ i ∧ i < 170) ∨ (158 ≤ i ∧ i < 162)) g0 K g0 H locs := ⟨hW1, hW.2.1, hW.2.2⟩
    refine q_if_eq (tgt := 30) hM dX12_first_17 (by decide) (rfl : r7187.toInt = r7187.toInt) (fun h17 => ?_) (fun h17 => ?_)
    · refine q_iconst (v := ((-1) : Int32)) hM dX12_first_30 (by decide) ?_
      exact hE _ _ _ _ _ _ hW.1 ⟨_, rfl, hW.2.1, hG, hW.2.2⟩ dX12_first_31
    · refine q_iload_n hM dX12_first_20 (lv_at hl 3 rfl) ?_
      refine q_i2l hM dX12_first_21 ?_
      have := l_i2l c
      refine q_lconst (v := 0) hM dX12_first_22 (by decide) ?_
      have := kl_0
      refine q_lconst (v := 1) hM dX12_first_23 (by decide) ?_
      have := kl_1
      refine q_callS (As := [.long c.toInt64, .long (0 : Int64), .long (1 : Int64)]) (rest := []) hM hW.1 hR hC myX12_lies (kAW (v_5_4 (List.mem_of_getElem? (i := 14) rfl)) rfl) (c_X12_lies _ _ cA ad g0 c.toInt64 (0 : Int64) (1 : Int64) hW.2.1) ⟨by decide, by decide⟩ rfl rfl hl.1 (Nat.le_of_ble_eq_true rfl) dX12_first_24 (fun v g7192 H locs hp hW1 => ?_)
      obtain ⟨r7191, rfl, hr7191, rfl⟩ := hp
      have hW : WS ad cA (fun i k => i = 161 ∨ i = 156 ∨ i = 157 ∨ (i = 129 ∧ (k = 42 ∨ k = 43 ∨ k = 44 ∨ k = 45 ∨ k = 46 ∨ k = 47 ∨ k = 48 ∨ k = 49)) ∨ (i = 129 ∧ (k = 2 ∨ k = 57 ∨ k = 58 ∨ k = 61 ∨ k = 62 ∨ k = 63 ∨ k = 64)) ∨ i = 159 ∨ (i = 129 ∧ (k = 56 ∨ k = 65 ∨ k = 66)) ∨ (162 ≤ i ∧ i < 170) ∨ (158 ≤ i ∧ i < 162)) g0 K g0 H locs := ⟨hW1, hW.2.1, hW.2.2⟩
      refine q_if_ne (tgt := 32) hM dX12_first_27 (by decide) (rfl : r7191.toInt = r7191.toInt) (fun h27 => ?_) (fun h27 => ?_)
      · refine q_aload_n hM dX12_first_32 (lv_at hl 0 rfl) ?_
        refine q_iconst (v := (0 : Int32)) hM dX12_first_33 (by decide) ?_
        refine q_callV (As := [.int (0 : Int32)]) (rest := []) hM hW.1 hR hC myX12_laysAside (kAW (v_6_10 (List.mem_of_getElem? (i := 2) rfl)) rfl) (rfl : vwCl[12]? = some (RX12, TX12, 86)) rfl lb_129.1 (shO hW.2.1 lb_129) (a_X12_laysAside _ _ cA ad g0 (0 : Int32) hW.2.1 hG (by have := kc_0; omega) (by have := kc_0; omega)) ⟨by decide, by decide⟩ rfl rfl hl.1 (Nat.le_of_ble_eq_true rfl) dX12_first_34 (fun v g7194 H locs hp hW1 => ?_)
        obtain ⟨rfl, hs1, hG, hf1⟩ := hp
        have hW : WS ad cA (fun i k => i = 161 ∨ i = 156 ∨ i = 157 ∨ (i = 129 ∧ (k = 42 ∨ k = 43 ∨ k = 44 ∨ k = 45 ∨ k = 46 ∨ k = 47 ∨ k = 48 ∨ k = 49)) ∨ (i = 129 ∧ (k = 2 ∨ k = 57 ∨ k = 58 ∨ k = 61 ∨ k = 62 ∨ k = 63 ∨ k = 64)) ∨ i = 159 ∨ (i = 129 ∧ (k = 56 ∨ k = 65 ∨ k = 66)) ∨ (162 ≤ i ∧ i < 170) ∨ (158 ≤ i ∧ i < 162)) g0 K g7194 H locs := ⟨hW1, hs1, hW.2.2.tr hf1 (fun i k h => (Or.inr (Or.inr (Or.inr (Or.inr (Or.inr (Or.inr (Or.inr (Or.inl h)))))))))⟩
        refine q_aload_n hM dX12_first_37 (lv_at hl 0 rfl) ?_
        refine q_iload_n hM dX12_first_38 (lv_at hl 1 rfl) ?_
        refine q_iload_n hM dX12_first_39 (lv_at hl 2 rfl) ?_
        refine q_callV (As := [.int a, .int b]) (rest := []) hM hW.1 hR hC myX12_go (kAW (v_6_7 (List.mem_of_getElem? (i := 13) rfl)) rfl) (rfl : vwCl[12]? = some (RX12, TX12, 86)) rfl lb_129.1 (shO hW.2.1 lb_129) (a_X12_go _ _ cA ad g7194 a b hW.2.1 hG (by  omega) (by  omega) (by  omega) (LawOK_fr hL hW.2.2 (by omega) (by omega) (by omega) (by omega) (by omega))) ⟨by decide, by decide⟩ rfl rfl hl.1 (Nat.le_of_ble_eq_true rfl) dX12_first_40 (fun v g7195 H locs hp hW1 => ?_)
        obtain ⟨rfl, hs1, hG, hf1⟩ := hp
        have hW : WS ad cA (fun i k => i = 161 ∨ i = 156 ∨ i = 157 ∨ (i = 129 ∧ (k = 42 ∨ k = 43 ∨ k = 44 ∨ k = 45 ∨ k = 46 ∨ k = 47 ∨ k = 48 ∨ k = 49)) ∨ (i = 129 ∧ (k = 2 ∨ k = 57 ∨ k = 58 ∨ k = 61 ∨ k = 62 ∨ k = 63 ∨ k = 64)) ∨ i = 159 ∨ (i = 129 ∧ (k = 56 ∨ k = 65 ∨ k = 66)) ∨ (162 ≤ i ∧ i < 170) ∨ (158 ≤ i ∧ i < 162)) g0 K g7195 H locs := ⟨hW1, hs1, hW.2.2.tr hf1 (fun i k h => h.elim (fun h => (Or.inl h)) (fun h => h.elim (fun h => (Or.inr (Or.inl h))) (fun h => h.elim (fun h => (Or.inr (Or.inr (Or.inl h)))) (fun h => h.elim (fun h => (Or.inr (Or.inr (Or.inr (Or.inl h))))) (fun h => h.elim (fun h => (Or.inr (Or.inr (Or.inr (Or.inr (Or.inl h)))))) (fun h => h.elim (fun h => (Or.inr (Or.inr (Or.inr (Or.inr (Or.inr (Or.inl h))))))) (fun h => (Or.inr (Or.inr (Or.inr (Or.inr (Or.inr (Or.inr (Or.inl h))))))))))))))⟩
        refine q_aload_n hM dX12_first_43 (lv_at hl 0 rfl) ?_
        refine q_iconst (v := (0 : Int32)) hM dX12_first_44 (by decide) ?_
        refine q_callV (As := [.int (0 : Int32)]) (rest := []) hM hW.1 hR hC myX12_bringsBack (kAW (v_6_10 (List.mem_of_getElem? (i := 10) rfl)) rfl) (rfl : vwCl[12]? = some (RX12, TX12, 86)) rfl lb_129.1 (shO hW.2.1 lb_129) (a_X12_bringsBack _ _ cA ad g7195 (0 : Int32) hW.2.1 hG (by have := kc_0; omega) (by have := kc_0; omega)) ⟨by decide, by decide⟩ rfl rfl hl.1 (Nat.le_of_ble_eq_true rfl) dX12_first_45 (fun v g7196 H locs hp hW1 => ?_)
        obtain ⟨rfl, hs1, hG, hf1⟩ := hp
        have hW : WS ad cA (fun i k => i = 161 ∨ i = 156 ∨ i = 157 ∨ (i = 129 ∧ (k = 42 ∨ k = 43 ∨ k = 44 ∨ k = 45 ∨ k = 46 ∨ k = 47 ∨ k = 48 ∨ k = 49)) ∨ (i = 129 ∧ (k = 2 ∨ k = 57 ∨ k = 58 ∨ k = 61 ∨ k = 62 ∨ k = 63 ∨ k = 64)) ∨ i = 159 ∨ (i = 129 ∧ (k = 56 ∨ k = 65 ∨ k = 66)) ∨ (162 ≤ i ∧ i < 170) ∨ (158 ≤ i ∧ i < 162)) g0 K g7196 H locs := ⟨hW1, hs1, hW.2.2.tr hf1 (fun i k h => h.elim (fun h => (Or.inr (Or.inr (Or.inr (Or.inr (Or.inr (Or.inr (Or.inr (Or.inr h))))))))) (fun h => (by omega)))⟩
        refine q_iload_n hM dX12_first_48 (lv_at hl 3 rfl) ?_
        refine q_if_ne (tgt := 59) hM dX12_first_49 (by decide) (rfl : c.toInt = c.toInt) (fun h49 => ?_) (fun h49 => ?_)
        · refine q_aload_n hM dX12_first_59 (lv_at hl 0 rfl) ?_
          refine w_getI hM hW FG_X12_498 lb_129 (by decide) (by decide) dX12_first_60 (fun x7198 fx7198 => ?_)
          exact hE _ _ _ _ _ _ hW.1 ⟨_, rfl, hW.2.1, hG, hW.2.2⟩ dX12_first_63
        · refine q_aload_n hM dX12_first_52 (lv_at hl 0 rfl) ?_
          refine w_getI hM hW FG_X12_495 lb_129 (by decide) (by decide) dX12_first_53 (fun x7200 fx7200 => ?_)
          refine q_goto (tgt := 63) hM dX12_first_56 (by decide) ?_
          exact hE _ _ _ _ _ _ hW.1 ⟨_, rfl, hW.2.1, hG, hW.2.2⟩ dX12_first_63
      · refine q_iconst (v := ((-1) : Int32)) hM dX12_first_30 (by decide) ?_
        exact hE _ _ _ _ _ _ hW.1 ⟨_, rfl, hW.2.1, hG, hW.2.2⟩ dX12_first_31

theorem dX12_does_0 : decode cX12_does 0 = .ok (.aload_n 0, 1) := by decide +kernel
theorem dX12_does_1 : decode cX12_does 1 = .ok (.iload_n 1, 1) := by decide +kernel
theorem dX12_does_2 : decode cX12_does 2 = .ok (.invokevirtual 421, 3) := by decide +kernel
theorem dX12_does_5 : decode cX12_does 5 = .ok (.ifCond .eq 11, 3) := by decide +kernel
theorem dX12_does_8 : decode cX12_does 8 = .ok (.aload_n 0, 1) := by decide +kernel
theorem dX12_does_9 : decode cX12_does 9 = .ok (.iload_n 2, 1) := by decide +kernel
theorem dX12_does_10 : decode cX12_does 10 = .ok (.invokevirtual 452, 3) := by decide +kernel
theorem dX12_does_13 : decode cX12_does 13 = .ok (.ifCond .ne 5, 3) := by decide +kernel
theorem dX12_does_16 : decode cX12_does 16 = .ok (.iconst (-1), 1) := by decide +kernel
theorem dX12_does_17 : decode cX12_does 17 = .ok (.ireturn, 1) := by decide +kernel
theorem dX12_does_18 : decode cX12_does 18 = .ok (.aload_n 0, 1) := by decide +kernel
theorem dX12_does_19 : decode cX12_does 19 = .ok (.iload_n 1, 1) := by decide +kernel
theorem dX12_does_20 : decode cX12_does 20 = .ok (.iload_n 2, 1) := by decide +kernel
theorem dX12_does_21 : decode cX12_does 21 = .ok (.invokevirtual 455, 3) := by decide +kernel
theorem dX12_does_24 : decode cX12_does 24 = .ok (.aload_n 0, 1) := by decide +kernel
theorem dX12_does_25 : decode cX12_does 25 = .ok (.iload_n 1, 1) := by decide +kernel
theorem dX12_does_26 : decode cX12_does 26 = .ok (.invokevirtual 413, 3) := by decide +kernel
theorem dX12_does_29 : decode cX12_does 29 = .ok (.invokestatic 215, 3) := by decide +kernel
theorem dX12_does_32 : decode cX12_does 32 = .ok (.ireturn, 1) := by decide +kernel
set_option maxRecDepth 100000 in
set_option maxHeartbeats 4000000 in
theorem p_X12_does (l : Launch) (D : va_G) (cA : Nat → ClassId) (ad : Nat → Nat) (g0 : Nat → va_E) (a : Int32) (b : Int32)   (hSh : Shp ad cA g0) (hG : Rng g0) (hL : LawOK g0) : CT l NN ad cA D yX12_does cX12_does 3 (some FieldType.int) (8, 184) [.ref (ad 129), .int a, .int b] g0 (fun v g' => ∃ (r : Int32), v = some (.int r) ∧ Shp ad cA g' ∧ Rng g' ∧ FR (fun i k => i = 161 ∨ i = 156 ∨ i = 157 ∨ (i = 129 ∧ (k = 42 ∨ k = 43 ∨ k = 44 ∨ k = 45 ∨ k = 46 ∨ k = 47 ∨ k = 48 ∨ k = 49))) g0 g') := by
  refine q_enterI (by decide) (Nat.le_of_ble_eq_true rfl) rfl (fun K H locs ls _ _ hM hW0 hR hC hE hl => ?_)
  have hl : lv_has ls 3 [(0, .ref (ad 129)), (1, .int a), (2, .int b)] := hl
  have hW : WS ad cA (fun i k => i = 161 ∨ i = 156 ∨ i = 157 ∨ (i = 129 ∧ (k = 42 ∨ k = 43 ∨ k = 44 ∨ k = 45 ∨ k = 46 ∨ k = 47 ∨ k = 48 ∨ k = 49))) g0 K g0 H locs := ⟨hW0, hSh, FR.rf⟩
  have := kc_0
  have := kc_1
  have := kc_m1
  have := kc_m2
  refine q_aload_n hM dX12_does_0 (lv_at hl 0 rfl) ?_
  refine q_iload_n hM dX12_does_1 (lv_at hl 1 rfl) ?_
  refine q_callV (As := [.int a]) (rest := []) hM hW.1 hR hC myX12_isThat (kAW (v_6_2 (List.mem_of_getElem? (i := 9) rfl)) rfl) (rfl : vwCl[12]? = some (RX12, TX12, 86)) rfl lb_129.1 (shO hW.2.1 lb_129) (a_X12_isThat _ _ cA ad g0 a hW.2.1 hG) ⟨by decide, by decide⟩ rfl rfl hl.1 (Nat.le_of_ble_eq_true rfl) dX12_does_2 (fun v g7203 H locs hp hW1 => ?_)
  obtain ⟨r7202, rfl, hr7202, rfl⟩ := hp
  have hW : WS ad cA (fun i k => i = 161 ∨ i = 156 ∨ i = 157 ∨ (i = 129 ∧ (k = 42 ∨ k = 43 ∨ k = 44 ∨ k = 45 ∨ k = 46 ∨ k = 47 ∨ k = 48 ∨ k = 49))) g0 K g0 H locs := ⟨hW1, hW.2.1, hW.2.2⟩
  refine q_if_eq (tgt := 16) hM dX12_does_5 (by decide) (rfl : r7202.toInt = r7202.toInt) (fun h5 => ?_) (fun h5 => ?_)
  · refine q_iconst (v := ((-1) : Int32)) hM dX12_does_16 (by decide) ?_
    exact hE _ _ _ _ _ _ hW.1 ⟨_, rfl, hW.2.1, hG, hW.2.2⟩ dX12_does_17
  · refine q_aload_n hM dX12_does_8 (lv_at hl 0 rfl) ?_
    refine q_iload_n hM dX12_does_9 (lv_at hl 2 rfl) ?_
    refine q_callV (As := [.int b]) (rest := []) hM hW.1 hR hC myX12_isThere (kAW (v_6_3 (List.mem_of_getElem? (i := 7) rfl)) rfl) (rfl : vwCl[12]? = some (RX12, TX12, 86)) rfl lb_129.1 (shO hW.2.1 lb_129) (a_X12_isThere _ _ cA ad g0 b hW.2.1 hG) ⟨by decide, by decide⟩ rfl rfl hl.1 (Nat.le_of_ble_eq_true rfl) dX12_does_10 (fun v g7207 H locs hp hW1 => ?_)
    obtain ⟨r7206, rfl, hr7206, rfl⟩ := hp
    have hW : WS ad cA (fun i k => i = 161 ∨ i = 156 ∨ i = 157 ∨ (i = 129 ∧ (k = 42 ∨ k = 43 ∨ k = 44 ∨ k = 45 ∨ k = 46 ∨ k = 47 ∨ k = 48 ∨ k = 49))) g0 K g0 H locs := ⟨hW1, hW.2.1, hW.2.2⟩
    refine q_if_ne (tgt := 18) hM dX12_does_13 (by decide) (rfl : r7206.toInt = r7206.toInt) (fun h13 => ?_) (fun h13 => ?_)
    · refine q_aload_n hM dX12_does_18 (lv_at hl 0 rfl) ?_
      refine q_iload_n hM dX12_does_19 (lv_at hl 1 rfl) ?_
      refine q_iload_n hM dX12_does_20 (lv_at hl 2 rfl) ?_
      refine q_callV (As := [.int a, .int b]) (rest := []) hM hW.1 hR hC myX12_doesArt (kAW (v_6_3 (List.mem_of_getElem? (i := 11) rfl)) rfl) (rfl : vwCl[12]? = some (RX12, TX12, 86)) rfl lb_129.1 (shO hW.2.1 lb_129) (a_X12_doesArt _ _ cA ad g0 a b hW.2.1 hG (by  omega) (by  omega) (by  omega) (by  omega) (LawOK_fr hL hW.2.2 (by omega) (by omega) (by omega) (by omega) (by omega))) ⟨by decide, by decide⟩ rfl rfl hl.1 (Nat.le_of_ble_eq_true rfl) dX12_does_21 (fun v g7209 H locs hp hW1 => ?_)
      obtain ⟨rfl, hs1, hG, hf1⟩ := hp
      have hW : WS ad cA (fun i k => i = 161 ∨ i = 156 ∨ i = 157 ∨ (i = 129 ∧ (k = 42 ∨ k = 43 ∨ k = 44 ∨ k = 45 ∨ k = 46 ∨ k = 47 ∨ k = 48 ∨ k = 49))) g0 K g7209 H locs := ⟨hW1, hs1, hW.2.2.tr hf1 (fun i k h => h.elim (fun h => (Or.inl h)) (fun h => h.elim (fun h => (Or.inr (Or.inl h))) (fun h => h.elim (fun h => (Or.inr (Or.inr (Or.inl h)))) (fun h => (Or.inr (Or.inr (Or.inr h)))))))⟩
      refine q_aload_n hM dX12_does_24 (lv_at hl 0 rfl) ?_
      refine q_iload_n hM dX12_does_25 (lv_at hl 1 rfl) ?_
      refine q_callV (As := [.int a]) (rest := []) hM hW.1 hR hC myX12_knownBy (kAW (v_6_4 (List.mem_of_getElem? (i := 11) rfl)) rfl) (rfl : vwCl[12]? = some (RX12, TX12, 86)) rfl lb_129.1 (shO hW.2.1 lb_129) (a_X12_knownBy _ _ cA ad g7209 a hW.2.1 hG (by  omega) (by  omega)) ⟨by decide, by decide⟩ rfl rfl hl.1 (Nat.le_of_ble_eq_true rfl) dX12_does_26 (fun v g7211 H locs hp hW1 => ?_)
      obtain ⟨r7210, rfl, hr7210, rfl⟩ := hp
      have hW : WS ad cA (fun i k => i = 161 ∨ i = 156 ∨ i = 157 ∨ (i = 129 ∧ (k = 42 ∨ k = 43 ∨ k = 44 ∨ k = 45 ∨ k = 46 ∨ k = 47 ∨ k = 48 ∨ k = 49))) g0 K g7209 H locs := ⟨hW1, hW.2.1, hW.2.2⟩
      refine q_callS (As := [.int r7210]) (rest := []) hM hW.1 hR hC myX12_sizeOf (kAW (v_5_6 (List.mem_of_getElem? (i := 14) rfl)) rfl) (a_X12_sizeOf _ _ cA ad g7209 r7210 hW.2.1 hG (by  omega)) ⟨by decide, by decide⟩ rfl rfl hl.1 (Nat.le_of_ble_eq_true rfl) dX12_does_29 (fun v g7213 H locs hp hW1 => ?_)
      obtain ⟨r7212, rfl, hr7212, rfl⟩ := hp
      have hW : WS ad cA (fun i k => i = 161 ∨ i = 156 ∨ i = 157 ∨ (i = 129 ∧ (k = 42 ∨ k = 43 ∨ k = 44 ∨ k = 45 ∨ k = 46 ∨ k = 47 ∨ k = 48 ∨ k = 49))) g0 K g7209 H locs := ⟨hW1, hW.2.1, hW.2.2⟩
      exact hE _ _ _ _ _ _ hW.1 ⟨_, rfl, hW.2.1, hG, hW.2.2⟩ dX12_does_32
    · refine q_iconst (v := ((-1) : Int32)) hM dX12_does_16 (by decide) ?_
      exact hE _ _ _ _ _ _ hW.1 ⟨_, rfl, hW.2.1, hG, hW.2.2⟩ dX12_does_17

theorem dX12_pupilIs_0 : decode cX12_pupilIs 0 = .ok (.aload_n 0, 1) := by decide +kernel
theorem dX12_pupilIs_1 : decode cX12_pupilIs 1 = .ok (.iload_n 1, 1) := by decide +kernel
theorem dX12_pupilIs_2 : decode cX12_pupilIs 2 = .ok (.invokevirtual 421, 3) := by decide +kernel
theorem dX12_pupilIs_5 : decode cX12_pupilIs 5 = .ok (.ifCond .ne 5, 3) := by decide +kernel
theorem dX12_pupilIs_8 : decode cX12_pupilIs 8 = .ok (.iconst (-1), 1) := by decide +kernel
theorem dX12_pupilIs_9 : decode cX12_pupilIs 9 = .ok (.ireturn, 1) := by decide +kernel
theorem dX12_pupilIs_10 : decode cX12_pupilIs 10 = .ok (.iload_n 2, 1) := by decide +kernel
theorem dX12_pupilIs_11 : decode cX12_pupilIs 11 = .ok (.tableswitch 65 0 4 #[33, 40, 47, 53, 59], 33) := by decide +kernel
theorem dX12_pupilIs_44 : decode cX12_pupilIs 44 = .ok (.aload_n 0, 1) := by decide +kernel
theorem dX12_pupilIs_45 : decode cX12_pupilIs 45 = .ok (.getfield 103, 3) := by decide +kernel
theorem dX12_pupilIs_48 : decode cX12_pupilIs 48 = .ok (.iload_n 1, 1) := by decide +kernel
theorem dX12_pupilIs_49 : decode cX12_pupilIs 49 = .ok (.iaload, 1) := by decide +kernel
theorem dX12_pupilIs_50 : decode cX12_pupilIs 50 = .ok (.ireturn, 1) := by decide +kernel
theorem dX12_pupilIs_51 : decode cX12_pupilIs 51 = .ok (.aload_n 0, 1) := by decide +kernel
theorem dX12_pupilIs_52 : decode cX12_pupilIs 52 = .ok (.getfield 106, 3) := by decide +kernel
theorem dX12_pupilIs_55 : decode cX12_pupilIs 55 = .ok (.iload_n 1, 1) := by decide +kernel
theorem dX12_pupilIs_56 : decode cX12_pupilIs 56 = .ok (.iaload, 1) := by decide +kernel
theorem dX12_pupilIs_57 : decode cX12_pupilIs 57 = .ok (.ireturn, 1) := by decide +kernel
theorem dX12_pupilIs_58 : decode cX12_pupilIs 58 = .ok (.aload_n 0, 1) := by decide +kernel
theorem dX12_pupilIs_59 : decode cX12_pupilIs 59 = .ok (.iload_n 1, 1) := by decide +kernel
theorem dX12_pupilIs_60 : decode cX12_pupilIs 60 = .ok (.invokevirtual 413, 3) := by decide +kernel
theorem dX12_pupilIs_63 : decode cX12_pupilIs 63 = .ok (.ireturn, 1) := by decide +kernel
theorem dX12_pupilIs_64 : decode cX12_pupilIs 64 = .ok (.aload_n 0, 1) := by decide +kernel
theorem dX12_pupilIs_65 : decode cX12_pupilIs 65 = .ok (.iload_n 1, 1) := by decide +kernel
theorem dX12_pupilIs_66 : decode cX12_pupilIs 66 = .ok (.invokevirtual 521, 3) := by decide +kernel
theorem dX12_pupilIs_69 : decode cX12_pupilIs 69 = .ok (.ireturn, 1) := by decide +kernel
theorem dX12_pupilIs_70 : decode cX12_pupilIs 70 = .ok (.aload_n 0, 1) := by decide +kernel
theorem dX12_pupilIs_71 : decode cX12_pupilIs 71 = .ok (.iload_n 1, 1) := by decide +kernel
theorem dX12_pupilIs_72 : decode cX12_pupilIs 72 = .ok (.invokevirtual 524, 3) := by decide +kernel
theorem dX12_pupilIs_75 : decode cX12_pupilIs 75 = .ok (.ireturn, 1) := by decide +kernel
theorem dX12_pupilIs_76 : decode cX12_pupilIs 76 = .ok (.iconst (-1), 1) := by decide +kernel
theorem dX12_pupilIs_77 : decode cX12_pupilIs 77 = .ok (.ireturn, 1) := by decide +kernel
theorem myX12_strongestOf : MI yX12_strongestOf cX12_strongestOf 5 (some FieldType.int) 1 := ⟨kAW (v_6_11 (List.mem_of_getElem? (i := 13) rfl)) rfl, kAW (v_0_0 (List.mem_of_getElem? (i := 13) rfl)) rfl, kAW (v_6_11 (List.mem_of_getElem? (i := 12) rfl)) rfl, kAW (tp_t5 (List.mem_of_getElem? (i := 8) rfl)) rfl, by decide, by decide, by decide +kernel⟩
theorem myX12_togetherOf : MI yX12_togetherOf cX12_togetherOf 4 (some FieldType.int) 1 := ⟨kAW (v_6_12 (List.mem_of_getElem? (i := 1) rfl)) rfl, kAW (v_0_0 (List.mem_of_getElem? (i := 13) rfl)) rfl, kAW (v_6_12 (List.mem_of_getElem? (i := 0) rfl)) rfl, kAW (tp_t5 (List.mem_of_getElem? (i := 9) rfl)) rfl, by decide, by decide, by decide +kernel⟩
set_option maxRecDepth 100000 in
set_option maxHeartbeats 4000000 in
theorem p_X12_pupilIs (l : Launch) (D : va_G) (cA : Nat → ClassId) (ad : Nat → Nat) (g0 : Nat → va_E) (a : Int32) (b : Int32)   (hSh : Shp ad cA g0) (hG : Rng g0) : CT l NN ad cA D yX12_pupilIs cX12_pupilIs 3 (some FieldType.int) (2, 46) [.ref (ad 129), .int a, .int b] g0 (fun v g' => ∃ (r : Int32), v = some (.int r) ∧ Shp ad cA g' ∧ Rng g' ∧ FR (fun i k => False) g0 g') := by
  refine q_enterI (by decide) (Nat.le_of_ble_eq_true rfl) rfl (fun K H locs ls _ _ hM hW0 hR hC hE hl => ?_)
  have hl : lv_has ls 3 [(0, .ref (ad 129)), (1, .int a), (2, .int b)] := hl
  have hW : WS ad cA (fun i k => False) g0 K g0 H locs := ⟨hW0, hSh, FR.rf⟩
  have := kc_0
  have := kc_1
  have := kc_m1
  have := kc_m2
  refine q_aload_n hM dX12_pupilIs_0 (lv_at hl 0 rfl) ?_
  refine q_iload_n hM dX12_pupilIs_1 (lv_at hl 1 rfl) ?_
  refine q_callV (As := [.int a]) (rest := []) hM hW.1 hR hC myX12_isThat (kAW (v_6_2 (List.mem_of_getElem? (i := 9) rfl)) rfl) (rfl : vwCl[12]? = some (RX12, TX12, 86)) rfl lb_129.1 (shO hW.2.1 lb_129) (a_X12_isThat _ _ cA ad g0 a hW.2.1 hG) ⟨by decide, by decide⟩ rfl rfl hl.1 (Nat.le_of_ble_eq_true rfl) dX12_pupilIs_2 (fun v g7216 H locs hp hW1 => ?_)
  obtain ⟨r7215, rfl, hr7215, rfl⟩ := hp
  have hW : WS ad cA (fun i k => False) g0 K g0 H locs := ⟨hW1, hW.2.1, hW.2.2⟩
  refine q_if_ne (tgt := 10) hM dX12_pupilIs_5 (by decide) (rfl : r7215.toInt = r7215.toInt) (fun h5 => ?_) (fun h5 => ?_)
  · refine q_iload_n hM dX12_pupilIs_10 (lv_at hl 2 rfl) ?_
    rcases (show b.toInt < 0 ∨ 4 < b.toInt ∨ b.toInt = 0 ∨ b.toInt = 1 ∨ b.toInt = 2 ∨ b.toInt = 3 ∨ b.toInt = 4 from by omega) with h11 | h11 | h11 | h11 | h11 | h11 | h11
    · refine q_tableOut (tgt := 76) hM dX12_pupilIs_11 rfl (by omega) (by decide) ?_
      refine q_iconst (v := ((-1) : Int32)) hM dX12_pupilIs_76 (by decide) ?_
      exact hE _ _ _ _ _ _ hW.1 ⟨_, rfl, hW.2.1, hG, hW.2.2⟩ dX12_pupilIs_77
    · refine q_tableOut (tgt := 76) hM dX12_pupilIs_11 rfl (by omega) (by decide) ?_
      refine q_iconst (v := ((-1) : Int32)) hM dX12_pupilIs_76 (by decide) ?_
      exact hE _ _ _ _ _ _ hW.1 ⟨_, rfl, hW.2.1, hG, hW.2.2⟩ dX12_pupilIs_77
    · refine q_tableIn (tgt := 44) hM dX12_pupilIs_11 ((rfl : b.toInt = _).trans h11) (by decide) (by decide) rfl (by decide) ?_
      refine q_aload_n hM dX12_pupilIs_44 (lv_at hl 0 rfl) ?_
      refine w_get (v := .ref (ad 159)) hM hW FG_X12_103 lb_129 (rf_129_53 hW.2.1) dX12_pupilIs_45 ?_
      refine q_iload_n hM dX12_pupilIs_48 (lv_at hl 1 rfl) ?_
      refine w_iald hM hW lb_159 (i_in (by omega) (by omega)) dX12_pupilIs_49 ?_
      refine q_top (fun y7221 hy7221 => ?_)
      have by7221 := hG.a hy7221 rA_159
      exact hE _ _ _ _ _ _ hW.1 ⟨_, rfl, hW.2.1, hG, hW.2.2⟩ dX12_pupilIs_50
    · refine q_tableIn (tgt := 51) hM dX12_pupilIs_11 ((rfl : b.toInt = _).trans h11) (by decide) (by decide) rfl (by decide) ?_
      refine q_aload_n hM dX12_pupilIs_51 (lv_at hl 0 rfl) ?_
      refine w_get (v := .ref (ad 160)) hM hW FG_X12_106 lb_129 (rf_129_54 hW.2.1) dX12_pupilIs_52 ?_
      refine q_iload_n hM dX12_pupilIs_55 (lv_at hl 1 rfl) ?_
      refine w_iald hM hW lb_160 (i_in (by omega) (by omega)) dX12_pupilIs_56 ?_
      refine q_top (fun y7223 hy7223 => ?_)
      exact hE _ _ _ _ _ _ hW.1 ⟨_, rfl, hW.2.1, hG, hW.2.2⟩ dX12_pupilIs_57
    · refine q_tableIn (tgt := 58) hM dX12_pupilIs_11 ((rfl : b.toInt = _).trans h11) (by decide) (by decide) rfl (by decide) ?_
      refine q_aload_n hM dX12_pupilIs_58 (lv_at hl 0 rfl) ?_
      refine q_iload_n hM dX12_pupilIs_59 (lv_at hl 1 rfl) ?_
      refine q_callV (As := [.int a]) (rest := []) hM hW.1 hR hC myX12_knownBy (kAW (v_6_4 (List.mem_of_getElem? (i := 11) rfl)) rfl) (rfl : vwCl[12]? = some (RX12, TX12, 86)) rfl lb_129.1 (shO hW.2.1 lb_129) (a_X12_knownBy _ _ cA ad g0 a hW.2.1 hG (by  omega) (by  omega)) ⟨by decide, by decide⟩ rfl rfl hl.1 (Nat.le_of_ble_eq_true rfl) dX12_pupilIs_60 (fun v g7226 H locs hp hW1 => ?_)
      obtain ⟨r7225, rfl, hr7225, rfl⟩ := hp
      have hW : WS ad cA (fun i k => False) g0 K g0 H locs := ⟨hW1, hW.2.1, hW.2.2⟩
      exact hE _ _ _ _ _ _ hW.1 ⟨_, rfl, hW.2.1, hG, hW.2.2⟩ dX12_pupilIs_63
    · refine q_tableIn (tgt := 64) hM dX12_pupilIs_11 ((rfl : b.toInt = _).trans h11) (by decide) (by decide) rfl (by decide) ?_
      refine q_aload_n hM dX12_pupilIs_64 (lv_at hl 0 rfl) ?_
      refine q_iload_n hM dX12_pupilIs_65 (lv_at hl 1 rfl) ?_
      refine q_callV (As := [.int a]) (rest := []) hM hW.1 hR hC myX12_strongestOf (kAW (v_6_11 (List.mem_of_getElem? (i := 10) rfl)) rfl) (rfl : vwCl[12]? = some (RX12, TX12, 86)) rfl lb_129.1 (shO hW.2.1 lb_129) (a_X12_strongestOf _ _ cA ad g0 a hW.2.1 hG (by  omega) (by  omega)) ⟨by decide, by decide⟩ rfl rfl hl.1 (Nat.le_of_ble_eq_true rfl) dX12_pupilIs_66 (fun v g7229 H locs hp hW1 => ?_)
      obtain ⟨r7228, rfl, hr7228, rfl⟩ := hp
      have hW : WS ad cA (fun i k => False) g0 K g0 H locs := ⟨hW1, hW.2.1, hW.2.2⟩
      exact hE _ _ _ _ _ _ hW.1 ⟨_, rfl, hW.2.1, hG, hW.2.2⟩ dX12_pupilIs_69
    · refine q_tableIn (tgt := 70) hM dX12_pupilIs_11 ((rfl : b.toInt = _).trans h11) (by decide) (by decide) rfl (by decide) ?_
      refine q_aload_n hM dX12_pupilIs_70 (lv_at hl 0 rfl) ?_
      refine q_iload_n hM dX12_pupilIs_71 (lv_at hl 1 rfl) ?_
      refine q_callV (As := [.int a]) (rest := []) hM hW.1 hR hC myX12_togetherOf (kAW (v_6_11 (List.mem_of_getElem? (i := 14) rfl)) rfl) (rfl : vwCl[12]? = some (RX12, TX12, 86)) rfl lb_129.1 (shO hW.2.1 lb_129) (a_X12_togetherOf _ _ cA ad g0 a hW.2.1 hG (by  omega) (by  omega)) ⟨by decide, by decide⟩ rfl rfl hl.1 (Nat.le_of_ble_eq_true rfl) dX12_pupilIs_72 (fun v g7232 H locs hp hW1 => ?_)
      obtain ⟨r7231, rfl, hr7231, rfl⟩ := hp
      have hW : WS ad cA (fun i k => False) g0 K g0 H locs := ⟨hW1, hW.2.1, hW.2.2⟩
      exact hE _ _ _ _ _ _ hW.1 ⟨_, rfl, hW.2.1, hG, hW.2.2⟩ dX12_pupilIs_75
  · refine q_iconst (v := ((-1) : Int32)) hM dX12_pupilIs_8 (by decide) ?_
    exact hE _ _ _ _ _ _ hW.1 ⟨_, rfl, hW.2.1, hG, hW.2.2⟩ dX12_pupilIs_9

theorem dX12_strength_0 : decode cX12_strength 0 = .ok (.aload_n 0, 1) := by decide +kernel
theorem dX12_strength_1 : decode cX12_strength 1 = .ok (.iload_n 1, 1) := by decide +kernel
theorem dX12_strength_2 : decode cX12_strength 2 = .ok (.invokevirtual 421, 3) := by decide +kernel
theorem dX12_strength_5 : decode cX12_strength 5 = .ok (.ifCond .eq 25, 3) := by decide +kernel
theorem dX12_strength_8 : decode cX12_strength 8 = .ok (.aload_n 0, 1) := by decide +kernel
theorem dX12_strength_9 : decode cX12_strength 9 = .ok (.iload_n 2, 1) := by decide +kernel
theorem dX12_strength_10 : decode cX12_strength 10 = .ok (.invokevirtual 198, 3) := by decide +kernel
theorem dX12_strength_13 : decode cX12_strength 13 = .ok (.ifCond .eq 17, 3) := by decide +kernel
theorem dX12_strength_16 : decode cX12_strength 16 = .ok (.aload_n 0, 1) := by decide +kernel
theorem dX12_strength_17 : decode cX12_strength 17 = .ok (.getfield 109, 3) := by decide +kernel
theorem dX12_strength_20 : decode cX12_strength 20 = .ok (.bipush 12, 2) := by decide +kernel
theorem dX12_strength_22 : decode cX12_strength 22 = .ok (.iload_n 1, 1) := by decide +kernel
theorem dX12_strength_23 : decode cX12_strength 23 = .ok (.imul, 1) := by decide +kernel
theorem dX12_strength_24 : decode cX12_strength 24 = .ok (.iload_n 2, 1) := by decide +kernel
theorem dX12_strength_25 : decode cX12_strength 25 = .ok (.iadd, 1) := by decide +kernel
theorem dX12_strength_26 : decode cX12_strength 26 = .ok (.iaload, 1) := by decide +kernel
theorem dX12_strength_27 : decode cX12_strength 27 = .ok (.goto 4, 3) := by decide +kernel
theorem dX12_strength_30 : decode cX12_strength 30 = .ok (.iconst (-1), 1) := by decide +kernel
theorem dX12_strength_31 : decode cX12_strength 31 = .ok (.ireturn, 1) := by decide +kernel
set_option maxRecDepth 100000 in
set_option maxHeartbeats 4000000 in
theorem p_X12_strength (l : Launch) (D : va_G) (cA : Nat → ClassId) (ad : Nat → Nat) (g0 : Nat → va_E) (a : Int32) (b : Int32)   (hSh : Shp ad cA g0) (hG : Rng g0) : CT l NN ad cA D yX12_strength cX12_strength 3 (some FieldType.int) (2, 46) [.ref (ad 129), .int a, .int b] g0 (fun v g' => ∃ (r : Int32), v = some (.int r) ∧ Shp ad cA g' ∧ Rng g' ∧ FR (fun i k => False) g0 g') := by
  refine q_enterI (by decide) (Nat.le_of_ble_eq_true rfl) rfl (fun K H locs ls _ _ hM hW0 hR hC hE hl => ?_)
  have hl : lv_has ls 3 [(0, .ref (ad 129)), (1, .int a), (2, .int b)] := hl
  have hW : WS ad cA (fun i k => False) g0 K g0 H locs := ⟨hW0, hSh, FR.rf⟩
  have := kc_0
  have := kc_1
  have := kc_m1
  have := kc_m2
  refine q_aload_n hM dX12_strength_0 (lv_at hl 0 rfl) ?_
  refine q_iload_n hM dX12_strength_1 (lv_at hl 1 rfl) ?_
  refine q_callV (As := [.int a]) (rest := []) hM hW.1 hR hC myX12_isThat (kAW (v_6_2 (List.mem_of_getElem? (i := 9) rfl)) rfl) (rfl : vwCl[12]? = some (RX12, TX12, 86)) rfl lb_129.1 (shO hW.2.1 lb_129) (a_X12_isThat _ _ cA ad g0 a hW.2.1 hG) ⟨by decide, by decide⟩ rfl rfl hl.1 (Nat.le_of_ble_eq_true rfl) dX12_strength_2 (fun v g7235 H locs hp hW1 => ?_)
  obtain ⟨r7234, rfl, hr7234, rfl⟩ := hp
  have hW : WS ad cA (fun i k => False) g0 K g0 H locs := ⟨hW1, hW.2.1, hW.2.2⟩
  refine q_if_eq (tgt := 30) hM dX12_strength_5 (by decide) (rfl : r7234.toInt = r7234.toInt) (fun h5 => ?_) (fun h5 => ?_)
  · refine q_iconst (v := ((-1) : Int32)) hM dX12_strength_30 (by decide) ?_
    exact hE _ _ _ _ _ _ hW.1 ⟨_, rfl, hW.2.1, hG, hW.2.2⟩ dX12_strength_31
  · refine q_aload_n hM dX12_strength_8 (lv_at hl 0 rfl) ?_
    refine q_iload_n hM dX12_strength_9 (lv_at hl 2 rfl) ?_
    refine q_callV (As := [.int b]) (rest := []) hM hW.1 hR hC myX12_isTold (kAW (v_5_5 (List.mem_of_getElem? (i := 6) rfl)) rfl) (rfl : vwCl[12]? = some (RX12, TX12, 86)) rfl lb_129.1 (shO hW.2.1 lb_129) (a_X12_isTold _ _ cA ad g0 b hW.2.1 hG) ⟨by decide, by decide⟩ rfl rfl hl.1 (Nat.le_of_ble_eq_true rfl) dX12_strength_10 (fun v g7239 H locs hp hW1 => ?_)
    obtain ⟨r7238, rfl, hr7238, rfl⟩ := hp
    have hW : WS ad cA (fun i k => False) g0 K g0 H locs := ⟨hW1, hW.2.1, hW.2.2⟩
    refine q_if_eq (tgt := 30) hM dX12_strength_13 (by decide) (rfl : r7238.toInt = r7238.toInt) (fun h13 => ?_) (fun h13 => ?_)
    · refine q_iconst (v := ((-1) : Int32)) hM dX12_strength_30 (by decide) ?_
      exact hE _ _ _ _ _ _ hW.1 ⟨_, rfl, hW.2.1, hG, hW.2.2⟩ dX12_strength_31
    · refine q_aload_n hM dX12_strength_16 (lv_at hl 0 rfl) ?_
      refine w_get (v := .ref (ad 161)) hM hW FG_X12_109 lb_129 (rf_129_55 hW.2.1) dX12_strength_17 ?_
      refine q_bipush (v := (12 : Int32)) hM dX12_strength_20 (by decide) ?_
      refine q_iload_n hM dX12_strength_22 (lv_at hl 1 rfl) ?_
      refine q_imul hM dX12_strength_23 (fun z7242 hz7242 => ?_)
      first | have tz7242 := i_mulT hz7242 (kc_12 : (12 : Int32).toInt = 12) (rfl : a.toInt = a.toInt) (by omega) (by omega) | skip
      refine q_iload_n hM dX12_strength_24 (lv_at hl 2 rfl) ?_
      refine q_iadd hM dX12_strength_25 (fun z7243 hz7243 => ?_)
      first | have tz7243 := i_addT hz7243 (rfl : z7242.toInt = z7242.toInt) (rfl : b.toInt = b.toInt) (by omega) (by omega) | skip
      refine w_iald hM hW lb_161 (i_in (by omega) (by omega)) dX12_strength_26 ?_
      refine q_top (fun y7244 hy7244 => ?_)
      refine q_goto (tgt := 31) hM dX12_strength_27 (by decide) ?_
      exact hE _ _ _ _ _ _ hW.1 ⟨_, rfl, hW.2.1, hG, hW.2.2⟩ dX12_strength_31

theorem dX12_heard_0 : decode cX12_heard 0 = .ok (.aload_n 0, 1) := by decide +kernel
theorem dX12_heard_1 : decode cX12_heard 1 = .ok (.iload_n 1, 1) := by decide +kernel
theorem dX12_heard_2 : decode cX12_heard 2 = .ok (.invokevirtual 421, 3) := by decide +kernel
theorem dX12_heard_5 : decode cX12_heard 5 = .ok (.ifCond .eq 20, 3) := by decide +kernel
theorem dX12_heard_8 : decode cX12_heard 8 = .ok (.aload_n 0, 1) := by decide +kernel
theorem dX12_heard_9 : decode cX12_heard 9 = .ok (.iload_n 2, 1) := by decide +kernel
theorem dX12_heard_10 : decode cX12_heard 10 = .ok (.invokevirtual 198, 3) := by decide +kernel
theorem dX12_heard_13 : decode cX12_heard 13 = .ok (.ifCond .eq 12, 3) := by decide +kernel
theorem dX12_heard_16 : decode cX12_heard 16 = .ok (.aload_n 0, 1) := by decide +kernel
theorem dX12_heard_17 : decode cX12_heard 17 = .ok (.iload_n 1, 1) := by decide +kernel
theorem dX12_heard_18 : decode cX12_heard 18 = .ok (.iload_n 2, 1) := by decide +kernel
theorem dX12_heard_19 : decode cX12_heard 19 = .ok (.invokevirtual 458, 3) := by decide +kernel
theorem dX12_heard_22 : decode cX12_heard 22 = .ok (.goto 4, 3) := by decide +kernel
theorem dX12_heard_25 : decode cX12_heard 25 = .ok (.iconst (-1), 1) := by decide +kernel
theorem dX12_heard_26 : decode cX12_heard 26 = .ok (.ireturn, 1) := by decide +kernel
set_option maxRecDepth 100000 in
set_option maxHeartbeats 4000000 in
theorem p_X12_heard (l : Launch) (D : va_G) (cA : Nat → ClassId) (ad : Nat → Nat) (g0 : Nat → va_E) (a : Int32) (b : Int32)   (hSh : Shp ad cA g0) (hG : Rng g0) : CT l NN ad cA D yX12_heard cX12_heard 3 (some FieldType.int) (2, 46) [.ref (ad 129), .int a, .int b] g0 (fun v g' => ∃ (r : Int32), v = some (.int r) ∧ Shp ad cA g' ∧ Rng g' ∧ FR (fun i k => False) g0 g') := by
  refine q_enterI (by decide) (Nat.le_of_ble_eq_true rfl) rfl (fun K H locs ls _ _ hM hW0 hR hC hE hl => ?_)
  have hl : lv_has ls 3 [(0, .ref (ad 129)), (1, .int a), (2, .int b)] := hl
  have hW : WS ad cA (fun i k => False) g0 K g0 H locs := ⟨hW0, hSh, FR.rf⟩
  have := kc_0
  have := kc_1
  have := kc_m1
  have := kc_m2
  refine q_aload_n hM dX12_heard_0 (lv_at hl 0 rfl) ?_
  refine q_iload_n hM dX12_heard_1 (lv_at hl 1 rfl) ?_
  refine q_callV (As := [.int a]) (rest := []) hM hW.1 hR hC myX12_isThat (kAW (v_6_2 (List.mem_of_getElem? (i := 9) rfl)) rfl) (rfl : vwCl[12]? = some (RX12, TX12, 86)) rfl lb_129.1 (shO hW.2.1 lb_129) (a_X12_isThat _ _ cA ad g0 a hW.2.1 hG) ⟨by decide, by decide⟩ rfl rfl hl.1 (Nat.le_of_ble_eq_true rfl) dX12_heard_2 (fun v g7246 H locs hp hW1 => ?_)
  obtain ⟨r7245, rfl, hr7245, rfl⟩ := hp
  have hW : WS ad cA (fun i k => False) g0 K g0 H locs := ⟨hW1, hW.2.1, hW.2.2⟩
  refine q_if_eq (tgt := 25) hM dX12_heard_5 (by decide) (rfl : r7245.toInt = r7245.toInt) (fun h5 => ?_) (fun h5 => ?_)
  · refine q_iconst (v := ((-1) : Int32)) hM dX12_heard_25 (by decide) ?_
    exact hE _ _ _ _ _ _ hW.1 ⟨_, rfl, hW.2.1, hG, hW.2.2⟩ dX12_heard_26
  · refine q_aload_n hM dX12_heard_8 (lv_at hl 0 rfl) ?_
    refine q_iload_n hM dX12_heard_9 (lv_at hl 2 rfl) ?_
    refine q_callV (As := [.int b]) (rest := []) hM hW.1 hR hC myX12_isTold (kAW (v_5_5 (List.mem_of_getElem? (i := 6) rfl)) rfl) (rfl : vwCl[12]? = some (RX12, TX12, 86)) rfl lb_129.1 (shO hW.2.1 lb_129) (a_X12_isTold _ _ cA ad g0 b hW.2.1 hG) ⟨by decide, by decide⟩ rfl rfl hl.1 (Nat.le_of_ble_eq_true rfl) dX12_heard_10 (fun v g7250 H locs hp hW1 => ?_)
    obtain ⟨r7249, rfl, hr7249, rfl⟩ := hp
    have hW : WS ad cA (fun i k => False) g0 K g0 H locs := ⟨hW1, hW.2.1, hW.2.2⟩
    refine q_if_eq (tgt := 25) hM dX12_heard_13 (by decide) (rfl : r7249.toInt = r7249.toInt) (fun h13 => ?_) (fun h13 => ?_)
    · refine q_iconst (v := ((-1) : Int32)) hM dX12_heard_25 (by decide) ?_
      exact hE _ _ _ _ _ _ hW.1 ⟨_, rfl, hW.2.1, hG, hW.2.2⟩ dX12_heard_26
    · refine q_aload_n hM dX12_heard_16 (lv_at hl 0 rfl) ?_
      refine q_iload_n hM dX12_heard_17 (lv_at hl 1 rfl) ?_
      refine q_iload_n hM dX12_heard_18 (lv_at hl 2 rfl) ?_
      refine q_callV (As := [.int a, .int b]) (rest := []) hM hW.1 hR hC myX12_heardOf (kAW (v_6_7 (List.mem_of_getElem? (i := 5) rfl)) rfl) (rfl : vwCl[12]? = some (RX12, TX12, 86)) rfl lb_129.1 (shO hW.2.1 lb_129) (a_X12_heardOf _ _ cA ad g0 a b hW.2.1 hG (by  omega) (by  omega) (by  omega) (by  omega)) ⟨by decide, by decide⟩ rfl rfl hl.1 (Nat.le_of_ble_eq_true rfl) dX12_heard_19 (fun v g7254 H locs hp hW1 => ?_)
      obtain ⟨r7253, rfl, hr7253, rfl⟩ := hp
      have hW : WS ad cA (fun i k => False) g0 K g0 H locs := ⟨hW1, hW.2.1, hW.2.2⟩
      refine q_goto (tgt := 26) hM dX12_heard_22 (by decide) ?_
      exact hE _ _ _ _ _ _ hW.1 ⟨_, rfl, hW.2.1, hG, hW.2.2⟩ dX12_heard_26

theorem dX12_cut_0 : decode cX12_cut 0 = .ok (.aload_n 0, 1) := by decide +kernel
theorem dX12_cut_1 : decode cX12_cut 1 = .ok (.iload_n 1, 1) := by decide +kernel
theorem dX12_cut_2 : decode cX12_cut 2 = .ok (.invokevirtual 198, 3) := by decide +kernel
theorem dX12_cut_5 : decode cX12_cut 5 = .ok (.ifCond .eq 26, 3) := by decide +kernel
theorem dX12_cut_8 : decode cX12_cut 8 = .ok (.aload_n 0, 1) := by decide +kernel
theorem dX12_cut_9 : decode cX12_cut 9 = .ok (.iload_n 2, 1) := by decide +kernel
theorem dX12_cut_10 : decode cX12_cut 10 = .ok (.invokevirtual 198, 3) := by decide +kernel
theorem dX12_cut_13 : decode cX12_cut 13 = .ok (.ifCond .eq 18, 3) := by decide +kernel
theorem dX12_cut_16 : decode cX12_cut 16 = .ok (.iload_n 1, 1) := by decide +kernel
theorem dX12_cut_17 : decode cX12_cut 17 = .ok (.iload_n 2, 1) := by decide +kernel
theorem dX12_cut_18 : decode cX12_cut 18 = .ok (.if_icmp .eq 13, 3) := by decide +kernel
theorem dX12_cut_21 : decode cX12_cut 21 = .ok (.iload_n 3, 1) := by decide +kernel
theorem dX12_cut_22 : decode cX12_cut 22 = .ok (.i2l, 1) := by decide +kernel
theorem dX12_cut_23 : decode cX12_cut 23 = .ok (.lconst 0, 1) := by decide +kernel
theorem dX12_cut_24 : decode cX12_cut 24 = .ok (.lconst 1, 1) := by decide +kernel
theorem dX12_cut_25 : decode cX12_cut 25 = .ok (.invokestatic 190, 3) := by decide +kernel
theorem dX12_cut_28 : decode cX12_cut 28 = .ok (.ifCond .ne 5, 3) := by decide +kernel
theorem dX12_cut_31 : decode cX12_cut 31 = .ok (.iconst (-1), 1) := by decide +kernel
theorem dX12_cut_32 : decode cX12_cut 32 = .ok (.ireturn, 1) := by decide +kernel
theorem dX12_cut_33 : decode cX12_cut 33 = .ok (.aload_n 0, 1) := by decide +kernel
theorem dX12_cut_34 : decode cX12_cut 34 = .ok (.getfield 25, 3) := by decide +kernel
theorem dX12_cut_37 : decode cX12_cut 37 = .ok (.bipush 12, 2) := by decide +kernel
theorem dX12_cut_39 : decode cX12_cut 39 = .ok (.iload_n 1, 1) := by decide +kernel
theorem dX12_cut_40 : decode cX12_cut 40 = .ok (.imul, 1) := by decide +kernel
theorem dX12_cut_41 : decode cX12_cut 41 = .ok (.iload_n 2, 1) := by decide +kernel
theorem dX12_cut_42 : decode cX12_cut 42 = .ok (.iadd, 1) := by decide +kernel
theorem dX12_cut_43 : decode cX12_cut 43 = .ok (.iaload, 1) := by decide +kernel
theorem dX12_cut_44 : decode cX12_cut 44 = .ok (.ifCond .le 6, 3) := by decide +kernel
theorem dX12_cut_47 : decode cX12_cut 47 = .ok (.bipush (-2), 2) := by decide +kernel
theorem dX12_cut_49 : decode cX12_cut 49 = .ok (.ireturn, 1) := by decide +kernel
theorem dX12_cut_50 : decode cX12_cut 50 = .ok (.aload_n 0, 1) := by decide +kernel
theorem dX12_cut_51 : decode cX12_cut 51 = .ok (.invokevirtual 222, 3) := by decide +kernel
theorem dX12_cut_54 : decode cX12_cut 54 = .ok (.iconst 1, 1) := by decide +kernel
theorem dX12_cut_55 : decode cX12_cut 55 = .ok (.iload_n 1, 1) := by decide +kernel
theorem dX12_cut_56 : decode cX12_cut 56 = .ok (.ishl, 1) := by decide +kernel
theorem dX12_cut_57 : decode cX12_cut 57 = .ok (.iconst (-1), 1) := by decide +kernel
theorem dX12_cut_58 : decode cX12_cut 58 = .ok (.ixor, 1) := by decide +kernel
theorem dX12_cut_59 : decode cX12_cut 59 = .ok (.iand, 1) := by decide +kernel
theorem dX12_cut_60 : decode cX12_cut 60 = .ok (.iconst 1, 1) := by decide +kernel
theorem dX12_cut_61 : decode cX12_cut 61 = .ok (.iload_n 2, 1) := by decide +kernel
theorem dX12_cut_62 : decode cX12_cut 62 = .ok (.ishl, 1) := by decide +kernel
theorem dX12_cut_63 : decode cX12_cut 63 = .ok (.iconst (-1), 1) := by decide +kernel
theorem dX12_cut_64 : decode cX12_cut 64 = .ok (.ixor, 1) := by decide +kernel
theorem dX12_cut_65 : decode cX12_cut 65 = .ok (.iand, 1) := by decide +kernel
theorem dX12_cut_66 : decode cX12_cut 66 = .ok (.istore 4, 2) := by decide +kernel
theorem dX12_cut_68 : decode cX12_cut 68 = .ok (.iload 4, 2) := by decide +kernel
theorem dX12_cut_70 : decode cX12_cut 70 = .ok (.istore 5, 2) := by decide +kernel
theorem dX12_cut_72 : decode cX12_cut 72 = .ok (.iconst 0, 1) := by decide +kernel
theorem dX12_cut_73 : decode cX12_cut 73 = .ok (.istore 6, 2) := by decide +kernel
theorem dX12_cut_75 : decode cX12_cut 75 = .ok (.iload 6, 2) := by decide +kernel
theorem dX12_cut_77 : decode cX12_cut 77 = .ok (.iload 4, 2) := by decide +kernel
theorem dX12_cut_79 : decode cX12_cut 79 = .ok (.if_icmp .gt 50, 3) := by decide +kernel
theorem dX12_cut_82 : decode cX12_cut 82 = .ok (.iload 6, 2) := by decide +kernel
theorem dX12_cut_84 : decode cX12_cut 84 = .ok (.iload 4, 2) := by decide +kernel
theorem dX12_cut_86 : decode cX12_cut 86 = .ok (.iconst (-1), 1) := by decide +kernel
theorem dX12_cut_87 : decode cX12_cut 87 = .ok (.ixor, 1) := by decide +kernel
theorem dX12_cut_88 : decode cX12_cut 88 = .ok (.iand, 1) := by decide +kernel
theorem dX12_cut_89 : decode cX12_cut 89 = .ok (.ifCond .ne 34, 3) := by decide +kernel
theorem dX12_cut_92 : decode cX12_cut 92 = .ok (.iload 6, 2) := by decide +kernel
theorem dX12_cut_94 : decode cX12_cut 94 = .ok (.invokestatic 215, 3) := by decide +kernel
theorem dX12_cut_97 : decode cX12_cut 97 = .ok (.iload 5, 2) := by decide +kernel
theorem dX12_cut_99 : decode cX12_cut 99 = .ok (.invokestatic 215, 3) := by decide +kernel
theorem dX12_cut_102 : decode cX12_cut 102 = .ok (.if_icmp .ge 21, 3) := by decide +kernel
theorem dX12_cut_105 : decode cX12_cut 105 = .ok (.aload_n 0, 1) := by decide +kernel
theorem dX12_cut_106 : decode cX12_cut 106 = .ok (.iload_n 1, 1) := by decide +kernel
theorem dX12_cut_107 : decode cX12_cut 107 = .ok (.iload 6, 2) := by decide +kernel
theorem dX12_cut_109 : decode cX12_cut 109 = .ok (.invokevirtual 212, 3) := by decide +kernel
theorem dX12_cut_112 : decode cX12_cut 112 = .ok (.iload_n 2, 1) := by decide +kernel
theorem dX12_cut_113 : decode cX12_cut 113 = .ok (.invokestatic 204, 3) := by decide +kernel
theorem dX12_cut_116 : decode cX12_cut 116 = .ok (.ifCond .ne 7, 3) := by decide +kernel
theorem dX12_cut_119 : decode cX12_cut 119 = .ok (.iload 6, 2) := by decide +kernel
theorem dX12_cut_121 : decode cX12_cut 121 = .ok (.istore 5, 2) := by decide +kernel
theorem dX12_cut_123 : decode cX12_cut 123 = .ok (.iinc 6 1, 3) := by decide +kernel
theorem dX12_cut_126 : decode cX12_cut 126 = .ok (.goto (-51), 3) := by decide +kernel
theorem dX12_cut_129 : decode cX12_cut 129 = .ok (.iload_n 3, 1) := by decide +kernel
theorem dX12_cut_130 : decode cX12_cut 130 = .ok (.ifCond .ne 11, 3) := by decide +kernel
theorem dX12_cut_133 : decode cX12_cut 133 = .ok (.iload 5, 2) := by decide +kernel
theorem dX12_cut_135 : decode cX12_cut 135 = .ok (.invokestatic 215, 3) := by decide +kernel
theorem dX12_cut_138 : decode cX12_cut 138 = .ok (.goto 5, 3) := by decide +kernel
theorem dX12_cut_141 : decode cX12_cut 141 = .ok (.iload 5, 2) := by decide +kernel
theorem dX12_cut_143 : decode cX12_cut 143 = .ok (.ireturn, 1) := by decide +kernel
set_option maxRecDepth 100000 in
set_option maxHeartbeats 4000000 in
theorem p_X12_cut (l : Launch) (D : va_G) (cA : Nat → ClassId) (ad : Nat → Nat) (g0 : Nat → va_E) (a : Int32) (b : Int32) (c : Int32)   (hSh : Shp ad cA g0) (hG : Rng g0) : CT l NN ad cA D yX12_cut cX12_cut 7 (some FieldType.int) (3, 70) [.ref (ad 129), .int a, .int b, .int c] g0 (fun v g' => ∃ (r : Int32), v = some (.int r) ∧ Shp ad cA g' ∧ Rng g' ∧ FR (fun i k => False) g0 g') := by
  refine q_enterI (by decide) (Nat.le_of_ble_eq_true rfl) rfl (fun K H locs ls _ _ hM hW0 hR hC hE hl => ?_)
  have hl : lv_has ls 7 [(0, .ref (ad 129)), (1, .int a), (2, .int b), (3, .int c)] := hl
  have hW : WS ad cA (fun i k => False) g0 K g0 H locs := ⟨hW0, hSh, FR.rf⟩
  have := kc_0
  have := kc_1
  have := kc_m1
  have := kc_m2
  refine q_aload_n hM dX12_cut_0 (lv_at hl 0 rfl) ?_
  refine q_iload_n hM dX12_cut_1 (lv_at hl 1 rfl) ?_
  refine q_callV (As := [.int a]) (rest := []) hM hW.1 hR hC myX12_isTold (kAW (v_5_5 (List.mem_of_getElem? (i := 6) rfl)) rfl) (rfl : vwCl[12]? = some (RX12, TX12, 86)) rfl lb_129.1 (shO hW.2.1 lb_129) (a_X12_isTold _ _ cA ad g0 a hW.2.1 hG) ⟨by decide, by decide⟩ rfl rfl hl.1 (Nat.le_of_ble_eq_true rfl) dX12_cut_2 (fun v g7256 H locs hp hW1 => ?_)
  obtain ⟨r7255, rfl, hr7255, rfl⟩ := hp
  have hW : WS ad cA (fun i k => False) g0 K g0 H locs := ⟨hW1, hW.2.1, hW.2.2⟩
  refine q_if_eq (tgt := 31) hM dX12_cut_5 (by decide) (rfl : r7255.toInt = r7255.toInt) (fun h5 => ?_) (fun h5 => ?_)
  · refine q_iconst (v := ((-1) : Int32)) hM dX12_cut_31 (by decide) ?_
    exact hE _ _ _ _ _ _ hW.1 ⟨_, rfl, hW.2.1, hG, hW.2.2⟩ dX12_cut_32
  · refine q_aload_n hM dX12_cut_8 (lv_at hl 0 rfl) ?_
    refine q_iload_n hM dX12_cut_9 (lv_at hl 2 rfl) ?_
    refine q_callV (As := [.int b]) (rest := []) hM hW.1 hR hC myX12_isTold (kAW (v_5_5 (List.mem_of_getElem? (i := 6) rfl)) rfl) (rfl : vwCl[12]? = some (RX12, TX12, 86)) rfl lb_129.1 (shO hW.2.1 lb_129) (a_X12_isTold _ _ cA ad g0 b hW.2.1 hG) ⟨by decide, by decide⟩ rfl rfl hl.1 (Nat.le_of_ble_eq_true rfl) dX12_cut_10 (fun v g7260 H locs hp hW1 => ?_)
    obtain ⟨r7259, rfl, hr7259, rfl⟩ := hp
    have hW : WS ad cA (fun i k => False) g0 K g0 H locs := ⟨hW1, hW.2.1, hW.2.2⟩
    refine q_if_eq (tgt := 31) hM dX12_cut_13 (by decide) (rfl : r7259.toInt = r7259.toInt) (fun h13 => ?_) (fun h13 => ?_)
    · refine q_iconst (v := ((-1) : Int32)) hM dX12_cut_31 (by decide) ?_
      exact hE _ _ _ _ _ _ hW.1 ⟨_, rfl, hW.2.1, hG, hW.2.2⟩ dX12_cut_32
    · refine q_iload_n hM dX12_cut_16 (lv_at hl 1 rfl) ?_
      refine q_iload_n hM dX12_cut_17 (lv_at hl 2 rfl) ?_
      refine q_icmp_eq (tgt := 31) hM dX12_cut_18 (by decide) (rfl : a.toInt = a.toInt) (rfl : b.toInt = b.toInt) (fun h18 => ?_) (fun h18 => ?_)
      · refine q_iconst (v := ((-1) : Int32)) hM dX12_cut_31 (by decide) ?_
        exact hE _ _ _ _ _ _ hW.1 ⟨_, rfl, hW.2.1, hG, hW.2.2⟩ dX12_cut_32
      · refine q_iload_n hM dX12_cut_21 (lv_at hl 3 rfl) ?_
        refine q_i2l hM dX12_cut_22 ?_
        have := l_i2l c
        refine q_lconst (v := 0) hM dX12_cut_23 (by decide) ?_
        have := kl_0
        refine q_lconst (v := 1) hM dX12_cut_24 (by decide) ?_
        have := kl_1
        refine q_callS (As := [.long c.toInt64, .long (0 : Int64), .long (1 : Int64)]) (rest := []) hM hW.1 hR hC myX12_lies (kAW (v_5_4 (List.mem_of_getElem? (i := 14) rfl)) rfl) (c_X12_lies _ _ cA ad g0 c.toInt64 (0 : Int64) (1 : Int64) hW.2.1) ⟨by decide, by decide⟩ rfl rfl hl.1 (Nat.le_of_ble_eq_true rfl) dX12_cut_25 (fun v g7266 H locs hp hW1 => ?_)
        obtain ⟨r7265, rfl, hr7265, rfl⟩ := hp
        have hW : WS ad cA (fun i k => False) g0 K g0 H locs := ⟨hW1, hW.2.1, hW.2.2⟩
        refine q_if_ne (tgt := 33) hM dX12_cut_28 (by decide) (rfl : r7265.toInt = r7265.toInt) (fun h28 => ?_) (fun h28 => ?_)
        · refine q_aload_n hM dX12_cut_33 (lv_at hl 0 rfl) ?_
          refine w_get (v := .ref (ad 133)) hM hW FG_X12_25 lb_129 (rf_129_12 hW.2.1) dX12_cut_34 ?_
          refine q_bipush (v := (12 : Int32)) hM dX12_cut_37 (by decide) ?_
          refine q_iload_n hM dX12_cut_39 (lv_at hl 1 rfl) ?_
          refine q_imul hM dX12_cut_40 (fun z7268 hz7268 => ?_)
          first | have tz7268 := i_mulT hz7268 (kc_12 : (12 : Int32).toInt = 12) (rfl : a.toInt = a.toInt) (by omega) (by omega) | skip
          refine q_iload_n hM dX12_cut_41 (lv_at hl 2 rfl) ?_
          refine q_iadd hM dX12_cut_42 (fun z7269 hz7269 => ?_)
          first | have tz7269 := i_addT hz7269 (rfl : z7268.toInt = z7268.toInt) (rfl : b.toInt = b.toInt) (by omega) (by omega) | skip
          refine w_iald hM hW lb_133 (i_in (by omega) (by omega)) dX12_cut_43 ?_
          refine q_top (fun y7270 hy7270 => ?_)
          refine q_if_le (tgt := 50) hM dX12_cut_44 (by decide) (rfl : y7270.toInt = y7270.toInt) (fun h44 => ?_) (fun h44 => ?_)
          · refine q_aload_n hM dX12_cut_50 (lv_at hl 0 rfl) ?_
            refine q_callV (As := []) (rest := []) hM hW.1 hR hC myX12_toldFacts (kAW (v_5_7 (List.mem_of_getElem? (i := 13) rfl)) rfl) (rfl : vwCl[12]? = some (RX12, TX12, 86)) rfl lb_129.1 (shO hW.2.1 lb_129) (a_X12_toldFacts _ _ cA ad g0  hW.2.1 hG) ⟨by decide, by decide⟩ rfl rfl hl.1 (Nat.le_of_ble_eq_true rfl) dX12_cut_51 (fun v g7273 H locs hp hW1 => ?_)
            obtain ⟨r7272, rfl, hr7272, rfl⟩ := hp
            have hW : WS ad cA (fun i k => False) g0 K g0 H locs := ⟨hW1, hW.2.1, hW.2.2⟩
            refine q_iconst (v := (1 : Int32)) hM dX12_cut_54 (by decide) ?_
            refine q_iload_n hM dX12_cut_55 (lv_at hl 1 rfl) ?_
            refine q_ishl hM dX12_cut_56 (fun z7274 hz7274 => ?_)
            first | have sz7274 := i_shl1 12 (by decide) hz7274 (by omega) (by omega) | skip
            refine q_iconst (v := ((-1) : Int32)) hM dX12_cut_57 (by decide) ?_
            refine q_ixor hM dX12_cut_58 (fun z7275 hz7275 => ?_)
            refine q_iand hM dX12_cut_59 (fun z7276 hz7276 => ?_)
            first | have az7276 := i_andk hz7276 (by omega) | have az7276 := i_andk (i_comm hz7276) (by omega) | skip
            refine q_iconst (v := (1 : Int32)) hM dX12_cut_60 (by decide) ?_
            refine q_iload_n hM dX12_cut_61 (lv_at hl 2 rfl) ?_
            refine q_ishl hM dX12_cut_62 (fun z7277 hz7277 => ?_)
            first | have sz7277 := i_shl1 12 (by decide) hz7277 (by omega) (by omega) | skip
            refine q_iconst (v := ((-1) : Int32)) hM dX12_cut_63 (by decide) ?_
            refine q_ixor hM dX12_cut_64 (fun z7278 hz7278 => ?_)
            refine q_iand hM dX12_cut_65 (fun z7279 hz7279 => ?_)
            first | have az7279 := i_andk hz7279 (by omega) | have az7279 := i_andk (i_comm hz7279) (by omega) | skip
            refine q_istore (lv9 := [(4, .int z7279), (0, .ref (ad 129)), (1, .int a), (2, .int b), (3, .int c)]) hM dX12_cut_66 hl (by decide) rfl (fun ls hl => ?_)
            refine q_iload hM dX12_cut_68 (lv_at hl 0 rfl) ?_
            refine q_istore (lv9 := [(5, .int z7279), (4, .int z7279), (0, .ref (ad 129)), (1, .int a), (2, .int b), (3, .int c)]) hM dX12_cut_70 hl (by decide) rfl (fun ls hl => ?_)
            refine q_iconst (v := (0 : Int32)) hM dX12_cut_72 (by decide) ?_
            refine q_istore (lv9 := [(6, .int (0 : Int32)), (5, .int z7279), (4, .int z7279), (0, .ref (ad 129)), (1, .int a), (2, .int b), (3, .int c)]) hM dX12_cut_73 hl (by decide) rfl (fun ls hl => ?_)
            have L75 : ∀ (fu75 : Nat) (w75_5 : Int32) (w75_6 : Int32) (g9 : Nat → va_E) (H : Heap) (locs : List Loc) (ls : Array Slot), (z7279.toInt - w75_6.toInt + 1).toNat < fu75 → (Rng g9) → (0 ≤ w75_6.toInt) → (0 ≤ w75_5.toInt) → (w75_5.toInt < 4096) → lv_has ls 7 [(0, .ref (ad 129)), (1, .int a), (2, .int b), (3, .int c), (4, .int z7279), (5, .int w75_5), (6, .int w75_6)] → WS ad cA (fun i k => False) g0 K g9 H locs → XX K 0 0 H locs 75 ls [] := by
              intro fu75
              induction fu75 with
              | zero => intro w75_5 w75_6 g9 H locs ls h0; omega
              | succ fu75 ih75 =>
                intro w75_5 w75_6 g9 H locs ls hm75 i75_0 i75_1 i75_2 i75_3 hl hW
                have hG := i75_0
                have := i_rng z7279
                refine q_iload hM dX12_cut_75 (lv_at hl 6 rfl) ?_
                refine q_iload hM dX12_cut_77 (lv_at hl 4 rfl) ?_
                refine q_icmp_gt (tgt := 129) hM dX12_cut_79 (by decide) (rfl : w75_6.toInt = w75_6.toInt) (rfl : z7279.toInt = z7279.toInt) (fun h79 => ?_) (fun h79 => ?_)
                · refine q_iload_n hM dX12_cut_129 (lv_at hl 3 rfl) ?_
                  refine q_if_ne (tgt := 141) hM dX12_cut_130 (by decide) (rfl : c.toInt = c.toInt) (fun h130 => ?_) (fun h130 => ?_)
                  · refine q_iload hM dX12_cut_141 (lv_at hl 5 rfl) ?_
                    exact hE _ _ _ _ _ _ hW.1 ⟨_, rfl, hW.2.1, hG, hW.2.2⟩ dX12_cut_143
                  · refine q_iload hM dX12_cut_133 (lv_at hl 5 rfl) ?_
                    refine q_callS (As := [.int w75_5]) (rest := []) hM hW.1 hR hC myX12_sizeOf (kAW (v_5_6 (List.mem_of_getElem? (i := 14) rfl)) rfl) (a_X12_sizeOf _ _ cA ad g9 w75_5 hW.2.1 hG (by  omega)) ⟨by decide, by decide⟩ rfl rfl hl.1 (Nat.le_of_ble_eq_true rfl) dX12_cut_135 (fun v g7285 H locs hp hW1 => ?_)
                    obtain ⟨r7284, rfl, hr7284, rfl⟩ := hp
                    have hW : WS ad cA (fun i k => False) g0 K g9 H locs := ⟨hW1, hW.2.1, hW.2.2⟩
                    refine q_goto (tgt := 143) hM dX12_cut_138 (by decide) ?_
                    exact hE _ _ _ _ _ _ hW.1 ⟨_, rfl, hW.2.1, hG, hW.2.2⟩ dX12_cut_143
                · refine q_iload hM dX12_cut_82 (lv_at hl 6 rfl) ?_
                  refine q_iload hM dX12_cut_84 (lv_at hl 4 rfl) ?_
                  refine q_iconst (v := ((-1) : Int32)) hM dX12_cut_86 (by decide) ?_
                  refine q_ixor hM dX12_cut_87 (fun z7287 hz7287 => ?_)
                  refine q_iand hM dX12_cut_88 (fun z7288 hz7288 => ?_)
                  first | have az7288 := i_andk hz7288 (by omega) | have az7288 := i_andk (i_comm hz7288) (by omega) | skip
                  refine q_if_ne (tgt := 123) hM dX12_cut_89 (by decide) (rfl : z7288.toInt = z7288.toInt) (fun h89 => ?_) (fun h89 => ?_)
                  · refine q_iinc (lv9 := fun z7290 => [(6, .int z7290), (0, .ref (ad 129)), (1, .int a), (2, .int b), (3, .int c), (4, .int z7279), (5, .int w75_5)]) hM dX12_cut_123 hl (kq := 6) rfl (by decide) (fun _ => rfl) (fun z7290 ls hz7290 hl => ?_)
                    first | have tz7290 := i_addT hz7290 (rfl : w75_6.toInt = w75_6.toInt) (kc_1 : (Int32.ofInt 1).toInt = 1) (by omega) (by omega) | skip
                    refine q_goto (tgt := 75) hM dX12_cut_126 (by decide) ?_
                    exact ih75 w75_5 z7290 _ _ _ _ (by omega) hG (by omega) (by omega) (by omega) (lv_sub hl [1, 2, 3, 4, 5, 6, 0] rfl) hW
                  · refine q_iload hM dX12_cut_92 (lv_at hl 6 rfl) ?_
                    refine q_callS (As := [.int w75_6]) (rest := []) hM hW.1 hR hC myX12_sizeOf (kAW (v_5_6 (List.mem_of_getElem? (i := 14) rfl)) rfl) (a_X12_sizeOf _ _ cA ad g9 w75_6 hW.2.1 hG (by  omega)) ⟨by decide, by decide⟩ rfl rfl hl.1 (Nat.le_of_ble_eq_true rfl) dX12_cut_94 (fun v g7293 H locs hp hW1 => ?_)
                    obtain ⟨r7292, rfl, hr7292, rfl⟩ := hp
                    have hW : WS ad cA (fun i k => False) g0 K g9 H locs := ⟨hW1, hW.2.1, hW.2.2⟩
                    refine q_iload hM dX12_cut_97 (lv_at hl 5 rfl) ?_
                    refine q_callS (As := [.int w75_5]) (rest := [.int r7292]) hM hW.1 hR hC myX12_sizeOf (kAW (v_5_6 (List.mem_of_getElem? (i := 14) rfl)) rfl) (a_X12_sizeOf _ _ cA ad g9 w75_5 hW.2.1 hG (by  omega)) ⟨by decide, by decide⟩ rfl rfl hl.1 (Nat.le_of_ble_eq_true rfl) dX12_cut_99 (fun v g7295 H locs hp hW1 => ?_)
                    obtain ⟨r7294, rfl, hr7294, rfl⟩ := hp
                    have hW : WS ad cA (fun i k => False) g0 K g9 H locs := ⟨hW1, hW.2.1, hW.2.2⟩
                    refine q_icmp_ge (tgt := 123) hM dX12_cut_102 (by decide) (rfl : r7292.toInt = r7292.toInt) (rfl : r7294.toInt = r7294.toInt) (fun h102 => ?_) (fun h102 => ?_)
                    · refine q_iinc (lv9 := fun z7297 => [(6, .int z7297), (0, .ref (ad 129)), (1, .int a), (2, .int b), (3, .int c), (4, .int z7279), (5, .int w75_5)]) hM dX12_cut_123 hl (kq := 6) rfl (by decide) (fun _ => rfl) (fun z7297 ls hz7297 hl => ?_)
                      first | have tz7297 := i_addT hz7297 (rfl : w75_6.toInt = w75_6.toInt) (kc_1 : (Int32.ofInt 1).toInt = 1) (by omega) (by omega) | skip
                      refine q_goto (tgt := 75) hM dX12_cut_126 (by decide) ?_
                      exact ih75 w75_5 z7297 _ _ _ _ (by omega) hG (by omega) (by omega) (by omega) (lv_sub hl [1, 2, 3, 4, 5, 6, 0] rfl) hW
                    · refine q_aload_n hM dX12_cut_105 (lv_at hl 0 rfl) ?_
                      refine q_iload_n hM dX12_cut_106 (lv_at hl 1 rfl) ?_
                      refine q_iload hM dX12_cut_107 (lv_at hl 6 rfl) ?_
                      refine q_callV (As := [.int a, .int w75_6]) (rest := []) hM hW.1 hR hC myX12_reachOf (kAW (v_5_5 (List.mem_of_getElem? (i := 15) rfl)) rfl) (rfl : vwCl[12]? = some (RX12, TX12, 86)) rfl lb_129.1 (shO hW.2.1 lb_129) (a_X12_reachOf _ _ cA ad g9 a w75_6 hW.2.1 hG (by  omega) (by  omega)) ⟨by decide, by decide⟩ rfl rfl hl.1 (Nat.le_of_ble_eq_true rfl) dX12_cut_109 (fun v g7300 H locs hp hW1 => ?_)
                      obtain ⟨r7299, rfl, hr7299, rfl⟩ := hp
                      have hW : WS ad cA (fun i k => False) g0 K g9 H locs := ⟨hW1, hW.2.1, hW.2.2⟩
                      refine q_iload_n hM dX12_cut_112 (lv_at hl 2 rfl) ?_
                      refine q_callS (As := [.int r7299, .int b]) (rest := []) hM hW.1 hR hC myX12_has (kAW (v_5_6 (List.mem_of_getElem? (i := 7) rfl)) rfl) (c_X12_has _ _ cA ad g9 r7299 b hW.2.1 (by omega) (by omega)) ⟨by decide, by decide⟩ rfl rfl hl.1 (Nat.le_of_ble_eq_true rfl) dX12_cut_113 (fun v g7302 H locs hp hW1 => ?_)
                      obtain ⟨r7301, rfl, hr7301, rfl⟩ := hp
                      have hW : WS ad cA (fun i k => False) g0 K g9 H locs := ⟨hW1, hW.2.1, hW.2.2⟩
                      refine q_if_ne (tgt := 123) hM dX12_cut_116 (by decide) (rfl : r7301.toInt = r7301.toInt) (fun h116 => ?_) (fun h116 => ?_)
                      · refine q_iinc (lv9 := fun z7304 => [(6, .int z7304), (0, .ref (ad 129)), (1, .int a), (2, .int b), (3, .int c), (4, .int z7279), (5, .int w75_5)]) hM dX12_cut_123 hl (kq := 6) rfl (by decide) (fun _ => rfl) (fun z7304 ls hz7304 hl => ?_)
                        first | have tz7304 := i_addT hz7304 (rfl : w75_6.toInt = w75_6.toInt) (kc_1 : (Int32.ofInt 1).toInt = 1) (by omega) (by omega) | skip
                        refine q_goto (tgt := 75) hM dX12_cut_126 (by decide) ?_
                        exact ih75 w75_5 z7304 _ _ _ _ (by omega) hG (by omega) (by omega) (by omega) (lv_sub hl [1, 2, 3, 4, 5, 6, 0] rfl) hW
                      · refine q_iload hM dX12_cut_119 (lv_at hl 6 rfl) ?_
                        refine q_istore (lv9 := [(5, .int w75_6), (0, .ref (ad 129)), (1, .int a), (2, .int b), (3, .int c), (4, .int z7279), (6, .int w75_6)]) hM dX12_cut_121 hl (by decide) rfl (fun ls hl => ?_)
                        refine q_iinc (lv9 := fun z7306 => [(6, .int z7306), (5, .int w75_6), (0, .ref (ad 129)), (1, .int a), (2, .int b), (3, .int c), (4, .int z7279)]) hM dX12_cut_123 hl (kq := 6) rfl (by decide) (fun _ => rfl) (fun z7306 ls hz7306 hl => ?_)
                        first | have tz7306 := i_addT hz7306 (rfl : w75_6.toInt = w75_6.toInt) (kc_1 : (Int32.ofInt 1).toInt = 1) (by omega) (by omega) | skip
                        refine q_goto (tgt := 75) hM dX12_cut_126 (by decide) ?_
                        exact ih75 w75_6 z7306 _ _ _ _ (by omega) hG (by omega) (by omega) (by omega) (lv_sub hl [2, 3, 4, 5, 6, 1, 0] rfl) hW
            have := kc_0
            exact L75 _ z7279 (0 : Int32) _ _ _ _ (Nat.lt_succ_self _) hG (by omega) (by omega) (by omega) (lv_sub hl [3, 4, 5, 6, 2, 1, 0] rfl) hW
          · refine q_bipush (v := ((-2) : Int32)) hM dX12_cut_47 (by decide) ?_
            exact hE _ _ _ _ _ _ hW.1 ⟨_, rfl, hW.2.1, hG, hW.2.2⟩ dX12_cut_49
        · refine q_iconst (v := ((-1) : Int32)) hM dX12_cut_31 (by decide) ?_
          exact hE _ _ _ _ _ _ hW.1 ⟨_, rfl, hW.2.1, hG, hW.2.2⟩ dX12_cut_32

theorem dX12_recalls_0 : decode cX12_recalls 0 = .ok (.aload_n 0, 1) := by decide +kernel
theorem dX12_recalls_1 : decode cX12_recalls 1 = .ok (.iload_n 1, 1) := by decide +kernel
theorem dX12_recalls_2 : decode cX12_recalls 2 = .ok (.invokevirtual 198, 3) := by decide +kernel
theorem dX12_recalls_5 : decode cX12_recalls 5 = .ok (.ifCond .eq 12, 3) := by decide +kernel
theorem dX12_recalls_8 : decode cX12_recalls 8 = .ok (.aload_n 0, 1) := by decide +kernel
theorem dX12_recalls_9 : decode cX12_recalls 9 = .ok (.iload_n 1, 1) := by decide +kernel
theorem dX12_recalls_10 : decode cX12_recalls 10 = .ok (.iconst 0, 1) := by decide +kernel
theorem dX12_recalls_11 : decode cX12_recalls 11 = .ok (.invokevirtual 212, 3) := by decide +kernel
theorem dX12_recalls_14 : decode cX12_recalls 14 = .ok (.goto 4, 3) := by decide +kernel
theorem dX12_recalls_17 : decode cX12_recalls 17 = .ok (.iconst (-1), 1) := by decide +kernel
theorem dX12_recalls_18 : decode cX12_recalls 18 = .ok (.ireturn, 1) := by decide +kernel
set_option maxRecDepth 100000 in
set_option maxHeartbeats 4000000 in
theorem p_X12_recalls (l : Launch) (D : va_G) (cA : Nat → ClassId) (ad : Nat → Nat) (g0 : Nat → va_E) (a : Int32)   (hSh : Shp ad cA g0) (hG : Rng g0) : CT l NN ad cA D yX12_recalls cX12_recalls 2 (some FieldType.int) (3, 70) [.ref (ad 129), .int a] g0 (fun v g' => ∃ (r : Int32), v = some (.int r) ∧ Shp ad cA g' ∧ Rng g' ∧ FR (fun i k => False) g0 g') := by
  refine q_enterI (by decide) (Nat.le_of_ble_eq_true rfl) rfl (fun K H locs ls _ _ hM hW0 hR hC hE hl => ?_)
  have hl : lv_has ls 2 [(0, .ref (ad 129)), (1, .int a)] := hl
  have hW : WS ad cA (fun i k => False) g0 K g0 H locs := ⟨hW0, hSh, FR.rf⟩
  have := kc_0
  have := kc_1
  have := kc_m1
  have := kc_m2
  refine q_aload_n hM dX12_recalls_0 (lv_at hl 0 rfl) ?_
  refine q_iload_n hM dX12_recalls_1 (lv_at hl 1 rfl) ?_
  refine q_callV (As := [.int a]) (rest := []) hM hW.1 hR hC myX12_isTold (kAW (v_5_5 (List.mem_of_getElem? (i := 6) rfl)) rfl) (rfl : vwCl[12]? = some (RX12, TX12, 86)) rfl lb_129.1 (shO hW.2.1 lb_129) (a_X12_isTold _ _ cA ad g0 a hW.2.1 hG) ⟨by decide, by decide⟩ rfl rfl hl.1 (Nat.le_of_ble_eq_true rfl) dX12_recalls_2 (fun v g7310 H locs hp hW1 => ?_)
  obtain ⟨r7309, rfl, hr7309, rfl⟩ := hp
  have hW : WS ad cA (fun i k => False) g0 K g0 H locs := ⟨hW1, hW.2.1, hW.2.2⟩
  refine q_if_eq (tgt := 17) hM dX12_recalls_5 (by decide) (rfl : r7309.toInt = r7309.toInt) (fun h5 => ?_) (fun h5 => ?_)
  · refine q_iconst (v := ((-1) : Int32)) hM dX12_recalls_17 (by decide) ?_
    exact hE _ _ _ _ _ _ hW.1 ⟨_, rfl, hW.2.1, hG, hW.2.2⟩ dX12_recalls_18
  · refine q_aload_n hM dX12_recalls_8 (lv_at hl 0 rfl) ?_
    refine q_iload_n hM dX12_recalls_9 (lv_at hl 1 rfl) ?_
    refine q_iconst (v := (0 : Int32)) hM dX12_recalls_10 (by decide) ?_
    refine q_callV (As := [.int a, .int (0 : Int32)]) (rest := []) hM hW.1 hR hC myX12_reachOf (kAW (v_5_5 (List.mem_of_getElem? (i := 15) rfl)) rfl) (rfl : vwCl[12]? = some (RX12, TX12, 86)) rfl lb_129.1 (shO hW.2.1 lb_129) (a_X12_reachOf _ _ cA ad g0 a (0 : Int32) hW.2.1 hG (by have := kc_0; omega) (by have := kc_0; omega)) ⟨by decide, by decide⟩ rfl rfl hl.1 (Nat.le_of_ble_eq_true rfl) dX12_recalls_11 (fun v g7314 H locs hp hW1 => ?_)
    obtain ⟨r7313, rfl, hr7313, rfl⟩ := hp
    have hW : WS ad cA (fun i k => False) g0 K g0 H locs := ⟨hW1, hW.2.1, hW.2.2⟩
    refine q_goto (tgt := 18) hM dX12_recalls_14 (by decide) ?_
    exact hE _ _ _ _ _ _ hW.1 ⟨_, rfl, hW.2.1, hG, hW.2.2⟩ dX12_recalls_18

theorem dX12_root_0 : decode cX12_root 0 = .ok (.bipush (-2), 2) := by decide +kernel
theorem dX12_root_2 : decode cX12_root 2 = .ok (.istore_n 1, 1) := by decide +kernel
theorem dX12_root_3 : decode cX12_root 3 = .ok (.iconst (-1), 1) := by decide +kernel
theorem dX12_root_4 : decode cX12_root 4 = .ok (.istore_n 2, 1) := by decide +kernel
theorem dX12_root_5 : decode cX12_root 5 = .ok (.iconst 0, 1) := by decide +kernel
theorem dX12_root_6 : decode cX12_root 6 = .ok (.istore_n 3, 1) := by decide +kernel
theorem dX12_root_7 : decode cX12_root 7 = .ok (.iload_n 3, 1) := by decide +kernel
theorem dX12_root_8 : decode cX12_root 8 = .ok (.bipush 12, 2) := by decide +kernel
theorem dX12_root_10 : decode cX12_root 10 = .ok (.if_icmp .ge 46, 3) := by decide +kernel
theorem dX12_root_13 : decode cX12_root 13 = .ok (.aload_n 0, 1) := by decide +kernel
theorem dX12_root_14 : decode cX12_root 14 = .ok (.getfield 17, 3) := by decide +kernel
theorem dX12_root_17 : decode cX12_root 17 = .ok (.iload_n 3, 1) := by decide +kernel
theorem dX12_root_18 : decode cX12_root 18 = .ok (.baload, 1) := by decide +kernel
theorem dX12_root_19 : decode cX12_root 19 = .ok (.ifCond .eq 31, 3) := by decide +kernel
theorem dX12_root_22 : decode cX12_root 22 = .ok (.aload_n 0, 1) := by decide +kernel
theorem dX12_root_23 : decode cX12_root 23 = .ok (.iload_n 3, 1) := by decide +kernel
theorem dX12_root_24 : decode cX12_root 24 = .ok (.iconst 0, 1) := by decide +kernel
theorem dX12_root_25 : decode cX12_root 25 = .ok (.invokevirtual 212, 3) := by decide +kernel
theorem dX12_root_28 : decode cX12_root 28 = .ok (.invokestatic 215, 3) := by decide +kernel
theorem dX12_root_31 : decode cX12_root 31 = .ok (.iload_n 2, 1) := by decide +kernel
theorem dX12_root_32 : decode cX12_root 32 = .ok (.if_icmp .gt 6, 3) := by decide +kernel
theorem dX12_root_35 : decode cX12_root 35 = .ok (.goto 15, 3) := by decide +kernel
theorem dX12_root_38 : decode cX12_root 38 = .ok (.iload_n 3, 1) := by decide +kernel
theorem dX12_root_39 : decode cX12_root 39 = .ok (.istore_n 1, 1) := by decide +kernel
theorem dX12_root_40 : decode cX12_root 40 = .ok (.aload_n 0, 1) := by decide +kernel
theorem dX12_root_41 : decode cX12_root 41 = .ok (.iload_n 3, 1) := by decide +kernel
theorem dX12_root_42 : decode cX12_root 42 = .ok (.iconst 0, 1) := by decide +kernel
theorem dX12_root_43 : decode cX12_root 43 = .ok (.invokevirtual 212, 3) := by decide +kernel
theorem dX12_root_46 : decode cX12_root 46 = .ok (.invokestatic 215, 3) := by decide +kernel
theorem dX12_root_49 : decode cX12_root 49 = .ok (.istore_n 2, 1) := by decide +kernel
theorem dX12_root_50 : decode cX12_root 50 = .ok (.iinc 3 1, 3) := by decide +kernel
theorem dX12_root_53 : decode cX12_root 53 = .ok (.goto (-46), 3) := by decide +kernel
theorem dX12_root_56 : decode cX12_root 56 = .ok (.iload_n 1, 1) := by decide +kernel
theorem dX12_root_57 : decode cX12_root 57 = .ok (.ireturn, 1) := by decide +kernel
set_option maxRecDepth 100000 in
set_option maxHeartbeats 4000000 in
theorem p_X12_root (l : Launch) (D : va_G) (cA : Nat → ClassId) (ad : Nat → Nat) (g0 : Nat → va_E)    (hSh : Shp ad cA g0) (hG : Rng g0) : CT l NN ad cA D yX12_root cX12_root 4 (some FieldType.int) (3, 70) [.ref (ad 129)] g0 (fun v g' => ∃ (r : Int32), v = some (.int r) ∧ Shp ad cA g' ∧ Rng g' ∧ FR (fun i k => False) g0 g') := by
  refine q_enterI (by decide) (Nat.le_of_ble_eq_true rfl) rfl (fun K H locs ls _ _ hM hW0 hR hC hE hl => ?_)
  have hl : lv_has ls 4 [(0, .ref (ad 129))] := hl
  have hW : WS ad cA (fun i k => False) g0 K g0 H locs := ⟨hW0, hSh, FR.rf⟩
  have := kc_0
  have := kc_1
  have := kc_m1
  have := kc_m2
  refine q_bipush (v := ((-2) : Int32)) hM dX12_root_0 (by decide) ?_
  refine q_istore_n (lv9 := [(1, .int ((-2) : Int32)), (0, .ref (ad 129))]) hM dX12_root_2 hl (by decide) rfl (fun ls hl => ?_)
  refine q_iconst (v := ((-1) : Int32)) hM dX12_root_3 (by decide) ?_
  refine q_istore_n (lv9 := [(2, .int ((-1) : Int32)), (1, .int ((-2) : Int32)), (0, .ref (ad 129))]) hM dX12_root_4 hl (by decide) rfl (fun ls hl => ?_)
  refine q_iconst (v := (0 : Int32)) hM dX12_root_5 (by decide) ?_
  refine q_istore_n (lv9 := [(3, .int (0 : Int32)), (2, .int ((-1) : Int32)), (1, .int ((-2) : Int32)), (0, .ref (ad 129))]) hM dX12_root_6 hl (by decide) rfl (fun ls hl => ?_)
  have L7 : ∀ (fu7 : Nat) (w7_1 : Int32) (w7_2 : Int32) (w7_3 : Int32) (g9 : Nat → va_E) (H : Heap) (locs : List Loc) (ls : Array Slot), (12 - w7_3.toInt).toNat < fu7 → (Rng g9) → (0 ≤ w7_3.toInt) → (w7_3.toInt ≤ 12) → lv_has ls 4 [(0, .ref (ad 129)), (1, .int w7_1), (2, .int w7_2), (3, .int w7_3)] → WS ad cA (fun i k => False) g0 K g9 H locs → XX K 0 0 H locs 7 ls [] := by
    intro fu7
    induction fu7 with
    | zero => intro w7_1 w7_2 w7_3 g9 H locs ls h0; omega
    | succ fu7 ih7 =>
      intro w7_1 w7_2 w7_3 g9 H locs ls hm7 i7_0 i7_1 i7_2 hl hW
      have hG := i7_0
      refine q_iload_n hM dX12_root_7 (lv_at hl 3 rfl) ?_
      refine q_bipush (v := (12 : Int32)) hM dX12_root_8 (by decide) ?_
      refine q_icmp_ge (tgt := 56) hM dX12_root_10 (by decide) (rfl : w7_3.toInt = w7_3.toInt) (kc_12 : (12 : Int32).toInt = 12) (fun h10 => ?_) (fun h10 => ?_)
      · refine q_iload_n hM dX12_root_56 (lv_at hl 1 rfl) ?_
        exact hE _ _ _ _ _ _ hW.1 ⟨_, rfl, hW.2.1, hG, hW.2.2⟩ dX12_root_57
      · refine q_aload_n hM dX12_root_13 (lv_at hl 0 rfl) ?_
        refine w_get (v := .ref (ad 131)) hM hW FG_X12_17 lb_129 (rf_129_10 hW.2.1) dX12_root_14 ?_
        refine q_iload_n hM dX12_root_17 (lv_at hl 3 rfl) ?_
        refine w_zald hM hW lb_131 (i_in (by omega) (by omega)) dX12_root_18 ?_
        refine q_top (fun y7318 hy7318 => ?_)
        refine q_if_eq (tgt := 50) hM dX12_root_19 (by decide) (rfl : y7318.toInt = y7318.toInt) (fun h19 => ?_) (fun h19 => ?_)
        · refine q_iinc (lv9 := fun z7320 => [(3, .int z7320), (0, .ref (ad 129)), (1, .int w7_1), (2, .int w7_2)]) hM dX12_root_50 hl (kq := 3) rfl (by decide) (fun _ => rfl) (fun z7320 ls hz7320 hl => ?_)
          first | have tz7320 := i_addT hz7320 (rfl : w7_3.toInt = w7_3.toInt) (kc_1 : (Int32.ofInt 1).toInt = 1) (by omega) (by omega) | skip
          refine q_goto (tgt := 7) hM dX12_root_53 (by decide) ?_
          exact ih7 w7_1 w7_2 z7320 _ _ _ _ (by omega) hG (by omega) (by omega) (lv_sub hl [1, 2, 3, 0] rfl) hW
        · refine q_aload_n hM dX12_root_22 (lv_at hl 0 rfl) ?_
          refine q_iload_n hM dX12_root_23 (lv_at hl 3 rfl) ?_
          refine q_iconst (v := (0 : Int32)) hM dX12_root_24 (by decide) ?_
          refine q_callV (As := [.int w7_3, .int (0 : Int32)]) (rest := []) hM hW.1 hR hC myX12_reachOf (kAW (v_5_5 (List.mem_of_getElem? (i := 15) rfl)) rfl) (rfl : vwCl[12]? = some (RX12, TX12, 86)) rfl lb_129.1 (shO hW.2.1 lb_129) (a_X12_reachOf _ _ cA ad g9 w7_3 (0 : Int32) hW.2.1 hG (by have := kc_0; omega) (by have := kc_0; omega)) ⟨by decide, by decide⟩ rfl rfl hl.1 (Nat.le_of_ble_eq_true rfl) dX12_root_25 (fun v g7323 H locs hp hW1 => ?_)
          obtain ⟨r7322, rfl, hr7322, rfl⟩ := hp
          have hW : WS ad cA (fun i k => False) g0 K g9 H locs := ⟨hW1, hW.2.1, hW.2.2⟩
          refine q_callS (As := [.int r7322]) (rest := []) hM hW.1 hR hC myX12_sizeOf (kAW (v_5_6 (List.mem_of_getElem? (i := 14) rfl)) rfl) (a_X12_sizeOf _ _ cA ad g9 r7322 hW.2.1 hG (by  omega)) ⟨by decide, by decide⟩ rfl rfl hl.1 (Nat.le_of_ble_eq_true rfl) dX12_root_28 (fun v g7325 H locs hp hW1 => ?_)
          obtain ⟨r7324, rfl, hr7324, rfl⟩ := hp
          have hW : WS ad cA (fun i k => False) g0 K g9 H locs := ⟨hW1, hW.2.1, hW.2.2⟩
          refine q_iload_n hM dX12_root_31 (lv_at hl 2 rfl) ?_
          refine q_icmp_gt (tgt := 38) hM dX12_root_32 (by decide) (rfl : r7324.toInt = r7324.toInt) (rfl : w7_2.toInt = w7_2.toInt) (fun h32 => ?_) (fun h32 => ?_)
          · refine q_iload_n hM dX12_root_38 (lv_at hl 3 rfl) ?_
            refine q_istore_n (lv9 := [(1, .int w7_3), (0, .ref (ad 129)), (2, .int w7_2), (3, .int w7_3)]) hM dX12_root_39 hl (by decide) rfl (fun ls hl => ?_)
            refine q_aload_n hM dX12_root_40 (lv_at hl 1 rfl) ?_
            refine q_iload_n hM dX12_root_41 (lv_at hl 3 rfl) ?_
            refine q_iconst (v := (0 : Int32)) hM dX12_root_42 (by decide) ?_
            refine q_callV (As := [.int w7_3, .int (0 : Int32)]) (rest := []) hM hW.1 hR hC myX12_reachOf (kAW (v_5_5 (List.mem_of_getElem? (i := 15) rfl)) rfl) (rfl : vwCl[12]? = some (RX12, TX12, 86)) rfl lb_129.1 (shO hW.2.1 lb_129) (a_X12_reachOf _ _ cA ad g9 w7_3 (0 : Int32) hW.2.1 hG (by have := kc_0; omega) (by have := kc_0; omega)) ⟨by decide, by decide⟩ rfl rfl hl.1 (Nat.le_of_ble_eq_true rfl) dX12_root_43 (fun v g7328 H locs hp hW1 => ?_)
            obtain ⟨r7327, rfl, hr7327, rfl⟩ := hp
            have hW : WS ad cA (fun i k => False) g0 K g9 H locs := ⟨hW1, hW.2.1, hW.2.2⟩
            refine q_callS (As := [.int r7327]) (rest := []) hM hW.1 hR hC myX12_sizeOf (kAW (v_5_6 (List.mem_of_getElem? (i := 14) rfl)) rfl) (a_X12_sizeOf _ _ cA ad g9 r7327 hW.2.1 hG (by  omega)) ⟨by decide, by decide⟩ rfl rfl hl.1 (Nat.le_of_ble_eq_true rfl) dX12_root_46 (fun v g7330 H locs hp hW1 => ?_)
            obtain ⟨r7329, rfl, hr7329, rfl⟩ := hp
            have hW : WS ad cA (fun i k => False) g0 K g9 H locs := ⟨hW1, hW.2.1, hW.2.2⟩
            refine q_istore_n (lv9 := [(2, .int r7329), (1, .int w7_3), (0, .ref (ad 129)), (3, .int w7_3)]) hM dX12_root_49 hl (by decide) rfl (fun ls hl => ?_)
            refine q_iinc (lv9 := fun z7331 => [(3, .int z7331), (2, .int r7329), (1, .int w7_3), (0, .ref (ad 129))]) hM dX12_root_50 hl (kq := 3) rfl (by decide) (fun _ => rfl) (fun z7331 ls hz7331 hl => ?_)
            first | have tz7331 := i_addT hz7331 (rfl : w7_3.toInt = w7_3.toInt) (kc_1 : (Int32.ofInt 1).toInt = 1) (by omega) (by omega) | skip
            refine q_goto (tgt := 7) hM dX12_root_53 (by decide) ?_
            exact ih7 w7_3 r7329 z7331 _ _ _ _ (by omega) hG (by omega) (by omega) (lv_sub hl [3, 2, 1, 0] rfl) hW
          · refine q_goto (tgt := 50) hM dX12_root_35 (by decide) ?_
            refine q_iinc (lv9 := fun z7333 => [(3, .int z7333), (0, .ref (ad 129)), (1, .int w7_1), (2, .int w7_2)]) hM dX12_root_50 hl (kq := 3) rfl (by decide) (fun _ => rfl) (fun z7333 ls hz7333 hl => ?_)
            first | have tz7333 := i_addT hz7333 (rfl : w7_3.toInt = w7_3.toInt) (kc_1 : (Int32.ofInt 1).toInt = 1) (by omega) (by omega) | skip
            refine q_goto (tgt := 7) hM dX12_root_53 (by decide) ?_
            exact ih7 w7_1 w7_2 z7333 _ _ _ _ (by omega) hG (by omega) (by omega) (lv_sub hl [1, 2, 3, 0] rfl) hW
  have := kc_m2
  have := kc_m1
  have := kc_0
  exact L7 _ ((-2) : Int32) ((-1) : Int32) (0 : Int32) _ _ _ _ (Nat.lt_succ_self _) hG (by omega) (by omega) (lv_sub hl [3, 2, 1, 0] rfl) hW

theorem dX12_kin_0 : decode cX12_kin 0 = .ok (.iload_n 1, 1) := by decide +kernel
theorem dX12_kin_1 : decode cX12_kin 1 = .ok (.bipush 100, 2) := by decide +kernel
theorem dX12_kin_3 : decode cX12_kin 3 = .ok (.if_icmp .eq 21, 3) := by decide +kernel
theorem dX12_kin_6 : decode cX12_kin 6 = .ok (.aload_n 0, 1) := by decide +kernel
theorem dX12_kin_7 : decode cX12_kin 7 = .ok (.iload_n 1, 1) := by decide +kernel
theorem dX12_kin_8 : decode cX12_kin 8 = .ok (.invokevirtual 198, 3) := by decide +kernel
theorem dX12_kin_11 : decode cX12_kin 11 = .ok (.ifCond .eq 11, 3) := by decide +kernel
theorem dX12_kin_14 : decode cX12_kin 14 = .ok (.aload_n 0, 1) := by decide +kernel
theorem dX12_kin_15 : decode cX12_kin 15 = .ok (.iload_n 1, 1) := by decide +kernel
theorem dX12_kin_16 : decode cX12_kin 16 = .ok (.invokevirtual 219, 3) := by decide +kernel
theorem dX12_kin_19 : decode cX12_kin 19 = .ok (.goto 4, 3) := by decide +kernel
theorem dX12_kin_22 : decode cX12_kin 22 = .ok (.iconst (-1), 1) := by decide +kernel
theorem dX12_kin_23 : decode cX12_kin 23 = .ok (.ireturn, 1) := by decide +kernel
theorem dX12_kin_24 : decode cX12_kin 24 = .ok (.iconst 0, 1) := by decide +kernel
theorem dX12_kin_25 : decode cX12_kin 25 = .ok (.istore_n 2, 1) := by decide +kernel
theorem dX12_kin_26 : decode cX12_kin 26 = .ok (.iconst 0, 1) := by decide +kernel
theorem dX12_kin_27 : decode cX12_kin 27 = .ok (.istore_n 3, 1) := by decide +kernel
theorem dX12_kin_28 : decode cX12_kin 28 = .ok (.iload_n 3, 1) := by decide +kernel
theorem dX12_kin_29 : decode cX12_kin 29 = .ok (.bipush 12, 2) := by decide +kernel
theorem dX12_kin_31 : decode cX12_kin 31 = .ok (.if_icmp .ge 40, 3) := by decide +kernel
theorem dX12_kin_34 : decode cX12_kin 34 = .ok (.iload_n 2, 1) := by decide +kernel
theorem dX12_kin_35 : decode cX12_kin 35 = .ok (.aload_n 0, 1) := by decide +kernel
theorem dX12_kin_36 : decode cX12_kin 36 = .ok (.getfield 17, 3) := by decide +kernel
theorem dX12_kin_39 : decode cX12_kin 39 = .ok (.iload_n 3, 1) := by decide +kernel
theorem dX12_kin_40 : decode cX12_kin 40 = .ok (.baload, 1) := by decide +kernel
theorem dX12_kin_41 : decode cX12_kin 41 = .ok (.ifCond .eq 21, 3) := by decide +kernel
theorem dX12_kin_44 : decode cX12_kin 44 = .ok (.aload_n 0, 1) := by decide +kernel
theorem dX12_kin_45 : decode cX12_kin 45 = .ok (.iload_n 3, 1) := by decide +kernel
theorem dX12_kin_46 : decode cX12_kin 46 = .ok (.invokevirtual 219, 3) := by decide +kernel
theorem dX12_kin_49 : decode cX12_kin 49 = .ok (.iconst 1, 1) := by decide +kernel
theorem dX12_kin_50 : decode cX12_kin 50 = .ok (.iload_n 3, 1) := by decide +kernel
theorem dX12_kin_51 : decode cX12_kin 51 = .ok (.ishl, 1) := by decide +kernel
theorem dX12_kin_52 : decode cX12_kin 52 = .ok (.iconst 1, 1) := by decide +kernel
theorem dX12_kin_53 : decode cX12_kin 53 = .ok (.isub, 1) := by decide +kernel
theorem dX12_kin_54 : decode cX12_kin 54 = .ok (.iand, 1) := by decide +kernel
theorem dX12_kin_55 : decode cX12_kin 55 = .ok (.ifCond .ne 7, 3) := by decide +kernel
theorem dX12_kin_58 : decode cX12_kin 58 = .ok (.iconst 1, 1) := by decide +kernel
theorem dX12_kin_59 : decode cX12_kin 59 = .ok (.goto 4, 3) := by decide +kernel
theorem dX12_kin_62 : decode cX12_kin 62 = .ok (.iconst 0, 1) := by decide +kernel
theorem dX12_kin_63 : decode cX12_kin 63 = .ok (.iadd, 1) := by decide +kernel
theorem dX12_kin_64 : decode cX12_kin 64 = .ok (.istore_n 2, 1) := by decide +kernel
theorem dX12_kin_65 : decode cX12_kin 65 = .ok (.iinc 3 1, 3) := by decide +kernel
theorem dX12_kin_68 : decode cX12_kin 68 = .ok (.goto (-40), 3) := by decide +kernel
theorem dX12_kin_71 : decode cX12_kin 71 = .ok (.iload_n 2, 1) := by decide +kernel
theorem dX12_kin_72 : decode cX12_kin 72 = .ok (.ireturn, 1) := by decide +kernel
theorem myX12_kinOf : MI yX12_kinOf cX12_kinOf 4 (some FieldType.int) 1 := ⟨kAW (v_5_7 (List.mem_of_getElem? (i := 8) rfl)) rfl, kAW (v_0_0 (List.mem_of_getElem? (i := 13) rfl)) rfl, kAW (v_5_7 (List.mem_of_getElem? (i := 7) rfl)) rfl, kAW (tp_t2 (List.mem_of_getElem? (i := 4) rfl)) rfl, by decide, by decide, by decide +kernel⟩
set_option maxRecDepth 100000 in
set_option maxHeartbeats 4000000 in
theorem p_X12_kin (l : Launch) (D : va_G) (cA : Nat → ClassId) (ad : Nat → Nat) (g0 : Nat → va_E) (a : Int32)   (hSh : Shp ad cA g0) (hG : Rng g0) : CT l NN ad cA D yX12_kin cX12_kin 4 (some FieldType.int) (4, 93) [.ref (ad 129), .int a] g0 (fun v g' => ∃ (r : Int32), v = some (.int r) ∧ Shp ad cA g' ∧ Rng g' ∧ FR (fun i k => False) g0 g') := by
  refine q_enterI (by decide) (Nat.le_of_ble_eq_true rfl) rfl (fun K H locs ls _ _ hM hW0 hR hC hE hl => ?_)
  have hl : lv_has ls 4 [(0, .ref (ad 129)), (1, .int a)] := hl
  have hW : WS ad cA (fun i k => False) g0 K g0 H locs := ⟨hW0, hSh, FR.rf⟩
  have := kc_0
  have := kc_1
  have := kc_m1
  have := kc_m2
  refine q_iload_n hM dX12_kin_0 (lv_at hl 1 rfl) ?_
  refine q_bipush (v := (100 : Int32)) hM dX12_kin_1 (by decide) ?_
  refine q_icmp_eq (tgt := 24) hM dX12_kin_3 (by decide) (rfl : a.toInt = a.toInt) (kc_100 : (100 : Int32).toInt = 100) (fun h3 => ?_) (fun h3 => ?_)
  · refine q_iconst (v := (0 : Int32)) hM dX12_kin_24 (by decide) ?_
    refine q_istore_n (lv9 := [(2, .int (0 : Int32)), (0, .ref (ad 129)), (1, .int a)]) hM dX12_kin_25 hl (by decide) rfl (fun ls hl => ?_)
    refine q_iconst (v := (0 : Int32)) hM dX12_kin_26 (by decide) ?_
    refine q_istore_n (lv9 := [(3, .int (0 : Int32)), (2, .int (0 : Int32)), (0, .ref (ad 129)), (1, .int a)]) hM dX12_kin_27 hl (by decide) rfl (fun ls hl => ?_)
    have L28 : ∀ (fu28 : Nat) (w28_2 : Int32) (w28_3 : Int32) (g9 : Nat → va_E) (H : Heap) (locs : List Loc) (ls : Array Slot), (12 - w28_3.toInt).toNat < fu28 → (Rng g9) → (0 ≤ w28_3.toInt) → (w28_3.toInt ≤ 12) → lv_has ls 4 [(0, .ref (ad 129)), (1, .int a), (2, .int w28_2), (3, .int w28_3)] → WS ad cA (fun i k => False) g0 K g9 H locs → XX K 0 0 H locs 28 ls [] := by
      intro fu28
      induction fu28 with
      | zero => intro w28_2 w28_3 g9 H locs ls h0; omega
      | succ fu28 ih28 =>
        intro w28_2 w28_3 g9 H locs ls hm28 i28_0 i28_1 i28_2 hl hW
        have hG := i28_0
        refine q_iload_n hM dX12_kin_28 (lv_at hl 3 rfl) ?_
        refine q_bipush (v := (12 : Int32)) hM dX12_kin_29 (by decide) ?_
        refine q_icmp_ge (tgt := 71) hM dX12_kin_31 (by decide) (rfl : w28_3.toInt = w28_3.toInt) (kc_12 : (12 : Int32).toInt = 12) (fun h31 => ?_) (fun h31 => ?_)
        · refine q_iload_n hM dX12_kin_71 (lv_at hl 2 rfl) ?_
          exact hE _ _ _ _ _ _ hW.1 ⟨_, rfl, hW.2.1, hG, hW.2.2⟩ dX12_kin_72
        · refine q_iload_n hM dX12_kin_34 (lv_at hl 2 rfl) ?_
          refine q_aload_n hM dX12_kin_35 (lv_at hl 0 rfl) ?_
          refine w_get (v := .ref (ad 131)) hM hW FG_X12_17 lb_129 (rf_129_10 hW.2.1) dX12_kin_36 ?_
          refine q_iload_n hM dX12_kin_39 (lv_at hl 3 rfl) ?_
          refine w_zald hM hW lb_131 (i_in (by omega) (by omega)) dX12_kin_40 ?_
          refine q_top (fun y7338 hy7338 => ?_)
          refine q_if_eq (tgt := 62) hM dX12_kin_41 (by decide) (rfl : y7338.toInt = y7338.toInt) (fun h41 => ?_) (fun h41 => ?_)
          · refine q_iconst (v := (0 : Int32)) hM dX12_kin_62 (by decide) ?_
            refine q_iadd hM dX12_kin_63 (fun z7340 hz7340 => ?_)
            first | have tz7340 := i_addT hz7340 (rfl : w28_2.toInt = w28_2.toInt) (kc_0 : (0 : Int32).toInt = 0) (by omega) (by omega) | skip
            refine q_istore_n (lv9 := [(2, .int z7340), (0, .ref (ad 129)), (1, .int a), (3, .int w28_3)]) hM dX12_kin_64 hl (by decide) rfl (fun ls hl => ?_)
            refine q_iinc (lv9 := fun z7341 => [(3, .int z7341), (2, .int z7340), (0, .ref (ad 129)), (1, .int a)]) hM dX12_kin_65 hl (kq := 3) rfl (by decide) (fun _ => rfl) (fun z7341 ls hz7341 hl => ?_)
            first | have tz7341 := i_addT hz7341 (rfl : w28_3.toInt = w28_3.toInt) (kc_1 : (Int32.ofInt 1).toInt = 1) (by omega) (by omega) | skip
            refine q_goto (tgt := 28) hM dX12_kin_68 (by decide) ?_
            exact ih28 z7340 z7341 _ _ _ _ (by omega) hG (by omega) (by omega) (lv_sub hl [2, 3, 1, 0] rfl) hW
          · refine q_aload_n hM dX12_kin_44 (lv_at hl 0 rfl) ?_
            refine q_iload_n hM dX12_kin_45 (lv_at hl 3 rfl) ?_
            refine q_callV (As := [.int w28_3]) (rest := [.int w28_2]) hM hW.1 hR hC myX12_kinOf (kAW (v_5_7 (List.mem_of_getElem? (i := 5) rfl)) rfl) (rfl : vwCl[12]? = some (RX12, TX12, 86)) rfl lb_129.1 (shO hW.2.1 lb_129) (a_X12_kinOf _ _ cA ad g9 w28_3 hW.2.1 hG (by  omega) (by  omega)) ⟨by decide, by decide⟩ rfl rfl hl.1 (Nat.le_of_ble_eq_true rfl) dX12_kin_46 (fun v g7344 H locs hp hW1 => ?_)
            obtain ⟨r7343, rfl, hr7343, rfl⟩ := hp
            have hW : WS ad cA (fun i k => False) g0 K g9 H locs := ⟨hW1, hW.2.1, hW.2.2⟩
            refine q_iconst (v := (1 : Int32)) hM dX12_kin_49 (by decide) ?_
            refine q_iload_n hM dX12_kin_50 (lv_at hl 3 rfl) ?_
            refine q_ishl hM dX12_kin_51 (fun z7345 hz7345 => ?_)
            refine q_iconst (v := (1 : Int32)) hM dX12_kin_52 (by decide) ?_
            refine q_isub hM dX12_kin_53 (fun z7346 hz7346 => ?_)
            first | have tz7346 := i_subT hz7346 (rfl : z7345.toInt = z7345.toInt) (kc_1 : (1 : Int32).toInt = 1) (by omega) (by omega) | skip
            refine q_iand hM dX12_kin_54 (fun z7347 hz7347 => ?_)
            refine q_if_ne (tgt := 62) hM dX12_kin_55 (by decide) (rfl : z7347.toInt = z7347.toInt) (fun h55 => ?_) (fun h55 => ?_)
            · refine q_iconst (v := (0 : Int32)) hM dX12_kin_62 (by decide) ?_
              refine q_iadd hM dX12_kin_63 (fun z7349 hz7349 => ?_)
              first | have tz7349 := i_addT hz7349 (rfl : w28_2.toInt = w28_2.toInt) (kc_0 : (0 : Int32).toInt = 0) (by omega) (by omega) | skip
              refine q_istore_n (lv9 := [(2, .int z7349), (0, .ref (ad 129)), (1, .int a), (3, .int w28_3)]) hM dX12_kin_64 hl (by decide) rfl (fun ls hl => ?_)
              refine q_iinc (lv9 := fun z7350 => [(3, .int z7350), (2, .int z7349), (0, .ref (ad 129)), (1, .int a)]) hM dX12_kin_65 hl (kq := 3) rfl (by decide) (fun _ => rfl) (fun z7350 ls hz7350 hl => ?_)
              first | have tz7350 := i_addT hz7350 (rfl : w28_3.toInt = w28_3.toInt) (kc_1 : (Int32.ofInt 1).toInt = 1) (by omega) (by omega) | skip
              refine q_goto (tgt := 28) hM dX12_kin_68 (by decide) ?_
              exact ih28 z7349 z7350 _ _ _ _ (by omega) hG (by omega) (by omega) (lv_sub hl [2, 3, 1, 0] rfl) hW
            · refine q_iconst (v := (1 : Int32)) hM dX12_kin_58 (by decide) ?_
              refine q_goto (tgt := 63) hM dX12_kin_59 (by decide) ?_
              refine q_iadd hM dX12_kin_63 (fun z7352 hz7352 => ?_)
              first | have tz7352 := i_addT hz7352 (rfl : w28_2.toInt = w28_2.toInt) (kc_1 : (1 : Int32).toInt = 1) (by omega) (by omega) | skip
              refine q_istore_n (lv9 := [(2, .int z7352), (0, .ref (ad 129)), (1, .int a), (3, .int w28_3)]) hM dX12_kin_64 hl (by decide) rfl (fun ls hl => ?_)
              refine q_iinc (lv9 := fun z7353 => [(3, .int z7353), (2, .int z7352), (0, .ref (ad 129)), (1, .int a)]) hM dX12_kin_65 hl (kq := 3) rfl (by decide) (fun _ => rfl) (fun z7353 ls hz7353 hl => ?_)
              first | have tz7353 := i_addT hz7353 (rfl : w28_3.toInt = w28_3.toInt) (kc_1 : (Int32.ofInt 1).toInt = 1) (by omega) (by omega) | skip
              refine q_goto (tgt := 28) hM dX12_kin_68 (by decide) ?_
              exact ih28 z7352 z7353 _ _ _ _ (by omega) hG (by omega) (by omega) (lv_sub hl [2, 3, 1, 0] rfl) hW
    have := kc_0
    have := kc_0
    exact L28 _ (0 : Int32) (0 : Int32) _ _ _ _ (Nat.lt_succ_self _) hG (by omega) (by omega) (lv_sub hl [2, 3, 1, 0] rfl) hW
  · refine q_aload_n hM dX12_kin_6 (lv_at hl 0 rfl) ?_
    refine q_iload_n hM dX12_kin_7 (lv_at hl 1 rfl) ?_
    refine q_callV (As := [.int a]) (rest := []) hM hW.1 hR hC myX12_isTold (kAW (v_5_5 (List.mem_of_getElem? (i := 6) rfl)) rfl) (rfl : vwCl[12]? = some (RX12, TX12, 86)) rfl lb_129.1 (shO hW.2.1 lb_129) (a_X12_isTold _ _ cA ad g0 a hW.2.1 hG) ⟨by decide, by decide⟩ rfl rfl hl.1 (Nat.le_of_ble_eq_true rfl) dX12_kin_8 (fun v g7356 H locs hp hW1 => ?_)
    obtain ⟨r7355, rfl, hr7355, rfl⟩ := hp
    have hW : WS ad cA (fun i k => False) g0 K g0 H locs := ⟨hW1, hW.2.1, hW.2.2⟩
    refine q_if_eq (tgt := 22) hM dX12_kin_11 (by decide) (rfl : r7355.toInt = r7355.toInt) (fun h11 => ?_) (fun h11 => ?_)
    · refine q_iconst (v := ((-1) : Int32)) hM dX12_kin_22 (by decide) ?_
      exact hE _ _ _ _ _ _ hW.1 ⟨_, rfl, hW.2.1, hG, hW.2.2⟩ dX12_kin_23
    · refine q_aload_n hM dX12_kin_14 (lv_at hl 0 rfl) ?_
      refine q_iload_n hM dX12_kin_15 (lv_at hl 1 rfl) ?_
      refine q_callV (As := [.int a]) (rest := []) hM hW.1 hR hC myX12_kinOf (kAW (v_5_7 (List.mem_of_getElem? (i := 5) rfl)) rfl) (rfl : vwCl[12]? = some (RX12, TX12, 86)) rfl lb_129.1 (shO hW.2.1 lb_129) (a_X12_kinOf _ _ cA ad g0 a hW.2.1 hG (by  omega) (by  omega)) ⟨by decide, by decide⟩ rfl rfl hl.1 (Nat.le_of_ble_eq_true rfl) dX12_kin_16 (fun v g7360 H locs hp hW1 => ?_)
      obtain ⟨r7359, rfl, hr7359, rfl⟩ := hp
      have hW : WS ad cA (fun i k => False) g0 K g0 H locs := ⟨hW1, hW.2.1, hW.2.2⟩
      refine q_goto (tgt := 23) hM dX12_kin_19 (by decide) ?_
      exact hE _ _ _ _ _ _ hW.1 ⟨_, rfl, hW.2.1, hG, hW.2.2⟩ dX12_kin_23

theorem dX12_order_0 : decode cX12_order 0 = .ok (.aload_n 0, 1) := by decide +kernel
theorem dX12_order_1 : decode cX12_order 1 = .ok (.iload_n 1, 1) := by decide +kernel
theorem dX12_order_2 : decode cX12_order 2 = .ok (.invokevirtual 421, 3) := by decide +kernel
theorem dX12_order_5 : decode cX12_order 5 = .ok (.ifCond .eq 35, 3) := by decide +kernel
theorem dX12_order_8 : decode cX12_order 8 = .ok (.aload_n 0, 1) := by decide +kernel
theorem dX12_order_9 : decode cX12_order 9 = .ok (.iload_n 2, 1) := by decide +kernel
theorem dX12_order_10 : decode cX12_order 10 = .ok (.invokevirtual 545, 3) := by decide +kernel
theorem dX12_order_13 : decode cX12_order 13 = .ok (.ifCond .eq 27, 3) := by decide +kernel
theorem dX12_order_16 : decode cX12_order 16 = .ok (.aload_n 0, 1) := by decide +kernel
theorem dX12_order_17 : decode cX12_order 17 = .ok (.iload_n 3, 1) := by decide +kernel
theorem dX12_order_18 : decode cX12_order 18 = .ok (.invokevirtual 548, 3) := by decide +kernel
theorem dX12_order_21 : decode cX12_order 21 = .ok (.ifCond .eq 19, 3) := by decide +kernel
theorem dX12_order_24 : decode cX12_order 24 = .ok (.aload_n 0, 1) := by decide +kernel
theorem dX12_order_25 : decode cX12_order 25 = .ok (.iload 4, 2) := by decide +kernel
theorem dX12_order_27 : decode cX12_order 27 = .ok (.invokevirtual 548, 3) := by decide +kernel
theorem dX12_order_30 : decode cX12_order 30 = .ok (.ifCond .eq 10, 3) := by decide +kernel
theorem dX12_order_33 : decode cX12_order 33 = .ok (.iload_n 3, 1) := by decide +kernel
theorem dX12_order_34 : decode cX12_order 34 = .ok (.iload 4, 2) := by decide +kernel
theorem dX12_order_36 : decode cX12_order 36 = .ok (.iand, 1) := by decide +kernel
theorem dX12_order_37 : decode cX12_order 37 = .ok (.ifCond .eq 5, 3) := by decide +kernel
theorem dX12_order_40 : decode cX12_order 40 = .ok (.iconst (-1), 1) := by decide +kernel
theorem dX12_order_41 : decode cX12_order 41 = .ok (.ireturn, 1) := by decide +kernel
theorem dX12_order_42 : decode cX12_order 42 = .ok (.aload_n 0, 1) := by decide +kernel
theorem dX12_order_43 : decode cX12_order 43 = .ok (.iload_n 1, 1) := by decide +kernel
theorem dX12_order_44 : decode cX12_order 44 = .ok (.aload_n 0, 1) := by decide +kernel
theorem dX12_order_45 : decode cX12_order 45 = .ok (.iload_n 2, 1) := by decide +kernel
theorem dX12_order_46 : decode cX12_order 46 = .ok (.invokevirtual 551, 3) := by decide +kernel
theorem dX12_order_49 : decode cX12_order 49 = .ok (.iload_n 3, 1) := by decide +kernel
theorem dX12_order_50 : decode cX12_order 50 = .ok (.iload 4, 2) := by decide +kernel
theorem dX12_order_52 : decode cX12_order 52 = .ok (.invokevirtual 554, 3) := by decide +kernel
theorem dX12_order_55 : decode cX12_order 55 = .ok (.istore 6, 2) := by decide +kernel
theorem dX12_order_57 : decode cX12_order 57 = .ok (.iload 6, 2) := by decide +kernel
theorem dX12_order_59 : decode cX12_order 59 = .ok (.iconst (-1), 1) := by decide +kernel
theorem dX12_order_60 : decode cX12_order 60 = .ok (.if_icmp .ne 6, 3) := by decide +kernel
theorem dX12_order_63 : decode cX12_order 63 = .ok (.bipush (-2), 2) := by decide +kernel
theorem dX12_order_65 : decode cX12_order 65 = .ok (.ireturn, 1) := by decide +kernel
theorem dX12_order_66 : decode cX12_order 66 = .ok (.iload 5, 2) := by decide +kernel
theorem dX12_order_68 : decode cX12_order 68 = .ok (.bipush 20, 2) := by decide +kernel
theorem dX12_order_70 : decode cX12_order 70 = .ok (.if_icmp .ne 8, 3) := by decide +kernel
theorem dX12_order_73 : decode cX12_order 73 = .ok (.iload 6, 2) := by decide +kernel
theorem dX12_order_75 : decode cX12_order 75 = .ok (.goto 35, 3) := by decide +kernel
theorem dX12_order_78 : decode cX12_order 78 = .ok (.iload 5, 2) := by decide +kernel
theorem dX12_order_80 : decode cX12_order 80 = .ok (.i2l, 1) := by decide +kernel
theorem dX12_order_81 : decode cX12_order 81 = .ok (.lconst 0, 1) := by decide +kernel
theorem dX12_order_82 : decode cX12_order 82 = .ok (.iload 6, 2) := by decide +kernel
theorem dX12_order_84 : decode cX12_order 84 = .ok (.iconst 1, 1) := by decide +kernel
theorem dX12_order_85 : decode cX12_order 85 = .ok (.isub, 1) := by decide +kernel
theorem dX12_order_86 : decode cX12_order 86 = .ok (.i2l, 1) := by decide +kernel
theorem dX12_order_87 : decode cX12_order 87 = .ok (.invokestatic 190, 3) := by decide +kernel
theorem dX12_order_90 : decode cX12_order 90 = .ok (.ifCond .eq 18, 3) := by decide +kernel
theorem dX12_order_93 : decode cX12_order 93 = .ok (.aload_n 0, 1) := by decide +kernel
theorem dX12_order_94 : decode cX12_order 94 = .ok (.getfield 139, 3) := by decide +kernel
theorem dX12_order_97 : decode cX12_order 97 = .ok (.aload_n 0, 1) := by decide +kernel
theorem dX12_order_98 : decode cX12_order 98 = .ok (.getfield 142, 3) := by decide +kernel
theorem dX12_order_101 : decode cX12_order 101 = .ok (.iload 5, 2) := by decide +kernel
theorem dX12_order_103 : decode cX12_order 103 = .ok (.iaload, 1) := by decide +kernel
theorem dX12_order_104 : decode cX12_order 104 = .ok (.iaload, 1) := by decide +kernel
theorem dX12_order_105 : decode cX12_order 105 = .ok (.goto 5, 3) := by decide +kernel
theorem dX12_order_108 : decode cX12_order 108 = .ok (.bipush (-4), 2) := by decide +kernel
theorem dX12_order_110 : decode cX12_order 110 = .ok (.ireturn, 1) := by decide +kernel
theorem myX12_areArts : MI yX12_areArts cX12_areArts 3 (some FieldType.boolean) 1 := ⟨kAW (v_6_12 (List.mem_of_getElem? (i := 13) rfl)) rfl, kAW (v_0_0 (List.mem_of_getElem? (i := 13) rfl)) rfl, kAW (v_6_12 (List.mem_of_getElem? (i := 12) rfl)) rfl, kAW (tp_t5 (List.mem_of_getElem? (i := 10) rfl)) rfl, by decide, by decide, by decide +kernel⟩
theorem myX12_areFacts : MI yX12_areFacts cX12_areFacts 2 (some FieldType.boolean) 1 := ⟨kAW (v_6_13 (List.mem_of_getElem? (i := 2) rfl)) rfl, kAW (v_0_0 (List.mem_of_getElem? (i := 13) rfl)) rfl, kAW (v_6_13 (List.mem_of_getElem? (i := 1) rfl)) rfl, kAW (tp_t5 (List.mem_of_getElem? (i := 11) rfl)) rfl, by decide, by decide, by decide +kernel⟩
theorem myX12_takesSome : MI yX12_takesSome cX12_takesSome 4 (some FieldType.int) 1 := ⟨kAW (v_6_13 (List.mem_of_getElem? (i := 6) rfl)) rfl, kAW (v_0_0 (List.mem_of_getElem? (i := 13) rfl)) rfl, kAW (v_6_13 (List.mem_of_getElem? (i := 5) rfl)) rfl, kAW (tp_t5 (List.mem_of_getElem? (i := 12) rfl)) rfl, by decide, by decide, by decide +kernel⟩
theorem myX12_timesTill : MI yX12_timesTill cX12_timesTill 7 (some FieldType.int) 4 := ⟨kAW (v_6_13 (List.mem_of_getElem? (i := 10) rfl)) rfl, kAW (v_0_0 (List.mem_of_getElem? (i := 13) rfl)) rfl, kAW (v_6_13 (List.mem_of_getElem? (i := 9) rfl)) rfl, kAW (tp_t5 (List.mem_of_getElem? (i := 13) rfl)) rfl, by decide, by decide, by decide +kernel⟩
set_option maxRecDepth 100000 in
set_option maxHeartbeats 4000000 in
theorem p_X12_order (l : Launch) (D : va_G) (cA : Nat → ClassId) (ad : Nat → Nat) (g0 : Nat → va_E) (a : Int32) (b : Int32) (c : Int32) (d : Int32) (e : Int32)   (hSh : Shp ad cA g0) (hG : Rng g0) (hL : LawOK g0) : CT l NN ad cA D yX12_order cX12_order 7 (some FieldType.int) (10, 236) [.ref (ad 129), .int a, .int b, .int c, .int d, .int e] g0 (fun v g' => ∃ (r : Int32), v = some (.int r) ∧ Shp ad cA g' ∧ Rng g' ∧ FR (fun i k => i = 161 ∨ i = 156 ∨ i = 157 ∨ (i = 129 ∧ (k = 42 ∨ k = 43 ∨ k = 44 ∨ k = 45 ∨ k = 46 ∨ k = 47 ∨ k = 48 ∨ k = 49)) ∨ i = 170 ∨ i = 171 ∨ i = 172) g0 g') := by
  refine q_enterI (by decide) (Nat.le_of_ble_eq_true rfl) rfl (fun K H locs ls _ _ hM hW0 hR hC hE hl => ?_)
  have hl : lv_has ls 7 [(0, .ref (ad 129)), (1, .int a), (2, .int b), (3, .int c), (4, .int d), (5, .int e)] := hl
  have hW : WS ad cA (fun i k => i = 161 ∨ i = 156 ∨ i = 157 ∨ (i = 129 ∧ (k = 42 ∨ k = 43 ∨ k = 44 ∨ k = 45 ∨ k = 46 ∨ k = 47 ∨ k = 48 ∨ k = 49)) ∨ i = 170 ∨ i = 171 ∨ i = 172) g0 K g0 H locs := ⟨hW0, hSh, FR.rf⟩
  have := kc_0
  have := kc_1
  have := kc_m1
  have := kc_m2
  refine q_aload_n hM dX12_order_0 (lv_at hl 0 rfl) ?_
  refine q_iload_n hM dX12_order_1 (lv_at hl 1 rfl) ?_
  refine q_callV (As := [.int a]) (rest := []) hM hW.1 hR hC myX12_isThat (kAW (v_6_2 (List.mem_of_getElem? (i := 9) rfl)) rfl) (rfl : vwCl[12]? = some (RX12, TX12, 86)) rfl lb_129.1 (shO hW.2.1 lb_129) (a_X12_isThat _ _ cA ad g0 a hW.2.1 hG) ⟨by decide, by decide⟩ rfl rfl hl.1 (Nat.le_of_ble_eq_true rfl) dX12_order_2 (fun v g7362 H locs hp hW1 => ?_)
  obtain ⟨r7361, rfl, hr7361, rfl⟩ := hp
  have hW : WS ad cA (fun i k => i = 161 ∨ i = 156 ∨ i = 157 ∨ (i = 129 ∧ (k = 42 ∨ k = 43 ∨ k = 44 ∨ k = 45 ∨ k = 46 ∨ k = 47 ∨ k = 48 ∨ k = 49)) ∨ i = 170 ∨ i = 171 ∨ i = 172) g0 K g0 H locs := ⟨hW1, hW.2.1, hW.2.2⟩
  refine q_if_eq (tgt := 40) hM dX12_order_5 (by decide) (rfl : r7361.toInt = r7361.toInt) (fun h5 => ?_) (fun h5 => ?_)
  · refine q_iconst (v := ((-1) : Int32)) hM dX12_order_40 (by decide) ?_
    exact hE _ _ _ _ _ _ hW.1 ⟨_, rfl, hW.2.1, hG, hW.2.2⟩ dX12_order_41
  · refine q_aload_n hM dX12_order_8 (lv_at hl 0 rfl) ?_
    refine q_iload_n hM dX12_order_9 (lv_at hl 2 rfl) ?_
    refine q_callV (As := [.int b]) (rest := []) hM hW.1 hR hC myX12_areArts (kAW (v_6_12 (List.mem_of_getElem? (i := 10) rfl)) rfl) (rfl : vwCl[12]? = some (RX12, TX12, 86)) rfl lb_129.1 (shO hW.2.1 lb_129) (a_X12_areArts _ _ cA ad g0 b hW.2.1 hG) ⟨by decide, by decide⟩ rfl rfl hl.1 (Nat.le_of_ble_eq_true rfl) dX12_order_10 (fun v g7366 H locs hp hW1 => ?_)
    obtain ⟨r7365, rfl, hr7365, rfl⟩ := hp
    have hW : WS ad cA (fun i k => i = 161 ∨ i = 156 ∨ i = 157 ∨ (i = 129 ∧ (k = 42 ∨ k = 43 ∨ k = 44 ∨ k = 45 ∨ k = 46 ∨ k = 47 ∨ k = 48 ∨ k = 49)) ∨ i = 170 ∨ i = 171 ∨ i = 172) g0 K g0 H locs := ⟨hW1, hW.2.1, hW.2.2⟩
    refine q_if_eq (tgt := 40) hM dX12_order_13 (by decide) (rfl : r7365.toInt = r7365.toInt) (fun h13 => ?_) (fun h13 => ?_)
    · refine q_iconst (v := ((-1) : Int32)) hM dX12_order_40 (by decide) ?_
      exact hE _ _ _ _ _ _ hW.1 ⟨_, rfl, hW.2.1, hG, hW.2.2⟩ dX12_order_41
    · refine q_aload_n hM dX12_order_16 (lv_at hl 0 rfl) ?_
      refine q_iload_n hM dX12_order_17 (lv_at hl 3 rfl) ?_
      refine q_callV (As := [.int c]) (rest := []) hM hW.1 hR hC myX12_areFacts (kAW (v_6_12 (List.mem_of_getElem? (i := 15) rfl)) rfl) (rfl : vwCl[12]? = some (RX12, TX12, 86)) rfl lb_129.1 (shO hW.2.1 lb_129) (a_X12_areFacts _ _ cA ad g0 c hW.2.1 hG) ⟨by decide, by decide⟩ rfl rfl hl.1 (Nat.le_of_ble_eq_true rfl) dX12_order_18 (fun v g7370 H locs hp hW1 => ?_)
      obtain ⟨r7369, rfl, hr7369, rfl⟩ := hp
      have hW : WS ad cA (fun i k => i = 161 ∨ i = 156 ∨ i = 157 ∨ (i = 129 ∧ (k = 42 ∨ k = 43 ∨ k = 44 ∨ k = 45 ∨ k = 46 ∨ k = 47 ∨ k = 48 ∨ k = 49)) ∨ i = 170 ∨ i = 171 ∨ i = 172) g0 K g0 H locs := ⟨hW1, hW.2.1, hW.2.2⟩
      refine q_if_eq (tgt := 40) hM dX12_order_21 (by decide) (rfl : r7369.toInt = r7369.toInt) (fun h21 => ?_) (fun h21 => ?_)
      · refine q_iconst (v := ((-1) : Int32)) hM dX12_order_40 (by decide) ?_
        exact hE _ _ _ _ _ _ hW.1 ⟨_, rfl, hW.2.1, hG, hW.2.2⟩ dX12_order_41
      · refine q_aload_n hM dX12_order_24 (lv_at hl 0 rfl) ?_
        refine q_iload hM dX12_order_25 (lv_at hl 4 rfl) ?_
        refine q_callV (As := [.int d]) (rest := []) hM hW.1 hR hC myX12_areFacts (kAW (v_6_12 (List.mem_of_getElem? (i := 15) rfl)) rfl) (rfl : vwCl[12]? = some (RX12, TX12, 86)) rfl lb_129.1 (shO hW.2.1 lb_129) (a_X12_areFacts _ _ cA ad g0 d hW.2.1 hG) ⟨by decide, by decide⟩ rfl rfl hl.1 (Nat.le_of_ble_eq_true rfl) dX12_order_27 (fun v g7374 H locs hp hW1 => ?_)
        obtain ⟨r7373, rfl, hr7373, rfl⟩ := hp
        have hW : WS ad cA (fun i k => i = 161 ∨ i = 156 ∨ i = 157 ∨ (i = 129 ∧ (k = 42 ∨ k = 43 ∨ k = 44 ∨ k = 45 ∨ k = 46 ∨ k = 47 ∨ k = 48 ∨ k = 49)) ∨ i = 170 ∨ i = 171 ∨ i = 172) g0 K g0 H locs := ⟨hW1, hW.2.1, hW.2.2⟩
        refine q_if_eq (tgt := 40) hM dX12_order_30 (by decide) (rfl : r7373.toInt = r7373.toInt) (fun h30 => ?_) (fun h30 => ?_)
        · refine q_iconst (v := ((-1) : Int32)) hM dX12_order_40 (by decide) ?_
          exact hE _ _ _ _ _ _ hW.1 ⟨_, rfl, hW.2.1, hG, hW.2.2⟩ dX12_order_41
        · refine q_iload_n hM dX12_order_33 (lv_at hl 3 rfl) ?_
          refine q_iload hM dX12_order_34 (lv_at hl 4 rfl) ?_
          refine q_iand hM dX12_order_36 (fun z7377 hz7377 => ?_)
          refine q_if_eq (tgt := 42) hM dX12_order_37 (by decide) (rfl : z7377.toInt = z7377.toInt) (fun h37 => ?_) (fun h37 => ?_)
          · refine q_aload_n hM dX12_order_42 (lv_at hl 0 rfl) ?_
            refine q_iload_n hM dX12_order_43 (lv_at hl 1 rfl) ?_
            refine q_aload_n hM dX12_order_44 (lv_at hl 0 rfl) ?_
            refine q_iload_n hM dX12_order_45 (lv_at hl 2 rfl) ?_
            refine q_callV (As := [.int b]) (rest := [.int a, .ref (ad 129)]) hM hW.1 hR hC myX12_takesSome (kAW (v_6_13 (List.mem_of_getElem? (i := 3) rfl)) rfl) (rfl : vwCl[12]? = some (RX12, TX12, 86)) rfl lb_129.1 (shO hW.2.1 lb_129) (a_X12_takesSome_6 _ _ cA ad g0 b hW.2.1 hG (by  omega) (by  omega)) ⟨by decide, by decide⟩ rfl rfl hl.1 (Nat.le_of_ble_eq_true rfl) dX12_order_46 (fun v g7380 H locs hp hW1 => ?_)
            obtain ⟨r7379, rfl, hs1, hG, hf1, hr7379⟩ := hp
            have hW : WS ad cA (fun i k => i = 161 ∨ i = 156 ∨ i = 157 ∨ (i = 129 ∧ (k = 42 ∨ k = 43 ∨ k = 44 ∨ k = 45 ∨ k = 46 ∨ k = 47 ∨ k = 48 ∨ k = 49)) ∨ i = 170 ∨ i = 171 ∨ i = 172) g0 K g7380 H locs := ⟨hW1, hs1, hW.2.2.tr hf1 (fun i k h => (Or.inr (Or.inr (Or.inr (Or.inr (Or.inr (Or.inl h)))))))⟩
            refine q_iload_n hM dX12_order_49 (lv_at hl 3 rfl) ?_
            refine q_iload hM dX12_order_50 (lv_at hl 4 rfl) ?_
            refine q_callV (As := [.int a, .int r7379, .int c, .int d]) (rest := []) hM hW.1 hR hC myX12_timesTill (kAW (v_6_13 (List.mem_of_getElem? (i := 7) rfl)) rfl) (rfl : vwCl[12]? = some (RX12, TX12, 86)) rfl lb_129.1 (shO hW.2.1 lb_129) (a_X12_timesTill _ _ cA ad g7380 a r7379 c d hW.2.1 hG (by  omega) (by  omega) (by  omega) (by  omega) (LawOK_fr hL hW.2.2 (by omega) (by omega) (by omega) (by omega) (by omega)) hr7379.2.2.2) ⟨by decide, by decide⟩ rfl rfl hl.1 (Nat.le_of_ble_eq_true rfl) dX12_order_52 (fun v g7382 H locs hp hW1 => ?_)
            obtain ⟨r7381, rfl, hs1, hG, hf1, hr7381⟩ := hp
            have hW : WS ad cA (fun i k => i = 161 ∨ i = 156 ∨ i = 157 ∨ (i = 129 ∧ (k = 42 ∨ k = 43 ∨ k = 44 ∨ k = 45 ∨ k = 46 ∨ k = 47 ∨ k = 48 ∨ k = 49)) ∨ i = 170 ∨ i = 171 ∨ i = 172) g0 K g7382 H locs := ⟨hW1, hs1, hW.2.2.tr hf1 (fun i k h => h.elim (fun h => (Or.inl h)) (fun h => h.elim (fun h => (Or.inr (Or.inl h))) (fun h => h.elim (fun h => (Or.inr (Or.inr (Or.inl h)))) (fun h => h.elim (fun h => (Or.inr (Or.inr (Or.inr (Or.inl h))))) (fun h => h.elim (fun h => (Or.inr (Or.inr (Or.inr (Or.inr (Or.inl h)))))) (fun h => (Or.inr (Or.inr (Or.inr (Or.inr (Or.inr (Or.inr h))))))))))))⟩
            refine q_istore (lv9 := [(6, .int r7381), (0, .ref (ad 129)), (1, .int a), (2, .int b), (3, .int c), (4, .int d), (5, .int e)]) hM dX12_order_55 hl (by decide) rfl (fun ls hl => ?_)
            refine q_iload hM dX12_order_57 (lv_at hl 0 rfl) ?_
            refine q_iconst (v := ((-1) : Int32)) hM dX12_order_59 (by decide) ?_
            refine q_icmp_ne (tgt := 66) hM dX12_order_60 (by decide) (rfl : r7381.toInt = r7381.toInt) (kc_m1 : ((-1) : Int32).toInt = (-1)) (fun h60 => ?_) (fun h60 => ?_)
            · refine q_iload hM dX12_order_66 (lv_at hl 6 rfl) ?_
              refine q_bipush (v := (20 : Int32)) hM dX12_order_68 (by decide) ?_
              refine q_icmp_ne (tgt := 78) hM dX12_order_70 (by decide) (rfl : e.toInt = e.toInt) (kc_20 : (20 : Int32).toInt = 20) (fun h70 => ?_) (fun h70 => ?_)
              · refine q_iload hM dX12_order_78 (lv_at hl 6 rfl) ?_
                refine q_i2l hM dX12_order_80 ?_
                have := l_i2l e
                refine q_lconst (v := 0) hM dX12_order_81 (by decide) ?_
                have := kl_0
                refine q_iload hM dX12_order_82 (lv_at hl 0 rfl) ?_
                refine q_iconst (v := (1 : Int32)) hM dX12_order_84 (by decide) ?_
                refine q_isub hM dX12_order_85 (fun z7385 hz7385 => ?_)
                first | have tz7385 := i_subT hz7385 (rfl : r7381.toInt = r7381.toInt) (kc_1 : (1 : Int32).toInt = 1) (by omega) (by omega) | skip
                refine q_i2l hM dX12_order_86 ?_
                have := l_i2l z7385
                refine q_callS (As := [.long e.toInt64, .long (0 : Int64), .long z7385.toInt64]) (rest := []) hM hW.1 hR hC myX12_lies (kAW (v_5_4 (List.mem_of_getElem? (i := 14) rfl)) rfl) (c_X12_lies _ _ cA ad g7382 e.toInt64 (0 : Int64) z7385.toInt64 hW.2.1) ⟨by decide, by decide⟩ rfl rfl hl.1 (Nat.le_of_ble_eq_true rfl) dX12_order_87 (fun v g7387 H locs hp hW1 => ?_)
                obtain ⟨r7386, rfl, hr7386, rfl⟩ := hp
                have hW : WS ad cA (fun i k => i = 161 ∨ i = 156 ∨ i = 157 ∨ (i = 129 ∧ (k = 42 ∨ k = 43 ∨ k = 44 ∨ k = 45 ∨ k = 46 ∨ k = 47 ∨ k = 48 ∨ k = 49)) ∨ i = 170 ∨ i = 171 ∨ i = 172) g0 K g7382 H locs := ⟨hW1, hW.2.1, hW.2.2⟩
                refine q_if_eq (tgt := 108) hM dX12_order_90 (by decide) (rfl : r7386.toInt = r7386.toInt) (fun h90 => ?_) (fun h90 => ?_)
                · refine q_bipush (v := ((-4) : Int32)) hM dX12_order_108 (by decide) ?_
                  exact hE _ _ _ _ _ _ hW.1 ⟨_, rfl, hW.2.1, hG, hW.2.2⟩ dX12_order_110
                · refine q_aload_n hM dX12_order_93 (lv_at hl 1 rfl) ?_
                  refine w_get (v := .ref (ad 171)) hM hW FG_X12_139 lb_129 (rf_129_77 hW.2.1) dX12_order_94 ?_
                  refine q_aload_n hM dX12_order_97 (lv_at hl 1 rfl) ?_
                  refine w_get (v := .ref (ad 172)) hM hW FG_X12_142 lb_129 (rf_129_78 hW.2.1) dX12_order_98 ?_
                  refine q_iload hM dX12_order_101 (lv_at hl 6 rfl) ?_
                  refine w_iald hM hW lb_172 (i_in (by omega) (by omega)) dX12_order_103 ?_
                  refine q_top (fun y7390 hy7390 => ?_)
                  have by7390 := hG.a hy7390 rA_172
                  refine w_iald hM hW lb_171 (i_in (by omega) (by omega)) dX12_order_104 ?_
                  refine q_top (fun y7391 hy7391 => ?_)
                  have by7391 := hG.a hy7391 rA_171
                  refine q_goto (tgt := 110) hM dX12_order_105 (by decide) ?_
                  exact hE _ _ _ _ _ _ hW.1 ⟨_, rfl, hW.2.1, hG, hW.2.2⟩ dX12_order_110
              · refine q_iload hM dX12_order_73 (lv_at hl 0 rfl) ?_
                refine q_goto (tgt := 110) hM dX12_order_75 (by decide) ?_
                exact hE _ _ _ _ _ _ hW.1 ⟨_, rfl, hW.2.1, hG, hW.2.2⟩ dX12_order_110
            · refine q_bipush (v := ((-2) : Int32)) hM dX12_order_63 (by decide) ?_
              exact hE _ _ _ _ _ _ hW.1 ⟨_, rfl, hW.2.1, hG, hW.2.2⟩ dX12_order_65
          · refine q_iconst (v := ((-1) : Int32)) hM dX12_order_40 (by decide) ?_
            exact hE _ _ _ _ _ _ hW.1 ⟨_, rfl, hW.2.1, hG, hW.2.2⟩ dX12_order_41

theorem dX12_still_0 : decode cX12_still 0 = .ok (.aload_n 0, 1) := by decide +kernel
theorem dX12_still_1 : decode cX12_still 1 = .ok (.iload_n 1, 1) := by decide +kernel
theorem dX12_still_2 : decode cX12_still 2 = .ok (.invokevirtual 421, 3) := by decide +kernel
theorem dX12_still_5 : decode cX12_still 5 = .ok (.ifCond .eq 21, 3) := by decide +kernel
theorem dX12_still_8 : decode cX12_still 8 = .ok (.aload_n 0, 1) := by decide +kernel
theorem dX12_still_9 : decode cX12_still 9 = .ok (.iload_n 2, 1) := by decide +kernel
theorem dX12_still_10 : decode cX12_still 10 = .ok (.invokevirtual 452, 3) := by decide +kernel
theorem dX12_still_13 : decode cX12_still 13 = .ok (.ifCond .eq 13, 3) := by decide +kernel
theorem dX12_still_16 : decode cX12_still 16 = .ok (.iload_n 3, 1) := by decide +kernel
theorem dX12_still_17 : decode cX12_still 17 = .ok (.i2l, 1) := by decide +kernel
theorem dX12_still_18 : decode cX12_still 18 = .ok (.lconst 0, 1) := by decide +kernel
theorem dX12_still_19 : decode cX12_still 19 = .ok (.lconst 1, 1) := by decide +kernel
theorem dX12_still_20 : decode cX12_still 20 = .ok (.invokestatic 190, 3) := by decide +kernel
theorem dX12_still_23 : decode cX12_still 23 = .ok (.ifCond .ne 5, 3) := by decide +kernel
theorem dX12_still_26 : decode cX12_still 26 = .ok (.iconst (-1), 1) := by decide +kernel
theorem dX12_still_27 : decode cX12_still 27 = .ok (.ireturn, 1) := by decide +kernel
theorem dX12_still_28 : decode cX12_still 28 = .ok (.aload_n 0, 1) := by decide +kernel
theorem dX12_still_29 : decode cX12_still 29 = .ok (.iload_n 1, 1) := by decide +kernel
theorem dX12_still_30 : decode cX12_still 30 = .ok (.invokevirtual 530, 3) := by decide +kernel
theorem dX12_still_33 : decode cX12_still 33 = .ok (.iconst 0, 1) := by decide +kernel
theorem dX12_still_34 : decode cX12_still 34 = .ok (.istore 4, 2) := by decide +kernel
theorem dX12_still_36 : decode cX12_still 36 = .ok (.iload 4, 2) := by decide +kernel
theorem dX12_still_38 : decode cX12_still 38 = .ok (.sipush 200, 3) := by decide +kernel
theorem dX12_still_41 : decode cX12_still 41 = .ok (.if_icmp .gt 18, 3) := by decide +kernel
theorem dX12_still_44 : decode cX12_still 44 = .ok (.aload_n 0, 1) := by decide +kernel
theorem dX12_still_45 : decode cX12_still 45 = .ok (.iload_n 1, 1) := by decide +kernel
theorem dX12_still_46 : decode cX12_still 46 = .ok (.iload_n 2, 1) := by decide +kernel
theorem dX12_still_47 : decode cX12_still 47 = .ok (.invokevirtual 558, 3) := by decide +kernel
theorem dX12_still_50 : decode cX12_still 50 = .ok (.ifCond .eq 9, 3) := by decide +kernel
theorem dX12_still_53 : decode cX12_still 53 = .ok (.iinc 4 1, 3) := by decide +kernel
theorem dX12_still_56 : decode cX12_still 56 = .ok (.goto (-20), 3) := by decide +kernel
theorem dX12_still_59 : decode cX12_still 59 = .ok (.aload_n 0, 1) := by decide +kernel
theorem dX12_still_60 : decode cX12_still 60 = .ok (.iload_n 1, 1) := by decide +kernel
theorem dX12_still_61 : decode cX12_still 61 = .ok (.invokevirtual 413, 3) := by decide +kernel
theorem dX12_still_64 : decode cX12_still 64 = .ok (.invokestatic 215, 3) := by decide +kernel
theorem dX12_still_67 : decode cX12_still 67 = .ok (.istore 5, 2) := by decide +kernel
theorem dX12_still_69 : decode cX12_still 69 = .ok (.aload_n 0, 1) := by decide +kernel
theorem dX12_still_70 : decode cX12_still 70 = .ok (.iload_n 1, 1) := by decide +kernel
theorem dX12_still_71 : decode cX12_still 71 = .ok (.invokevirtual 527, 3) := by decide +kernel
theorem dX12_still_74 : decode cX12_still 74 = .ok (.iload 4, 2) := by decide +kernel
theorem dX12_still_76 : decode cX12_still 76 = .ok (.sipush 200, 3) := by decide +kernel
theorem dX12_still_79 : decode cX12_still 79 = .ok (.if_icmp .le 8, 3) := by decide +kernel
theorem dX12_still_82 : decode cX12_still 82 = .ok (.bipush (-2), 2) := by decide +kernel
theorem dX12_still_84 : decode cX12_still 84 = .ok (.goto 14, 3) := by decide +kernel
theorem dX12_still_87 : decode cX12_still 87 = .ok (.iload_n 3, 1) := by decide +kernel
theorem dX12_still_88 : decode cX12_still 88 = .ok (.ifCond .ne 8, 3) := by decide +kernel
theorem dX12_still_91 : decode cX12_still 91 = .ok (.iload 4, 2) := by decide +kernel
theorem dX12_still_93 : decode cX12_still 93 = .ok (.goto 5, 3) := by decide +kernel
theorem dX12_still_96 : decode cX12_still 96 = .ok (.iload 5, 2) := by decide +kernel
theorem dX12_still_98 : decode cX12_still 98 = .ok (.ireturn, 1) := by decide +kernel
theorem myX12_changes : MI yX12_changes cX12_changes 5 (some FieldType.boolean) 2 := ⟨kAW (v_7_0 (List.mem_of_getElem? (i := 5) rfl)) rfl, kAW (v_0_0 (List.mem_of_getElem? (i := 13) rfl)) rfl, kAW (v_7_0 (List.mem_of_getElem? (i := 4) rfl)) rfl, kAW (tp_t6 (List.mem_of_getElem? (i := 2) rfl)) rfl, by decide, by decide, by decide +kernel⟩
set_option maxRecDepth 100000 in
set_option maxHeartbeats 4000000 in
theorem p_X12_still (l : Launch) (D : va_G) (cA : Nat → ClassId) (ad : Nat → Nat) (g0 : Nat → va_E) (a : Int32) (b : Int32) (c : Int32)   (hSh : Shp ad cA g0) (hG : Rng g0) (hL : LawOK g0) : CT l NN ad cA D yX12_still cX12_still 6 (some FieldType.int) (9, 208) [.ref (ad 129), .int a, .int b, .int c] g0 (fun v g' => ∃ (r : Int32), v = some (.int r) ∧ Shp ad cA g' ∧ Rng g' ∧ FR (fun i k => i = 161 ∨ i = 156 ∨ i = 157 ∨ (i = 129 ∧ (k = 42 ∨ k = 43 ∨ k = 44 ∨ k = 45 ∨ k = 46 ∨ k = 47 ∨ k = 48 ∨ k = 49)) ∨ i = 170 ∨ i = 174) g0 g') := by
  refine q_enterI (by decide) (Nat.le_of_ble_eq_true rfl) rfl (fun K H locs ls _ _ hM hW0 hR hC hE hl => ?_)
  have hl : lv_has ls 6 [(0, .ref (ad 129)), (1, .int a), (2, .int b), (3, .int c)] := hl
  have hW : WS ad cA (fun i k => i = 161 ∨ i = 156 ∨ i = 157 ∨ (i = 129 ∧ (k = 42 ∨ k = 43 ∨ k = 44 ∨ k = 45 ∨ k = 46 ∨ k = 47 ∨ k = 48 ∨ k = 49)) ∨ i = 170 ∨ i = 174) g0 K g0 H locs := ⟨hW0, hSh, FR.rf⟩
  have := kc_0
  have := kc_1
  have := kc_m1
  have := kc_m2
  refine q_aload_n hM dX12_still_0 (lv_at hl 0 rfl) ?_
  refine q_iload_n hM dX12_still_1 (lv_at hl 1 rfl) ?_
  refine q_callV (As := [.int a]) (rest := []) hM hW.1 hR hC myX12_isThat (kAW (v_6_2 (List.mem_of_getElem? (i := 9) rfl)) rfl) (rfl : vwCl[12]? = some (RX12, TX12, 86)) rfl lb_129.1 (shO hW.2.1 lb_129) (a_X12_isThat _ _ cA ad g0 a hW.2.1 hG) ⟨by decide, by decide⟩ rfl rfl hl.1 (Nat.le_of_ble_eq_true rfl) dX12_still_2 (fun v g7396 H locs hp hW1 => ?_)
  obtain ⟨r7395, rfl, hr7395, rfl⟩ := hp
  have hW : WS ad cA (fun i k => i = 161 ∨ i = 156 ∨ i = 157 ∨ (i = 129 ∧ (k = 42 ∨ k = 43 ∨ k = 44 ∨ k = 45 ∨ k = 46 ∨ k = 47 ∨ k = 48 ∨ k = 49)) ∨ i = 170 ∨ i = 174) g0 K g0 H locs := ⟨hW1, hW.2.1, hW.2.2⟩
  refine q_if_eq (tgt := 26) hM dX12_still_5 (by decide) (rfl : r7395.toInt = r7395.toInt) (fun h5 => ?_) (fun h5 => ?_)
  · refine q_iconst (v := ((-1) : Int32)) hM dX12_still_26 (by decide) ?_
    exact hE _ _ _ _ _ _ hW.1 ⟨_, rfl, hW.2.1, hG, hW.2.2⟩ dX12_still_27
  · refine q_aload_n hM dX12_still_8 (lv_at hl 0 rfl) ?_
    refine q_iload_n hM dX12_still_9 (lv_at hl 2 rfl) ?_
    refine q_callV (As := [.int b]) (rest := []) hM hW.1 hR hC myX12_isThere (kAW (v_6_3 (List.mem_of_getElem? (i := 7) rfl)) rfl) (rfl : vwCl[12]? = some (RX12, TX12, 86)) rfl lb_129.1 (shO hW.2.1 lb_129) (a_X12_isThere _ _ cA ad g0 b hW.2.1 hG) ⟨by decide, by decide⟩ rfl rfl hl.1 (Nat.le_of_ble_eq_true rfl) dX12_still_10 (fun v g7400 H locs hp hW1 => ?_)
    obtain ⟨r7399, rfl, hr7399, rfl⟩ := hp
    have hW : WS ad cA (fun i k => i = 161 ∨ i = 156 ∨ i = 157 ∨ (i = 129 ∧ (k = 42 ∨ k = 43 ∨ k = 44 ∨ k = 45 ∨ k = 46 ∨ k = 47 ∨ k = 48 ∨ k = 49)) ∨ i = 170 ∨ i = 174) g0 K g0 H locs := ⟨hW1, hW.2.1, hW.2.2⟩
    refine q_if_eq (tgt := 26) hM dX12_still_13 (by decide) (rfl : r7399.toInt = r7399.toInt) (fun h13 => ?_) (fun h13 => ?_)
    · refine q_iconst (v := ((-1) : Int32)) hM dX12_still_26 (by decide) ?_
      exact hE _ _ _ _ _ _ hW.1 ⟨_, rfl, hW.2.1, hG, hW.2.2⟩ dX12_still_27
    · refine q_iload_n hM dX12_still_16 (lv_at hl 3 rfl) ?_
      refine q_i2l hM dX12_still_17 ?_
      have := l_i2l c
      refine q_lconst (v := 0) hM dX12_still_18 (by decide) ?_
      have := kl_0
      refine q_lconst (v := 1) hM dX12_still_19 (by decide) ?_
      have := kl_1
      refine q_callS (As := [.long c.toInt64, .long (0 : Int64), .long (1 : Int64)]) (rest := []) hM hW.1 hR hC myX12_lies (kAW (v_5_4 (List.mem_of_getElem? (i := 14) rfl)) rfl) (c_X12_lies _ _ cA ad g0 c.toInt64 (0 : Int64) (1 : Int64) hW.2.1) ⟨by decide, by decide⟩ rfl rfl hl.1 (Nat.le_of_ble_eq_true rfl) dX12_still_20 (fun v g7404 H locs hp hW1 => ?_)
      obtain ⟨r7403, rfl, hr7403, rfl⟩ := hp
      have hW : WS ad cA (fun i k => i = 161 ∨ i = 156 ∨ i = 157 ∨ (i = 129 ∧ (k = 42 ∨ k = 43 ∨ k = 44 ∨ k = 45 ∨ k = 46 ∨ k = 47 ∨ k = 48 ∨ k = 49)) ∨ i = 170 ∨ i = 174) g0 K g0 H locs := ⟨hW1, hW.2.1, hW.2.2⟩
      refine q_if_ne (tgt := 28) hM dX12_still_23 (by decide) (rfl : r7403.toInt = r7403.toInt) (fun h23 => ?_) (fun h23 => ?_)
      · refine q_aload_n hM dX12_still_28 (lv_at hl 0 rfl) ?_
        refine q_iload_n hM dX12_still_29 (lv_at hl 1 rfl) ?_
        refine q_callV (As := [.int a]) (rest := []) hM hW.1 hR hC myX12_keepsOwn (kAW (v_6_13 (List.mem_of_getElem? (i := 11) rfl)) rfl) (rfl : vwCl[12]? = some (RX12, TX12, 86)) rfl lb_129.1 (shO hW.2.1 lb_129) (a_X12_keepsOwn _ _ cA ad g0 a hW.2.1 hG (by  omega) (by  omega)) ⟨by decide, by decide⟩ rfl rfl hl.1 (Nat.le_of_ble_eq_true rfl) dX12_still_30 (fun v g7406 H locs hp hW1 => ?_)
        obtain ⟨rfl, hs1, hG, hf1⟩ := hp
        have hW : WS ad cA (fun i k => i = 161 ∨ i = 156 ∨ i = 157 ∨ (i = 129 ∧ (k = 42 ∨ k = 43 ∨ k = 44 ∨ k = 45 ∨ k = 46 ∨ k = 47 ∨ k = 48 ∨ k = 49)) ∨ i = 170 ∨ i = 174) g0 K g7406 H locs := ⟨hW1, hs1, hW.2.2.tr hf1 (fun i k h => (Or.inr (Or.inr (Or.inr (Or.inr (Or.inl h))))))⟩
        refine q_iconst (v := (0 : Int32)) hM dX12_still_33 (by decide) ?_
        refine q_istore (lv9 := [(4, .int (0 : Int32)), (0, .ref (ad 129)), (1, .int a), (2, .int b), (3, .int c)]) hM dX12_still_34 hl (by decide) rfl (fun ls hl => ?_)
        have L36 : ∀ (fu36 : Nat) (w36_4 : Int32) (g9 : Nat → va_E) (H : Heap) (locs : List Loc) (ls : Array Slot), (201 - w36_4.toInt).toNat < fu36 → (Rng g9) → (0 ≤ w36_4.toInt) → (w36_4.toInt ≤ 201) → lv_has ls 6 [(0, .ref (ad 129)), (1, .int a), (2, .int b), (3, .int c), (4, .int w36_4)] → WS ad cA (fun i k => i = 161 ∨ i = 156 ∨ i = 157 ∨ (i = 129 ∧ (k = 42 ∨ k = 43 ∨ k = 44 ∨ k = 45 ∨ k = 46 ∨ k = 47 ∨ k = 48 ∨ k = 49)) ∨ i = 170 ∨ i = 174) g0 K g9 H locs → XX K 0 0 H locs 36 ls [] := by
          intro fu36
          induction fu36 with
          | zero => intro w36_4 g9 H locs ls h0; omega
          | succ fu36 ih36 =>
            intro w36_4 g9 H locs ls hm36 i36_0 i36_1 i36_2 hl hW
            have hG := i36_0
            refine q_iload hM dX12_still_36 (lv_at hl 4 rfl) ?_
            refine q_sipush (v := (200 : Int32)) hM dX12_still_38 (by decide) ?_
            refine q_icmp_gt (tgt := 59) hM dX12_still_41 (by decide) (rfl : w36_4.toInt = w36_4.toInt) (kc_200 : (200 : Int32).toInt = 200) (fun h41 => ?_) (fun h41 => ?_)
            · refine q_aload_n hM dX12_still_59 (lv_at hl 0 rfl) ?_
              refine q_iload_n hM dX12_still_60 (lv_at hl 1 rfl) ?_
              refine q_callV (As := [.int a]) (rest := []) hM hW.1 hR hC myX12_knownBy (kAW (v_6_4 (List.mem_of_getElem? (i := 11) rfl)) rfl) (rfl : vwCl[12]? = some (RX12, TX12, 86)) rfl lb_129.1 (shO hW.2.1 lb_129) (a_X12_knownBy _ _ cA ad g9 a hW.2.1 hG (by  omega) (by  omega)) ⟨by decide, by decide⟩ rfl rfl hl.1 (Nat.le_of_ble_eq_true rfl) dX12_still_61 (fun v g7410 H locs hp hW1 => ?_)
              obtain ⟨r7409, rfl, hr7409, rfl⟩ := hp
              have hW : WS ad cA (fun i k => i = 161 ∨ i = 156 ∨ i = 157 ∨ (i = 129 ∧ (k = 42 ∨ k = 43 ∨ k = 44 ∨ k = 45 ∨ k = 46 ∨ k = 47 ∨ k = 48 ∨ k = 49)) ∨ i = 170 ∨ i = 174) g0 K g9 H locs := ⟨hW1, hW.2.1, hW.2.2⟩
              refine q_callS (As := [.int r7409]) (rest := []) hM hW.1 hR hC myX12_sizeOf (kAW (v_5_6 (List.mem_of_getElem? (i := 14) rfl)) rfl) (a_X12_sizeOf _ _ cA ad g9 r7409 hW.2.1 hG (by  omega)) ⟨by decide, by decide⟩ rfl rfl hl.1 (Nat.le_of_ble_eq_true rfl) dX12_still_64 (fun v g7412 H locs hp hW1 => ?_)
              obtain ⟨r7411, rfl, hr7411, rfl⟩ := hp
              have hW : WS ad cA (fun i k => i = 161 ∨ i = 156 ∨ i = 157 ∨ (i = 129 ∧ (k = 42 ∨ k = 43 ∨ k = 44 ∨ k = 45 ∨ k = 46 ∨ k = 47 ∨ k = 48 ∨ k = 49)) ∨ i = 170 ∨ i = 174) g0 K g9 H locs := ⟨hW1, hW.2.1, hW.2.2⟩
              refine q_istore (lv9 := [(5, .int r7411), (0, .ref (ad 129)), (1, .int a), (2, .int b), (3, .int c), (4, .int w36_4)]) hM dX12_still_67 hl (by decide) rfl (fun ls hl => ?_)
              refine q_aload_n hM dX12_still_69 (lv_at hl 1 rfl) ?_
              refine q_iload_n hM dX12_still_70 (lv_at hl 2 rfl) ?_
              refine q_callV (As := [.int a]) (rest := []) hM hW.1 hR hC myX12_givesBack (kAW (v_6_14 (List.mem_of_getElem? (i := 10) rfl)) rfl) (rfl : vwCl[12]? = some (RX12, TX12, 86)) rfl lb_129.1 (shO hW.2.1 lb_129) (a_X12_givesBack _ _ cA ad g9 a hW.2.1 hG (by  omega) (by  omega)) ⟨by decide, by decide⟩ rfl rfl hl.1 (Nat.le_of_ble_eq_true rfl) dX12_still_71 (fun v g7413 H locs hp hW1 => ?_)
              obtain ⟨rfl, hs1, hG, hf1⟩ := hp
              have hW : WS ad cA (fun i k => i = 161 ∨ i = 156 ∨ i = 157 ∨ (i = 129 ∧ (k = 42 ∨ k = 43 ∨ k = 44 ∨ k = 45 ∨ k = 46 ∨ k = 47 ∨ k = 48 ∨ k = 49)) ∨ i = 170 ∨ i = 174) g0 K g7413 H locs := ⟨hW1, hs1, hW.2.2.tr hf1 (fun i k h => (Or.inl h))⟩
              refine q_iload hM dX12_still_74 (lv_at hl 5 rfl) ?_
              refine q_sipush (v := (200 : Int32)) hM dX12_still_76 (by decide) ?_
              refine q_icmp_le (tgt := 87) hM dX12_still_79 (by decide) (rfl : w36_4.toInt = w36_4.toInt) (kc_200 : (200 : Int32).toInt = 200) (fun h79 => ?_) (fun h79 => ?_)
              · refine q_iload_n hM dX12_still_87 (lv_at hl 4 rfl) ?_
                refine q_if_ne (tgt := 96) hM dX12_still_88 (by decide) (rfl : c.toInt = c.toInt) (fun h88 => ?_) (fun h88 => ?_)
                · refine q_iload hM dX12_still_96 (lv_at hl 0 rfl) ?_
                  exact hE _ _ _ _ _ _ hW.1 ⟨_, rfl, hW.2.1, hG, hW.2.2⟩ dX12_still_98
                · refine q_iload hM dX12_still_91 (lv_at hl 5 rfl) ?_
                  refine q_goto (tgt := 98) hM dX12_still_93 (by decide) ?_
                  exact hE _ _ _ _ _ _ hW.1 ⟨_, rfl, hW.2.1, hG, hW.2.2⟩ dX12_still_98
              · refine q_bipush (v := ((-2) : Int32)) hM dX12_still_82 (by decide) ?_
                refine q_goto (tgt := 98) hM dX12_still_84 (by decide) ?_
                exact hE _ _ _ _ _ _ hW.1 ⟨_, rfl, hW.2.1, hG, hW.2.2⟩ dX12_still_98
            · refine q_aload_n hM dX12_still_44 (lv_at hl 0 rfl) ?_
              refine q_iload_n hM dX12_still_45 (lv_at hl 1 rfl) ?_
              refine q_iload_n hM dX12_still_46 (lv_at hl 2 rfl) ?_
              refine q_callV (As := [.int a, .int b]) (rest := []) hM hW.1 hR hC myX12_changes (kAW (v_7_0 (List.mem_of_getElem? (i := 2) rfl)) rfl) (rfl : vwCl[12]? = some (RX12, TX12, 86)) rfl lb_129.1 (shO hW.2.1 lb_129) (a_X12_changes _ _ cA ad g9 a b hW.2.1 hG (by  omega) (by  omega) (by  omega) (by  omega) (LawOK_fr hL hW.2.2 (by omega) (by omega) (by omega) (by omega) (by omega))) ⟨by decide, by decide⟩ rfl rfl hl.1 (Nat.le_of_ble_eq_true rfl) dX12_still_47 (fun v g7420 H locs hp hW1 => ?_)
              obtain ⟨r7419, rfl, hs1, hG, hf1, hr7419⟩ := hp
              have hW : WS ad cA (fun i k => i = 161 ∨ i = 156 ∨ i = 157 ∨ (i = 129 ∧ (k = 42 ∨ k = 43 ∨ k = 44 ∨ k = 45 ∨ k = 46 ∨ k = 47 ∨ k = 48 ∨ k = 49)) ∨ i = 170 ∨ i = 174) g0 K g7420 H locs := ⟨hW1, hs1, hW.2.2.tr hf1 (fun i k h => h.elim (fun h => (Or.inl h)) (fun h => h.elim (fun h => (Or.inr (Or.inl h))) (fun h => h.elim (fun h => (Or.inr (Or.inr (Or.inl h)))) (fun h => h.elim (fun h => (Or.inr (Or.inr (Or.inr (Or.inl h))))) (fun h => (Or.inr (Or.inr (Or.inr (Or.inr (Or.inr h))))))))))⟩
              refine q_if_eq (tgt := 59) hM dX12_still_50 (by decide) (rfl : r7419.toInt = r7419.toInt) (fun h50 => ?_) (fun h50 => ?_)
              · refine q_aload_n hM dX12_still_59 (lv_at hl 0 rfl) ?_
                refine q_iload_n hM dX12_still_60 (lv_at hl 1 rfl) ?_
                refine q_callV (As := [.int a]) (rest := []) hM hW.1 hR hC myX12_knownBy (kAW (v_6_4 (List.mem_of_getElem? (i := 11) rfl)) rfl) (rfl : vwCl[12]? = some (RX12, TX12, 86)) rfl lb_129.1 (shO hW.2.1 lb_129) (a_X12_knownBy _ _ cA ad g7420 a hW.2.1 hG (by  omega) (by  omega)) ⟨by decide, by decide⟩ rfl rfl hl.1 (Nat.le_of_ble_eq_true rfl) dX12_still_61 (fun v g7423 H locs hp hW1 => ?_)
                obtain ⟨r7422, rfl, hr7422, rfl⟩ := hp
                have hW : WS ad cA (fun i k => i = 161 ∨ i = 156 ∨ i = 157 ∨ (i = 129 ∧ (k = 42 ∨ k = 43 ∨ k = 44 ∨ k = 45 ∨ k = 46 ∨ k = 47 ∨ k = 48 ∨ k = 49)) ∨ i = 170 ∨ i = 174) g0 K g7420 H locs := ⟨hW1, hW.2.1, hW.2.2⟩
                refine q_callS (As := [.int r7422]) (rest := []) hM hW.1 hR hC myX12_sizeOf (kAW (v_5_6 (List.mem_of_getElem? (i := 14) rfl)) rfl) (a_X12_sizeOf _ _ cA ad g7420 r7422 hW.2.1 hG (by  omega)) ⟨by decide, by decide⟩ rfl rfl hl.1 (Nat.le_of_ble_eq_true rfl) dX12_still_64 (fun v g7425 H locs hp hW1 => ?_)
                obtain ⟨r7424, rfl, hr7424, rfl⟩ := hp
                have hW : WS ad cA (fun i k => i = 161 ∨ i = 156 ∨ i = 157 ∨ (i = 129 ∧ (k = 42 ∨ k = 43 ∨ k = 44 ∨ k = 45 ∨ k = 46 ∨ k = 47 ∨ k = 48 ∨ k = 49)) ∨ i = 170 ∨ i = 174) g0 K g7420 H locs := ⟨hW1, hW.2.1, hW.2.2⟩
                refine q_istore (lv9 := [(5, .int r7424), (0, .ref (ad 129)), (1, .int a), (2, .int b), (3, .int c), (4, .int w36_4)]) hM dX12_still_67 hl (by decide) rfl (fun ls hl => ?_)
                refine q_aload_n hM dX12_still_69 (lv_at hl 1 rfl) ?_
                refine q_iload_n hM dX12_still_70 (lv_at hl 2 rfl) ?_
                refine q_callV (As := [.int a]) (rest := []) hM hW.1 hR hC myX12_givesBack (kAW (v_6_14 (List.mem_of_getElem? (i := 10) rfl)) rfl) (rfl : vwCl[12]? = some (RX12, TX12, 86)) rfl lb_129.1 (shO hW.2.1 lb_129) (a_X12_givesBack _ _ cA ad g7420 a hW.2.1 hG (by  omega) (by  omega)) ⟨by decide, by decide⟩ rfl rfl hl.1 (Nat.le_of_ble_eq_true rfl) dX12_still_71 (fun v g7426 H locs hp hW1 => ?_)
                obtain ⟨rfl, hs1, hG, hf1⟩ := hp
                have hW : WS ad cA (fun i k => i = 161 ∨ i = 156 ∨ i = 157 ∨ (i = 129 ∧ (k = 42 ∨ k = 43 ∨ k = 44 ∨ k = 45 ∨ k = 46 ∨ k = 47 ∨ k = 48 ∨ k = 49)) ∨ i = 170 ∨ i = 174) g0 K g7426 H locs := ⟨hW1, hs1, hW.2.2.tr hf1 (fun i k h => (Or.inl h))⟩
                refine q_iload hM dX12_still_74 (lv_at hl 5 rfl) ?_
                refine q_sipush (v := (200 : Int32)) hM dX12_still_76 (by decide) ?_
                refine q_icmp_le (tgt := 87) hM dX12_still_79 (by decide) (rfl : w36_4.toInt = w36_4.toInt) (kc_200 : (200 : Int32).toInt = 200) (fun h79 => ?_) (fun h79 => ?_)
                · refine q_iload_n hM dX12_still_87 (lv_at hl 4 rfl) ?_
                  refine q_if_ne (tgt := 96) hM dX12_still_88 (by decide) (rfl : c.toInt = c.toInt) (fun h88 => ?_) (fun h88 => ?_)
                  · refine q_iload hM dX12_still_96 (lv_at hl 0 rfl) ?_
                    exact hE _ _ _ _ _ _ hW.1 ⟨_, rfl, hW.2.1, hG, hW.2.2⟩ dX12_still_98
                  · refine q_iload hM dX12_still_91 (lv_at hl 5 rfl) ?_
                    refine q_goto (tgt := 98) hM dX12_still_93 (by decide) ?_
                    exact hE _ _ _ _ _ _ hW.1 ⟨_, rfl, hW.2.1, hG, hW.2.2⟩ dX12_still_98
                · refine q_bipush (v := ((-2) : Int32)) hM dX12_still_82 (by decide) ?_
                  refine q_goto (tgt := 98) hM dX12_still_84 (by decide) ?_
                  exact hE _ _ _ _ _ _ hW.1 ⟨_, rfl, hW.2.1, hG, hW.2.2⟩ dX12_still_98
              · refine q_iinc (lv9 := fun z7432 => [(4, .int z7432), (0, .ref (ad 129)), (1, .int a), (2, .int b), (3, .int c)]) hM dX12_still_53 hl (kq := 4) rfl (by decide) (fun _ => rfl) (fun z7432 ls hz7432 hl => ?_)
                first | have tz7432 := i_addT hz7432 (rfl : w36_4.toInt = w36_4.toInt) (kc_1 : (Int32.ofInt 1).toInt = 1) (by omega) (by omega) | skip
                refine q_goto (tgt := 36) hM dX12_still_56 (by decide) ?_
                exact ih36 z7432 _ _ _ _ (by omega) hG (by omega) (by omega) (lv_sub hl [1, 2, 3, 4, 0] rfl) hW
        have := kc_0
        exact L36 _ (0 : Int32) _ _ _ _ (Nat.lt_succ_self _) hG (by omega) (by omega) (lv_sub hl [1, 2, 3, 4, 0] rfl) hW
      · refine q_iconst (v := ((-1) : Int32)) hM dX12_still_26 (by decide) ?_
        exact hE _ _ _ _ _ _ hW.1 ⟨_, rfl, hW.2.1, hG, hW.2.2⟩ dX12_still_27

theorem dX12_questions_0 : decode cX12_questions 0 = .ok (.aload_n 0, 1) := by decide +kernel
theorem dX12_questions_1 : decode cX12_questions 1 = .ok (.iload_n 1, 1) := by decide +kernel
theorem dX12_questions_2 : decode cX12_questions 2 = .ok (.invokevirtual 563, 3) := by decide +kernel
theorem dX12_questions_5 : decode cX12_questions 5 = .ok (.ifCond .eq 13, 3) := by decide +kernel
theorem dX12_questions_8 : decode cX12_questions 8 = .ok (.iload_n 2, 1) := by decide +kernel
theorem dX12_questions_9 : decode cX12_questions 9 = .ok (.i2l, 1) := by decide +kernel
theorem dX12_questions_10 : decode cX12_questions 10 = .ok (.lconst 0, 1) := by decide +kernel
theorem dX12_questions_11 : decode cX12_questions 11 = .ok (.lconst 1, 1) := by decide +kernel
theorem dX12_questions_12 : decode cX12_questions 12 = .ok (.invokestatic 190, 3) := by decide +kernel
theorem dX12_questions_15 : decode cX12_questions 15 = .ok (.ifCond .ne 5, 3) := by decide +kernel
theorem dX12_questions_18 : decode cX12_questions 18 = .ok (.iconst (-1), 1) := by decide +kernel
theorem dX12_questions_19 : decode cX12_questions 19 = .ok (.ireturn, 1) := by decide +kernel
theorem dX12_questions_20 : decode cX12_questions 20 = .ok (.aload_n 0, 1) := by decide +kernel
theorem dX12_questions_21 : decode cX12_questions 21 = .ok (.invokevirtual 222, 3) := by decide +kernel
theorem dX12_questions_24 : decode cX12_questions 24 = .ok (.istore_n 3, 1) := by decide +kernel
theorem dX12_questions_25 : decode cX12_questions 25 = .ok (.iconst (-1), 1) := by decide +kernel
theorem dX12_questions_26 : decode cX12_questions 26 = .ok (.istore 4, 2) := by decide +kernel
theorem dX12_questions_28 : decode cX12_questions 28 = .ok (.iconst 0, 1) := by decide +kernel
theorem dX12_questions_29 : decode cX12_questions 29 = .ok (.istore 5, 2) := by decide +kernel
theorem dX12_questions_31 : decode cX12_questions 31 = .ok (.iload 5, 2) := by decide +kernel
theorem dX12_questions_33 : decode cX12_questions 33 = .ok (.iload_n 3, 1) := by decide +kernel
theorem dX12_questions_34 : decode cX12_questions 34 = .ok (.if_icmp .gt 51, 3) := by decide +kernel
theorem dX12_questions_37 : decode cX12_questions 37 = .ok (.iload 5, 2) := by decide +kernel
theorem dX12_questions_39 : decode cX12_questions 39 = .ok (.iload_n 3, 1) := by decide +kernel
theorem dX12_questions_40 : decode cX12_questions 40 = .ok (.iconst (-1), 1) := by decide +kernel
theorem dX12_questions_41 : decode cX12_questions 41 = .ok (.ixor, 1) := by decide +kernel
theorem dX12_questions_42 : decode cX12_questions 42 = .ok (.iand, 1) := by decide +kernel
theorem dX12_questions_43 : decode cX12_questions 43 = .ok (.ifCond .ne 36, 3) := by decide +kernel
theorem dX12_questions_46 : decode cX12_questions 46 = .ok (.iload 4, 2) := by decide +kernel
theorem dX12_questions_48 : decode cX12_questions 48 = .ok (.iconst (-1), 1) := by decide +kernel
theorem dX12_questions_49 : decode cX12_questions 49 = .ok (.if_icmp .eq 16, 3) := by decide +kernel
theorem dX12_questions_52 : decode cX12_questions 52 = .ok (.iload 5, 2) := by decide +kernel
theorem dX12_questions_54 : decode cX12_questions 54 = .ok (.invokestatic 215, 3) := by decide +kernel
theorem dX12_questions_57 : decode cX12_questions 57 = .ok (.iload 4, 2) := by decide +kernel
theorem dX12_questions_59 : decode cX12_questions 59 = .ok (.invokestatic 215, 3) := by decide +kernel
theorem dX12_questions_62 : decode cX12_questions 62 = .ok (.if_icmp .ge 17, 3) := by decide +kernel
theorem dX12_questions_65 : decode cX12_questions 65 = .ok (.aload_n 0, 1) := by decide +kernel
theorem dX12_questions_66 : decode cX12_questions 66 = .ok (.iload_n 1, 1) := by decide +kernel
theorem dX12_questions_67 : decode cX12_questions 67 = .ok (.iload 5, 2) := by decide +kernel
theorem dX12_questions_69 : decode cX12_questions 69 = .ok (.invokevirtual 566, 3) := by decide +kernel
theorem dX12_questions_72 : decode cX12_questions 72 = .ok (.ifCond .eq 7, 3) := by decide +kernel
theorem dX12_questions_75 : decode cX12_questions 75 = .ok (.iload 5, 2) := by decide +kernel
theorem dX12_questions_77 : decode cX12_questions 77 = .ok (.istore 4, 2) := by decide +kernel
theorem dX12_questions_79 : decode cX12_questions 79 = .ok (.iinc 5 1, 3) := by decide +kernel
theorem dX12_questions_82 : decode cX12_questions 82 = .ok (.goto (-51), 3) := by decide +kernel
theorem dX12_questions_85 : decode cX12_questions 85 = .ok (.iload 4, 2) := by decide +kernel
theorem dX12_questions_87 : decode cX12_questions 87 = .ok (.iconst (-1), 1) := by decide +kernel
theorem dX12_questions_88 : decode cX12_questions 88 = .ok (.if_icmp .ne 8, 3) := by decide +kernel
theorem dX12_questions_91 : decode cX12_questions 91 = .ok (.bipush (-2), 2) := by decide +kernel
theorem dX12_questions_93 : decode cX12_questions 93 = .ok (.goto 17, 3) := by decide +kernel
theorem dX12_questions_96 : decode cX12_questions 96 = .ok (.iload_n 2, 1) := by decide +kernel
theorem dX12_questions_97 : decode cX12_questions 97 = .ok (.ifCond .ne 11, 3) := by decide +kernel
theorem dX12_questions_100 : decode cX12_questions 100 = .ok (.iload 4, 2) := by decide +kernel
theorem dX12_questions_102 : decode cX12_questions 102 = .ok (.invokestatic 215, 3) := by decide +kernel
theorem dX12_questions_105 : decode cX12_questions 105 = .ok (.goto 5, 3) := by decide +kernel
theorem dX12_questions_108 : decode cX12_questions 108 = .ok (.iload 4, 2) := by decide +kernel
theorem dX12_questions_110 : decode cX12_questions 110 = .ok (.ireturn, 1) := by decide +kernel
theorem myX12_arePupils : MI yX12_arePupils cX12_arePupils 3 (some FieldType.boolean) 1 := ⟨kAW (v_7_0 (List.mem_of_getElem? (i := 13) rfl)) rfl, kAW (v_0_0 (List.mem_of_getElem? (i := 13) rfl)) rfl, kAW (v_7_0 (List.mem_of_getElem? (i := 12) rfl)) rfl, kAW (tp_t6 (List.mem_of_getElem? (i := 3) rfl)) rfl, by decide, by decide, by decide +kernel⟩
theorem myX12_areTold : MI yX12_areTold cX12_areTold 5 (some FieldType.boolean) 2 := ⟨kAW (v_7_1 (List.mem_of_getElem? (i := 2) rfl)) rfl, kAW (v_0_0 (List.mem_of_getElem? (i := 13) rfl)) rfl, kAW (v_7_1 (List.mem_of_getElem? (i := 1) rfl)) rfl, kAW (tp_t6 (List.mem_of_getElem? (i := 4) rfl)) rfl, by decide, by decide, by decide +kernel⟩
set_option maxRecDepth 100000 in
set_option maxHeartbeats 4000000 in
theorem p_X12_questions (l : Launch) (D : va_G) (cA : Nat → ClassId) (ad : Nat → Nat) (g0 : Nat → va_E) (a : Int32) (b : Int32)   (hSh : Shp ad cA g0) (hG : Rng g0) : CT l NN ad cA D yX12_questions cX12_questions 6 (some FieldType.int) (2, 47) [.ref (ad 129), .int a, .int b] g0 (fun v g' => ∃ (r : Int32), v = some (.int r) ∧ Shp ad cA g' ∧ Rng g' ∧ FR (fun i k => False) g0 g') := by
  refine q_enterI (by decide) (Nat.le_of_ble_eq_true rfl) rfl (fun K H locs ls _ _ hM hW0 hR hC hE hl => ?_)
  have hl : lv_has ls 6 [(0, .ref (ad 129)), (1, .int a), (2, .int b)] := hl
  have hW : WS ad cA (fun i k => False) g0 K g0 H locs := ⟨hW0, hSh, FR.rf⟩
  have := kc_0
  have := kc_1
  have := kc_m1
  have := kc_m2
  refine q_aload_n hM dX12_questions_0 (lv_at hl 0 rfl) ?_
  refine q_iload_n hM dX12_questions_1 (lv_at hl 1 rfl) ?_
  refine q_callV (As := [.int a]) (rest := []) hM hW.1 hR hC myX12_arePupils (kAW (v_7_0 (List.mem_of_getElem? (i := 10) rfl)) rfl) (rfl : vwCl[12]? = some (RX12, TX12, 86)) rfl lb_129.1 (shO hW.2.1 lb_129) (a_X12_arePupils _ _ cA ad g0 a hW.2.1 hG) ⟨by decide, by decide⟩ rfl rfl hl.1 (Nat.le_of_ble_eq_true rfl) dX12_questions_2 (fun v g7435 H locs hp hW1 => ?_)
  obtain ⟨r7434, rfl, hr7434, rfl⟩ := hp
  have hW : WS ad cA (fun i k => False) g0 K g0 H locs := ⟨hW1, hW.2.1, hW.2.2⟩
  refine q_if_eq (tgt := 18) hM dX12_questions_5 (by decide) (rfl : r7434.toInt = r7434.toInt) (fun h5 => ?_) (fun h5 => ?_)
  · refine q_iconst (v := ((-1) : Int32)) hM dX12_questions_18 (by decide) ?_
    exact hE _ _ _ _ _ _ hW.1 ⟨_, rfl, hW.2.1, hG, hW.2.2⟩ dX12_questions_19
  · refine q_iload_n hM dX12_questions_8 (lv_at hl 2 rfl) ?_
    refine q_i2l hM dX12_questions_9 ?_
    have := l_i2l b
    refine q_lconst (v := 0) hM dX12_questions_10 (by decide) ?_
    have := kl_0
    refine q_lconst (v := 1) hM dX12_questions_11 (by decide) ?_
    have := kl_1
    refine q_callS (As := [.long b.toInt64, .long (0 : Int64), .long (1 : Int64)]) (rest := []) hM hW.1 hR hC myX12_lies (kAW (v_5_4 (List.mem_of_getElem? (i := 14) rfl)) rfl) (c_X12_lies _ _ cA ad g0 b.toInt64 (0 : Int64) (1 : Int64) hW.2.1) ⟨by decide, by decide⟩ rfl rfl hl.1 (Nat.le_of_ble_eq_true rfl) dX12_questions_12 (fun v g7439 H locs hp hW1 => ?_)
    obtain ⟨r7438, rfl, hr7438, rfl⟩ := hp
    have hW : WS ad cA (fun i k => False) g0 K g0 H locs := ⟨hW1, hW.2.1, hW.2.2⟩
    refine q_if_ne (tgt := 20) hM dX12_questions_15 (by decide) (rfl : r7438.toInt = r7438.toInt) (fun h15 => ?_) (fun h15 => ?_)
    · refine q_aload_n hM dX12_questions_20 (lv_at hl 0 rfl) ?_
      refine q_callV (As := []) (rest := []) hM hW.1 hR hC myX12_toldFacts (kAW (v_5_7 (List.mem_of_getElem? (i := 13) rfl)) rfl) (rfl : vwCl[12]? = some (RX12, TX12, 86)) rfl lb_129.1 (shO hW.2.1 lb_129) (a_X12_toldFacts _ _ cA ad g0  hW.2.1 hG) ⟨by decide, by decide⟩ rfl rfl hl.1 (Nat.le_of_ble_eq_true rfl) dX12_questions_21 (fun v g7442 H locs hp hW1 => ?_)
      obtain ⟨r7441, rfl, hr7441, rfl⟩ := hp
      have hW : WS ad cA (fun i k => False) g0 K g0 H locs := ⟨hW1, hW.2.1, hW.2.2⟩
      refine q_istore_n (lv9 := [(3, .int r7441), (0, .ref (ad 129)), (1, .int a), (2, .int b)]) hM dX12_questions_24 hl (by decide) rfl (fun ls hl => ?_)
      refine q_iconst (v := ((-1) : Int32)) hM dX12_questions_25 (by decide) ?_
      refine q_istore (lv9 := [(4, .int ((-1) : Int32)), (3, .int r7441), (0, .ref (ad 129)), (1, .int a), (2, .int b)]) hM dX12_questions_26 hl (by decide) rfl (fun ls hl => ?_)
      refine q_iconst (v := (0 : Int32)) hM dX12_questions_28 (by decide) ?_
      refine q_istore (lv9 := [(5, .int (0 : Int32)), (4, .int ((-1) : Int32)), (3, .int r7441), (0, .ref (ad 129)), (1, .int a), (2, .int b)]) hM dX12_questions_29 hl (by decide) rfl (fun ls hl => ?_)
      have L31 : ∀ (fu31 : Nat) (w31_4 : Int32) (w31_5 : Int32) (g9 : Nat → va_E) (H : Heap) (locs : List Loc) (ls : Array Slot), (r7441.toInt - w31_5.toInt + 1).toNat < fu31 → (Rng g9) → (0 ≤ w31_5.toInt) → (-1 ≤ w31_4.toInt) → lv_has ls 6 [(0, .ref (ad 129)), (1, .int a), (2, .int b), (3, .int r7441), (4, .int w31_4), (5, .int w31_5)] → WS ad cA (fun i k => False) g0 K g9 H locs → XX K 0 0 H locs 31 ls [] := by
        intro fu31
        induction fu31 with
        | zero => intro w31_4 w31_5 g9 H locs ls h0; omega
        | succ fu31 ih31 =>
          intro w31_4 w31_5 g9 H locs ls hm31 i31_0 i31_1 i31_2 hl hW
          have hG := i31_0
          have := i_rng r7441
          refine q_iload hM dX12_questions_31 (lv_at hl 5 rfl) ?_
          refine q_iload_n hM dX12_questions_33 (lv_at hl 3 rfl) ?_
          refine q_icmp_gt (tgt := 85) hM dX12_questions_34 (by decide) (rfl : w31_5.toInt = w31_5.toInt) (rfl : r7441.toInt = r7441.toInt) (fun h34 => ?_) (fun h34 => ?_)
          · refine q_iload hM dX12_questions_85 (lv_at hl 4 rfl) ?_
            refine q_iconst (v := ((-1) : Int32)) hM dX12_questions_87 (by decide) ?_
            refine q_icmp_ne (tgt := 96) hM dX12_questions_88 (by decide) (rfl : w31_4.toInt = w31_4.toInt) (kc_m1 : ((-1) : Int32).toInt = (-1)) (fun h88 => ?_) (fun h88 => ?_)
            · refine q_iload_n hM dX12_questions_96 (lv_at hl 2 rfl) ?_
              refine q_if_ne (tgt := 108) hM dX12_questions_97 (by decide) (rfl : b.toInt = b.toInt) (fun h97 => ?_) (fun h97 => ?_)
              · refine q_iload hM dX12_questions_108 (lv_at hl 4 rfl) ?_
                exact hE _ _ _ _ _ _ hW.1 ⟨_, rfl, hW.2.1, hG, hW.2.2⟩ dX12_questions_110
              · refine q_iload hM dX12_questions_100 (lv_at hl 4 rfl) ?_
                refine q_callS (As := [.int w31_4]) (rest := []) hM hW.1 hR hC myX12_sizeOf (kAW (v_5_6 (List.mem_of_getElem? (i := 14) rfl)) rfl) (a_X12_sizeOf _ _ cA ad g9 w31_4 hW.2.1 hG (by  omega)) ⟨by decide, by decide⟩ rfl rfl hl.1 (Nat.le_of_ble_eq_true rfl) dX12_questions_102 (fun v g7449 H locs hp hW1 => ?_)
                obtain ⟨r7448, rfl, hr7448, rfl⟩ := hp
                have hW : WS ad cA (fun i k => False) g0 K g9 H locs := ⟨hW1, hW.2.1, hW.2.2⟩
                refine q_goto (tgt := 110) hM dX12_questions_105 (by decide) ?_
                exact hE _ _ _ _ _ _ hW.1 ⟨_, rfl, hW.2.1, hG, hW.2.2⟩ dX12_questions_110
            · refine q_bipush (v := ((-2) : Int32)) hM dX12_questions_91 (by decide) ?_
              refine q_goto (tgt := 110) hM dX12_questions_93 (by decide) ?_
              exact hE _ _ _ _ _ _ hW.1 ⟨_, rfl, hW.2.1, hG, hW.2.2⟩ dX12_questions_110
          · refine q_iload hM dX12_questions_37 (lv_at hl 5 rfl) ?_
            refine q_iload_n hM dX12_questions_39 (lv_at hl 3 rfl) ?_
            refine q_iconst (v := ((-1) : Int32)) hM dX12_questions_40 (by decide) ?_
            refine q_ixor hM dX12_questions_41 (fun z7452 hz7452 => ?_)
            refine q_iand hM dX12_questions_42 (fun z7453 hz7453 => ?_)
            first | have az7453 := i_andk hz7453 (by omega) | have az7453 := i_andk (i_comm hz7453) (by omega) | skip
            refine q_if_ne (tgt := 79) hM dX12_questions_43 (by decide) (rfl : z7453.toInt = z7453.toInt) (fun h43 => ?_) (fun h43 => ?_)
            · refine q_iinc (lv9 := fun z7455 => [(5, .int z7455), (0, .ref (ad 129)), (1, .int a), (2, .int b), (3, .int r7441), (4, .int w31_4)]) hM dX12_questions_79 hl (kq := 5) rfl (by decide) (fun _ => rfl) (fun z7455 ls hz7455 hl => ?_)
              first | have tz7455 := i_addT hz7455 (rfl : w31_5.toInt = w31_5.toInt) (kc_1 : (Int32.ofInt 1).toInt = 1) (by omega) (by omega) | skip
              refine q_goto (tgt := 31) hM dX12_questions_82 (by decide) ?_
              exact ih31 w31_4 z7455 _ _ _ _ (by omega) hG (by omega) (by omega) (lv_sub hl [1, 2, 3, 4, 5, 0] rfl) hW
            · refine q_iload hM dX12_questions_46 (lv_at hl 4 rfl) ?_
              refine q_iconst (v := ((-1) : Int32)) hM dX12_questions_48 (by decide) ?_
              refine q_icmp_eq (tgt := 65) hM dX12_questions_49 (by decide) (rfl : w31_4.toInt = w31_4.toInt) (kc_m1 : ((-1) : Int32).toInt = (-1)) (fun h49 => ?_) (fun h49 => ?_)
              · refine q_aload_n hM dX12_questions_65 (lv_at hl 0 rfl) ?_
                refine q_iload_n hM dX12_questions_66 (lv_at hl 1 rfl) ?_
                refine q_iload hM dX12_questions_67 (lv_at hl 5 rfl) ?_
                refine q_callV (As := [.int a, .int w31_5]) (rest := []) hM hW.1 hR hC myX12_areTold (kAW (v_7_0 (List.mem_of_getElem? (i := 15) rfl)) rfl) (rfl : vwCl[12]? = some (RX12, TX12, 86)) rfl lb_129.1 (shO hW.2.1 lb_129) (a_X12_areTold _ _ cA ad g9 a w31_5 hW.2.1 hG) ⟨by decide, by decide⟩ rfl rfl hl.1 (Nat.le_of_ble_eq_true rfl) dX12_questions_69 (fun v g7459 H locs hp hW1 => ?_)
                obtain ⟨r7458, rfl, hr7458, rfl⟩ := hp
                have hW : WS ad cA (fun i k => False) g0 K g9 H locs := ⟨hW1, hW.2.1, hW.2.2⟩
                refine q_if_eq (tgt := 79) hM dX12_questions_72 (by decide) (rfl : r7458.toInt = r7458.toInt) (fun h72 => ?_) (fun h72 => ?_)
                · refine q_iinc (lv9 := fun z7461 => [(5, .int z7461), (0, .ref (ad 129)), (1, .int a), (2, .int b), (3, .int r7441), (4, .int w31_4)]) hM dX12_questions_79 hl (kq := 5) rfl (by decide) (fun _ => rfl) (fun z7461 ls hz7461 hl => ?_)
                  first | have tz7461 := i_addT hz7461 (rfl : w31_5.toInt = w31_5.toInt) (kc_1 : (Int32.ofInt 1).toInt = 1) (by omega) (by omega) | skip
                  refine q_goto (tgt := 31) hM dX12_questions_82 (by decide) ?_
                  exact ih31 w31_4 z7461 _ _ _ _ (by omega) hG (by omega) (by omega) (lv_sub hl [1, 2, 3, 4, 5, 0] rfl) hW
                · refine q_iload hM dX12_questions_75 (lv_at hl 5 rfl) ?_
                  refine q_istore (lv9 := [(4, .int w31_5), (0, .ref (ad 129)), (1, .int a), (2, .int b), (3, .int r7441), (5, .int w31_5)]) hM dX12_questions_77 hl (by decide) rfl (fun ls hl => ?_)
                  refine q_iinc (lv9 := fun z7463 => [(5, .int z7463), (4, .int w31_5), (0, .ref (ad 129)), (1, .int a), (2, .int b), (3, .int r7441)]) hM dX12_questions_79 hl (kq := 5) rfl (by decide) (fun _ => rfl) (fun z7463 ls hz7463 hl => ?_)
                  first | have tz7463 := i_addT hz7463 (rfl : w31_5.toInt = w31_5.toInt) (kc_1 : (Int32.ofInt 1).toInt = 1) (by omega) (by omega) | skip
                  refine q_goto (tgt := 31) hM dX12_questions_82 (by decide) ?_
                  exact ih31 w31_5 z7463 _ _ _ _ (by omega) hG (by omega) (by omega) (lv_sub hl [2, 3, 4, 5, 1, 0] rfl) hW
              · refine q_iload hM dX12_questions_52 (lv_at hl 5 rfl) ?_
                refine q_callS (As := [.int w31_5]) (rest := []) hM hW.1 hR hC myX12_sizeOf (kAW (v_5_6 (List.mem_of_getElem? (i := 14) rfl)) rfl) (a_X12_sizeOf _ _ cA ad g9 w31_5 hW.2.1 hG (by  omega)) ⟨by decide, by decide⟩ rfl rfl hl.1 (Nat.le_of_ble_eq_true rfl) dX12_questions_54 (fun v g7466 H locs hp hW1 => ?_)
                obtain ⟨r7465, rfl, hr7465, rfl⟩ := hp
                have hW : WS ad cA (fun i k => False) g0 K g9 H locs := ⟨hW1, hW.2.1, hW.2.2⟩
                refine q_iload hM dX12_questions_57 (lv_at hl 4 rfl) ?_
                refine q_callS (As := [.int w31_4]) (rest := [.int r7465]) hM hW.1 hR hC myX12_sizeOf (kAW (v_5_6 (List.mem_of_getElem? (i := 14) rfl)) rfl) (a_X12_sizeOf _ _ cA ad g9 w31_4 hW.2.1 hG (by  omega)) ⟨by decide, by decide⟩ rfl rfl hl.1 (Nat.le_of_ble_eq_true rfl) dX12_questions_59 (fun v g7468 H locs hp hW1 => ?_)
                obtain ⟨r7467, rfl, hr7467, rfl⟩ := hp
                have hW : WS ad cA (fun i k => False) g0 K g9 H locs := ⟨hW1, hW.2.1, hW.2.2⟩
                refine q_icmp_ge (tgt := 79) hM dX12_questions_62 (by decide) (rfl : r7465.toInt = r7465.toInt) (rfl : r7467.toInt = r7467.toInt) (fun h62 => ?_) (fun h62 => ?_)
                · refine q_iinc (lv9 := fun z7470 => [(5, .int z7470), (0, .ref (ad 129)), (1, .int a), (2, .int b), (3, .int r7441), (4, .int w31_4)]) hM dX12_questions_79 hl (kq := 5) rfl (by decide) (fun _ => rfl) (fun z7470 ls hz7470 hl => ?_)
                  first | have tz7470 := i_addT hz7470 (rfl : w31_5.toInt = w31_5.toInt) (kc_1 : (Int32.ofInt 1).toInt = 1) (by omega) (by omega) | skip
                  refine q_goto (tgt := 31) hM dX12_questions_82 (by decide) ?_
                  exact ih31 w31_4 z7470 _ _ _ _ (by omega) hG (by omega) (by omega) (lv_sub hl [1, 2, 3, 4, 5, 0] rfl) hW
                · refine q_aload_n hM dX12_questions_65 (lv_at hl 0 rfl) ?_
                  refine q_iload_n hM dX12_questions_66 (lv_at hl 1 rfl) ?_
                  refine q_iload hM dX12_questions_67 (lv_at hl 5 rfl) ?_
                  refine q_callV (As := [.int a, .int w31_5]) (rest := []) hM hW.1 hR hC myX12_areTold (kAW (v_7_0 (List.mem_of_getElem? (i := 15) rfl)) rfl) (rfl : vwCl[12]? = some (RX12, TX12, 86)) rfl lb_129.1 (shO hW.2.1 lb_129) (a_X12_areTold _ _ cA ad g9 a w31_5 hW.2.1 hG) ⟨by decide, by decide⟩ rfl rfl hl.1 (Nat.le_of_ble_eq_true rfl) dX12_questions_69 (fun v g7473 H locs hp hW1 => ?_)
                  obtain ⟨r7472, rfl, hr7472, rfl⟩ := hp
                  have hW : WS ad cA (fun i k => False) g0 K g9 H locs := ⟨hW1, hW.2.1, hW.2.2⟩
                  refine q_if_eq (tgt := 79) hM dX12_questions_72 (by decide) (rfl : r7472.toInt = r7472.toInt) (fun h72 => ?_) (fun h72 => ?_)
                  · refine q_iinc (lv9 := fun z7475 => [(5, .int z7475), (0, .ref (ad 129)), (1, .int a), (2, .int b), (3, .int r7441), (4, .int w31_4)]) hM dX12_questions_79 hl (kq := 5) rfl (by decide) (fun _ => rfl) (fun z7475 ls hz7475 hl => ?_)
                    first | have tz7475 := i_addT hz7475 (rfl : w31_5.toInt = w31_5.toInt) (kc_1 : (Int32.ofInt 1).toInt = 1) (by omega) (by omega) | skip
                    refine q_goto (tgt := 31) hM dX12_questions_82 (by decide) ?_
                    exact ih31 w31_4 z7475 _ _ _ _ (by omega) hG (by omega) (by omega) (lv_sub hl [1, 2, 3, 4, 5, 0] rfl) hW
                  · refine q_iload hM dX12_questions_75 (lv_at hl 5 rfl) ?_
                    refine q_istore (lv9 := [(4, .int w31_5), (0, .ref (ad 129)), (1, .int a), (2, .int b), (3, .int r7441), (5, .int w31_5)]) hM dX12_questions_77 hl (by decide) rfl (fun ls hl => ?_)
                    refine q_iinc (lv9 := fun z7477 => [(5, .int z7477), (4, .int w31_5), (0, .ref (ad 129)), (1, .int a), (2, .int b), (3, .int r7441)]) hM dX12_questions_79 hl (kq := 5) rfl (by decide) (fun _ => rfl) (fun z7477 ls hz7477 hl => ?_)
                    first | have tz7477 := i_addT hz7477 (rfl : w31_5.toInt = w31_5.toInt) (kc_1 : (Int32.ofInt 1).toInt = 1) (by omega) (by omega) | skip
                    refine q_goto (tgt := 31) hM dX12_questions_82 (by decide) ?_
                    exact ih31 w31_5 z7477 _ _ _ _ (by omega) hG (by omega) (by omega) (lv_sub hl [2, 3, 4, 5, 1, 0] rfl) hW
      have := kc_m1
      have := kc_0
      exact L31 _ ((-1) : Int32) (0 : Int32) _ _ _ _ (Nat.lt_succ_self _) hG (by omega) (by omega) (lv_sub hl [3, 4, 5, 2, 1, 0] rfl) hW
    · refine q_iconst (v := ((-1) : Int32)) hM dX12_questions_18 (by decide) ?_
      exact hE _ _ _ _ _ _ hW.1 ⟨_, rfl, hW.2.1, hG, hW.2.2⟩ dX12_questions_19

theorem dX12_parted_0 : decode cX12_parted 0 = .ok (.aload_n 0, 1) := by decide +kernel
theorem dX12_parted_1 : decode cX12_parted 1 = .ok (.iload_n 1, 1) := by decide +kernel
theorem dX12_parted_2 : decode cX12_parted 2 = .ok (.invokevirtual 563, 3) := by decide +kernel
theorem dX12_parted_5 : decode cX12_parted 5 = .ok (.ifCond .eq 13, 3) := by decide +kernel
theorem dX12_parted_8 : decode cX12_parted 8 = .ok (.iload_n 2, 1) := by decide +kernel
theorem dX12_parted_9 : decode cX12_parted 9 = .ok (.i2l, 1) := by decide +kernel
theorem dX12_parted_10 : decode cX12_parted 10 = .ok (.lconst 0, 1) := by decide +kernel
theorem dX12_parted_11 : decode cX12_parted 11 = .ok (.lconst 1, 1) := by decide +kernel
theorem dX12_parted_12 : decode cX12_parted 12 = .ok (.invokestatic 190, 3) := by decide +kernel
theorem dX12_parted_15 : decode cX12_parted 15 = .ok (.ifCond .ne 5, 3) := by decide +kernel
theorem dX12_parted_18 : decode cX12_parted 18 = .ok (.iconst (-1), 1) := by decide +kernel
theorem dX12_parted_19 : decode cX12_parted 19 = .ok (.ireturn, 1) := by decide +kernel
theorem dX12_parted_20 : decode cX12_parted 20 = .ok (.iload_n 1, 1) := by decide +kernel
theorem dX12_parted_21 : decode cX12_parted 21 = .ok (.iload_n 1, 1) := by decide +kernel
theorem dX12_parted_22 : decode cX12_parted 22 = .ok (.iconst 1, 1) := by decide +kernel
theorem dX12_parted_23 : decode cX12_parted 23 = .ok (.isub, 1) := by decide +kernel
theorem dX12_parted_24 : decode cX12_parted 24 = .ok (.iand, 1) := by decide +kernel
theorem dX12_parted_25 : decode cX12_parted 25 = .ok (.istore_n 3, 1) := by decide +kernel
theorem dX12_parted_26 : decode cX12_parted 26 = .ok (.iconst 0, 1) := by decide +kernel
theorem dX12_parted_27 : decode cX12_parted 27 = .ok (.istore 4, 2) := by decide +kernel
theorem dX12_parted_29 : decode cX12_parted 29 = .ok (.ldc_w 569, 3) := by decide +kernel
theorem dX12_parted_32 : decode cX12_parted 32 = .ok (.istore 5, 2) := by decide +kernel
theorem dX12_parted_34 : decode cX12_parted 34 = .ok (.iconst 1, 1) := by decide +kernel
theorem dX12_parted_35 : decode cX12_parted 35 = .ok (.istore 6, 2) := by decide +kernel
theorem dX12_parted_37 : decode cX12_parted 37 = .ok (.iload 6, 2) := by decide +kernel
theorem dX12_parted_39 : decode cX12_parted 39 = .ok (.iload_n 3, 1) := by decide +kernel
theorem dX12_parted_40 : decode cX12_parted 40 = .ok (.if_icmp .gt 58, 3) := by decide +kernel
theorem dX12_parted_43 : decode cX12_parted 43 = .ok (.iload 6, 2) := by decide +kernel
theorem dX12_parted_45 : decode cX12_parted 45 = .ok (.iload_n 3, 1) := by decide +kernel
theorem dX12_parted_46 : decode cX12_parted 46 = .ok (.iconst (-1), 1) := by decide +kernel
theorem dX12_parted_47 : decode cX12_parted 47 = .ok (.ixor, 1) := by decide +kernel
theorem dX12_parted_48 : decode cX12_parted 48 = .ok (.iand, 1) := by decide +kernel
theorem dX12_parted_49 : decode cX12_parted 49 = .ok (.ifCond .eq 6, 3) := by decide +kernel
theorem dX12_parted_52 : decode cX12_parted 52 = .ok (.goto 40, 3) := by decide +kernel
theorem dX12_parted_55 : decode cX12_parted 55 = .ok (.aload_n 0, 1) := by decide +kernel
theorem dX12_parted_56 : decode cX12_parted 56 = .ok (.iload 6, 2) := by decide +kernel
theorem dX12_parted_58 : decode cX12_parted 58 = .ok (.invokevirtual 570, 3) := by decide +kernel
theorem dX12_parted_61 : decode cX12_parted 61 = .ok (.aload_n 0, 1) := by decide +kernel
theorem dX12_parted_62 : decode cX12_parted 62 = .ok (.iload_n 1, 1) := by decide +kernel
theorem dX12_parted_63 : decode cX12_parted 63 = .ok (.iload 6, 2) := by decide +kernel
theorem dX12_parted_65 : decode cX12_parted 65 = .ok (.iconst (-1), 1) := by decide +kernel
theorem dX12_parted_66 : decode cX12_parted 66 = .ok (.ixor, 1) := by decide +kernel
theorem dX12_parted_67 : decode cX12_parted 67 = .ok (.iand, 1) := by decide +kernel
theorem dX12_parted_68 : decode cX12_parted 68 = .ok (.invokevirtual 570, 3) := by decide +kernel
theorem dX12_parted_71 : decode cX12_parted 71 = .ok (.iadd, 1) := by decide +kernel
theorem dX12_parted_72 : decode cX12_parted 72 = .ok (.istore 7, 2) := by decide +kernel
theorem dX12_parted_74 : decode cX12_parted 74 = .ok (.iload 7, 2) := by decide +kernel
theorem dX12_parted_76 : decode cX12_parted 76 = .ok (.iload 5, 2) := by decide +kernel
theorem dX12_parted_78 : decode cX12_parted 78 = .ok (.if_icmp .lt 6, 3) := by decide +kernel
theorem dX12_parted_81 : decode cX12_parted 81 = .ok (.goto 11, 3) := by decide +kernel
theorem dX12_parted_84 : decode cX12_parted 84 = .ok (.iload 6, 2) := by decide +kernel
theorem dX12_parted_86 : decode cX12_parted 86 = .ok (.istore 4, 2) := by decide +kernel
theorem dX12_parted_88 : decode cX12_parted 88 = .ok (.iload 7, 2) := by decide +kernel
theorem dX12_parted_90 : decode cX12_parted 90 = .ok (.istore 5, 2) := by decide +kernel
theorem dX12_parted_92 : decode cX12_parted 92 = .ok (.iinc 6 1, 3) := by decide +kernel
theorem dX12_parted_95 : decode cX12_parted 95 = .ok (.goto (-58), 3) := by decide +kernel
theorem dX12_parted_98 : decode cX12_parted 98 = .ok (.iload_n 2, 1) := by decide +kernel
theorem dX12_parted_99 : decode cX12_parted 99 = .ok (.ifCond .ne 8, 3) := by decide +kernel
theorem dX12_parted_102 : decode cX12_parted 102 = .ok (.iload 5, 2) := by decide +kernel
theorem dX12_parted_104 : decode cX12_parted 104 = .ok (.goto 5, 3) := by decide +kernel
theorem dX12_parted_107 : decode cX12_parted 107 = .ok (.iload 4, 2) := by decide +kernel
theorem dX12_parted_109 : decode cX12_parted 109 = .ok (.ireturn, 1) := by decide +kernel
theorem myX12_remindedIn : MI yX12_remindedIn cX12_remindedIn 5 (some FieldType.int) 1 := ⟨kAW (v_7_1 (List.mem_of_getElem? (i := 15) rfl)) rfl, kAW (v_0_0 (List.mem_of_getElem? (i := 13) rfl)) rfl, kAW (v_7_1 (List.mem_of_getElem? (i := 14) rfl)) rfl, kAW (tp_t6 (List.mem_of_getElem? (i := 5) rfl)) rfl, by decide, by decide, by decide +kernel⟩
set_option maxRecDepth 100000 in
set_option maxHeartbeats 4000000 in
theorem p_X12_parted (l : Launch) (D : va_G) (cA : Nat → ClassId) (ad : Nat → Nat) (g0 : Nat → va_E) (a : Int32) (b : Int32)   (hSh : Shp ad cA g0) (hG : Rng g0) : CT l NN ad cA D yX12_parted cX12_parted 8 (some FieldType.int) (2, 47) [.ref (ad 129), .int a, .int b] g0 (fun v g' => ∃ (r : Int32), v = some (.int r) ∧ Shp ad cA g' ∧ Rng g' ∧ FR (fun i k => False) g0 g') := by
  refine q_enterI (by decide) (Nat.le_of_ble_eq_true rfl) rfl (fun K H locs ls _ _ hM hW0 hR hC hE hl => ?_)
  have hl : lv_has ls 8 [(0, .ref (ad 129)), (1, .int a), (2, .int b)] := hl
  have hW : WS ad cA (fun i k => False) g0 K g0 H locs := ⟨hW0, hSh, FR.rf⟩
  have := kc_0
  have := kc_1
  have := kc_m1
  have := kc_m2
  refine q_aload_n hM dX12_parted_0 (lv_at hl 0 rfl) ?_
  refine q_iload_n hM dX12_parted_1 (lv_at hl 1 rfl) ?_
  refine q_callV (As := [.int a]) (rest := []) hM hW.1 hR hC myX12_arePupils (kAW (v_7_0 (List.mem_of_getElem? (i := 10) rfl)) rfl) (rfl : vwCl[12]? = some (RX12, TX12, 86)) rfl lb_129.1 (shO hW.2.1 lb_129) (a_X12_arePupils _ _ cA ad g0 a hW.2.1 hG) ⟨by decide, by decide⟩ rfl rfl hl.1 (Nat.le_of_ble_eq_true rfl) dX12_parted_2 (fun v g7480 H locs hp hW1 => ?_)
  obtain ⟨r7479, rfl, hr7479, rfl⟩ := hp
  have hW : WS ad cA (fun i k => False) g0 K g0 H locs := ⟨hW1, hW.2.1, hW.2.2⟩
  refine q_if_eq (tgt := 18) hM dX12_parted_5 (by decide) (rfl : r7479.toInt = r7479.toInt) (fun h5 => ?_) (fun h5 => ?_)
  · refine q_iconst (v := ((-1) : Int32)) hM dX12_parted_18 (by decide) ?_
    exact hE _ _ _ _ _ _ hW.1 ⟨_, rfl, hW.2.1, hG, hW.2.2⟩ dX12_parted_19
  · refine q_iload_n hM dX12_parted_8 (lv_at hl 2 rfl) ?_
    refine q_i2l hM dX12_parted_9 ?_
    have := l_i2l b
    refine q_lconst (v := 0) hM dX12_parted_10 (by decide) ?_
    have := kl_0
    refine q_lconst (v := 1) hM dX12_parted_11 (by decide) ?_
    have := kl_1
    refine q_callS (As := [.long b.toInt64, .long (0 : Int64), .long (1 : Int64)]) (rest := []) hM hW.1 hR hC myX12_lies (kAW (v_5_4 (List.mem_of_getElem? (i := 14) rfl)) rfl) (c_X12_lies _ _ cA ad g0 b.toInt64 (0 : Int64) (1 : Int64) hW.2.1) ⟨by decide, by decide⟩ rfl rfl hl.1 (Nat.le_of_ble_eq_true rfl) dX12_parted_12 (fun v g7484 H locs hp hW1 => ?_)
    obtain ⟨r7483, rfl, hr7483, rfl⟩ := hp
    have hW : WS ad cA (fun i k => False) g0 K g0 H locs := ⟨hW1, hW.2.1, hW.2.2⟩
    refine q_if_ne (tgt := 20) hM dX12_parted_15 (by decide) (rfl : r7483.toInt = r7483.toInt) (fun h15 => ?_) (fun h15 => ?_)
    · refine q_iload_n hM dX12_parted_20 (lv_at hl 1 rfl) ?_
      refine q_iload_n hM dX12_parted_21 (lv_at hl 1 rfl) ?_
      refine q_iconst (v := (1 : Int32)) hM dX12_parted_22 (by decide) ?_
      refine q_isub hM dX12_parted_23 (fun z7486 hz7486 => ?_)
      first | have tz7486 := i_subT hz7486 (rfl : a.toInt = a.toInt) (kc_1 : (1 : Int32).toInt = 1) (by omega) (by omega) | skip
      refine q_iand hM dX12_parted_24 (fun z7487 hz7487 => ?_)
      first | have az7487 := i_andk hz7487 (by omega) | have az7487 := i_andk (i_comm hz7487) (by omega) | skip
      refine q_istore_n (lv9 := [(3, .int z7487), (0, .ref (ad 129)), (1, .int a), (2, .int b)]) hM dX12_parted_25 hl (by decide) rfl (fun ls hl => ?_)
      refine q_iconst (v := (0 : Int32)) hM dX12_parted_26 (by decide) ?_
      refine q_istore (lv9 := [(4, .int (0 : Int32)), (3, .int z7487), (0, .ref (ad 129)), (1, .int a), (2, .int b)]) hM dX12_parted_27 hl (by decide) rfl (fun ls hl => ?_)
      refine q_ldcw (v := (1000000000 : Int32)) hM (kAW (v_7_1 (List.mem_of_getElem? (i := 11) rfl)) rfl) dX12_parted_29 ?_
      refine q_istore (lv9 := [(5, .int (1000000000 : Int32)), (4, .int (0 : Int32)), (3, .int z7487), (0, .ref (ad 129)), (1, .int a), (2, .int b)]) hM dX12_parted_32 hl (by decide) rfl (fun ls hl => ?_)
      refine q_iconst (v := (1 : Int32)) hM dX12_parted_34 (by decide) ?_
      refine q_istore (lv9 := [(6, .int (1 : Int32)), (5, .int (1000000000 : Int32)), (4, .int (0 : Int32)), (3, .int z7487), (0, .ref (ad 129)), (1, .int a), (2, .int b)]) hM dX12_parted_35 hl (by decide) rfl (fun ls hl => ?_)
      have L37 : ∀ (fu37 : Nat) (w37_4 : Int32) (w37_5 : Int32) (w37_6 : Int32) (g9 : Nat → va_E) (H : Heap) (locs : List Loc) (ls : Array Slot), (z7487.toInt - w37_6.toInt + 1).toNat < fu37 → (Rng g9) → (1 ≤ w37_6.toInt) → lv_has ls 8 [(0, .ref (ad 129)), (1, .int a), (2, .int b), (3, .int z7487), (4, .int w37_4), (5, .int w37_5), (6, .int w37_6)] → WS ad cA (fun i k => False) g0 K g9 H locs → XX K 0 0 H locs 37 ls [] := by
        intro fu37
        induction fu37 with
        | zero => intro w37_4 w37_5 w37_6 g9 H locs ls h0; omega
        | succ fu37 ih37 =>
          intro w37_4 w37_5 w37_6 g9 H locs ls hm37 i37_0 i37_1 hl hW
          have hG := i37_0
          have := i_rng z7487
          refine q_iload hM dX12_parted_37 (lv_at hl 6 rfl) ?_
          refine q_iload_n hM dX12_parted_39 (lv_at hl 3 rfl) ?_
          refine q_icmp_gt (tgt := 98) hM dX12_parted_40 (by decide) (rfl : w37_6.toInt = w37_6.toInt) (rfl : z7487.toInt = z7487.toInt) (fun h40 => ?_) (fun h40 => ?_)
          · refine q_iload_n hM dX12_parted_98 (lv_at hl 2 rfl) ?_
            refine q_if_ne (tgt := 107) hM dX12_parted_99 (by decide) (rfl : b.toInt = b.toInt) (fun h99 => ?_) (fun h99 => ?_)
            · refine q_iload hM dX12_parted_107 (lv_at hl 4 rfl) ?_
              exact hE _ _ _ _ _ _ hW.1 ⟨_, rfl, hW.2.1, hG, hW.2.2⟩ dX12_parted_109
            · refine q_iload hM dX12_parted_102 (lv_at hl 5 rfl) ?_
              refine q_goto (tgt := 109) hM dX12_parted_104 (by decide) ?_
              exact hE _ _ _ _ _ _ hW.1 ⟨_, rfl, hW.2.1, hG, hW.2.2⟩ dX12_parted_109
          · refine q_iload hM dX12_parted_43 (lv_at hl 6 rfl) ?_
            refine q_iload_n hM dX12_parted_45 (lv_at hl 3 rfl) ?_
            refine q_iconst (v := ((-1) : Int32)) hM dX12_parted_46 (by decide) ?_
            refine q_ixor hM dX12_parted_47 (fun z7493 hz7493 => ?_)
            refine q_iand hM dX12_parted_48 (fun z7494 hz7494 => ?_)
            first | have az7494 := i_andk hz7494 (by omega) | have az7494 := i_andk (i_comm hz7494) (by omega) | skip
            refine q_if_eq (tgt := 55) hM dX12_parted_49 (by decide) (rfl : z7494.toInt = z7494.toInt) (fun h49 => ?_) (fun h49 => ?_)
            · refine q_aload_n hM dX12_parted_55 (lv_at hl 0 rfl) ?_
              refine q_iload hM dX12_parted_56 (lv_at hl 6 rfl) ?_
              refine q_callV (As := [.int w37_6]) (rest := []) hM hW.1 hR hC myX12_remindedIn (kAW (v_7_1 (List.mem_of_getElem? (i := 12) rfl)) rfl) (rfl : vwCl[12]? = some (RX12, TX12, 86)) rfl lb_129.1 (shO hW.2.1 lb_129) (a_X12_remindedIn _ _ cA ad g9 w37_6 hW.2.1 hG) ⟨by decide, by decide⟩ rfl rfl hl.1 (Nat.le_of_ble_eq_true rfl) dX12_parted_58 (fun v g7497 H locs hp hW1 => ?_)
              obtain ⟨r7496, rfl, hr7496, rfl⟩ := hp
              have hW : WS ad cA (fun i k => False) g0 K g9 H locs := ⟨hW1, hW.2.1, hW.2.2⟩
              refine q_aload_n hM dX12_parted_61 (lv_at hl 0 rfl) ?_
              refine q_iload_n hM dX12_parted_62 (lv_at hl 1 rfl) ?_
              refine q_iload hM dX12_parted_63 (lv_at hl 6 rfl) ?_
              refine q_iconst (v := ((-1) : Int32)) hM dX12_parted_65 (by decide) ?_
              refine q_ixor hM dX12_parted_66 (fun z7498 hz7498 => ?_)
              refine q_iand hM dX12_parted_67 (fun z7499 hz7499 => ?_)
              first | have az7499 := i_andk hz7499 (by omega) | have az7499 := i_andk (i_comm hz7499) (by omega) | skip
              refine q_callV (As := [.int z7499]) (rest := [.int r7496]) hM hW.1 hR hC myX12_remindedIn (kAW (v_7_1 (List.mem_of_getElem? (i := 12) rfl)) rfl) (rfl : vwCl[12]? = some (RX12, TX12, 86)) rfl lb_129.1 (shO hW.2.1 lb_129) (a_X12_remindedIn _ _ cA ad g9 z7499 hW.2.1 hG) ⟨by decide, by decide⟩ rfl rfl hl.1 (Nat.le_of_ble_eq_true rfl) dX12_parted_68 (fun v g7501 H locs hp hW1 => ?_)
              obtain ⟨r7500, rfl, hr7500, rfl⟩ := hp
              have hW : WS ad cA (fun i k => False) g0 K g9 H locs := ⟨hW1, hW.2.1, hW.2.2⟩
              refine q_iadd hM dX12_parted_71 (fun z7502 hz7502 => ?_)
              first | have tz7502 := i_addT hz7502 (rfl : r7496.toInt = r7496.toInt) (rfl : r7500.toInt = r7500.toInt) (by omega) (by omega) | skip
              refine q_istore (lv9 := [(7, .int z7502), (0, .ref (ad 129)), (1, .int a), (2, .int b), (3, .int z7487), (4, .int w37_4), (5, .int w37_5), (6, .int w37_6)]) hM dX12_parted_72 hl (by decide) rfl (fun ls hl => ?_)
              refine q_iload hM dX12_parted_74 (lv_at hl 0 rfl) ?_
              refine q_iload hM dX12_parted_76 (lv_at hl 6 rfl) ?_
              refine q_icmp_lt (tgt := 84) hM dX12_parted_78 (by decide) (rfl : z7502.toInt = z7502.toInt) (rfl : w37_5.toInt = w37_5.toInt) (fun h78 => ?_) (fun h78 => ?_)
              · refine q_iload hM dX12_parted_84 (lv_at hl 7 rfl) ?_
                refine q_istore (lv9 := [(4, .int w37_6), (7, .int z7502), (0, .ref (ad 129)), (1, .int a), (2, .int b), (3, .int z7487), (5, .int w37_5), (6, .int w37_6)]) hM dX12_parted_86 hl (by decide) rfl (fun ls hl => ?_)
                refine q_iload hM dX12_parted_88 (lv_at hl 1 rfl) ?_
                refine q_istore (lv9 := [(5, .int z7502), (4, .int w37_6), (7, .int z7502), (0, .ref (ad 129)), (1, .int a), (2, .int b), (3, .int z7487), (6, .int w37_6)]) hM dX12_parted_90 hl (by decide) rfl (fun ls hl => ?_)
                refine q_iinc (lv9 := fun z7504 => [(6, .int z7504), (5, .int z7502), (4, .int w37_6), (7, .int z7502), (0, .ref (ad 129)), (1, .int a), (2, .int b), (3, .int z7487)]) hM dX12_parted_92 hl (kq := 7) rfl (by decide) (fun _ => rfl) (fun z7504 ls hz7504 hl => ?_)
                first | have tz7504 := i_addT hz7504 (rfl : w37_6.toInt = w37_6.toInt) (kc_1 : (Int32.ofInt 1).toInt = 1) (by omega) (by omega) | skip
                refine q_goto (tgt := 37) hM dX12_parted_95 (by decide) ?_
                exact ih37 w37_6 z7502 z7504 _ _ _ _ (by omega) hG (by omega) (lv_sub hl [4, 5, 6, 7, 2, 1, 0] rfl) hW
              · refine q_goto (tgt := 92) hM dX12_parted_81 (by decide) ?_
                refine q_iinc (lv9 := fun z7506 => [(6, .int z7506), (7, .int z7502), (0, .ref (ad 129)), (1, .int a), (2, .int b), (3, .int z7487), (4, .int w37_4), (5, .int w37_5)]) hM dX12_parted_92 hl (kq := 7) rfl (by decide) (fun _ => rfl) (fun z7506 ls hz7506 hl => ?_)
                first | have tz7506 := i_addT hz7506 (rfl : w37_6.toInt = w37_6.toInt) (kc_1 : (Int32.ofInt 1).toInt = 1) (by omega) (by omega) | skip
                refine q_goto (tgt := 37) hM dX12_parted_95 (by decide) ?_
                exact ih37 w37_4 w37_5 z7506 _ _ _ _ (by omega) hG (by omega) (lv_sub hl [2, 3, 4, 5, 6, 7, 0] rfl) hW
            · refine q_goto (tgt := 92) hM dX12_parted_52 (by decide) ?_
              refine q_iinc (lv9 := fun z7508 => [(6, .int z7508), (0, .ref (ad 129)), (1, .int a), (2, .int b), (3, .int z7487), (4, .int w37_4), (5, .int w37_5)]) hM dX12_parted_92 hl (kq := 6) rfl (by decide) (fun _ => rfl) (fun z7508 ls hz7508 hl => ?_)
              first | have tz7508 := i_addT hz7508 (rfl : w37_6.toInt = w37_6.toInt) (kc_1 : (Int32.ofInt 1).toInt = 1) (by omega) (by omega) | skip
              refine q_goto (tgt := 37) hM dX12_parted_95 (by decide) ?_
              exact ih37 w37_4 w37_5 z7508 _ _ _ _ (by omega) hG (by omega) (lv_sub hl [1, 2, 3, 4, 5, 6, 0] rfl) hW
      have := kc_0
      have := kc_1000000000
      have := kc_1
      exact L37 _ (0 : Int32) (1000000000 : Int32) (1 : Int32) _ _ _ _ (Nat.lt_succ_self _) hG (by omega) (lv_sub hl [4, 5, 6, 3, 2, 1, 0] rfl) hW
    · refine q_iconst (v := ((-1) : Int32)) hM dX12_parted_18 (by decide) ?_
      exact hE _ _ _ _ _ _ hW.1 ⟨_, rfl, hW.2.1, hG, hW.2.2⟩ dX12_parted_19

theorem dX12_reminds_0 : decode cX12_reminds 0 = .ok (.aload_n 0, 1) := by decide +kernel
theorem dX12_reminds_1 : decode cX12_reminds 1 = .ok (.iload_n 1, 1) := by decide +kernel
theorem dX12_reminds_2 : decode cX12_reminds 2 = .ok (.invokevirtual 421, 3) := by decide +kernel
theorem dX12_reminds_5 : decode cX12_reminds 5 = .ok (.ifCond .eq 28, 3) := by decide +kernel
theorem dX12_reminds_8 : decode cX12_reminds 8 = .ok (.aload_n 0, 1) := by decide +kernel
theorem dX12_reminds_9 : decode cX12_reminds 9 = .ok (.iload_n 2, 1) := by decide +kernel
theorem dX12_reminds_10 : decode cX12_reminds 10 = .ok (.invokevirtual 421, 3) := by decide +kernel
theorem dX12_reminds_13 : decode cX12_reminds 13 = .ok (.ifCond .eq 20, 3) := by decide +kernel
theorem dX12_reminds_16 : decode cX12_reminds 16 = .ok (.iload_n 1, 1) := by decide +kernel
theorem dX12_reminds_17 : decode cX12_reminds 17 = .ok (.iload_n 2, 1) := by decide +kernel
theorem dX12_reminds_18 : decode cX12_reminds 18 = .ok (.if_icmp .eq 15, 3) := by decide +kernel
theorem dX12_reminds_21 : decode cX12_reminds 21 = .ok (.iload_n 3, 1) := by decide +kernel
theorem dX12_reminds_22 : decode cX12_reminds 22 = .ok (.i2l, 1) := by decide +kernel
theorem dX12_reminds_23 : decode cX12_reminds 23 = .ok (.lconst 0, 1) := by decide +kernel
theorem dX12_reminds_24 : decode cX12_reminds 24 = .ok (.ldc2_w 419, 3) := by decide +kernel
theorem dX12_reminds_27 : decode cX12_reminds 27 = .ok (.invokestatic 190, 3) := by decide +kernel
theorem dX12_reminds_30 : decode cX12_reminds 30 = .ok (.ifCond .ne 5, 3) := by decide +kernel
theorem dX12_reminds_33 : decode cX12_reminds 33 = .ok (.iconst 0, 1) := by decide +kernel
theorem dX12_reminds_34 : decode cX12_reminds 34 = .ok (.ireturn, 1) := by decide +kernel
theorem dX12_reminds_35 : decode cX12_reminds 35 = .ok (.aload_n 0, 1) := by decide +kernel
theorem dX12_reminds_36 : decode cX12_reminds 36 = .ok (.getfield 151, 3) := by decide +kernel
theorem dX12_reminds_39 : decode cX12_reminds 39 = .ok (.bipush 8, 2) := by decide +kernel
theorem dX12_reminds_41 : decode cX12_reminds 41 = .ok (.iload_n 1, 1) := by decide +kernel
theorem dX12_reminds_42 : decode cX12_reminds 42 = .ok (.imul, 1) := by decide +kernel
theorem dX12_reminds_43 : decode cX12_reminds 43 = .ok (.iload_n 2, 1) := by decide +kernel
theorem dX12_reminds_44 : decode cX12_reminds 44 = .ok (.iadd, 1) := by decide +kernel
theorem dX12_reminds_45 : decode cX12_reminds 45 = .ok (.iload_n 3, 1) := by decide +kernel
theorem dX12_reminds_46 : decode cX12_reminds 46 = .ok (.iastore, 1) := by decide +kernel
theorem dX12_reminds_47 : decode cX12_reminds 47 = .ok (.aload_n 0, 1) := by decide +kernel
theorem dX12_reminds_48 : decode cX12_reminds 48 = .ok (.getfield 151, 3) := by decide +kernel
theorem dX12_reminds_51 : decode cX12_reminds 51 = .ok (.bipush 8, 2) := by decide +kernel
theorem dX12_reminds_53 : decode cX12_reminds 53 = .ok (.iload_n 2, 1) := by decide +kernel
theorem dX12_reminds_54 : decode cX12_reminds 54 = .ok (.imul, 1) := by decide +kernel
theorem dX12_reminds_55 : decode cX12_reminds 55 = .ok (.iload_n 1, 1) := by decide +kernel
theorem dX12_reminds_56 : decode cX12_reminds 56 = .ok (.iadd, 1) := by decide +kernel
theorem dX12_reminds_57 : decode cX12_reminds 57 = .ok (.iload_n 3, 1) := by decide +kernel
theorem dX12_reminds_58 : decode cX12_reminds 58 = .ok (.iastore, 1) := by decide +kernel
theorem dX12_reminds_59 : decode cX12_reminds 59 = .ok (.iconst 1, 1) := by decide +kernel
theorem dX12_reminds_60 : decode cX12_reminds 60 = .ok (.ireturn, 1) := by decide +kernel
set_option maxRecDepth 100000 in
set_option maxHeartbeats 4000000 in
theorem p_X12_reminds (l : Launch) (D : va_G) (cA : Nat → ClassId) (ad : Nat → Nat) (g0 : Nat → va_E) (a : Int32) (b : Int32) (c : Int32)   (hSh : Shp ad cA g0) (hG : Rng g0) : CT l NN ad cA D yX12_reminds cX12_reminds 4 (some FieldType.boolean) (2, 46) [.ref (ad 129), .int a, .int b, .int c] g0 (fun v g' => ∃ (r : Int32), v = some (.int r) ∧ Shp ad cA g' ∧ Rng g' ∧ FR (fun i k => i = 175) g0 g' ∧ (r.toInt = 0 ∨ r.toInt = 1)) := by
  refine q_enterZ (by decide) (Nat.le_of_ble_eq_true rfl) (fun K H locs ls _ _ hM hW0 hR hC hE hl => ?_)
  have hl : lv_has ls 4 [(0, .ref (ad 129)), (1, .int a), (2, .int b), (3, .int c)] := hl
  have hW : WS ad cA (fun i k => i = 175) g0 K g0 H locs := ⟨hW0, hSh, FR.rf⟩
  have := kc_0
  have := kc_1
  have := kc_m1
  have := kc_m2
  refine q_aload_n hM dX12_reminds_0 (lv_at hl 0 rfl) ?_
  refine q_iload_n hM dX12_reminds_1 (lv_at hl 1 rfl) ?_
  refine q_callV (As := [.int a]) (rest := []) hM hW.1 hR hC myX12_isThat (kAW (v_6_2 (List.mem_of_getElem? (i := 9) rfl)) rfl) (rfl : vwCl[12]? = some (RX12, TX12, 86)) rfl lb_129.1 (shO hW.2.1 lb_129) (a_X12_isThat _ _ cA ad g0 a hW.2.1 hG) ⟨by decide, by decide⟩ rfl rfl hl.1 (Nat.le_of_ble_eq_true rfl) dX12_reminds_2 (fun v g7511 H locs hp hW1 => ?_)
  obtain ⟨r7510, rfl, hr7510, rfl⟩ := hp
  have hW : WS ad cA (fun i k => i = 175) g0 K g0 H locs := ⟨hW1, hW.2.1, hW.2.2⟩
  refine q_if_eq (tgt := 33) hM dX12_reminds_5 (by decide) (rfl : r7510.toInt = r7510.toInt) (fun h5 => ?_) (fun h5 => ?_)
  · refine q_iconst (v := (0 : Int32)) hM dX12_reminds_33 (by decide) ?_
    exact hE _ _ _ _ _ _ hW.1 nz_0 ⟨_, rfl, hW.2.1, hG, hW.2.2, (by have := kc_0; omega)⟩ dX12_reminds_34
  · refine q_aload_n hM dX12_reminds_8 (lv_at hl 0 rfl) ?_
    refine q_iload_n hM dX12_reminds_9 (lv_at hl 2 rfl) ?_
    refine q_callV (As := [.int b]) (rest := []) hM hW.1 hR hC myX12_isThat (kAW (v_6_2 (List.mem_of_getElem? (i := 9) rfl)) rfl) (rfl : vwCl[12]? = some (RX12, TX12, 86)) rfl lb_129.1 (shO hW.2.1 lb_129) (a_X12_isThat _ _ cA ad g0 b hW.2.1 hG) ⟨by decide, by decide⟩ rfl rfl hl.1 (Nat.le_of_ble_eq_true rfl) dX12_reminds_10 (fun v g7515 H locs hp hW1 => ?_)
    obtain ⟨r7514, rfl, hr7514, rfl⟩ := hp
    have hW : WS ad cA (fun i k => i = 175) g0 K g0 H locs := ⟨hW1, hW.2.1, hW.2.2⟩
    refine q_if_eq (tgt := 33) hM dX12_reminds_13 (by decide) (rfl : r7514.toInt = r7514.toInt) (fun h13 => ?_) (fun h13 => ?_)
    · refine q_iconst (v := (0 : Int32)) hM dX12_reminds_33 (by decide) ?_
      exact hE _ _ _ _ _ _ hW.1 nz_0 ⟨_, rfl, hW.2.1, hG, hW.2.2, (by have := kc_0; omega)⟩ dX12_reminds_34
    · refine q_iload_n hM dX12_reminds_16 (lv_at hl 1 rfl) ?_
      refine q_iload_n hM dX12_reminds_17 (lv_at hl 2 rfl) ?_
      refine q_icmp_eq (tgt := 33) hM dX12_reminds_18 (by decide) (rfl : a.toInt = a.toInt) (rfl : b.toInt = b.toInt) (fun h18 => ?_) (fun h18 => ?_)
      · refine q_iconst (v := (0 : Int32)) hM dX12_reminds_33 (by decide) ?_
        exact hE _ _ _ _ _ _ hW.1 nz_0 ⟨_, rfl, hW.2.1, hG, hW.2.2, (by have := kc_0; omega)⟩ dX12_reminds_34
      · refine q_iload_n hM dX12_reminds_21 (lv_at hl 3 rfl) ?_
        refine q_i2l hM dX12_reminds_22 ?_
        have := l_i2l c
        refine q_lconst (v := 0) hM dX12_reminds_23 (by decide) ?_
        have := kl_0
        refine q_ldc2 (v := 99) hM (kAW (v_6_2 (List.mem_of_getElem? (i := 4) rfl)) rfl) dX12_reminds_24 ?_
        have := kl_99
        refine q_callS (As := [.long c.toInt64, .long (0 : Int64), .long (99 : Int64)]) (rest := []) hM hW.1 hR hC myX12_lies (kAW (v_5_4 (List.mem_of_getElem? (i := 14) rfl)) rfl) (c_X12_lies _ _ cA ad g0 c.toInt64 (0 : Int64) (99 : Int64) hW.2.1) ⟨by decide, by decide⟩ rfl rfl hl.1 (Nat.le_of_ble_eq_true rfl) dX12_reminds_27 (fun v g7521 H locs hp hW1 => ?_)
        obtain ⟨r7520, rfl, hr7520, rfl⟩ := hp
        have hW : WS ad cA (fun i k => i = 175) g0 K g0 H locs := ⟨hW1, hW.2.1, hW.2.2⟩
        refine q_if_ne (tgt := 35) hM dX12_reminds_30 (by decide) (rfl : r7520.toInt = r7520.toInt) (fun h30 => ?_) (fun h30 => ?_)
        · refine q_aload_n hM dX12_reminds_35 (lv_at hl 0 rfl) ?_
          refine w_get (v := .ref (ad 175)) hM hW FG_X12_151 lb_129 (rf_129_81 hW.2.1) dX12_reminds_36 ?_
          refine q_bipush (v := (8 : Int32)) hM dX12_reminds_39 (by decide) ?_
          refine q_iload_n hM dX12_reminds_41 (lv_at hl 1 rfl) ?_
          refine q_imul hM dX12_reminds_42 (fun z7523 hz7523 => ?_)
          first | have tz7523 := i_mulT hz7523 (kc_8 : (8 : Int32).toInt = 8) (rfl : a.toInt = a.toInt) (by omega) (by omega) | skip
          refine q_iload_n hM dX12_reminds_43 (lv_at hl 2 rfl) ?_
          refine q_iadd hM dX12_reminds_44 (fun z7524 hz7524 => ?_)
          first | have tz7524 := i_addT hz7524 (rfl : z7523.toInt = z7523.toInt) (rfl : b.toInt = b.toInt) (by omega) (by omega) | skip
          refine q_iload_n hM dX12_reminds_45 (lv_at hl 3 rfl) ?_
          refine w_iast hM hW lb_175 (by omega) (i_in (by omega) (by omega)) dX12_reminds_46 (fun g7525 H locs hW e1 e2 => ?_)
          have hG := hG.st e1 e2 (rfl : rA 175 = (-2147483648, 2147483647)) (by have := i_rng c; omega) (by have := i_rng c; omega)
          refine q_aload_n hM dX12_reminds_47 (lv_at hl 0 rfl) ?_
          refine w_get (v := .ref (ad 175)) hM hW FG_X12_151 lb_129 (rf_129_81 hW.2.1) dX12_reminds_48 ?_
          refine q_bipush (v := (8 : Int32)) hM dX12_reminds_51 (by decide) ?_
          refine q_iload_n hM dX12_reminds_53 (lv_at hl 2 rfl) ?_
          refine q_imul hM dX12_reminds_54 (fun z7526 hz7526 => ?_)
          first | have tz7526 := i_mulT hz7526 (kc_8 : (8 : Int32).toInt = 8) (rfl : b.toInt = b.toInt) (by omega) (by omega) | skip
          refine q_iload_n hM dX12_reminds_55 (lv_at hl 1 rfl) ?_
          refine q_iadd hM dX12_reminds_56 (fun z7527 hz7527 => ?_)
          first | have tz7527 := i_addT hz7527 (rfl : z7526.toInt = z7526.toInt) (rfl : a.toInt = a.toInt) (by omega) (by omega) | skip
          refine q_iload_n hM dX12_reminds_57 (lv_at hl 3 rfl) ?_
          refine w_iast hM hW lb_175 (by omega) (i_in (by omega) (by omega)) dX12_reminds_58 (fun g7528 H locs hW e1 e2 => ?_)
          have hG := hG.st e1 e2 (rfl : rA 175 = (-2147483648, 2147483647)) (by have := i_rng c; omega) (by have := i_rng c; omega)
          refine q_iconst (v := (1 : Int32)) hM dX12_reminds_59 (by decide) ?_
          exact hE _ _ _ _ _ _ hW.1 nz_1 ⟨_, rfl, hW.2.1, hG, hW.2.2, (by have := kc_1; omega)⟩ dX12_reminds_60
        · refine q_iconst (v := (0 : Int32)) hM dX12_reminds_33 (by decide) ?_
          exact hE _ _ _ _ _ _ hW.1 nz_0 ⟨_, rfl, hW.2.1, hG, hW.2.2, (by have := kc_0; omega)⟩ dX12_reminds_34

theorem dX12_skill_0 : decode cX12_skill 0 = .ok (.iload_n 1, 1) := by decide +kernel
theorem dX12_skill_1 : decode cX12_skill 1 = .ok (.i2l, 1) := by decide +kernel
theorem dX12_skill_2 : decode cX12_skill 2 = .ok (.lconst 0, 1) := by decide +kernel
theorem dX12_skill_3 : decode cX12_skill 3 = .ok (.ldc2_w 573, 3) := by decide +kernel
theorem dX12_skill_6 : decode cX12_skill 6 = .ok (.invokestatic 190, 3) := by decide +kernel
theorem dX12_skill_9 : decode cX12_skill 9 = .ok (.ifCond .eq 27, 3) := by decide +kernel
theorem dX12_skill_12 : decode cX12_skill 12 = .ok (.iload_n 2, 1) := by decide +kernel
theorem dX12_skill_13 : decode cX12_skill 13 = .ok (.i2l, 1) := by decide +kernel
theorem dX12_skill_14 : decode cX12_skill 14 = .ok (.lconst 0, 1) := by decide +kernel
theorem dX12_skill_15 : decode cX12_skill 15 = .ok (.ldc2_w 225, 3) := by decide +kernel
theorem dX12_skill_18 : decode cX12_skill 18 = .ok (.invokestatic 190, 3) := by decide +kernel
theorem dX12_skill_21 : decode cX12_skill 21 = .ok (.ifCond .eq 15, 3) := by decide +kernel
theorem dX12_skill_24 : decode cX12_skill 24 = .ok (.iload_n 3, 1) := by decide +kernel
theorem dX12_skill_25 : decode cX12_skill 25 = .ok (.i2l, 1) := by decide +kernel
theorem dX12_skill_26 : decode cX12_skill 26 = .ok (.lconst 0, 1) := by decide +kernel
theorem dX12_skill_27 : decode cX12_skill 27 = .ok (.ldc2_w 419, 3) := by decide +kernel
theorem dX12_skill_30 : decode cX12_skill 30 = .ok (.invokestatic 190, 3) := by decide +kernel
theorem dX12_skill_33 : decode cX12_skill 33 = .ok (.ifCond .ne 5, 3) := by decide +kernel
theorem dX12_skill_36 : decode cX12_skill 36 = .ok (.iconst 0, 1) := by decide +kernel
theorem dX12_skill_37 : decode cX12_skill 37 = .ok (.ireturn, 1) := by decide +kernel
theorem dX12_skill_38 : decode cX12_skill 38 = .ok (.aload_n 0, 1) := by decide +kernel
theorem dX12_skill_39 : decode cX12_skill 39 = .ok (.getfield 154, 3) := by decide +kernel
theorem dX12_skill_42 : decode cX12_skill 42 = .ok (.iload_n 1, 1) := by decide +kernel
theorem dX12_skill_43 : decode cX12_skill 43 = .ok (.iconst 1, 1) := by decide +kernel
theorem dX12_skill_44 : decode cX12_skill 44 = .ok (.bastore, 1) := by decide +kernel
theorem dX12_skill_45 : decode cX12_skill 45 = .ok (.aload_n 0, 1) := by decide +kernel
theorem dX12_skill_46 : decode cX12_skill 46 = .ok (.getfield 157, 3) := by decide +kernel
theorem dX12_skill_49 : decode cX12_skill 49 = .ok (.bipush 6, 2) := by decide +kernel
theorem dX12_skill_51 : decode cX12_skill 51 = .ok (.iload_n 1, 1) := by decide +kernel
theorem dX12_skill_52 : decode cX12_skill 52 = .ok (.imul, 1) := by decide +kernel
theorem dX12_skill_53 : decode cX12_skill 53 = .ok (.iload_n 2, 1) := by decide +kernel
theorem dX12_skill_54 : decode cX12_skill 54 = .ok (.iadd, 1) := by decide +kernel
theorem dX12_skill_55 : decode cX12_skill 55 = .ok (.iload_n 3, 1) := by decide +kernel
theorem dX12_skill_56 : decode cX12_skill 56 = .ok (.iastore, 1) := by decide +kernel
theorem dX12_skill_57 : decode cX12_skill 57 = .ok (.iconst 1, 1) := by decide +kernel
theorem dX12_skill_58 : decode cX12_skill 58 = .ok (.ireturn, 1) := by decide +kernel
theorem FG_X12_157 : FG RX12 157 12 86 83 := ⟨RX12, TX12, rfl, wX12, by decide, kAW (v_4_8 (List.mem_of_getElem? (i := 0) rfl)) rfl, rfl⟩
set_option maxRecDepth 100000 in
set_option maxHeartbeats 4000000 in
theorem p_X12_skill (l : Launch) (D : va_G) (cA : Nat → ClassId) (ad : Nat → Nat) (g0 : Nat → va_E) (a : Int32) (b : Int32) (c : Int32)   (hSh : Shp ad cA g0) (hG : Rng g0) : CT l NN ad cA D yX12_skill cX12_skill 4 (some FieldType.boolean) (1, 25) [.ref (ad 129), .int a, .int b, .int c] g0 (fun v g' => ∃ (r : Int32), v = some (.int r) ∧ Shp ad cA g' ∧ Rng g' ∧ FR (fun i k => i = 176 ∨ i = 177) g0 g' ∧ ((r.toInt = 1 ∧ 0 ≤ a.toInt ∧ a.toInt ≤ 4 ∧ 0 ≤ b.toInt ∧ b.toInt ≤ 5 ∧ 0 ≤ c.toInt ∧ c.toInt ≤ 99) ∨ (r.toInt = 0 ∧ ¬ (0 ≤ a.toInt ∧ a.toInt ≤ 4 ∧ 0 ≤ b.toInt ∧ b.toInt ≤ 5 ∧ 0 ≤ c.toInt ∧ c.toInt ≤ 99)))) := by
  refine q_enterZ (by decide) (Nat.le_of_ble_eq_true rfl) (fun K H locs ls _ _ hM hW0 hR hC hE hl => ?_)
  have hl : lv_has ls 4 [(0, .ref (ad 129)), (1, .int a), (2, .int b), (3, .int c)] := hl
  have hW : WS ad cA (fun i k => i = 176 ∨ i = 177) g0 K g0 H locs := ⟨hW0, hSh, FR.rf⟩
  have := kc_0
  have := kc_1
  have := kc_m1
  have := kc_m2
  refine q_iload_n hM dX12_skill_0 (lv_at hl 1 rfl) ?_
  refine q_i2l hM dX12_skill_1 ?_
  have := l_i2l a
  refine q_lconst (v := 0) hM dX12_skill_2 (by decide) ?_
  have := kl_0
  refine q_ldc2 (v := 4) hM (kAW (v_7_2 (List.mem_of_getElem? (i := 4) rfl)) rfl) dX12_skill_3 ?_
  have := kl_4
  refine q_callS (As := [.long a.toInt64, .long (0 : Int64), .long (4 : Int64)]) (rest := []) hM hW.1 hR hC myX12_lies (kAW (v_5_4 (List.mem_of_getElem? (i := 14) rfl)) rfl) (c_X12_lies _ _ cA ad g0 a.toInt64 (0 : Int64) (4 : Int64) hW.2.1) ⟨by decide, by decide⟩ rfl rfl hl.1 (Nat.le_of_ble_eq_true rfl) dX12_skill_6 (fun v g7531 H locs hp hW1 => ?_)
  obtain ⟨r7530, rfl, hr7530, rfl⟩ := hp
  have hW : WS ad cA (fun i k => i = 176 ∨ i = 177) g0 K g0 H locs := ⟨hW1, hW.2.1, hW.2.2⟩
  refine q_if_eq (tgt := 36) hM dX12_skill_9 (by decide) (rfl : r7530.toInt = r7530.toInt) (fun h9 => ?_) (fun h9 => ?_)
  · refine q_iconst (v := (0 : Int32)) hM dX12_skill_36 (by decide) ?_
    exact hE _ _ _ _ _ _ hW.1 nz_0 ⟨_, rfl, hW.2.1, hG, hW.2.2, (by have := kc_0; omega)⟩ dX12_skill_37
  · refine q_iload_n hM dX12_skill_12 (lv_at hl 2 rfl) ?_
    refine q_i2l hM dX12_skill_13 ?_
    have := l_i2l b
    refine q_lconst (v := 0) hM dX12_skill_14 (by decide) ?_
    have := kl_0
    refine q_ldc2 (v := 5) hM (kAW (v_5_8 (List.mem_of_getElem? (i := 5) rfl)) rfl) dX12_skill_15 ?_
    have := kl_5
    refine q_callS (As := [.long b.toInt64, .long (0 : Int64), .long (5 : Int64)]) (rest := []) hM hW.1 hR hC myX12_lies (kAW (v_5_4 (List.mem_of_getElem? (i := 14) rfl)) rfl) (c_X12_lies _ _ cA ad g0 b.toInt64 (0 : Int64) (5 : Int64) hW.2.1) ⟨by decide, by decide⟩ rfl rfl hl.1 (Nat.le_of_ble_eq_true rfl) dX12_skill_18 (fun v g7535 H locs hp hW1 => ?_)
    obtain ⟨r7534, rfl, hr7534, rfl⟩ := hp
    have hW : WS ad cA (fun i k => i = 176 ∨ i = 177) g0 K g0 H locs := ⟨hW1, hW.2.1, hW.2.2⟩
    refine q_if_eq (tgt := 36) hM dX12_skill_21 (by decide) (rfl : r7534.toInt = r7534.toInt) (fun h21 => ?_) (fun h21 => ?_)
    · refine q_iconst (v := (0 : Int32)) hM dX12_skill_36 (by decide) ?_
      exact hE _ _ _ _ _ _ hW.1 nz_0 ⟨_, rfl, hW.2.1, hG, hW.2.2, (by have := kc_0; omega)⟩ dX12_skill_37
    · refine q_iload_n hM dX12_skill_24 (lv_at hl 3 rfl) ?_
      refine q_i2l hM dX12_skill_25 ?_
      have := l_i2l c
      refine q_lconst (v := 0) hM dX12_skill_26 (by decide) ?_
      have := kl_0
      refine q_ldc2 (v := 99) hM (kAW (v_6_2 (List.mem_of_getElem? (i := 4) rfl)) rfl) dX12_skill_27 ?_
      have := kl_99
      refine q_callS (As := [.long c.toInt64, .long (0 : Int64), .long (99 : Int64)]) (rest := []) hM hW.1 hR hC myX12_lies (kAW (v_5_4 (List.mem_of_getElem? (i := 14) rfl)) rfl) (c_X12_lies _ _ cA ad g0 c.toInt64 (0 : Int64) (99 : Int64) hW.2.1) ⟨by decide, by decide⟩ rfl rfl hl.1 (Nat.le_of_ble_eq_true rfl) dX12_skill_30 (fun v g7539 H locs hp hW1 => ?_)
      obtain ⟨r7538, rfl, hr7538, rfl⟩ := hp
      have hW : WS ad cA (fun i k => i = 176 ∨ i = 177) g0 K g0 H locs := ⟨hW1, hW.2.1, hW.2.2⟩
      refine q_if_ne (tgt := 38) hM dX12_skill_33 (by decide) (rfl : r7538.toInt = r7538.toInt) (fun h33 => ?_) (fun h33 => ?_)
      · refine q_aload_n hM dX12_skill_38 (lv_at hl 0 rfl) ?_
        refine w_get (v := .ref (ad 176)) hM hW FG_X12_154 lb_129 (rf_129_82 hW.2.1) dX12_skill_39 ?_
        refine q_iload_n hM dX12_skill_42 (lv_at hl 1 rfl) ?_
        refine q_iconst (v := (1 : Int32)) hM dX12_skill_43 (by decide) ?_
        refine w_zast hM hW lb_176 (by omega) (i_in (by omega) (by omega)) dX12_skill_44 (fun g7541 H locs hW e1 e2 => ?_)
        have hG := hG.st e1 e2 (rfl : rA 176 = (-2147483648, 2147483647)) (by have := i_rng (vp_nar .boolean (1 : Int32)); omega) (by have := i_rng (vp_nar .boolean (1 : Int32)); omega)
        refine q_aload_n hM dX12_skill_45 (lv_at hl 0 rfl) ?_
        refine w_get (v := .ref (ad 177)) hM hW FG_X12_157 lb_129 (rf_129_83 hW.2.1) dX12_skill_46 ?_
        refine q_bipush (v := (6 : Int32)) hM dX12_skill_49 (by decide) ?_
        refine q_iload_n hM dX12_skill_51 (lv_at hl 1 rfl) ?_
        refine q_imul hM dX12_skill_52 (fun z7542 hz7542 => ?_)
        first | have tz7542 := i_mulT hz7542 (kc_6 : (6 : Int32).toInt = 6) (rfl : a.toInt = a.toInt) (by omega) (by omega) | skip
        refine q_iload_n hM dX12_skill_53 (lv_at hl 2 rfl) ?_
        refine q_iadd hM dX12_skill_54 (fun z7543 hz7543 => ?_)
        first | have tz7543 := i_addT hz7543 (rfl : z7542.toInt = z7542.toInt) (rfl : b.toInt = b.toInt) (by omega) (by omega) | skip
        refine q_iload_n hM dX12_skill_55 (lv_at hl 3 rfl) ?_
        refine w_iast hM hW lb_177 (by omega) (i_in (by omega) (by omega)) dX12_skill_56 (fun g7544 H locs hW e1 e2 => ?_)
        have hG := hG.st e1 e2 (rfl : rA 177 = (-2147483648, 2147483647)) (by have := i_rng c; omega) (by have := i_rng c; omega)
        refine q_iconst (v := (1 : Int32)) hM dX12_skill_57 (by decide) ?_
        exact hE _ _ _ _ _ _ hW.1 nz_1 ⟨_, rfl, hW.2.1, hG, hW.2.2, (by have := kc_1; omega)⟩ dX12_skill_58
      · refine q_iconst (v := (0 : Int32)) hM dX12_skill_36 (by decide) ?_
        exact hE _ _ _ _ _ _ hW.1 nz_0 ⟨_, rfl, hW.2.1, hG, hW.2.2, (by have := kc_0; omega)⟩ dX12_skill_37
