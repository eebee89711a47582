/-! ===== Int32 by its bits: bt x i ===== -/
def bt (x : Int32) (i : Nat) : Bool := x.toBitVec.getLsbD i
theorem b_ext {x y : Int32} (h : ∀ i, i < 32 → bt x i = bt y i) : x = y := Int32.toBitVec_inj.mp (BitVec.eq_of_getLsbD_eq (fun i hi => h i hi))
theorem b_or (x y : Int32) (i : Nat) : bt (x ||| y) i = (bt x i || bt y i) := by unfold bt; rw [Int32.toBitVec_or, BitVec.getLsbD_or]
theorem b_and (x y : Int32) (i : Nat) : bt (x &&& y) i = (bt x i && bt y i) := by unfold bt; rw [Int32.toBitVec_and, BitVec.getLsbD_and]
theorem b_xor (x y : Int32) (i : Nat) : bt (x ^^^ y) i = (bt x i ^^ bt y i) := by unfold bt; rw [Int32.toBitVec_xor, BitVec.getLsbD_xor]
theorem b_big {x : Int32} {i : Nat} (h : 32 ≤ i) : bt x i = false := BitVec.getLsbD_of_ge _ _ h
theorem b_255 (i : Nat) : bt 255 i = decide (i < 8) := by
  rcases Nat.lt_or_ge i 32 with h | h
  · exact (by decide +kernel : ∀ i, i < 32 → bt 255 i = decide (i < 8)) i h
  · rw [b_big h, decide_eq_false (by omega)]
theorem b_65535 (i : Nat) : bt 65535 i = decide (i < 16) := by
  rcases Nat.lt_or_ge i 32 with h | h
  · exact (by decide +kernel : ∀ i, i < 32 → bt 65535 i = decide (i < 16)) i h
  · rw [b_big h, decide_eq_false (by omega)]
theorem b_m1 : ∀ i, i < 32 → bt (-1) i = true := by decide +kernel
theorem b_0 (i : Nat) : bt 0 i = false := BitVec.getLsbD_zero
theorem s_l : ∀ n, n < 32 → ((nI n &&& 31).toBitVec.smod 32).toNat = n := by decide +kernel
theorem s_u : ∀ n, n < 32 → (((nI n).toUInt32 &&& Int32.toUInt32 31).toBitVec % 32).toNat = n := by decide +kernel
theorem b_shl (n : Nat) (hn : n < 32) (x : Int32) {i : Nat} (hi : i < 32) : bt (x <<< (nI n &&& 31)) i = (decide (n ≤ i) && bt x (i - n)) := by
  unfold bt
  rw [Int32.toBitVec_shiftLeft]
  show (x.toBitVec <<< ((nI n &&& 31).toBitVec.smod 32).toNat).getLsbD i = _
  rw [s_l n hn, BitVec.getLsbD_shiftLeft]
  rcases Nat.lt_or_ge i n with h | h
  · simp [h, Nat.not_le.mpr h]
  · simp [hi, h, Nat.not_lt.mpr h]
theorem b_ushr (n : Nat) (hn : n < 32) (x : Int32) (i : Nat) : bt ((x.toUInt32 >>> ((nI n).toUInt32 &&& Int32.toUInt32 31)).toInt32) i = bt x (n + i) := by
  show (x.toUInt32 >>> ((nI n).toUInt32 &&& Int32.toUInt32 31)).toBitVec.getLsbD i = x.toUInt32.toBitVec.getLsbD (n + i)
  rw [UInt32.toBitVec_shiftRight]
  show (x.toUInt32.toBitVec >>> (((nI n).toUInt32 &&& Int32.toUInt32 31).toBitVec % 32).toNat).getLsbD i = _
  rw [s_u n hn, BitVec.getLsbD_ushiftRight]
theorem b_sshr (n : Nat) (hn : n < 32) (x : Int32) {i : Nat} (hi : i < 32) : bt (x >>> (nI n &&& 31)) i = if n + i < 32 then bt x (n + i) else bt x 31 := by
  unfold bt
  rw [Int32.toBitVec_shiftRight]
  show (x.toBitVec.sshiftRight ((nI n &&& 31).toBitVec.smod 32).toNat).getLsbD i = _
  rw [s_l n hn, BitVec.getLsbD_sshiftRight, BitVec.msb_eq_getLsbD_last]
  simp [hi]
theorem b_shl8 (x : Int32) {i : Nat} (hi : i < 32) : bt (x <<< ((8 : Int32) &&& 31)) i = (decide (8 ≤ i) && bt x (i - 8)) := b_shl 8 (by omega) x hi
theorem b_shl16 (x : Int32) {i : Nat} (hi : i < 32) : bt (x <<< ((16 : Int32) &&& 31)) i = (decide (16 ≤ i) && bt x (i - 16)) := b_shl 16 (by omega) x hi
theorem b_shl24 (x : Int32) {i : Nat} (hi : i < 32) : bt (x <<< ((24 : Int32) &&& 31)) i = (decide (24 ≤ i) && bt x (i - 24)) := b_shl 24 (by omega) x hi
theorem b_sshr8 (x : Int32) {i : Nat} (hi : i < 32) : bt (x >>> ((8 : Int32) &&& 31)) i = if 8 + i < 32 then bt x (8 + i) else bt x 31 := b_sshr 8 (by omega) x hi
theorem b_1 (i : Nat) : bt 1 i = decide (i = 0) := by
  rcases Nat.lt_or_ge i 32 with h | h
  · exact (by decide +kernel : ∀ i, i < 32 → bt 1 i = decide (i = 0)) i h
  · rw [b_big h, decide_eq_false (by omega)]
theorem nI_k {x : Int32} {k : Nat} (h : x.toInt = k) (hk : k < 2 ^ 31) : x = nI k := Int32.toInt_inj.mp (h.trans (nI_toInt hk).symm)
/-- one bit of a number, by >> and & -/
theorem has_bt {b i : Int32} (h0 : 0 ≤ i.toInt) (h1 : i.toInt < 31) : ((b >>> (i &&& 31)) &&& 1).toInt = if bt b i.toInt.toNat then 1 else 0 := by
  obtain ⟨k, hk⟩ : ∃ k : Nat, i.toInt = k := ⟨i.toInt.toNat, by omega⟩
  have hi : i = nI k := nI_k hk (by omega)
  have hkk : i.toInt.toNat = k := by omega
  rw [hkk]
  have e : (b >>> (i &&& 31)) &&& 1 = if bt b k then 1 else 0 := by
    apply b_ext
    intro j hj
    rw [b_and, hi, b_sshr k (by omega) b hj, b_1]
    by_cases hj0 : j = 0
    · subst hj0
      by_cases hb : bt b k = true
      · simp [hb, b_1]
        omega
      · have hb : bt b k = false := by simpa using hb
        simp [hb, b_0]
        omega
    · by_cases hb : bt b k = true
      · simp [hb, b_1, hj0]
      · have hb : bt b k = false := by simpa using hb
        simp [hb, b_0, hj0]
  rw [e]
  by_cases hb : bt b k = true
  · simp [hb]
  · simp [hb]
theorem has_b1 {b i : Int32} (h0 : 0 ≤ i.toInt) (h1 : i.toInt < 31) (h : bt b i.toInt.toNat = true) : ((b >>> (i &&& 31)) &&& 1).toInt = 1 := by rw [has_bt h0 h1, h]; rfl
theorem has_b0 {b i : Int32} (h0 : 0 ≤ i.toInt) (h1 : i.toInt < 31) (h : bt b i.toInt.toNat = false) : ((b >>> (i &&& 31)) &&& 1).toInt = 0 := by rw [has_bt h0 h1, h]; rfl
theorem has_is1 {b i : Int32} (h0 : 0 ≤ i.toInt) (h1 : i.toInt < 31) (h : ((b >>> (i &&& 31)) &&& 1).toInt = 1) : bt b i.toInt.toNat = true := by
  cases hb : bt b i.toInt.toNat with
  | true => rfl
  | false => have := has_b0 h0 h1 hb; omega
theorem has_is0 {b i : Int32} (h0 : 0 ≤ i.toInt) (h1 : i.toInt < 31) (h : ¬ ((b >>> (i &&& 31)) &&& 1).toInt = 1) : bt b i.toInt.toNat = false := by
  cases hb : bt b i.toInt.toNat with
  | false => rfl
  | true => exact absurd (has_b1 h0 h1 hb) h
theorem has_0 (i : Nat) : bt 0 i = false := b_0 i
/-- comparing longs -/
theorem lc_all (x y : Int64) : ((lg_cmp x y).toInt < 0 ∧ x.toInt < y.toInt) ∨ ((lg_cmp x y).toInt = 0 ∧ x.toInt = y.toInt) ∨ (0 < (lg_cmp x y).toInt ∧ y.toInt < x.toInt) := by
  have h1 := lg_cmp_lt x y
  have h2 := lg_cmp_eq x y
  have h3 := lg_cmp_gt x y
  rw [Int32.lt_iff_toInt_lt, Int64.lt_iff_toInt_lt] at h1 h3
  rw [← Int32.toInt_inj, ← Int64.toInt_inj] at h2
  have h0 : (0 : Int32).toInt = 0 := rfl
  rw [h0] at h1 h2 h3
  omega
theorem l_i2l (x : Int32) : x.toInt64.toInt = x.toInt := Int32.toInt_toInt64 x
theorem kl_m2 : ((-2) : Int64).toInt = (-2) := by decide +kernel
theorem kl_m1 : ((-1) : Int64).toInt = (-1) := by decide +kernel
theorem kl_0 : (0 : Int64).toInt = 0 := by decide +kernel
theorem kl_1 : (1 : Int64).toInt = 1 := by decide +kernel
theorem kl_2 : (2 : Int64).toInt = 2 := by decide +kernel
theorem kl_3 : (3 : Int64).toInt = 3 := by decide +kernel
theorem kl_4 : (4 : Int64).toInt = 4 := by decide +kernel
theorem kl_5 : (5 : Int64).toInt = 5 := by decide +kernel
theorem kl_6 : (6 : Int64).toInt = 6 := by decide +kernel
theorem kl_7 : (7 : Int64).toInt = 7 := by decide +kernel
theorem kl_8 : (8 : Int64).toInt = 8 := by decide +kernel
theorem kl_9 : (9 : Int64).toInt = 9 := by decide +kernel
theorem kl_10 : (10 : Int64).toInt = 10 := by decide +kernel
theorem kl_11 : (11 : Int64).toInt = 11 := by decide +kernel
theorem kl_12 : (12 : Int64).toInt = 12 := by decide +kernel
theorem kl_16 : (16 : Int64).toInt = 16 := by decide +kernel
theorem kl_20 : (20 : Int64).toInt = 20 := by decide +kernel
theorem kl_31 : (31 : Int64).toInt = 31 := by decide +kernel
theorem kl_60 : (60 : Int64).toInt = 60 := by decide +kernel
theorem kl_63 : (63 : Int64).toInt = 63 := by decide +kernel
theorem kl_99 : (99 : Int64).toInt = 99 := by decide +kernel
theorem kl_240 : (240 : Int64).toInt = 240 := by decide +kernel
theorem kl_255 : (255 : Int64).toInt = 255 := by decide +kernel
theorem kl_260 : (260 : Int64).toInt = 260 := by decide +kernel
theorem kl_4095 : (4095 : Int64).toInt = 4095 := by decide +kernel
theorem kl_65535 : (65535 : Int64).toInt = 65535 := by decide +kernel
theorem kl_65536 : (65536 : Int64).toInt = 65536 := by decide +kernel
