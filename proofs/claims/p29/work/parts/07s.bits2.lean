/-- more bounds of bits -/
theorem i_nat {x : Int32} (h : 0 ≤ x.toInt) : (x.toBitVec.toNat : Int) = x.toInt := by
  have h2 := BitVec.toInt_eq_toNat_cond x.toBitVec
  have h3 : x.toInt = x.toBitVec.toInt := rfl
  have h4 := x.toBitVec.isLt
  rw [h3] at h ⊢
  split at h2 <;> omega
theorem i_ofnat {x : Int32} (h : x.toBitVec.toNat < 2147483648) : x.toInt = (x.toBitVec.toNat : Int) := by
  have h2 := BitVec.toInt_eq_toNat_cond x.toBitVec
  have h3 : x.toInt = x.toBitVec.toInt := rfl
  rw [h3]
  split at h2 <;> omega
theorem i_andk {x y z : Int32} (h : x &&& y = z) (hy : 0 ≤ y.toInt) : 0 ≤ z.toInt ∧ z.toInt ≤ y.toInt := by
  have h1 : z.toBitVec.toNat = x.toBitVec.toNat &&& y.toBitVec.toNat := by rw [← h, Int32.toBitVec_and, BitVec.toNat_and]
  have h2 : z.toBitVec.toNat ≤ y.toBitVec.toNat := h1 ▸ Nat.and_le_right
  have h3 := i_nat hy
  have h4 := i_rng y
  have h5 := i_ofnat (x := z) (by omega)
  omega
theorem i_ork {x y z : Int32} (n : Nat) (hn : n ≤ 31) (h : x ||| y = z) (hx : 0 ≤ x.toInt) (hy : 0 ≤ y.toInt) (hx1 : x.toInt < (2 ^ n : Nat)) (hy1 : y.toInt < (2 ^ n : Nat)) : 0 ≤ z.toInt ∧ z.toInt < (2 ^ n : Nat) := by
  have h1 : z.toBitVec.toNat = x.toBitVec.toNat ||| y.toBitVec.toNat := by rw [← h, Int32.toBitVec_or, BitVec.toNat_or]
  have h3 := i_nat hx
  have h4 := i_nat hy
  have h2 : z.toBitVec.toNat < 2 ^ n := h1 ▸ Nat.or_lt_two_pow (by omega) (by omega)
  have h6 : 2 ^ n ≤ 2 ^ 31 := Nat.pow_le_pow_right (by decide) hn
  have h5 := i_ofnat (x := z) (by omega)
  omega
/-- a set bit of a small number stands low -/
theorem bt_lt {x : Int32} {n q : Nat} (h0 : 0 ≤ x.toInt) (h1 : x.toInt < (2 ^ n : Nat)) (h : bt x q = true) : q < n := by
  unfold bt at h
  have h3 := i_nat h0
  have h4 : x.toBitVec.toNat < 2 ^ n := by omega
  refine Nat.lt_of_not_le (fun hq => ?_)
  rw [BitVec.getLsbD, Nat.testBit_lt_two_pow (Nat.lt_of_lt_of_le h4 (Nat.pow_le_pow_right (by decide) hq))] at h
  exact absurd h (by decide)
