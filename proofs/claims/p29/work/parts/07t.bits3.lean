/-- bits: commuted, one bit, products -/
theorem i_comm {x y z : Int32} (h : x &&& y = z) : y &&& x = z := by rw [← h]; exact b_ext (fun i _ => by rw [b_and, b_and, Bool.and_comm])
theorem sh1 : ∀ k, k < 31 → ((1 : Int32) <<< (nI k &&& 31)).toInt = ((2 ^ k : Nat) : Int) := by decide +kernel
theorem i_shl1 (n : Nat) (hn : n ≤ 31) {p z : Int32} (h : (1 : Int32) <<< (p &&& 31) = z) (h0 : 0 ≤ p.toInt) (h1 : p.toInt < n) : 0 ≤ z.toInt ∧ z.toInt < ((2 ^ n : Nat) : Int) := by
  obtain ⟨k, hk⟩ : ∃ k : Nat, p.toInt = k := ⟨p.toInt.toNat, by omega⟩
  have hp : p = nI k := nI_k hk (by omega)
  have e := sh1 k (by omega)
  rw [← hp, h] at e
  have h2 : 2 ^ k < 2 ^ n := Nat.pow_lt_pow_right (by decide) (by omega)
  have h5 := Nat.two_pow_pos k
  omega
theorem has_lt (n : Nat) {b i r : Int32} {q : Prop} (h : (r.toInt = 1 ∧ 0 ≤ i.toInt ∧ i.toInt < 31 ∧ bt b i.toInt.toNat = true) ∨ (r.toInt = 0 ∧ q)) (h0 : 0 ≤ b.toInt) (h1 : b.toInt < ((2 ^ n : Nat) : Int)) : r.toInt = 0 ∨ (0 ≤ i.toInt ∧ i.toInt < n) := by
  rcases h with h | h
  · have := bt_lt h0 h1 h.2.2.2
    omega
  · exact Or.inl h.1
theorem i_mulB {x y z : Int32} (h : x * y = z) (a b : Nat) (hx0 : 0 ≤ x.toInt) (hx : x.toInt ≤ a) (hy0 : 0 ≤ y.toInt) (hy : y.toInt ≤ b) (hab : a * b < 2 ^ 31) : 0 ≤ z.toInt ∧ z.toInt ≤ ((a * b : Nat) : Int) ∧ (1 ≤ y.toInt → x.toInt ≤ z.toInt) := by
  have h1 : 0 ≤ x.toInt * y.toInt := Int.mul_nonneg hx0 hy0
  have h2 : x.toInt * y.toInt ≤ (a : Int) * b := Int.mul_le_mul hx hy hy0 (by omega)
  have h4 : ((a * b : Nat) : Int) = (a : Int) * b := Int.natCast_mul a b
  have e := i_mulT h (rfl : x.toInt = x.toInt) (rfl : y.toInt = y.toInt) (by omega) (by omega)
  refine ⟨by omega, by omega, fun hy1 => ?_⟩
  have h3 : x.toInt * 1 ≤ x.toInt * y.toInt := Int.mul_le_mul_of_nonneg_left hy1 hx0
  omega
theorem i_divN {x y z : Int32} (h : x / y = z) (hx : 0 ≤ x.toInt) (hy : 1 ≤ y.toInt) : 0 ≤ z.toInt ∧ z.toInt ≤ x.toInt := by
  have e := i_divT h (rfl : x.toInt = x.toInt) (rfl : y.toInt = y.toInt) hx (by omega)
  rw [e]
  exact ⟨Int.ediv_nonneg hx (by omega), Int.ediv_le_self _ hx⟩
theorem i_remN {x y z : Int32} (h : x - x / y * y = z) (hx : 0 ≤ x.toInt) (hy : 1 ≤ y.toInt) : 0 ≤ z.toInt ∧ z.toInt < y.toInt := by
  have e := i_remT h (rfl : x.toInt = x.toInt) (rfl : y.toInt = y.toInt) hx (by omega)
  rw [e]
  exact ⟨Int.emod_nonneg _ (by omega), Int.emod_lt_of_pos _ (by omega)⟩
theorem isAt_art {q : Nat} (h : q < 6) : isAt (84 + 3 * q) := by
  unfold isAt
  omega
def isSr (i : Nat) : Prop := (22 ≤ i ∧ i < 30) ∨ (46 ≤ i ∧ i < 54)
theorem la_Sr {i : Nat} (h : isSr i) : LA i 0 12 := by
  rcases h with h | h
  · have := lr_22 (q := i - 22) (by omega)
    rw [show 22 + 1 * (i - 22) = i by omega] at this
    exact this
  · have := lr_46 (q := i - 46) (by omega)
    rw [show 46 + 1 * (i - 46) = i by omega] at this
    exact this
theorem rA_Sr {i : Nat} (h : isSr i) : rA i = (-2147483648, 2147483647) := by
  rcases h with h | h
  · have := rA_row_22 (q := i - 22) (by omega)
    rw [show 22 + 1 * (i - 22) = i by omega] at this
    exact this
  · have := rA_row_46 (q := i - 46) (by omega)
    rw [show 46 + 1 * (i - 46) = i by omega] at this
    exact this
/-- a method that answers a long and writes nothing -/
def PUJ (g : Nat → va_E) : Option Value → (Nat → va_E) → Prop := fun v g' => ∃ r : Int64, v = some (.long r) ∧ g = g'
section WN
variable {K : KT} {cA : Nat → ClassId} {cc : ByteArray} {nL : Nat} {k n : Nat} {H : Heap} {locs : List Loc} {pc : Nat} {ls : Array Slot} {rest : List Value} {ad : Nat → Nat} {g g0 : Nat → va_E} {T : Nat → Nat → Prop}
theorem w_getP {b : Nat} (hM : MB K cA cc nL "ForgetSchool$Search") (hW : WS ad cA T g0 K g H locs) (hv : fld g 80 10 = .ref b) (hd : decode cc pc = .ok (.getfield 35, 3)) (kk : XX K k n H locs (pc + 3) ls (.ref b :: rest)) : XX K k n H locs pc ls (.ref (ad 80) :: rest) := by
  obtain ⟨p, l, e, R, s, m, args, below, meth, c, Q, D, A, H0⟩ := K
  obtain ⟨⟨hx, hb, hml, hown, hts⟩, hK, -⟩ := hM
  obtain ⟨⟨hP, hD, hS, hZ⟩, hSh, -⟩ := hW
  have hg := shO hSh lb_80
  exact va_getN (D := D) (C := RX2) (T := TX2) (N := 11) (ci := 2) (ref := "ForgetSchool$Course") (host := "ForgetSchool") hx hb hts wX2 hown hK.1 hP 80 ((wd_get (by decide)).trans (by rw [hg]; rfl)) rfl 10 (by decide) (hK.2.1 _ (List.mem_of_getElem? (i := 0) rfl)) (fun _ h => h) (by rw [ob_get (by decide), hv]) hd kk
theorem q_mmax {own : String} {index f lo : Nat} {x y : Int32} (hM : MB K cA cc nL own) (hR : HasRoom K f lo) (hC : Cells K k n) (hl : Cond.methodLink own index yJ9_max_7cf53 ∈ AW) (hLs : ls.size = nL) (hf : 1 ≤ f) (hlo : (rest.map fun v => v.category).sum + 13 ≤ lo) (hd : decode cc pc = .ok (.invokestatic index, 3))
    (kk : ∀ r : Int32, (x.toInt ≤ r.toInt ∧ y.toInt ≤ r.toInt ∧ (r.toInt = x.toInt ∨ r.toInt = y.toInt)) → XX K k n H locs (pc + 3) ls (.int r :: rest)) : XX K k n H locs pc ls (.int y :: .int x :: rest) := by
  obtain ⟨p, l, e, R, s, m, args, below, meth, c, Q, D, A, H0⟩ := K
  obtain ⟨⟨hx, hb, hml, hown, hts⟩, hK, -⟩ := hM
  refine va_mmax hx hb (hml.trans hLs.symm) hown (hts _ hl) (hts _ (kAW (v_2_3 (List.mem_of_getElem? (i := 1) rfl)) rfl)) (hts _ (kAW (v_0_0 (List.mem_of_getElem? (i := 14) rfl)) rfl)) (hts _ (kAW (v_2_3 (List.mem_of_getElem? (i := 2) rfl)) rfl)) (Nat.le_trans hf hR.1) (Nat.le_trans hlo hR.2) hC.1 hC.2 hd (kk _ ?_)
  have h := Int32.lt_iff_toInt_lt (x := x) (y := y)
  by_cases q : x < y
  · rw [if_pos q]
    have := h.mp q
    omega
  · rw [if_neg q]
    have : ¬ x.toInt < y.toInt := fun z => q (h.mpr z)
    omega
theorem q_mmin {own : String} {index f lo : Nat} {x y : Int32} (hM : MB K cA cc nL own) (hR : HasRoom K f lo) (hC : Cells K k n) (hl : Cond.methodLink own index yJ9_min_7cf53 ∈ AW) (hLs : ls.size = nL) (hf : 1 ≤ f) (hlo : (rest.map fun v => v.category).sum + 13 ≤ lo) (hd : decode cc pc = .ok (.invokestatic index, 3))
    (kk : ∀ r : Int32, (r.toInt ≤ x.toInt ∧ r.toInt ≤ y.toInt ∧ (r.toInt = x.toInt ∨ r.toInt = y.toInt)) → XX K k n H locs (pc + 3) ls (.int r :: rest)) : XX K k n H locs pc ls (.int y :: .int x :: rest) := by
  obtain ⟨p, l, e, R, s, m, args, below, meth, c, Q, D, A, H0⟩ := K
  obtain ⟨⟨hx, hb, hml, hown, hts⟩, hK, -⟩ := hM
  refine va_mmin hx hb (hml.trans hLs.symm) hown (hts _ hl) (hts _ (kAW (v_1_12 (List.mem_of_getElem? (i := 8) rfl)) rfl)) (hts _ (kAW (v_0_0 (List.mem_of_getElem? (i := 14) rfl)) rfl)) (hts _ (kAW (v_1_12 (List.mem_of_getElem? (i := 9) rfl)) rfl)) (Nat.le_trans hf hR.1) (Nat.le_trans hlo hR.2) hC.1 hC.2 hd (kk _ ?_)
  have h := Int32.lt_iff_toInt_lt (x := y) (y := x)
  by_cases q : y < x
  · rw [if_pos q]
    have := h.mp q
    omega
  · rw [if_neg q]
    have : ¬ y.toInt < x.toInt := fun z => q (h.mpr z)
    omega
end WN
theorem kl_127 : (127 : Int64).toInt = 127 := by decide +kernel
