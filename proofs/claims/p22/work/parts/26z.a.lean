/-- one bit of a row of bits, one place of a row of flags -/
def bi (b i : Int32) : Int := if 0 ≤ i.toInt ∧ i.toInt < 31 ∧ bt b i.toInt.toNat = true then 1 else 0
def ti (f : Nat → Int32) (n : Int) (i : Int32) : Int := if 0 ≤ i.toInt ∧ i.toInt < n ∧ (f i.toInt.toNat).toInt ≠ 0 then 1 else 0
theorem has_bi {r b i : Int32} (h : (r.toInt = 1 ∧ 0 ≤ i.toInt ∧ i.toInt < 31 ∧ bt b i.toInt.toNat = true) ∨ (r.toInt = 0 ∧ (i.toInt < 0 ∨ 31 ≤ i.toInt ∨ bt b i.toInt.toNat = false))) : r.toInt = bi b i := by
  unfold bi
  rcases h with h | ⟨h, h2⟩
  · rw [if_pos h.2, h.1]
  · rw [if_neg, h]
    rintro ⟨h3, h4, h5⟩
    rcases h2 with h2 | h2 | h2
    · omega
    · omega
    · rw [h5] at h2; exact absurd h2 (by decide)
theorem bi_01 (b i : Int32) : bi b i = 0 ∨ bi b i = 1 := by
  unfold bi
  split
  · exact Or.inr rfl
  · exact Or.inl rfl
theorem ti_01 (f : Nat → Int32) (n : Int) (i : Int32) : ti f n i = 0 ∨ ti f n i = 1 := by
  unfold ti
  split
  · exact Or.inr rfl
  · exact Or.inl rfl
/-- flags are 1 where the bits are set, else 0 -/
def SMr (b : Int32) (f : Nat → Int32) (n : Nat) : Prop := ∀ q : Nat, q < n → (f q).toInt = if bt b q = true then 1 else 0
theorem SM_01 {b : Int32} {f : Nat → Int32} {n : Nat} (h : SMr b f n) (q : Nat) (hq : q < n) : (f q).toInt = 0 ∨ (f q).toInt = 1 := by
  rw [h q hq]
  split
  · exact Or.inr rfl
  · exact Or.inl rfl
theorem SM_bi {b : Int32} {f : Nat → Int32} (n : Nat) (h : SMr b f n) (h0 : 0 ≤ b.toInt) (h1 : b.toInt < ((2 ^ n : Nat) : Int)) (hn : n ≤ 31) (i : Int32) : bi b i = ti f n i := by
  unfold bi ti
  by_cases q : 0 ≤ i.toInt ∧ i.toInt < 31 ∧ bt b i.toInt.toNat = true
  · have q2 := bt_lt h0 h1 q.2.2
    rw [if_pos q, if_pos ⟨q.1, by omega, by rw [h _ q2, if_pos q.2.2]; decide⟩]
  · rw [if_neg q, if_neg]
    rintro ⟨h3, h4, h5⟩
    rw [h _ (by omega)] at h5
    refine q ⟨h3, by omega, ?_⟩
    by_cases c : bt b i.toInt.toNat = true
    · exact c
    · rw [if_neg c] at h5; exact absurd rfl h5
theorem bt_sh1 : ∀ k, k < 31 → ∀ q, q < 32 → bt ((1 : Int32) <<< (nI k &&& 31)) q = decide (q = k) := by decide +kernel
theorem SM_set {b b1 i : Int32} {f f1 : Nat → Int32} {n : Nat} {x : Int32} (h : SMr b f n) (hn : n ≤ 31) (hb : b1 = b ||| ((1 : Int32) <<< (i &&& 31))) (hf : f1 = upd f i.toNatClampNeg x) (hx : x.toInt = 1) (h0 : 0 ≤ i.toInt) (h1 : i.toInt < n) : SMr b1 f1 n := by
  intro q hq
  obtain ⟨k, hk⟩ : ∃ k : Nat, i.toInt = k := ⟨i.toInt.toNat, by omega⟩
  have hi : i = nI k := nI_k hk (by omega)
  have e : i.toNatClampNeg = k := by show i.toInt.toNat = k; omega
  rw [hb, hf, e]
  unfold upd
  rw [b_or, hi, bt_sh1 k (by omega) q (by omega)]
  by_cases c : q = k
  · rw [if_pos c, hx]
    simp [c]
  · rw [if_neg c, h q hq]
    simp [c]
theorem SM_cg {b : Int32} {f f1 : Nat → Int32} {n : Nat} (h : SMr b f n) (e : ∀ q : Nat, q < n → f1 q = f q) : SMr b f1 n := fun q hq => by rw [e q hq]; exact h q hq
theorem vb01 {y : Int32} (h : y.toInt = 0 ∨ y.toInt = 1) : vp_nar .boolean y = y := by
  rcases h with h | h
  · rw [show y = 0 from Int32.toInt_inj.mp h]; rfl
  · rw [show y = 1 from Int32.toInt_inj.mp h]; rfl
/-- so many WEEKS go by, 9999 at most -/
def WKr (wk n w9 : Int) : Prop := (9999 ≤ wk ∧ w9 = wk) ∨ (wk < 9999 ∧ wk + n ≤ 9999 ∧ w9 = wk + n) ∨ (wk < 9999 ∧ 9999 < wk + n ∧ w9 = 9999)
theorem FRf {T T1 : Nat → Nat → Prop} {g g1 g2 : Nat → va_E} {i k : Nat} (h : FR T g g1) (h1 : FR T1 g1 g2) (n : ¬ T i k) (n1 : ¬ T1 i k) : fI g2 i k = fI g i k := by
  unfold fI
  rw [h1.1 i k n1, h.1 i k n]
theorem FRa {T T1 : Nat → Nat → Prop} {g g1 g2 : Nat → va_E} {i : Nat} (h : FR T g g1) (h1 : FR T1 g1 g2) (n : ¬ T i 0) (n1 : ¬ T1 i 0) : arI g2 i = arI g i := (h1.2.1 i n1).trans (h.2.1 i n)
theorem FR1f {T : Nat → Nat → Prop} {g g1 : Nat → va_E} {i k : Nat} (h : FR T g g1) (n : ¬ T i k) : fI g1 i k = fI g i k := by
  unfold fI
  rw [h.1 i k n]
def RP (g : Nat → va_E) : Prop := SMr (fI g 3 2) (arI g 131) 12 ∧ SMr (fI g 18 3) (arI g 158) 8 ∧ SMr (fI g 30 3) (fun q => arI g 162 (8 + q)) 8 ∧ fI g 0 15 = fI g 129 75 ∧ fI g 18 4 = fI g 129 56 ∧ fI g 30 4 = arI g 166 1
theorem RP_eq {g g2 : Nat → va_E} (h : RP g) (a1 : fI g2 3 2 = fI g 3 2) (a2 : arI g2 131 = arI g 131) (b1 : fI g2 18 3 = fI g 18 3) (b2 : ∀ q : Nat, q < 8 → arI g2 158 q = arI g 158 q) (c1 : fI g2 30 3 = fI g 30 3) (c2 : ∀ q : Nat, 8 ≤ q → arI g2 162 q = arI g 162 q) (d1 : fI g2 0 15 = fI g 0 15) (d2 : fI g2 129 75 = fI g 129 75) (e1 : fI g2 18 4 = fI g 18 4) (e2 : fI g2 129 56 = fI g 129 56) (f1 : fI g2 30 4 = fI g 30 4) (f2 : arI g2 166 1 = arI g 166 1) : RP g2 := by
  obtain ⟨h1, h2, h3, h4, h5, h6⟩ := h
  refine ⟨by rw [a1, a2]; exact h1, by rw [b1]; exact SM_cg h2 b2, by rw [c1]; exact SM_cg h3 (fun q hq => c2 _ (by omega)), by rw [d1, d2]; exact h4, by rw [e1, e2]; exact h5, by rw [f1, f2]; exact h6⟩
theorem RP_0 (ad : Nat → Nat) (cA : Nat → ClassId) : RP (gF ad cA) := by
  refine ⟨fun q _ => ?_, fun q _ => ?_, fun q _ => ?_, rfl, rfl, rfl⟩
  · rw [show fI (gF ad cA) 3 2 = 0 from rfl, show arI (gF ad cA) 131 q = 0 from rfl, b_0]; decide
  · rw [show fI (gF ad cA) 18 3 = 0 from rfl, show arI (gF ad cA) 158 q = 0 from rfl, b_0]; decide
  · rw [show fI (gF ad cA) 30 3 = 0 from rfl, show (fun q => arI (gF ad cA) 162 (8 + q)) q = 0 from rfl, b_0]; decide
