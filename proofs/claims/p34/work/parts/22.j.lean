def LQ (g : Nat → va_E) : Prop := LawOK g ∧ (∀ k : Nat, (k : Int) < (arI g 148 0).toInt → (arI g 145 k).toInt ≤ (fI g 129 32).toInt) ∧ ∀ k : Nat, (k : Int) < (arI g 148 1).toInt → 240 ≤ (arI g 143 (16 + k)).toInt
theorem LQ_fr {T : Nat → Nat → Prop} {g g1 : Nat → va_E} (h : LQ g) (hf : FR T g g1) (n1 : ¬ T 143 0) (n2 : ¬ T 144 0) (n3 : ¬ T 145 0) (n4 : ¬ T 146 0) (n5 : ¬ T 148 0) (n6 : ¬ T 129 32) : LQ g1 := by
  refine ⟨LawOK_fr h.1 hf n1 n2 n3 n4 n5, fun k hk => ?_, fun k hk => ?_⟩
  · rw [hf.2.1 148 n5] at hk
    rw [hf.2.1 145 n3, show fI g1 129 32 = fI g 129 32 by unfold fI; rw [hf.1 129 32 n6]]
    exact h.2.1 k hk
  · rw [hf.2.1 148 n5] at hk
    rw [hf.2.1 143 n1]
    exact h.2.2 k hk
theorem LQ_law {g g1 : Nat → va_E} {S F T C : Nat → Int32} {kk cc : Int} (h : LQ g) (hNA : NA S F T C kk cc) (k16 : kk ≤ 16) (c0 : 0 ≤ cc) (c240 : cc ≤ 240) (hs : ∀ j : Nat, (j : Int) < kk → arI g1 143 j = S j ∧ arI g1 144 j = F j ∧ arI g1 145 j = T j) (ho : ∀ j : Nat, 16 ≤ j → arI g1 143 j = arI g 143 j ∧ arI g1 144 j = arI g 144 j ∧ arI g1 145 j = arI g 145 j) (hc : ∀ j : Nat, (j : Int) < cc → arI g1 146 j = C j) (hc2 : ∀ j : Nat, 240 ≤ j → arI g1 146 j = arI g 146 j) (m0 : (arI g1 148 0).toInt = kk) (m1 : arI g1 148 1 = arI g 148 1) (cm : (fI g1 129 32).toInt = cc) : LQ g1 := by
  refine ⟨fun l k hl hk => ?_, fun k hk => ?_, fun k hk => ?_⟩
  · rcases (show l = 0 ∨ l = 1 by omega) with rfl | rfl
    · rw [m0] at hk
      rw [show 16 * 0 + k = k by omega]
      obtain ⟨a1, a2, a3⟩ := hs k hk
      obtain ⟨b1, b2, b3, b4, b5, b6⟩ := hNA k hk
      unfold LA1
      rw [a1, a2, a3]
      exact ⟨b1, b2, b3, by omega, by omega, vok_eq (fun j hj => hc _ (by omega)) b5, vok_eq (fun j hj => hc _ (by omega)) b6⟩
    · rw [m1] at hk
      have q := h.1 1 k hl hk
      have q2 := h.2.2 k hk
      rw [show 16 * 1 + k = 16 + k by omega] at q ⊢
      obtain ⟨a1, a2, a3⟩ := ho (16 + k) (by omega)
      obtain ⟨b1, b2, b3, b4, b5, b6, b7⟩ := q
      unfold LA1
      rw [a1, a2, a3]
      exact ⟨b1, b2, b3, b4, b5, vok_eq (fun j hj => hc2 _ (by omega)) b6, vok_eq (fun j hj => hc2 _ (by omega)) b7⟩
  · rw [m0] at hk
    obtain ⟨a1, a2, a3⟩ := hs k hk
    obtain ⟨b1, b2, b3, b4, b5, b6⟩ := hNA k hk
    rw [a3, cm]
    exact b4
  · rw [m1] at hk
    obtain ⟨a1, a2, a3⟩ := ho (16 + k) (by omega)
    rw [a1]
    exact h.2.2 k hk
theorem dpt_sh {f f1 : Nat → Int32} {a b : Nat} : ∀ n, (∀ j, j < n → f1 (b + j) = f (a + j)) → dpt f1 b n = dpt f a n
  | 0, _ => rfl
  | n + 1, h => by
    show dpt f1 b n + eff (f1 (b + n)) = dpt f a n + eff (f (a + n))
    rw [dpt_sh n (fun j hj => h j (by omega)), h n (by omega)]
theorem vok_sh {f f1 : Nat → Int32} {a b n : Nat} (h : ∀ j, j < n → f1 (b + j) = f (a + j)) (hv : vok f a n) : vok f1 b n := by
  intro j hj
  rw [dpt_sh j (fun i hi => h i (by omega)), h j hj]
  exact hv j hj
theorem LQ_copy {g g1 : Nat → va_E} {kk cc : Int} (h : LQ g) (k16 : kk ≤ 16) (c240 : cc ≤ 240) (hk0 : (arI g 148 0).toInt = kk) (hcc : (fI g 129 32).toInt = cc) (hs : ∀ j : Nat, (j : Int) < kk → (arI g1 143 (16 + j)).toInt = 240 + (arI g 143 j).toInt ∧ (arI g1 144 (16 + j)).toInt = 240 + (arI g 144 j).toInt ∧ (arI g1 145 (16 + j)).toInt = 240 + (arI g 145 j).toInt) (ho : ∀ j : Nat, j < 16 → arI g1 143 j = arI g 143 j ∧ arI g1 144 j = arI g 144 j ∧ arI g1 145 j = arI g 145 j) (hc : ∀ j : Nat, (j : Int) < cc → arI g1 146 (240 + j) = arI g 146 j) (hc2 : ∀ j : Nat, j < 240 → arI g1 146 j = arI g 146 j) (m0 : arI g1 148 0 = arI g 148 0) (m1 : arI g1 148 1 = arI g 148 0) (cm : fI g1 129 32 = fI g 129 32) : LQ g1 := by
  refine ⟨fun l k hl hk => ?_, fun k hk => ?_, fun k hk => ?_⟩
  · rcases (show l = 0 ∨ l = 1 by omega) with rfl | rfl
    · rw [m0] at hk
      have q := h.1 0 k hl hk
      have q2 := h.2.1 k hk
      rw [show 16 * 0 + k = k by omega] at q ⊢
      obtain ⟨a1, a2, a3⟩ := ho k (by omega)
      obtain ⟨b1, b2, b3, b4, b5, b6, b7⟩ := q
      unfold LA1
      rw [a1, a2, a3]
      exact ⟨b1, b2, b3, b4, b5, vok_eq (fun j hj => hc2 _ (by omega)) b6, vok_eq (fun j hj => hc2 _ (by omega)) b7⟩
    · rw [m1] at hk
      have q := h.1 0 k (by omega) hk
      have q2 := h.2.1 k hk
      rw [show 16 * 0 + k = k by omega] at q
      rw [show 16 * 1 + k = 16 + k by omega]
      obtain ⟨a1, a2, a3⟩ := hs k (by omega)
      obtain ⟨b1, b2, b3, b4, b5, b6, b7⟩ := q
      unfold LA1
      rw [a1, a2, a3]
      refine ⟨by omega, by omega, by omega, by omega, by omega, ?_, ?_⟩
      · rw [show (240 + (arI g 143 k).toInt).toNat = 240 + (arI g 143 k).toInt.toNat by omega, show (240 + (arI g 144 k).toInt - (240 + (arI g 143 k).toInt)).toNat = ((arI g 144 k).toInt - (arI g 143 k).toInt).toNat by omega]
        exact vok_sh (fun j hj => by rw [Nat.add_assoc]; exact hc _ (by omega)) b6
      · rw [show (240 + (arI g 144 k).toInt).toNat = 240 + (arI g 144 k).toInt.toNat by omega, show (240 + (arI g 145 k).toInt - (240 + (arI g 144 k).toInt)).toNat = ((arI g 145 k).toInt - (arI g 144 k).toInt).toNat by omega]
        exact vok_sh (fun j hj => by rw [Nat.add_assoc]; exact hc _ (by omega)) b7
  · rw [m0] at hk
    obtain ⟨a1, a2, a3⟩ := ho k (by omega)
    rw [a3, cm]
    exact h.2.1 k hk
  · rw [m1] at hk
    have q := h.1 0 k (by omega) hk
    rw [show 16 * 0 + k = k by omega] at q
    obtain ⟨a1, a2, a3⟩ := hs k (by omega)
    rw [a1]
    have := q.1
    omega
/-- one more place of a row is as it should be -/
theorem row_cp {f f1 h : Nat → Int32} {o x : Int32} {m : Int} (e : f1 = upd f o.toNatClampNeg x) (hh : ∀ j : Nat, (j : Int) < o.toInt → f j = h j) (hx : x = h o.toNatClampNeg) (hm : m ≤ o.toInt + 1) : ∀ j : Nat, (j : Int) < m → f1 j = h j := by
  intro j hj
  have eo : o.toNatClampNeg = o.toInt.toNat := rfl
  rw [e]
  unfold upd
  by_cases q : j = o.toNatClampNeg
  · rw [if_pos q, q]; exact hx
  · rw [if_neg q]; exact hh j (by omega)
theorem row_up {f f1 h : Nat → Int32} {o x : Int32} {n : Nat} (e : f1 = upd f o.toNatClampNeg x) (hh : ∀ j : Nat, n ≤ j → f j = h j) (ho : o.toNatClampNeg < n) : ∀ j : Nat, n ≤ j → f1 j = h j := by
  intro j hj
  rw [e]
  unfold upd
  rw [if_neg (by omega)]
  exact hh j hj
theorem row_dn {f f1 h : Nat → Int32} {o x : Int32} {n : Nat} (e : f1 = upd f o.toNatClampNeg x) (hh : ∀ j : Nat, j < n → f j = h j) (ho : n ≤ o.toNatClampNeg) : ∀ j : Nat, j < n → f1 j = h j := by
  intro j hj
  rw [e]
  unfold upd
  rw [if_neg (by omega)]
  exact hh j hj
