def bnd (c : Int32) : Int := if c.toInt = 42 ∨ c.toInt = 47 ∨ c.toInt = 37 ∨ c.toInt = 43 ∨ c.toInt = 45 ∨ c.toInt = 60 ∨ c.toInt = 62 ∨ c.toInt = 61 ∨ c.toInt = 38 ∨ c.toInt = 124 then 1 else 0
theorem bnd_c (c : Int32) : ((c.toInt = 42 ∨ c.toInt = 47 ∨ c.toInt = 37 ∨ c.toInt = 43 ∨ c.toInt = 45 ∨ c.toInt = 60 ∨ c.toInt = 62 ∨ c.toInt = 61 ∨ c.toInt = 38 ∨ c.toInt = 124) ∧ bnd c = 1) ∨ (¬ (c.toInt = 42 ∨ c.toInt = 47 ∨ c.toInt = 37 ∨ c.toInt = 43 ∨ c.toInt = 45 ∨ c.toInt = 60 ∨ c.toInt = 62 ∨ c.toInt = 61 ∨ c.toInt = 38 ∨ c.toInt = 124) ∧ bnd c = 0) := by
  unfold bnd
  split
  · rename_i h; exact Or.inl ⟨h, rfl⟩
  · rename_i h; exact Or.inr ⟨h, rfl⟩
theorem bnd_nn (c : Int32) : 0 ≤ bnd c := by rcases bnd_c c with h | h <;> omega
/-- how many signs of two sides lie on the pile of signs -/
def cnt (s : Nat → Int32) : Nat → Int
  | 0 => 0
  | n + 1 => cnt s n + bnd (s n)
theorem cnt_nn (s : Nat → Int32) : ∀ n, 0 ≤ cnt s n
  | 0 => by show (0 : Int) ≤ 0; omega
  | n + 1 => by
    have h1 := cnt_nn s n
    have h2 := bnd_nn (s n)
    show 0 ≤ cnt s n + bnd (s n)
    omega
theorem cnt_eq {s s1 : Nat → Int32} : ∀ n, (∀ j, j < n → s1 j = s j) → cnt s1 n = cnt s n
  | 0, _ => rfl
  | n + 1, h => by
    show cnt s1 n + bnd (s1 n) = cnt s n + bnd (s n)
    rw [cnt_eq n (fun j hj => h j (by omega)), h n (by omega)]
theorem dpt_eq {f f1 : Nat → Int32} {a : Nat} : ∀ n, (∀ j, j < n → f1 (a + j) = f (a + j)) → dpt f1 a n = dpt f a n
  | 0, _ => rfl
  | n + 1, h => by
    show dpt f1 a n + eff (f1 (a + n)) = dpt f a n + eff (f (a + n))
    rw [dpt_eq n (fun j hj => h j (by omega)), h n (by omega)]
theorem vok_eq {f f1 : Nat → Int32} {a n : Nat} (h : ∀ j, j < n → f1 (a + j) = f (a + j)) (hv : vok f a n) : vok f1 a n := by
  intro j hj
  rw [dpt_eq j (fun i hi => h i (by omega)), h j hj]
  exact hv j hj
/-- what the text written so far and the pile of signs make together -/
def JJ (f s : Nat → Int32) (a : Int × (Nat → Int32)) (co sk b : Int) : Prop := 0 ≤ a.1 ∧ a.1 ≤ co ∧ 0 ≤ sk ∧ vok f a.1.toNat (co - a.1).toNat ∧ dpt f a.1.toNat (co - a.1).toNat = cnt s sk.toNat + b ∧ ∀ j : Nat, (j : Int) < a.1 → f j = a.2 j
theorem JJ_emit {f f1 s s1 : Nat → Int32} {a : Int × (Nat → Int32)} {co sk b sk1 b1 : Int} {o c : Int32} (h : JJ f s a co sk b) (e : f1 = upd f o.toNatClampNeg c) (ho : o.toInt = co) (h1 : 0 ≤ sk1) (hok : (2 < c.toInt → 2 ≤ cnt s sk.toNat + b) ∧ (c.toInt = 2 → 1 ≤ cnt s sk.toNat + b)) (hc : cnt s sk.toNat + b + eff c = cnt s1 sk1.toNat + b1) : JJ f1 s1 a (co + 1) sk1 b1 := by
  obtain ⟨q1, q2, q3, q4, q5, q6⟩ := h
  have eo : o.toNatClampNeg = co.toNat := by show o.toInt.toNat = _; rw [ho]
  have hf : ∀ j, j < (co - a.1).toNat → f1 (a.1.toNat + j) = f (a.1.toNat + j) := by
    intro j hj
    rw [e]
    unfold upd
    rw [if_neg (by omega)]
  have hl : f1 (a.1.toNat + (co - a.1).toNat) = c := by
    rw [e]
    unfold upd
    rw [if_pos (by omega)]
  have en : (co + 1 - a.1).toNat = (co - a.1).toNat + 1 := by omega
  refine ⟨q1, by omega, h1, ?_, ?_, fun j hj => ?_⟩
  · rw [en]
    intro j hj
    by_cases hj2 : j < (co - a.1).toNat
    · exact vok_eq hf q4 j hj2
    · have : j = (co - a.1).toNat := by omega
      subst this
      rw [dpt_eq _ hf, q5, hl]
      exact hok
  · rw [en]
    show dpt f1 _ _ + eff (f1 _) = _
    rw [dpt_eq _ hf, q5, hl, hc]
  · rw [e]
    unfold upd
    rw [if_neg (by omega)]
    exact q6 j hj
theorem cnt_pop {s : Nat → Int32} {sk : Int} (h : 1 ≤ sk) : cnt s sk.toNat = cnt s (sk - 1).toNat + bnd (s (sk - 1).toNat) := by
  rw [show sk.toNat = (sk - 1).toNat + 1 by omega]
  rfl
/-- a sign of two sides goes from the pile into the text -/
theorem JJ_bin {f f1 s : Nat → Int32} {a : Int × (Nat → Int32)} {co sk co1 sk1 : Int} {o c : Int32} (h : JJ f s a co sk 1) (e : f1 = upd f o.toNatClampNeg c) (ho : o.toInt = co) (h1 : 1 ≤ sk) (hc0 : c.toInt = (s (sk - 1).toNat).toInt) (hb : c.toInt = 42 ∨ c.toInt = 47 ∨ c.toInt = 37 ∨ c.toInt = 43 ∨ c.toInt = 45 ∨ c.toInt = 60 ∨ c.toInt = 62 ∨ c.toInt = 61 ∨ c.toInt = 38 ∨ c.toInt = 124) (e1 : co1 = co + 1) (e2 : sk1 = sk - 1) : JJ f1 s a co1 sk1 1 := by
  subst e1 e2
  have hc := Int32.toInt_inj.mp hc0
  have b1 := bnd_c c
  have b2 := eff_c c
  have p := cnt_pop (s := s) h1
  have n1 := cnt_nn s (sk - 1).toNat
  rw [← hc] at p
  exact JJ_emit h e ho (by omega) ⟨fun _ => by omega, fun _ => by omega⟩ (by omega)
/-- a ! goes from the pile, as NOT, into the text -/
theorem JJ_not {f f1 s : Nat → Int32} {a : Int × (Nat → Int32)} {co sk co1 sk1 : Int} {o c d : Int32} (h : JJ f s a co sk 1) (e : f1 = upd f o.toNatClampNeg c) (ho : o.toInt = co) (h1 : 1 ≤ sk) (hd0 : d.toInt = (s (sk - 1).toNat).toInt) (hd2 : d.toInt = 33) (hc : c.toInt = 2) (e1 : co1 = co + 1) (e2 : sk1 = sk - 1) : JJ f1 s a co1 sk1 1 := by
  subst e1 e2
  have hd := Int32.toInt_inj.mp hd0
  have b1 := bnd_c d
  have b2 := eff_c c
  have p := cnt_pop (s := s) h1
  have n1 := cnt_nn s (sk - 1).toNat
  rw [← hd] at p
  exact JJ_emit h e ho (by omega) ⟨fun _ => by omega, fun _ => by omega⟩ (by omega)
/-- a number or a letter comes into the text -/
theorem JJ_val {f f1 s : Nat → Int32} {a : Int × (Nat → Int32)} {co sk co1 : Int} {o c : Int32} (h : JJ f s a co sk 0) (e : f1 = upd f o.toNatClampNeg c) (ho : o.toInt = co) (hc : c.toInt < 2) (e1 : co1 = co + 1) : JJ f1 s a co1 sk 1 := by
  subst e1
  have b2 := eff_c c
  exact JJ_emit h e ho h.2.2.1 ⟨fun _ => by omega, fun _ => by omega⟩ (by omega)
/-- a sign that has not two sides is taken from the pile -/
theorem JJ_pop {f s : Nat → Int32} {a : Int × (Nat → Int32)} {co sk b sk1 : Int} {d : Int32} (h : JJ f s a co sk b) (h1 : 1 ≤ sk) (hd0 : d.toInt = (s (sk - 1).toNat).toInt) (hb : ¬ (d.toInt = 42 ∨ d.toInt = 47 ∨ d.toInt = 37 ∨ d.toInt = 43 ∨ d.toInt = 45 ∨ d.toInt = 60 ∨ d.toInt = 62 ∨ d.toInt = 61 ∨ d.toInt = 38 ∨ d.toInt = 124)) (e2 : sk1 = sk - 1) : JJ f s a co sk1 b := by
  subst e2
  have hd := Int32.toInt_inj.mp hd0
  have b1 := bnd_c d
  have p := cnt_pop (s := s) h1
  rw [← hd] at p
  obtain ⟨q1, q2, q3, q4, q5, q6⟩ := h
  exact ⟨q1, q2, by omega, q4, by omega, q6⟩
/-- a sign comes onto the pile -/
theorem JJ_push {f s s1 : Nat → Int32} {a : Int × (Nat → Int32)} {co sk b sk1 b1 : Int} {o c : Int32} (h : JJ f s a co sk b) (e : s1 = upd s o.toNatClampNeg c) (ho : o.toInt = sk) (hb : b = b1 + bnd c) (e2 : sk1 = sk + 1) : JJ f s1 a co sk1 b1 := by
  subst e2
  obtain ⟨q1, q2, q3, q4, q5, q6⟩ := h
  have eo : o.toNatClampNeg = sk.toNat := by show o.toInt.toNat = _; rw [ho]
  have e9 : cnt s1 (sk + 1).toNat = cnt s sk.toNat + bnd c := by
    rw [show (sk + 1).toNat = sk.toNat + 1 by omega]
    show cnt s1 sk.toNat + bnd (s1 sk.toNat) = _
    have q8 : cnt s1 sk.toNat = cnt s sk.toNat := cnt_eq sk.toNat (fun j hj => by rw [e]; unfold upd; rw [if_neg (by omega)])
    have q7 : s1 sk.toNat = c := by rw [e]; unfold upd; rw [if_pos (by omega)]
    rw [q8, q7]
  exact ⟨q1, q2, by omega, q4, by omega, q6⟩
