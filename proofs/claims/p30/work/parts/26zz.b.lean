/-- how many of the first k bits are set; the j-th that is -/
def cn (s : Int32) : Nat → Nat
  | 0 => 0
  | k + 1 => cn s k + if bt s k = true then 1 else 0
theorem cn_cb (s : Int32) : ∀ k : Nat, cb s k = (cn s k : Int)
  | 0 => rfl
  | k + 1 => by
    have h := cn_cb s k
    show cb s k + (if bt s k = true then 1 else 0) = ((cn s k + (if bt s k = true then 1 else 0) : Nat) : Int)
    by_cases c : bt s k = true
    · rw [if_pos c, if_pos c]; omega
    · rw [if_neg c, if_neg c]; omega
theorem cn_s (s : Int32) (k : Nat) : cn s (k + 1) = cn s k + if bt s k = true then 1 else 0 := rfl
theorem cn_mono (s : Int32) (k : Nat) : ∀ d : Nat, cn s k ≤ cn s (k + d)
  | 0 => Nat.le_refl _
  | d + 1 => by
    have := cn_mono s k d
    rw [show k + (d + 1) = k + d + 1 by omega, cn_s]
    omega
theorem cn_lt {s : Int32} {k m : Nat} (h : bt s k = true) (hk : k < m) : cn s k < cn s m := by
  have e := cn_mono s (k + 1) (m - (k + 1))
  rw [show k + 1 + (m - (k + 1)) = m by omega, cn_s, if_pos h] at e
  omega
theorem cn_inj {s : Int32} {a b : Nat} (ha : bt s a = true) (hb : bt s b = true) (h : cn s a = cn s b) : a = b := by
  by_cases c : a < b
  · have := cn_lt ha c; omega
  · by_cases d : b < a
    · have := cn_lt hb d; omega
    · omega
/-- the first of the first k that has j set ones before it and is set -/
def nthF (s : Int32) (j : Nat) : Nat → Nat
  | 0 => 0
  | k + 1 => if bt s k = true ∧ cn s k = j then k else nthF s j k
def nth (s : Int32) (j : Nat) : Nat := nthF s j 12
theorem nthF_at {s : Int32} {j k : Nat} (h : bt s k = true) (e : cn s k = j) : ∀ m : Nat, k < m → nthF s j m = k
  | 0, hk => absurd hk (Nat.not_lt_zero k)
  | m + 1, hk => by
    show (if bt s m = true ∧ cn s m = j then m else nthF s j m) = k
    by_cases c : bt s m = true ∧ cn s m = j
    · rw [if_pos c]
      exact cn_inj c.1 h (by omega)
    · rw [if_neg c]
      by_cases d : k = m
      · rw [← d] at c; exact absurd ⟨h, e⟩ c
      · exact nthF_at h e m (by omega)
theorem nth_cn {s : Int32} {k : Nat} (hk : k < 12) (h : bt s k = true) : nth s (cn s k) = k := nthF_at h rfl 12 hk
theorem nth_ex (s : Int32) (j : Nat) : ∀ m : Nat, j < cn s m → ∃ k, k < m ∧ bt s k = true ∧ cn s k = j
  | 0, h => absurd h (Nat.not_lt_zero j)
  | m + 1, h => by
    by_cases c : j < cn s m
    · obtain ⟨k, a, b, d⟩ := nth_ex s j m c
      exact ⟨k, by omega, b, d⟩
    · rw [cn_s] at h
      by_cases e : bt s m = true
      · rw [if_pos e] at h
        exact ⟨m, by omega, e, by omega⟩
      · rw [if_neg e] at h; omega
theorem nth_ok {s : Int32} {j : Nat} (h : j < cn s 12) : nth s j < 12 ∧ bt s (nth s j) = true ∧ cn s (nth s j) = j := by
  obtain ⟨k, a, b, c⟩ := nth_ex s j 12 h
  have e : nth s j = k := by rw [← c]; exact nth_cn a b
  rw [e]
  exact ⟨a, b, c⟩
/-- a row of n digits to a base, the highest first -/
def hz (b : Nat) (f : Nat → Nat) : Nat → Nat
  | 0 => 0
  | k + 1 => b * hz b f k + f k
def dg (b n c j : Nat) : Nat := c / b ^ (n - 1 - j) % b
theorem hz_s (b : Nat) (f : Nat → Nat) (k : Nat) : hz b f (k + 1) = b * hz b f k + f k := rfl
theorem hz_cg {b : Nat} {f f1 : Nat → Nat} : ∀ k, (∀ j, j < k → f j = f1 j) → hz b f k = hz b f1 k
  | 0, _ => rfl
  | k + 1, h => by rw [hz_s, hz_s, hz_cg k (fun j hj => h j (by omega)), h k (by omega)]
theorem hz_lt {b : Nat} {f : Nat → Nat} : ∀ k, (∀ j, j < k → f j < b) → hz b f k < b ^ k
  | 0, _ => Nat.one_pos
  | k + 1, h => by
    have h1 := hz_lt k (fun j hj => h j (by omega))
    have h2 := h k (by omega)
    have h3 : b * hz b f k + b ≤ b * b ^ k := by
      have := Nat.mul_le_mul_left b h1
      rw [Nat.mul_succ] at this
      exact this
    rw [hz_s, Nat.pow_succ, Nat.mul_comm (b ^ k) b]
    omega
theorem hz_div {b : Nat} {f : Nat → Nat} (k : Nat) : ∀ t, (∀ j, j < k + t → f j < b) → hz b f (k + t) / b ^ t = hz b f k
  | 0, _ => by rw [Nat.pow_zero, Nat.div_one]; rfl
  | t + 1, h => by
    have h2 := h (k + t) (by omega)
    have hb : 0 < b := by omega
    rw [show k + (t + 1) = k + t + 1 by omega, hz_s, Nat.pow_succ, Nat.mul_comm (b ^ t) b, ← Nat.div_div_eq_div_mul, Nat.mul_add_div hb, Nat.div_eq_of_lt h2, Nat.add_zero]
    exact hz_div k t (fun j hj => h j (by omega))
/-- a digit of a row -/
theorem dg_hz {b n : Nat} {f : Nat → Nat} (h : ∀ j, j < n → f j < b) (j : Nat) (hj : j < n) : dg b n (hz b f n) j = f j := by
  unfold dg
  have e := hz_div (b := b) (f := f) (j + 1) (n - 1 - j) (fun i hi => h i (by omega))
  rw [show j + 1 + (n - 1 - j) = n by omega] at e
  rw [e, hz_s, Nat.mul_add_mod, Nat.mod_eq_of_lt (h j hj)]
theorem dg_lt {b n c j : Nat} (h : 0 < b) : dg b n c j < b := Nat.mod_lt _ h
/-- a number is the row of its digits -/
theorem hz_dg (b : Nat) (hb : 0 < b) : ∀ n c : Nat, c < b ^ n → hz b (dg b n c) n = c
  | 0, c, h => by rw [Nat.pow_zero] at h; show 0 = c; omega
  | n + 1, c, h => by
    have h1 : c / b < b ^ n := by
      rw [Nat.pow_succ, Nat.mul_comm] at h
      exact Nat.div_lt_of_lt_mul h
    have e := hz_dg b hb n (c / b) h1
    have e1 : hz b (dg b (n + 1) c) n = hz b (dg b n (c / b)) n := hz_cg n (fun j hj => by
      unfold dg
      rw [Nat.div_div_eq_div_mul, ← Nat.pow_succ', show n + 1 - 1 - j = n - 1 - j + 1 by omega])
    have e2 : dg b (n + 1) c n = c % b := by
      unfold dg
      rw [show n + 1 - 1 - n = 0 by omega, Nat.pow_zero, Nat.div_one]
    rw [hz_s, e1, e, e2]
    exact Nat.div_add_mod c b
theorem two_lt {b x y u v : Nat} (hv : v < b) (h : b * x + u < b * y + v) : x ≤ y := by
  refine Nat.le_of_not_lt (fun c => ?_)
  have := Nat.mul_le_mul_left b (show y + 1 ≤ x from c)
  rw [Nat.mul_succ] at this
  omega
theorem two_eq {b x y u v : Nat} (hu : u < b) (hv : v < b) (h : b * x + u = b * y + v) : x = y ∧ u = v := by
  have e : x = y := by
    by_cases c : x < y
    · have := Nat.mul_le_mul_left b (show x + 1 ≤ y from c)
      rw [Nat.mul_succ] at this
      omega
    · by_cases d : y < x
      · have := Nat.mul_le_mul_left b (show y + 1 ≤ x from d)
        rw [Nat.mul_succ] at this
        omega
      · omega
  rw [e] at h
  exact ⟨e, by omega⟩
theorem hz_inj {b : Nat} {e f : Nat → Nat} : ∀ k, (∀ j, j < k → e j < b) → (∀ j, j < k → f j < b) → hz b e k = hz b f k → ∀ j, j < k → e j = f j
  | 0, _, _, _, j, hj => absurd hj (Nat.not_lt_zero j)
  | k + 1, he, hf, h, j, hj => by
    rw [hz_s, hz_s] at h
    obtain ⟨h1, h2⟩ := two_eq (he k (by omega)) (hf k (by omega)) h
    by_cases c : j = k
    · rw [c]; exact h2
    · exact hz_inj k (fun j hj => he j (by omega)) (fun j hj => hf j (by omega)) h1 j (by omega)
/-- rows keep their order where each digit goes over by a rule that keeps it -/
theorem hz_mono {b d : Nat} {e f g : Nat → Nat} (hg : ∀ i j, i < b → j < b → i < j → g i < g j) (hd : ∀ i, i < b → g i < d) : ∀ k, (∀ j, j < k → e j < b) → (∀ j, j < k → f j < b) → hz b e k < hz b f k → hz d (fun j => g (e j)) k < hz d (fun j => g (f j)) k
  | 0, _, _, h => absurd h (Nat.lt_irrefl _)
  | k + 1, he, hf, h => by
    rw [hz_s, hz_s] at h ⊢
    have he' : ∀ j, j < k → e j < b := fun j hj => he j (by omega)
    have hf' : ∀ j, j < k → f j < b := fun j hj => hf j (by omega)
    have h1 := two_lt (hf k (by omega)) h
    have g1 := hd _ (he k (by omega))
    by_cases c : hz b e k = hz b f k
    · have h2 : e k < f k := by rw [c] at h; omega
      have h3 := hg _ _ (he k (by omega)) (hf k (by omega)) h2
      have h4 : hz d (fun j => g (e j)) k = hz d (fun j => g (f j)) k := hz_cg k (fun j hj => by
        have := hz_inj k he' hf' c j hj
        show g (e j) = g (f j)
        rw [this])
      rw [h4]
      show d * hz d (fun j => g (f j)) k + g (e k) < d * hz d (fun j => g (f j)) k + g (f k)
      omega
    · have h2 := hz_mono hg hd k he' hf' (by omega)
      have h3 := Nat.mul_le_mul_left d h2
      rw [Nat.mul_succ] at h3
      show d * hz d (fun j => g (e j)) k + g (e k) < d * hz d (fun j => g (f j)) k + g (f k)
      omega
/-- the bits of a row; how many there are -/
def us (e : Nat → Nat) : Nat → Int32
  | 0 => 0
  | k + 1 => us e k ||| ((1 : Int32) <<< (nI (e k) &&& 31))
theorem us_bt {e : Nat → Nat} : ∀ k, (∀ j, j < k → e j < 12) → ∀ q, q < 32 → (bt (us e k) q = true ↔ ∃ j, j < k ∧ e j = q)
  | 0, _, q, _ => ⟨fun h => by rw [show us e 0 = 0 from rfl, b_0] at h; exact absurd h (by decide), fun ⟨j, h, _⟩ => absurd h (Nat.not_lt_zero j)⟩
  | k + 1, h, q, hq => by
    show bt (us e k ||| ((1 : Int32) <<< (nI (e k) &&& 31))) q = true ↔ _
    have hk := h k (by omega)
    rw [b_or, bt_sh1 (e k) (by omega) q hq, Bool.or_eq_true, decide_eq_true_iff, us_bt k (fun j hj => h j (by omega)) q hq]
    refine ⟨fun h9 => ?_, fun ⟨j, a, b⟩ => ?_⟩
    · rcases h9 with ⟨j, a, b⟩ | h9
      · exact ⟨j, by omega, b⟩
      · exact ⟨k, by omega, h9.symm⟩
    · by_cases c : j = k
      · rw [c] at b; exact Or.inr b.symm
      · exact Or.inl ⟨j, by omega, b⟩
theorem cb_ins {b : Int32} {k : Nat} (hk : k < 12) (h : bt b k = false) : ∀ n : Nat, n ≤ 32 → cb (b ||| ((1 : Int32) <<< (nI k &&& 31))) n = cb b n + if k < n then 1 else 0
  | 0, _ => by rw [if_neg (Nat.not_lt_zero k)]; rfl
  | n + 1, hn => by
    have e := cb_ins hk h n (by omega)
    show cb (b ||| ((1 : Int32) <<< (nI k &&& 31))) n + (if bt (b ||| ((1 : Int32) <<< (nI k &&& 31))) n = true then 1 else 0) = cb b n + (if bt b n = true then 1 else 0) + _
    have hb : bt (b ||| ((1 : Int32) <<< (nI k &&& 31))) n = true ↔ (bt b n = true ∨ n = k) := by
      rw [b_or, bt_sh1 k (by omega) n (by omega), Bool.or_eq_true, decide_eq_true_iff]
    rw [e]
    by_cases c : n = k
    · have a1 : (if k < n then (1 : Int) else 0) = 0 := if_neg (by omega)
      have a2 : (if k < n + 1 then (1 : Int) else 0) = 1 := if_pos (by omega)
      have a3 : (if bt b n = true then (1 : Int) else 0) = 0 := if_neg (by rw [c, h]; decide)
      have a4 : (if bt (b ||| ((1 : Int32) <<< (nI k &&& 31))) n = true then (1 : Int) else 0) = 1 := if_pos (hb.mpr (Or.inr c))
      rw [a1, a2, a3, a4] <;> omega
    · by_cases d : bt b n = true
      · have a3 : (if bt b n = true then (1 : Int) else 0) = 1 := if_pos d
        have a4 : (if bt (b ||| ((1 : Int32) <<< (nI k &&& 31))) n = true then (1 : Int) else 0) = 1 := if_pos (hb.mpr (Or.inl d))
        by_cases l : k < n
        · rw [if_pos l, if_pos (show k < n + 1 by omega), a3, a4] <;> omega
        · rw [if_neg l, if_neg (show ¬ k < n + 1 by omega), a3, a4] <;> omega
      · have a3 : (if bt b n = true then (1 : Int) else 0) = 0 := if_neg d
        have a4 : (if bt (b ||| ((1 : Int32) <<< (nI k &&& 31))) n = true then (1 : Int) else 0) = 0 := if_neg (fun q => (hb.mp q).elim d c)
        by_cases l : k < n
        · rw [if_pos l, if_pos (show k < n + 1 by omega), a3, a4] <;> omega
        · rw [if_neg l, if_neg (show ¬ k < n + 1 by omega), a3, a4] <;> omega
theorem or_has {b : Int32} {k : Nat} (hk : k < 31) (h : bt b k = true) : b ||| ((1 : Int32) <<< (nI k &&& 31)) = b := b_ext (fun q hq => by
  rw [b_or, bt_sh1 k hk q hq]
  by_cases c : q = k
  · rw [c, h]; rfl
  · rw [decide_eq_false c, Bool.or_false])
theorem us_le {e : Nat → Nat} : ∀ k, (∀ j, j < k → e j < 12) → cb (us e k) 12 ≤ k
  | 0, _ => by rw [show us e 0 = 0 from rfl, cb_00 (by decide)]; exact Int.le_refl 0
  | k + 1, h => by
    have h1 := us_le k (fun j hj => h j (by omega))
    have hk := h k (by omega)
    show cb (us e k ||| ((1 : Int32) <<< (nI (e k) &&& 31))) 12 ≤ _
    cases c : bt (us e k) (e k) with
    | true => rw [or_has (by omega) c]; omega
    | false => rw [cb_ins hk c 12 (by decide), if_pos hk]; omega
/-- unlike digits -/
def dif (e : Nat → Nat) (n : Nat) : Prop := ∀ j, j < n → ∀ i, i < j → e i ≠ e j
theorem us_dif {e : Nat → Nat} : ∀ k, (∀ j, j < k → e j < 12) → (cb (us e k) 12 = k ↔ dif e k)
  | 0, _ => ⟨fun _ j hj => absurd hj (Nat.not_lt_zero j), fun _ => by rw [show us e 0 = 0 from rfl, cb_00 (by decide)]; rfl⟩
  | k + 1, h => by
    have h' : ∀ j, j < k → e j < 12 := fun j hj => h j (by omega)
    have h1 := us_le k h'
    have hk := h k (by omega)
    have ih := us_dif k h'
    show cb (us e k ||| ((1 : Int32) <<< (nI (e k) &&& 31))) 12 = _ ↔ _
    cases c : bt (us e k) (e k) with
    | true =>
      rw [or_has (by omega) c]
      obtain ⟨i, a, b⟩ := (us_bt k h' (e k) (by omega)).mp c
      exact ⟨fun q => by omega, fun q => absurd b (q k (by omega) i a)⟩
    | false =>
      rw [cb_ins hk c 12 (by decide), if_pos hk]
      refine ⟨fun q => ?_, fun q => ?_⟩
      · have d := ih.mp (by omega)
        intro j hj i hi
        by_cases l : j = k
        · rw [l]
          intro z
          rw [(us_bt k h' (e k) (by omega)).mpr ⟨i, by omega, z⟩] at c
          exact absurd c (by decide)
        · exact d j (by omega) i hi
      · have d := ih.mpr (fun j hj i hi => q j (by omega) i hi)
        omega
theorem cb_hi {b : Int32} {n : Nat} : ∀ d : Nat, (∀ q, n ≤ q → q < n + d → bt b q = false) → cb b (n + d) = cb b n
  | 0, _ => rfl
  | d + 1, h => by
    rw [show n + (d + 1) = n + d + 1 by omega]
    show cb b (n + d) + (if bt b (n + d) = true then 1 else 0) = cb b n
    rw [h (n + d) (by omega) (by omega), if_neg (by decide), cb_hi d (fun q h1 h2 => h q h1 (by omega)), Int.add_zero]
theorem mask_cb : ∀ n, n < 12 → cb (((1 : Int32) <<< (nI n &&& 31)) - 1) 12 = (n : Int) := by decide +kernel
theorem us_msk {e : Nat → Nat} {n : Nat} (hn : n < 12) (h : ∀ j, j < n → e j < n) : us e n = ((1 : Int32) <<< (nI n &&& 31)) - 1 ↔ dif e n := by
  have h' : ∀ j, j < n → e j < 12 := fun j hj => by have := h j hj; omega
  refine ⟨fun q => (us_dif n h').mp (by rw [q]; exact mask_cb n hn), fun d => ?_⟩
  have c := (us_dif n h').mpr d
  have hz : ∀ q, n ≤ q → q < n + (12 - n) → bt (us e n) q = false := fun q h1 h2 => by
    cases z : bt (us e n) q with
    | false => rfl
    | true =>
      obtain ⟨j, a, b⟩ := (us_bt n h' q (by omega)).mp z
      have := h j a
      omega
  have c2 := cb_hi (b := us e n) (n := n) (12 - n) hz
  rw [show n + (12 - n) = 12 by omega] at c2
  refine b_ext (fun q hq => ?_)
  rw [mask_dec n hn q hq]
  by_cases l : q < n
  · rw [cb_full (us e n) n (by omega) q l, decide_eq_true l]
  · rw [decide_eq_false l]
    cases z : bt (us e n) q with
    | false => rfl
    | true =>
      obtain ⟨j, a, b⟩ := (us_bt n h' q hq).mp z
      have := h j a
      omega
def okX (M : Int32) (n c : Nat) : Prop := (∀ j, j < n → bt M (dg 5 n c j) = true) ∧ dif (dg 5 n c) n
def okM (n r : Nat) : Prop := dif (dg n n r) n
/-- skill, added up: by arts, by places -/
def wX (w : Nat → Nat → Int) (A : Int32) (d : Nat → Nat) : Nat → Int
  | 0 => 0
  | k + 1 => wX w A d k + if bt A k = true then w (d (cn A k)) k else 0
def wM (w : Nat → Nat → Int) (M A : Int32) (e : Nat → Nat) : Nat → Int
  | 0 => 0
  | j + 1 => wM w M A e j + w (nth M (e j)) (nth A j)
theorem wX_s (w : Nat → Nat → Int) (A : Int32) (d : Nat → Nat) (k : Nat) : wX w A d (k + 1) = wX w A d k + if bt A k = true then w (d (cn A k)) k else 0 := rfl
theorem wM_s (w : Nat → Nat → Int) (M A : Int32) (e : Nat → Nat) (j : Nat) : wM w M A e (j + 1) = wM w M A e j + w (nth M (e j)) (nth A j) := rfl
theorem wX_M {w : Nat → Nat → Int} {M A : Int32} {d e : Nat → Nat} : ∀ k, k ≤ 12 → (∀ j, j < cn A k → d j = nth M (e j)) → wX w A d k = wM w M A e (cn A k)
  | 0, _, _ => rfl
  | k + 1, hk, h => by
    have hm := cn_mono A k 1
    rw [wX_s, wX_M k (by omega) (fun j hj => h j (by omega)), cn_s]
    by_cases c : bt A k = true
    · rw [if_pos c, if_pos c, wM_s, nth_cn (by omega) c, h (cn A k) (by rw [cn_s, if_pos c]; omega)]
    · rw [if_neg c, if_neg c, Nat.add_zero, Int.add_zero]
theorem wM_0 {w : Nat → Nat → Int} {M A : Int32} {e : Nat → Nat} {n : Nat} (hw : ∀ m k, 0 ≤ w m k) : ∀ j, 0 ≤ wM w M A e j
  | 0 => Int.le_refl 0
  | j + 1 => by
    have h1 := wM_0 (M := M) (A := A) (e := e) (n := n) hw j
    have h2 := hw (nth M (e j)) (nth A j)
    rw [wM_s]; omega
/-- the best row so far -/
def BT (ok : Nat → Prop) (W : Nat → Int) (b : Nat) (m : Int) (f : Nat) : Prop := (m = -1 ∨ (ok b ∧ b < f ∧ m = W b)) ∧ ∀ r, r < f → ok r → W r < m ∨ (W r = m ∧ b ≤ r)
theorem BT_0 {ok : Nat → Prop} {W : Nat → Int} : BT ok W 0 (-1) 0 := ⟨Or.inl rfl, fun r h => absurd h (Nat.not_lt_zero r)⟩
theorem BT_no {ok : Nat → Prop} {W : Nat → Int} {b : Nat} {m : Int} {f : Nat} (h : BT ok W b m f) (hn : ¬ ok f ∨ (0 ≤ W f ∧ W f ≤ m)) : BT ok W b m (f + 1) := by
  obtain ⟨h1, h2⟩ := h
  refine ⟨h1.elim Or.inl (fun h => Or.inr ⟨h.1, by have := h.2.1; omega, h.2.2⟩), fun r hr ho => ?_⟩
  by_cases c : r = f
  · rw [c] at ho ⊢
    rcases hn with hn | hn
    · exact absurd ho hn
    · rcases h1 with h1 | h1
      · omega
      · have := h1.2.1
        omega
  · exact h2 r (by omega) ho
theorem BT_yes {ok : Nat → Prop} {W : Nat → Int} {b : Nat} {m m1 : Int} {f : Nat} (h : BT ok W b m f) (ho : ok f) (hm : m1 = W f) (hl : m < m1) : BT ok W f m1 (f + 1) := by
  obtain ⟨h1, h2⟩ := h
  refine ⟨Or.inr ⟨ho, by omega, hm⟩, fun r hr ho2 => ?_⟩
  by_cases c : r = f
  · rw [c]; omega
  · have := h2 r (by omega) ho2
    omega
theorem BT_end {ok : Nat → Prop} {W : Nat → Int} {b : Nat} {m : Int} {f r : Nat} (h : BT ok W b m f) (hr : r < f) (ho : ok r) (hw : 0 ≤ W r) : ok b ∧ b < f ∧ m = W b := by
  obtain ⟨h1, h2⟩ := h
  have := h2 r hr ho
  rcases h1 with h1 | h1
  · omega
  · exact h1
/-- both ways find the same -/
theorem taught_eq {w : Nat → Nat → Int} {M A : Int32} {n c r : Nat} {mX mM : Int} (hw : ∀ m k, 0 ≤ w m k) (hM : ∀ q, q < 32 → bt M q = true → q < 5) (hn : cn M 12 = n) (hA : cn A 6 = n) (hX : BT (okX M n) (fun c => wX w A (dg 5 n c) 6) c mX (5 ^ n)) (hR : BT (okM n) (fun r => wM w M A (dg n n r) n) r mM (n ^ n)) (h1 : 1 ≤ n) : mX = mM ∧ 0 ≤ mM ∧ ∀ j, j < n → dg 5 n c j = nth M (dg n n r j) := by
  have n5 : ∀ i, i < n → nth M i < 5 := fun i hi => by
    have := nth_ok (s := M) (j := i) (by omega)
    exact hM _ (by omega) this.2.1
  have dl : ∀ x j, dg n n x j < n := fun x j => dg_lt (by omega)
  have pd : ∀ x j, j < n → dg 5 n (hz 5 (fun j => nth M (dg n n x j)) n) j = nth M (dg n n x j) := fun x j hj => dg_hz (f := fun j => nth M (dg n n x j)) (fun j _ => n5 _ (dl x j)) j hj
  have pl : ∀ x, hz 5 (fun j => nth M (dg n n x j)) n < 5 ^ n := fun x => hz_lt n (fun j _ => n5 _ (dl x j))
  have po : ∀ x, okM n x → okX M n (hz 5 (fun j => nth M (dg n n x j)) n) := fun x hx => by
    refine ⟨fun j hj => ?_, fun j hj i hi e => ?_⟩
    · rw [pd x j hj]
      exact (nth_ok (by have := dl x j; omega)).2.1
    · rw [pd x j hj, pd x i (by omega)] at e
      have e1 := (nth_ok (s := M) (j := dg n n x i) (by have := dl x i; omega)).2.2
      have e2 := (nth_ok (s := M) (j := dg n n x j) (by have := dl x j; omega)).2.2
      rw [e] at e1
      exact hx j hj i hi (by omega)
  have pw : ∀ x, wX w A (dg 5 n (hz 5 (fun j => nth M (dg n n x j)) n)) 6 = wM w M A (dg n n x) n := fun x => by
    rw [wX_M (M := M) (e := dg n n x) 6 (by decide) (fun j hj => pd x j (by omega)), hA]
  have ps : ∀ y, y < 5 ^ n → okX M n y → ∃ x, x < n ^ n ∧ okM n x ∧ hz 5 (fun j => nth M (dg n n x j)) n = y := fun y hy ho => by
    have rl : ∀ j, j < n → cn M (dg 5 n y j) < n := fun j hj => by
      have d5 : dg 5 n y j < 5 := dg_lt (by decide)
      have := cn_lt (m := 12) (ho.1 j hj) (by omega)
      omega
    refine ⟨hz n (fun j => cn M (dg 5 n y j)) n, hz_lt n rl, ?_, ?_⟩
    · intro j hj i hi e
      rw [dg_hz rl j hj, dg_hz rl i (by omega)] at e
      exact ho.2 j hj i hi (cn_inj (ho.1 i (by omega)) (ho.1 j hj) e)
    · have e : hz 5 (fun j => nth M (dg n n (hz n (fun j => cn M (dg 5 n y j)) n) j)) n = hz 5 (dg 5 n y) n := hz_cg n (fun j hj => by
        show nth M (dg n n (hz n (fun j => cn M (dg 5 n y j)) n) j) = dg 5 n y j
        have d5 : dg 5 n y j < 5 := dg_lt (by decide)
        rw [dg_hz rl j hj]
        exact nth_cn (by omega) (ho.1 j hj))
      rw [e]
      exact hz_dg 5 (by decide) n y hy
  have pm : ∀ x y, x < n ^ n → y < n ^ n → x ≤ y → hz 5 (fun j => nth M (dg n n x j)) n ≤ hz 5 (fun j => nth M (dg n n y j)) n := fun x y hx hy hl => by
    by_cases e : x = y
    · rw [e]; exact Nat.le_refl _
    · refine Nat.le_of_lt (hz_mono (b := n) (d := 5) (g := nth M) (fun i j hi hj hij => ?_) n5 n (fun j _ => dl x j) (fun j _ => dl y j) ?_)
      · refine Nat.lt_of_not_le (fun z => ?_)
        have e1 := (nth_ok (s := M) (j := i) (by omega)).2.2
        have e2 := (nth_ok (s := M) (j := j) (by omega)).2.2
        have e3 := cn_mono M (nth M j) (nth M i - nth M j)
        rw [show nth M j + (nth M i - nth M j) = nth M i by omega] at e3
        omega
      · show hz n (dg n n x) n < hz n (dg n n y) n
        rw [hz_dg n (by omega) n x hx, hz_dg n (by omega) n y hy]
        omega
  have idl : ∀ j, j < n → (fun j => j) j < n := fun j hj => hj
  have ri : hz n (fun j => j) n < n ^ n := hz_lt n idl
  have ro : okM n (hz n (fun j => j) n) := fun j hj i hi e => by
    rw [dg_hz idl j hj, dg_hz idl i (by omega)] at e
    have e : i = j := e
    omega
  obtain ⟨m1, m2, m3⟩ := BT_end hR ri ro (wM_0 (n := n) hw n)
  obtain ⟨x1, x2, x3⟩ := BT_end hX (pl (hz n (fun j => j) n)) (po _ ro) (by show 0 ≤ wX w A _ 6; rw [pw]; exact wM_0 (n := n) hw n)
  obtain ⟨s, s1, s2, s3⟩ := ps c x2 x1
  have a1 := hR.2 s s1 s2
  have a2 := hX.2 _ (pl r) (po r m1)
  have a2 : wX w A (dg 5 n (hz 5 (fun j => nth M (dg n n r j)) n)) 6 < mX ∨ (wX w A (dg 5 n (hz 5 (fun j => nth M (dg n n r j)) n)) 6 = mX ∧ c ≤ hz 5 (fun j => nth M (dg n n r j)) n) := a2
  have a1 : wM w M A (dg n n s) n < mM ∨ (wM w M A (dg n n s) n = mM ∧ r ≤ s) := a1
  have x3 : mX = wX w A (dg 5 n c) 6 := x3
  have m3 : mM = wM w M A (dg n n r) n := m3
  rw [pw] at a2
  rw [← s3, pw] at x3
  have e1 : mX = mM := by omega
  have e2 : r ≤ s := by omega
  have e3 : c ≤ hz 5 (fun j => nth M (dg n n r j)) n := by omega
  have e4 := pm r s m2 s1 e2
  rw [s3] at e4
  have e5 : c = hz 5 (fun j => nth M (dg n n r j)) n := by omega
  refine ⟨e1, by rw [m3]; exact wM_0 (n := n) hw n, fun j hj => ?_⟩
  rw [e5]
  exact pd r j hj
theorem msk_dec : ∀ a, a < 64 → ∀ k, k < 6 → cb (nI a &&& (((1 : Int32) <<< (nI k &&& 31)) - 1)) 12 = (cn (nI a) k : Int) := by decide +kernel
/-- skill on both sides -/
def wS (g : Nat → va_E) (m k : Nat) : Int := if m < 5 ∧ k < 6 then (arI g (113 + 1 * m) k).toInt else 0
def wR (g : Nat → va_E) (m k : Nat) : Int := if m < 5 ∧ k < 6 then (arI g 177 (6 * m + k)).toInt else 0
theorem wS_0 {g : Nat → va_E} (h : ∀ m k : Nat, m < 5 → k < 6 → 0 ≤ (arI g (113 + 1 * m) k).toInt ∧ (arI g (113 + 1 * m) k).toInt ≤ 99) (m k : Nat) : 0 ≤ wS g m k := by
  unfold wS
  by_cases c : m < 5 ∧ k < 6
  · rw [if_pos c]; exact (h m k c.1 c.2).1
  · rw [if_neg c]; exact Int.le_refl 0
theorem wS_cg {g g1 : Nat → va_E} (e : ∀ m : Nat, m < 5 → arI g1 (113 + 1 * m) = arI g (113 + 1 * m)) : wS g1 = wS g := by
  funext m k
  unfold wS
  by_cases c : m < 5 ∧ k < 6
  · rw [if_pos c, if_pos c, e m c.1]
  · rw [if_neg c, if_neg c]
theorem wR_0 {g : Nat → va_E} (h : ∀ m k : Nat, m < 5 → k < 6 → 0 ≤ (arI g 177 (6 * m + k)).toInt ∧ (arI g 177 (6 * m + k)).toInt ≤ 99) (m k : Nat) : 0 ≤ wR g m k := by
  unfold wR
  by_cases c : m < 5 ∧ k < 6
  · rw [if_pos c]; exact (h m k c.1 c.2).1
  · rw [if_neg c]; exact Int.le_refl 0
def un (n j : Nat) : Int := if j < n then ((5 ^ (n - 1 - j) : Nat) : Int) else 0
theorem un_pos {n j : Nat} (h : j < n) : 1 ≤ un n j := by
  unfold un
  rw [if_pos h]
  have := Nat.pow_pos (n := n - 1 - j) (show 0 < 5 by decide)
  omega
theorem un_0 {n : Nat} (h : 1 ≤ n) {x : Int} (hx : x = ((5 ^ n : Nat) : Int)) : x / 5 = un n 0 := by
  unfold un
  rw [if_pos (by omega), hx]
  obtain ⟨t, ht⟩ : ∃ t, n = t + 1 := ⟨n - 1, by omega⟩
  rw [ht, Nat.pow_succ, show t + 1 - 1 - 0 = t by omega]
  generalize 5 ^ t = y
  omega
theorem un_st {n j : Nat} (h : j < n) : un n j / 5 = un n (j + 1) := by
  unfold un
  rw [if_pos h]
  by_cases c : j + 1 < n
  · rw [if_pos c]
    obtain ⟨t, ht⟩ : ∃ t, n - 1 - j = t + 1 := ⟨n - 1 - j - 1, by omega⟩
    rw [ht, Nat.pow_succ, show n - 1 - (j + 1) = t by omega]
    generalize 5 ^ t = y
    omega
  · rw [if_neg c, show n - 1 - j = 0 by omega]
    decide
theorem dg_int {n j : Nat} {c u m z : Int} (h : j < n) (h0 : 0 ≤ c) (hu : u = un n j) (hz : z = c / u) (hm : m = z % 5) : m = (dg 5 n c.toNat j : Int) := by
  unfold un at hu
  rw [if_pos h] at hu
  obtain ⟨x, hx⟩ : ∃ x : Nat, c = x := ⟨c.toNat, by omega⟩
  rw [hm, hz, hu, hx]
  unfold dg
  rw [show ((x : Nat) : Int).toNat = x from Int.toNat_natCast x, Int.natCast_emod, Int.natCast_ediv]
  rfl
/-- the first j digits are masters, unlike ones; left are the others -/
def SK (so left : Int32) (d : Nat → Nat) (j : Nat) : Prop := (∀ i, i < j → bt so (d i) = true) ∧ dif d j ∧ ∀ q, q < 32 → (bt left q = true ↔ (bt so q = true ∧ ∀ i, i < j → d i ≠ q))
theorem SK_0 {so : Int32} {d : Nat → Nat} : SK so so d 0 := ⟨fun i h => absurd h (Nat.not_lt_zero i), fun j h => absurd h (Nat.not_lt_zero j), fun q _ => ⟨fun h => ⟨h, fun i hi => absurd hi (Nat.not_lt_zero i)⟩, fun h => h.1⟩⟩
theorem SK_st {so left m s x z : Int32} {d : Nat → Nat} {j : Nat} (h : SK so left d j) (hm : m.toInt = (d j : Int)) (h5 : d j < 31) (hb : bt left m.toInt.toNat = true) (hs : (1 : Int32) <<< (m &&& 31) = s) (hx : s ^^^ (-1) = x) (hz : left &&& x = z) : SK so z d (j + 1) := by
  obtain ⟨h1, h2, h3⟩ := h
  have em : m.toInt.toNat = d j := by omega
  rw [em] at hb
  have hb2 := (h3 (d j) (by omega)).mp hb
  refine ⟨fun i hi => ?_, fun a ha i hi => ?_, fun q hq => ?_⟩
  · by_cases c : i = j
    · rw [c]; exact hb2.1
    · exact h1 i (by omega)
  · by_cases c : a = j
    · rw [c]
      rw [c] at hi
      exact hb2.2 i hi
    · exact h2 a (by omega) i hi
  · rw [bt_less hx hz q hq, h3 q hq, bt_one hs (by omega) (by omega) q hq, em]
    refine ⟨fun ⟨⟨a, b⟩, c⟩ => ⟨a, fun i hi => ?_⟩, fun ⟨a, b⟩ => ⟨⟨a, fun i hi => b i (by omega)⟩, fun c => b j (by omega) c.symm⟩⟩
    by_cases e : i = j
    · rw [e]; exact fun z => c z.symm
    · exact b i (by omega)
theorem SK_not {so left m : Int32} {d : Nat → Nat} {j n : Nat} (h : SK so left d j) (hm : m.toInt = (d j : Int)) (h5 : d j < 31) (hb : bt left m.toInt.toNat = false) (hj : j < n) : ¬ ((∀ i, i < n → bt so (d i) = true) ∧ dif d n) := fun ⟨a, b⟩ => by
  rw [show m.toInt.toNat = d j by omega] at hb
  have := (h.2.2 (d j) (by omega)).mpr ⟨a j hj, fun i hi => b j hj i hi⟩
  rw [hb] at this
  exact absurd this (by decide)
theorem cn_no {s k k1 : Int32} (h0 : 0 ≤ k.toInt) (hj : k1.toInt = k.toInt + 1) (hb : bt s k.toInt.toNat = false) : cn s k1.toInt.toNat = cn s k.toInt.toNat := by
  rw [show k1.toInt.toNat = k.toInt.toNat + 1 by omega, cn_s, if_neg (bff hb), Nat.add_zero]
theorem cn_yes {s k k1 : Int32} (h0 : 0 ≤ k.toInt) (hj : k1.toInt = k.toInt + 1) (hb : bt s k.toInt.toNat = true) : cn s k1.toInt.toNat = cn s k.toInt.toNat + 1 := by
  rw [show k1.toInt.toNat = k.toInt.toNat + 1 by omega, cn_s, if_pos hb]
theorem wX_no {w : Nat → Nat → Int} {A k k1 : Int32} {d : Nat → Nat} {s : Int} (h : s = wX w A d k.toInt.toNat) (h0 : 0 ≤ k.toInt) (hj : k1.toInt = k.toInt + 1) (hb : bt A k.toInt.toNat = false) : s = wX w A d k1.toInt.toNat := by
  rw [show k1.toInt.toNat = k.toInt.toNat + 1 by omega, wX_s, if_neg (bff hb), Int.add_zero]
  exact h
theorem wX_yes {w : Nat → Nat → Int} {A k k1 : Int32} {d : Nat → Nat} {s s1 y : Int} (h : s = wX w A d k.toInt.toNat) (h0 : 0 ≤ k.toInt) (hj : k1.toInt = k.toInt + 1) (hb : bt A k.toInt.toNat = true) (hy : y = w (d (cn A k.toInt.toNat)) k.toInt.toNat) (hs : s1 = s + y) : s1 = wX w A d k1.toInt.toNat := by
  rw [show k1.toInt.toNat = k.toInt.toNat + 1 by omega, wX_s, if_pos hb, ← hy, ← h]
  exact hs
/-- powers -/
theorem pw_st {b p z t t1 : Int32} (hz : p * b = z) (h : p.toInt = ((b.toInt.toNat ^ t.toInt.toNat : Nat) : Int)) (b0 : 1 ≤ b.toInt) (b5 : b.toInt ≤ 5) (t0 : 0 ≤ t.toInt) (t4 : t.toInt ≤ 4) (ht : t1.toInt = t.toInt + 1) : z.toInt = ((b.toInt.toNat ^ t1.toInt.toNat : Nat) : Int) ∧ 0 ≤ z.toInt ∧ z.toInt ≤ 3125 := by
  have e1 : b.toInt.toNat ^ t.toInt.toNat ≤ 5 ^ 4 := Nat.le_trans (Nat.pow_le_pow_left (by omega) _) (Nat.pow_le_pow_right (by decide) (by omega))
  have e2 : (5 : Nat) ^ 4 = 625 := by decide
  have e3 := i_mulB hz 625 5 (by omega) (by omega) (by omega) (by omega) (by decide)
  have e5 := Int.mul_le_mul (show p.toInt ≤ 625 by omega) b5 (by omega) (by decide)
  have e6 : 0 ≤ p.toInt * b.toInt := Int.mul_nonneg (by omega) (by omega)
  have e4 := i_mulT hz (rfl : p.toInt = p.toInt) (rfl : b.toInt = b.toInt) (by omega) (by omega)
  refine ⟨?_, e3.1, by omega⟩
  rw [e4, h, show t1.toInt.toNat = t.toInt.toNat + 1 by omega, Nat.pow_succ, Int.natCast_mul, show ((b.toInt.toNat : Nat) : Int) = b.toInt by omega]
/-- the flags of masters: bits of a small number -/
theorem cn_6 {s : Int32} (h0 : 0 ≤ s.toInt) (h1 : s.toInt < 64) : cb s 12 = (cn s 6 : Int) := by
  rw [← cn_cb s 6]
  exact cb_hi (b := s) (n := 6) 6 (fun q h2 h3 => by
    cases c : bt s q with
    | false => rfl
    | true =>
      have := bt_lt (n := 6) h0 h1 c
      omega)
theorem cn_le (s : Int32) : ∀ k : Nat, cn s k ≤ k
  | 0 => Nat.le_refl 0
  | k + 1 => by
    have := cn_le s k
    rw [cn_s]
    split <;> omega
def WX (g : Nat → va_E) (aa : Int32) (n c : Nat) : Int := wX (wS g) aa (dg 5 n c) 6
def WM (g : Nat → va_E) (M A : Int32) (n r : Nat) : Int := wM (wR g) M A (dg n n r) n
theorem cn_5 {s : Int32} (h0 : 0 ≤ s.toInt) (h1 : s.toInt < 32) : cb s 12 ≤ 5 := by
  have e : cb s 12 = cb s 5 := cb_hi (b := s) (n := 5) 7 (fun q h2 h3 => by
    cases c : bt s q with
    | false => rfl
    | true =>
      have := bt_lt (n := 5) h0 h1 c
      omega)
  rw [e]
  exact (cb_le s 5).2
theorem pos_dec : ∀ b, b < 64 → b ≠ 0 → 1 ≤ cb (nI b) 12 := by decide +kernel
theorem pos_64 {s : Int32} (h0 : 1 ≤ s.toInt) (h1 : s.toInt < 64) : 1 ≤ cb s 12 := by
  have hx : s = nI s.toInt.toNat := nI_k (by omega) (by omega)
  have h := pos_dec s.toInt.toNat (by omega) (by omega)
  rw [← hx] at h
  exact h
theorem msk_of {s k b t z : Int32} (h0 : 0 ≤ s.toInt) (h1 : s.toInt < 64) (k0 : 0 ≤ k.toInt) (k1 : k.toInt < 6) (hb : (1 : Int32) <<< (k &&& 31) = b) (ht : b - 1 = t) (hz : s &&& t = z) : cb z 12 = (cn s k.toInt.toNat : Int) := by
  have hx : s = nI s.toInt.toNat := nI_k (by omega) (by omega)
  have hk : k = nI k.toInt.toNat := nI_k (by omega) (by omega)
  have h := msk_dec s.toInt.toNat (by omega) k.toInt.toNat (by omega)
  rw [← hx, ← hk, hb, ht, hz] at h
  exact h
theorem dif_cg {e f : Nat → Nat} {n : Nat} (h : ∀ j, j < n → e j = f j) : dif e n ↔ dif f n := ⟨fun d j hj i hi z => d j hj i hi (by rw [h i (by omega), h j hj]; exact z), fun d j hj i hi z => d j hj i hi (by rw [← h i (by omega), ← h j hj]; exact z)⟩
theorem dg_rem {b n r j : Nat} {L m : Int} (hL : L = ((r / b ^ (n - 1 - j) : Nat) : Int)) (hm : m = L % (b : Int)) : m = (dg b n r j : Int) := by
  unfold dg
  rw [hm, hL, Int.natCast_emod]
theorem dv_st {b r t : Nat} {L z : Int} (hL : L = ((r / b ^ t : Nat) : Int)) (hz : z = L / (b : Int)) : z = ((r / b ^ (t + 1) : Nat) : Int) := by
  rw [hz, hL, ← Int.natCast_ediv, Nat.div_div_eq_div_mul, Nat.pow_succ]
def eR (g : Nat → va_E) (j : Nat) : Nat := (arI g 172 j).toInt.toNat
theorem us_st {e : Nat → Nat} {u y s z k k1 : Int32} (h : u = us e k.toInt.toNat) (h0 : 0 ≤ k.toInt) (hk : k1.toInt = k.toInt + 1) (hy : y.toInt = (e k.toInt.toNat : Int)) (hs : (1 : Int32) <<< (y &&& 31) = s) (hz : u ||| s = z) : z = us e k1.toInt.toNat := by
  rw [show k1.toInt.toNat = k.toInt.toNat + 1 by omega]
  show z = us e k.toInt.toNat ||| ((1 : Int32) <<< (nI (e k.toInt.toNat) &&& 31))
  rw [← nI_k hy (by have := i_rng y; omega), hs, ← h, hz]
theorem io_iff {e : Nat → Nat} {u s z n : Int32} (h : u = us e n.toInt.toNat) (n0 : 0 ≤ n.toInt) (n1 : n.toInt ≤ 5) (he : ∀ j, j < n.toInt.toNat → e j < n.toInt.toNat) (hs : (1 : Int32) <<< (n &&& 31) = s) (hz : s - 1 = z) : u.toInt = z.toInt ↔ dif e n.toInt.toNat := by
  have hn : n = nI n.toInt.toNat := nI_k (by omega) (by omega)
  have k := us_msk (e := e) (n := n.toInt.toNat) (by omega) he
  rw [← hn, hs, hz, ← h] at k
  exact ⟨fun q => k.mp (Int32.toInt_inj.mp q), fun q => by rw [k.mpr q]⟩
theorem BT_M {n b f : Nat} {W : Nat → Int} {m : Int} (h : BT (okM n) W b m f) (hf : n ^ n ≤ f) (h1 : 1 ≤ n) (hW : ∀ r, 0 ≤ W r) : okM n b ∧ b < f ∧ m = W b := by
  have idl : ∀ j, j < n → (fun j => j) j < n := fun j hj => hj
  have ri : hz n (fun j => j) n < n ^ n := hz_lt n idl
  have ro : okM n (hz n (fun j => j) n) := fun j hj i hi e => by
    rw [dg_hz idl j hj, dg_hz idl i (by omega)] at e
    have e : i = j := e
    omega
  exact BT_end h (by omega) ro (hW _)
theorem told_eq5 {td r : Int32} {f : Nat → Int32} (h : SMr td f 5) (h0 : 0 ≤ td.toInt) (h1 : td.toInt < 32) (hr : BS r (fun q => (q : Int) < 5 ∧ tM f q ≠ 0)) : r = td := by
  refine BS_eq hr (fun q hq => ⟨fun hb => ?_, fun hb => ?_⟩)
  · have q1 := bt_lt (n := 5) h0 h1 hb
    refine ⟨by omega, ?_⟩
    rw [← SM_t h q q1]; unfold tB; rw [if_pos hb]; decide
  · have q2 := hb.2
    rw [← SM_t h q (by omega)] at q2
    unfold tB at q2
    by_cases c : bt td q = true
    · exact c
    · rw [if_neg c] at q2; exact absurd rfl q2
theorem bs_self {f : Nat → Int32} (td : Int32) (h : SMr td f 5) (h0 : 0 ≤ td.toInt) (h1 : td.toInt < 32) : BS td (fun q => (q : Int) < 5 ∧ tM f q ≠ 0) := fun q hq => by
  refine ⟨fun hb => ?_, fun hb => ?_⟩
  · have q1 := bt_lt (n := 5) h0 h1 hb
    refine ⟨by omega, ?_⟩
    rw [← SM_t h q q1]; unfold tB; rw [if_pos hb]; decide
  · have q2 := hb.2
    rw [← SM_t h q (by omega)] at q2
    unfold tB at q2
    by_cases c : bt td q = true
    · exact c
    · rw [if_neg c] at q2; exact absurd rfl q2
theorem MK_or9 {P : Nat → Prop} {b z j j1 : Int32} (h : BS b (fun q => (q : Int) < j.toInt ∧ P q)) (hz : b ||| 0 = z) (h0 : 0 ≤ j.toInt) (hp : ¬ P j.toInt.toNat) (hj : j1.toInt = j.toInt + 1) : BS z (fun q => (q : Int) < j1.toInt ∧ P q) := by
  rw [show z = b by rw [← hz]; exact b_ext (fun i _ => by rw [b_or, b_0, Bool.or_false])]
  exact MK_no h h0 hp hj
/-- told masters, skill, alike on both sides -/
def RKr (g : Nat → va_E) : Prop := SMr (fI g 102 4) (arI g 176) 5 ∧ ∀ m k : Nat, m < 5 → k < 6 → arI g (113 + 1 * m) k = arI g 177 (6 * m + k) ∧ 0 ≤ (arI g 177 (6 * m + k)).toInt ∧ (arI g 177 (6 * m + k)).toInt ≤ 99
def RT (g : Nat → va_E) : Prop := RP g ∧ RKr g
theorem RT_0 (ad : Nat → Nat) (cA : Nat → ClassId) : RT (gF ad cA) := ⟨RP_0 ad cA, fun q _ => by rw [show fI (gF ad cA) 102 4 = 0 from rfl, show arI (gF ad cA) 176 q = 0 from (az_all ad cA _ _).resolve_right (by omega), b_0]; decide, fun m k hm hk => by
  rw [(az_all ad cA (113 + 1 * m) k).resolve_right (by omega), (az_all ad cA 177 (6 * m + k)).resolve_right (by omega)]
  exact ⟨rfl, by decide, by decide⟩⟩
theorem wSR {g g1 : Nat → va_E} (h : RKr g) (e : arI g1 177 = arI g 177) : wS g = wR g1 := by
  funext m k
  unfold wS wR
  by_cases c : m < 5 ∧ k < 6
  · rw [if_pos c, if_pos c, (h.2 m k c.1 c.2).1, e]
  · rw [if_neg c, if_neg c]
theorem RK_upd {g g2 : Nat → va_E} {a b c : Int32} (h : RKr g) (a0 : 0 ≤ a.toInt) (a1 : a.toInt ≤ 4) (b0 : 0 ≤ b.toInt) (b1 : b.toInt ≤ 5) (c0 : 0 ≤ c.toInt) (c1 : c.toInt ≤ 99) (e0 : fI g2 102 4 = fI g 102 4 ||| ((1 : Int32) <<< (a &&& 31))) (e3 : arI g2 176 = upd (arI g 176) a.toNatClampNeg (vp_nar .boolean (1 : Int32))) (e1 : ∀ k : Nat, k < 5 → arI g2 (113 + 1 * k) = if k = a.toInt.toNat then upd (arI g (113 + 1 * k)) b.toNatClampNeg c else arI g (113 + 1 * k)) (e2 : arI g2 177 = upd (arI g 177) (6 * a.toInt.toNat + b.toInt.toNat) c) : RKr g2 := by
  have eb : b.toNatClampNeg = b.toInt.toNat := rfl
  refine ⟨SM_set h.1 (by decide) e0 e3 (by decide) (by omega) (by omega), fun m k hm hk => ?_⟩
  obtain ⟨h1, h2, h3⟩ := h.2 m k hm hk
  rw [e1 m hm, e2, eb]
  unfold upd
  by_cases u : m = a.toInt.toNat
  · rw [if_pos u]
    by_cases v : k = b.toInt.toNat
    · rw [if_pos v, if_pos (by omega)]
      exact ⟨rfl, c0, c1⟩
    · rw [if_neg v, if_neg (by omega)]
      exact ⟨h1, h2, h3⟩
  · rw [if_neg u, if_neg (by omega)]
    exact ⟨h1, h2, h3⟩


set_option maxRecDepth 100000 in
set_option maxHeartbeats 4000000 in
theorem s_X9_power (l : Launch) (D : va_G) (cA : Nat → ClassId) (ad : Nat → Nat) (g0 : Nat → va_E) (b : Int32) (n : Int32) (hSh : Shp ad cA g0) (hG : Rng g0) (b1 : 1 ≤ b.toInt) (b5 : b.toInt ≤ 5) (n0 : 0 ≤ n.toInt) (n5 : n.toInt ≤ 5) : CT l NN ad cA D yX9_power cX9_power 4 (some FieldType.int) (0, 0) [.int b, .int n] g0 (PU g0 (fun r => r.toInt = ((b.toInt.toNat ^ n.toInt.toNat : Nat) : Int) ∧ 0 ≤ r.toInt ∧ r.toInt ≤ 3125)) := by
  refine q_enterI (by decide) (Nat.le_of_ble_eq_true rfl) rfl (fun K H locs ls _ _ hM hW0 hR hC hE hl => ?_)
  have hl : lv_has ls 4 [(0, .int b), (1, .int n)] := hl
  have hW : WS ad cA (fun i k => False) g0 K g0 H locs := ⟨hW0, hSh, FR.rf⟩
  have := kc_0
  have := kc_1
  have := kc_5
  refine q_iconst (v := (1 : Int32)) hM dX9_power_0 (by decide) ?_
  refine q_istore_n (lv9 := [(2, .int (1 : Int32)), (0, .int b), (1, .int n)]) hM dX9_power_1 hl (by decide) rfl (fun ls hl => ?_)
  refine q_iconst (v := (0 : Int32)) hM dX9_power_2 (by decide) ?_
  refine q_istore_n (lv9 := [(3, .int (0 : Int32)), (2, .int (1 : Int32)), (0, .int b), (1, .int n)]) hM dX9_power_3 hl (by decide) rfl (fun ls hl => ?_)
  have L4 : ∀ (fu4 : Nat) (w4_2 : Int32) (w4_3 : Int32) (H : Heap) (locs : List Loc) (ls : Array Slot), (n.toInt - w4_3.toInt + 1).toNat < fu4 → (0 ≤ w4_3.toInt) → (w4_2.toInt = ((b.toInt.toNat ^ w4_3.toInt.toNat : Nat) : Int)) → (0 ≤ w4_2.toInt ∧ w4_2.toInt ≤ 3125) → (w4_3.toInt ≤ n.toInt) → lv_has ls 4 [(0, .int b), (1, .int n), (2, .int w4_2), (3, .int w4_3)] → WS ad cA (fun i k => False) g0 K g0 H locs → XX K 0 0 H locs 4 ls [] := by
    intro fu4
    induction fu4 with
    | zero => intro w4_2 w4_3 H locs ls h0; omega
    | succ fu4 ih4 =>
      intro w4_2 w4_3 H locs ls hm4 i4_0 i4_1 i4_2 i4_3 hl hW
      have := i_rng n
      refine q_iload_n hM dX9_power_4 (lv_at hl 3 rfl) ?_
      refine q_iload_n hM dX9_power_5 (lv_at hl 1 rfl) ?_
      refine q_icmp_ge (tgt := 19) hM dX9_power_6 (by decide) (rfl : w4_3.toInt = w4_3.toInt) (rfl : n.toInt = n.toInt) (fun h6 => ?_) (fun h6 => ?_)
      · refine q_iload_n hM dX9_power_19 (lv_at hl 2 rfl) ?_
        exact hE _ _ _ _ _ _ hW.1 ⟨_, rfl, ⟨by have e9 := i4_1; rw [show w4_3.toInt.toNat = n.toInt.toNat by omega] at e9; exact e9, by omega, by omega⟩, rfl⟩ dX9_power_20
      · refine q_iload_n hM dX9_power_9 (lv_at hl 2 rfl) ?_
        refine q_iload_n hM dX9_power_10 (lv_at hl 0 rfl) ?_
        refine q_imul hM dX9_power_11 (fun z13535 hz13535 => ?_)
        refine q_istore_n (lv9 := [(2, .int z13535), (0, .int b), (1, .int n), (3, .int w4_3)]) hM dX9_power_12 hl (by decide) rfl (fun ls hl => ?_)
        refine q_iinc (lv9 := fun z13536 => [(3, .int z13536), (2, .int z13535), (0, .int b), (1, .int n)]) hM dX9_power_13 hl (kq := 3) rfl (by decide) (fun _ => rfl) (fun z13536 ls hz13536 hl => ?_)
        first | have tz13536 := i_addT hz13536 (rfl : w4_3.toInt = w4_3.toInt) (kc_1 : (Int32.ofInt 1).toInt = 1) (by omega) (by omega) | skip
        refine q_goto (tgt := 4) hM dX9_power_16 (by decide) ?_
        exact ih4 z13535 z13536 _ _ _ (by omega) (by omega) (pw_st hz13535 i4_1 b1 b5 (by omega) (by omega) (by omega)).1 (pw_st (t1 := z13536) hz13535 i4_1 b1 b5 (by omega) (by omega) (by omega)).2 (by omega) (lv_sub hl [2, 3, 1, 0] rfl) hW
  have := kc_1
  have := kc_0
  exact L4 _ (1 : Int32) (0 : Int32) _ _ _ (Nat.lt_succ_self _) (by omega) (by rw [kc_0, kc_1]; rfl) (by omega) (by omega) (lv_sub hl [2, 3, 1, 0] rfl) hW


set_option maxRecDepth 100000 in
set_option maxHeartbeats 4000000 in
theorem s_X9_skillOf (l : Launch) (D : va_G) (cA : Nat → ClassId) (ad : Nat → Nat) (g0 : Nat → va_E) (co : Int32) (ro : Int32) (so : Int32) (aa : Int32)   (hSh : Shp ad cA g0) (hG : Rng g0) (co0 : 0 ≤ co.toInt) (hn1 : 1 ≤ cn aa 6) (hn5 : cn aa 6 ≤ 5) (hro : ro.toInt = ((5 ^ cn aa 6 : Nat) : Int)) (rob : ro.toInt ≤ 3125) (so0 : 0 ≤ so.toInt) (so1 : so.toInt < 32) (aa0 : 0 ≤ aa.toInt) (aa1 : aa.toInt < 64) (hWS : ∀ m k : Nat, m < 5 → k < 6 → 0 ≤ (arI g0 (113 + 1 * m) k).toInt ∧ (arI g0 (113 + 1 * m) k).toInt ≤ 99) : CT l NN ad cA D yX9_skillOf cX9_skillOf 10 (some FieldType.int) (1, 21) [.ref (ad 102), .int co, .int ro, .int so, .int aa] g0 (fun v g' => ∃ (r : Int32), v = some (.int r) ∧ Shp ad cA g' ∧ Rng g' ∧ FR (fun i k => i = 119) g0 g' ∧ ((r.toInt = -1 ∧ ¬ okX so (cn aa 6) co.toInt.toNat) ∨ (r.toInt = wX (wS g0) aa (dg 5 (cn aa 6) co.toInt.toNat) 6 ∧ 0 ≤ r.toInt ∧ r.toInt ≤ 594 ∧ okX so (cn aa 6) co.toInt.toNat ∧ ∀ k9 : Nat, k9 < 6 → bt aa k9 = true → (arI g' 119 k9).toInt = ((dg 5 (cn aa 6) co.toInt.toNat) (cn aa k9) : Int)))) := by
  refine q_enterI (by decide) (Nat.le_of_ble_eq_true rfl) rfl (fun K H locs ls _ _ hM hW0 hR hC hE hl => ?_)
  have hl : lv_has ls 10 [(0, .ref (ad 102)), (1, .int co), (2, .int ro), (3, .int so), (4, .int aa)] := hl
  have hW : WS ad cA (fun i k => i = 119) g0 K g0 H locs := ⟨hW0, hSh, FR.rf⟩
  have := kc_0
  have := kc_1
  have := kc_5
  have := kc_m1
  have ro0 : 0 ≤ ro.toInt := by rw [hro]; exact Int.natCast_nonneg _
  refine q_iload_n hM dX9_skillOf_0 (lv_at hl 3 rfl) ?_
  refine q_istore (lv9 := [(5, .int so), (0, .ref (ad 102)), (1, .int co), (2, .int ro), (3, .int so), (4, .int aa)]) hM dX9_skillOf_1 hl (by decide) rfl (fun ls hl => ?_)
  refine q_iconst (v := (0 : Int32)) hM dX9_skillOf_3 (by decide) ?_
  refine q_istore (lv9 := [(6, .int (0 : Int32)), (5, .int so), (0, .ref (ad 102)), (1, .int co), (2, .int ro), (3, .int so), (4, .int aa)]) hM dX9_skillOf_4 hl (by decide) rfl (fun ls hl => ?_)
  refine q_iload_n hM dX9_skillOf_6 (lv_at hl 4 rfl) ?_
  refine q_iconst (v := (5 : Int32)) hM dX9_skillOf_7 (by decide) ?_
  refine q_idiv hM (by decide) dX9_skillOf_8 (fun z13537 hz13537 => ?_)
  first | have tz13537 := i_divT hz13537 (rfl : ro.toInt = ro.toInt) (kc_5 : (5 : Int32).toInt = 5) (by omega) (by omega) | skip
  refine q_istore (lv9 := [(7, .int z13537), (6, .int (0 : Int32)), (5, .int so), (0, .ref (ad 102)), (1, .int co), (2, .int ro), (3, .int so), (4, .int aa)]) hM dX9_skillOf_9 hl (by decide) rfl (fun ls hl => ?_)
  refine q_iconst (v := (0 : Int32)) hM dX9_skillOf_11 (by decide) ?_
  refine q_istore (lv9 := [(8, .int (0 : Int32)), (7, .int z13537), (6, .int (0 : Int32)), (5, .int so), (0, .ref (ad 102)), (1, .int co), (2, .int ro), (3, .int so), (4, .int aa)]) hM dX9_skillOf_12 hl (by decide) rfl (fun ls hl => ?_)
  have L14 : ∀ (fu14 : Nat) (w14_5 : Int32) (w14_6 : Int32) (w14_7 : Int32) (w14_8 : Int32) (g9 : Nat → va_E) (H : Heap) (locs : List Loc) (ls : Array Slot), (6 - w14_8.toInt).toNat < fu14 → (Rng g9) → (0 ≤ w14_8.toInt) → (w14_8.toInt ≤ 6) → (w14_7.toInt = un (cn aa 6) (cn aa w14_8.toInt.toNat)) → (w14_6.toInt = wX (wS g0) aa (dg 5 (cn aa 6) co.toInt.toNat) w14_8.toInt.toNat) → (0 ≤ w14_6.toInt) → (w14_6.toInt ≤ 99 * w14_8.toInt) → (SK so w14_5 (dg 5 (cn aa 6) co.toInt.toNat) (cn aa w14_8.toInt.toNat)) → (0 ≤ w14_5.toInt ∧ w14_5.toInt < 32) → (∀ k9 : Nat, (k9 : Int) < w14_8.toInt → bt aa k9 = true → (arI g9 119 k9).toInt = ((dg 5 (cn aa 6) co.toInt.toNat) (cn aa k9) : Int)) → lv_has ls 10 [(0, .ref (ad 102)), (1, .int co), (2, .int ro), (3, .int so), (4, .int aa), (5, .int w14_5), (6, .int w14_6), (7, .int w14_7), (8, .int w14_8)] → WS ad cA (fun i k => i = 119) g0 K g9 H locs → XX K 0 0 H locs 14 ls [] := by
    intro fu14
    induction fu14 with
    | zero => intro w14_5 w14_6 w14_7 w14_8 g9 H locs ls h0; omega
    | succ fu14 ih14 =>
      intro w14_5 w14_6 w14_7 w14_8 g9 H locs ls hm14 i14_0 i14_1 i14_2 i14_3 i14_4 i14_5 i14_6 i14_7 i14_8 i14_9 hl hW
      have hG := i14_0
      refine q_iload hM dX9_skillOf_14 (lv_at hl 8 rfl) ?_
      refine q_bipush (v := (6 : Int32)) hM dX9_skillOf_16 (by decide) ?_
      refine q_icmp_ge (tgt := 103) hM dX9_skillOf_18 (by decide) (rfl : w14_8.toInt = w14_8.toInt) (kc_6 : (6 : Int32).toInt = 6) (fun h18 => ?_) (fun h18 => ?_)
      · refine q_iload hM dX9_skillOf_103 (lv_at hl 6 rfl) ?_
        exact hE _ _ _ _ _ _ hW.1 ⟨_, rfl, hW.2.1, hG, hW.2.2, (by
            have e6 : w14_8.toInt.toNat = 6 := by omega
            have s9 := i14_7
            have s8 := i14_4
            rw [e6] at s9 s8
            exact Or.inr ⟨s8, by omega, by omega, ⟨s9.1, s9.2.1⟩, fun k9 h9 hb9 => i14_9 k9 (by omega) hb9⟩)⟩ dX9_skillOf_105
      · refine q_iload hM dX9_skillOf_21 (lv_at hl 4 rfl) ?_
        refine q_iload hM dX9_skillOf_23 (lv_at hl 8 rfl) ?_
        refine q_callN (host := "ForgetSchool") (As := [.int aa, .int w14_8]) (rest := []) hM hW.1 hR hC myX11_has (List.mem_of_getElem? (i := 12) rfl) (c_X11_has _ _ cA ad g9 aa w14_8 hW.2.1) ⟨by decide, by decide⟩ rfl rfl hl.1 (Nat.le_of_ble_eq_true rfl) dX9_skillOf_25 (fun v g13542 H locs hp hW1 => ?_)
        obtain ⟨r13541, rfl, hr13541, rfl⟩ := hp
        have hW : WS ad cA (fun i k => i = 119) g0 K g9 H locs := ⟨hW1, hW.2.1, hW.2.2⟩
        have hbr13541 := has_bi hr13541
        have hcr13541 := bi_01 aa w14_8
        first | have ltr13541 := has_lt 5 hr13541 (by omega) (by omega) | have ltr13541 := has_lt 6 hr13541 (by omega) (by omega) | have ltr13541 := has_lt 8 hr13541 (by omega) (by omega) | have ltr13541 := has_lt 12 hr13541 (by omega) (by omega) | skip
        refine q_if_eq (tgt := 97) hM dX9_skillOf_28 (by decide) (rfl : r13541.toInt = r13541.toInt) (fun h28 => ?_) (fun h28 => ?_)
        · have hbf9 := has_f hr13541 (by omega) (by omega) (by omega)
          refine q_iinc (lv9 := fun z13544 => [(8, .int z13544), (0, .ref (ad 102)), (1, .int co), (2, .int ro), (3, .int so), (4, .int aa), (5, .int w14_5), (6, .int w14_6), (7, .int w14_7)]) hM dX9_skillOf_97 hl (kq := 8) rfl (by decide) (fun _ => rfl) (fun z13544 ls hz13544 hl => ?_)
          first | have tz13544 := i_addT hz13544 (rfl : w14_8.toInt = w14_8.toInt) (kc_1 : (Int32.ofInt 1).toInt = 1) (by omega) (by omega) | skip
          refine q_goto (tgt := 14) hM dX9_skillOf_100 (by decide) ?_
          exact ih14 w14_5 w14_6 w14_7 z13544 _ _ _ _ (by omega) hG (by omega) (by omega) (by rw [(cn_no (by omega) (by omega : z13544.toInt = w14_8.toInt + 1) hbf9)]; exact i14_3) (wX_no i14_4 (by omega) (by omega) hbf9) (by omega) (by omega) (by rw [(cn_no (by omega) (by omega : z13544.toInt = w14_8.toInt + 1) hbf9)]; exact i14_7) (by omega) (fun k9 h9 hb9 => by
              by_cases e : k9 = w14_8.toInt.toNat
              · rw [e, hbf9] at hb9; exact absurd hb9 (by decide)
              · exact i14_9 k9 (by omega) hb9) (lv_sub hl [1, 2, 3, 4, 5, 6, 7, 8, 0] rfl) hW
        · have hbt9 := has_t hr13541 (by omega)
          have hlt9 : cn aa w14_8.toInt.toNat < cn aa 6 := cn_lt hbt9 (by omega)
          have up9 := un_pos hlt9
          refine q_iload hM dX9_skillOf_31 (lv_at hl 7 rfl) ?_
          refine q_if_le (tgt := 97) hM dX9_skillOf_33 (by decide) (rfl : w14_7.toInt = w14_7.toInt) (fun h33 => ?_) (fun h33 => ?_)
          · omega
          · refine q_iload_n hM dX9_skillOf_36 (lv_at hl 1 rfl) ?_
            refine q_iload hM dX9_skillOf_37 (lv_at hl 7 rfl) ?_
            refine q_idiv hM (by intro e9; have e8 := congrArg Int32.toInt e9; have := kc_0; have e7 := kc_0; omega) dX9_skillOf_39 (fun z13548 hz13548 => ?_)
            first | have tz13548 := i_divT hz13548 (rfl : co.toInt = co.toInt) (rfl : w14_7.toInt = w14_7.toInt) (by omega) (by omega) | skip
            have dz9 : 0 ≤ z13548.toInt := by rw [tz13548]; exact Int.ediv_nonneg (by omega) (by omega)
            refine q_iconst (v := (5 : Int32)) hM dX9_skillOf_40 (by decide) ?_
            refine q_irem hM (by decide) dX9_skillOf_41 (fun z13549 hz13549 => ?_)
            first | have tz13549 := i_remT hz13549 (rfl : z13548.toInt = z13548.toInt) (kc_5 : (5 : Int32).toInt = 5) (by omega) (by omega) | skip
            have dm9 : z13549.toInt = ((dg 5 (cn aa 6) co.toInt.toNat) (cn aa w14_8.toInt.toNat) : Int) := dg_int hlt9 (by omega) i14_3 tz13548 tz13549
            have d59 : (dg 5 (cn aa 6) co.toInt.toNat) (cn aa w14_8.toInt.toNat) < 5 := dg_lt (by decide)
            refine q_istore (lv9 := [(9, .int z13549), (0, .ref (ad 102)), (1, .int co), (2, .int ro), (3, .int so), (4, .int aa), (5, .int w14_5), (6, .int w14_6), (7, .int w14_7), (8, .int w14_8)]) hM dX9_skillOf_42 hl (by decide) rfl (fun ls hl => ?_)
            refine q_iload hM dX9_skillOf_44 (lv_at hl 6 rfl) ?_
            refine q_iload hM dX9_skillOf_46 (lv_at hl 0 rfl) ?_
            refine q_callN (host := "ForgetSchool") (As := [.int w14_5, .int z13549]) (rest := []) hM hW.1 hR hC myX11_has (List.mem_of_getElem? (i := 12) rfl) (c_X11_has _ _ cA ad g9 w14_5 z13549 hW.2.1) ⟨by decide, by decide⟩ rfl rfl hl.1 (Nat.le_of_ble_eq_true rfl) dX9_skillOf_48 (fun v g13551 H locs hp hW1 => ?_)
            obtain ⟨r13550, rfl, hr13550, rfl⟩ := hp
            have hW : WS ad cA (fun i k => i = 119) g0 K g9 H locs := ⟨hW1, hW.2.1, hW.2.2⟩
            have hbr13550 := has_bi hr13550
            have hcr13550 := bi_01 w14_5 z13549
            first | have ltr13550 := has_lt 5 hr13550 (by omega) (by omega) | have ltr13550 := has_lt 6 hr13550 (by omega) (by omega) | have ltr13550 := has_lt 8 hr13550 (by omega) (by omega) | have ltr13550 := has_lt 12 hr13550 (by omega) (by omega) | skip
            refine q_if_ne (tgt := 56) hM dX9_skillOf_51 (by decide) (rfl : r13550.toInt = r13550.toInt) (fun h51 => ?_) (fun h51 => ?_)
            · refine q_iload hM dX9_skillOf_56 (lv_at hl 6 rfl) ?_
              refine q_iconst (v := (1 : Int32)) hM dX9_skillOf_58 (by decide) ?_
              refine q_iload hM dX9_skillOf_59 (lv_at hl 0 rfl) ?_
              refine q_ishl hM dX9_skillOf_61 (fun z13553 hz13553 => ?_)
              refine q_iconst (v := ((-1) : Int32)) hM dX9_skillOf_62 (by decide) ?_
              refine q_ixor hM dX9_skillOf_63 (fun z13554 hz13554 => ?_)
              refine q_iand hM dX9_skillOf_64 (fun z13555 hz13555 => ?_)
              have al9 := i_andk (i_comm hz13555) (by omega)
              refine q_istore (lv9 := [(5, .int z13555), (9, .int z13549), (0, .ref (ad 102)), (1, .int co), (2, .int ro), (3, .int so), (4, .int aa), (6, .int w14_6), (7, .int w14_7), (8, .int w14_8)]) hM dX9_skillOf_65 hl (by decide) rfl (fun ls hl => ?_)
              refine q_iload hM dX9_skillOf_67 (lv_at hl 7 rfl) ?_
              refine q_aload_n hM dX9_skillOf_69 (lv_at hl 2 rfl) ?_
              refine w_get (v := .ref (ad 112)) hM hW FG_X9_16 lb_102 (rf_102_1 hW.2.1) dX9_skillOf_70 ?_
              refine q_iload hM dX9_skillOf_73 (lv_at hl 1 rfl) ?_
              refine w_aald hM hW lb_112 (Or.inl rfl) (i_in (by omega) (by omega)) (aq (aq_112 hW.2.1) (by omega) (by omega)) dX9_skillOf_75 ?_
              refine q_iload hM dX9_skillOf_76 (lv_at hl 9 rfl) ?_
              refine w_iald hM hW (lr_113 (by omega)) (i_in (by omega) (by omega)) dX9_skillOf_78 ?_
              refine q_top (fun y13556 hy13556 => ?_)
              have tyy13556 : y13556.toInt = wS g0 ((dg 5 (cn aa 6) co.toInt.toNat) (cn aa w14_8.toInt.toNat)) w14_8.toInt.toNat := by
                rw [hy13556, hW.2.2.2.1 (113 + 1 * z13549.toInt.toNat) (by omega)]
                unfold wS
                rw [if_pos ⟨dg_lt (by decide), by omega⟩, ← show z13549.toInt.toNat = (dg 5 (cn aa 6) co.toInt.toNat) (cn aa w14_8.toInt.toNat) by omega]
                rfl
              have rby13556 := hWS z13549.toInt.toNat w14_8.toInt.toNat (by omega) (by omega)
              rw [← hW.2.2.2.1 (113 + 1 * z13549.toInt.toNat) (by omega)] at rby13556
              have rcy13556 : 0 ≤ y13556.toInt ∧ y13556.toInt ≤ 99 := by rw [hy13556]; exact rby13556
              refine q_iadd hM dX9_skillOf_79 (fun z13557 hz13557 => ?_)
              first | have tz13557 := i_addT hz13557 (rfl : w14_6.toInt = w14_6.toInt) (rfl : y13556.toInt = y13556.toInt) (by omega) (by omega) | skip
              refine q_istore (lv9 := [(6, .int z13557), (5, .int z13555), (9, .int z13549), (0, .ref (ad 102)), (1, .int co), (2, .int ro), (3, .int so), (4, .int aa), (7, .int w14_7), (8, .int w14_8)]) hM dX9_skillOf_80 hl (by decide) rfl (fun ls hl => ?_)
              refine q_aload_n hM dX9_skillOf_82 (lv_at hl 3 rfl) ?_
              refine w_get (v := .ref (ad 119)) hM hW FG_X9_23 lb_102 (rf_102_3 hW.2.1) dX9_skillOf_83 ?_
              refine q_iload hM dX9_skillOf_86 (lv_at hl 9 rfl) ?_
              refine q_iload hM dX9_skillOf_88 (lv_at hl 2 rfl) ?_
              refine w_iast hM hW lb_119 (by omega) (i_in (by omega) (by omega)) dX9_skillOf_90 (fun g13558 H locs hW e1 e2 => ?_)
              have f13559 := e1
              rw [(rfl : arI g9 119 = arI g9 119)] at f13559
              have hG := hG.st e1 e2 (rfl : rA 119 = (-2147483648, 2147483647)) (by have := i_rng z13549; omega) (by have := i_rng z13549; omega)
              refine q_iload hM dX9_skillOf_91 (lv_at hl 8 rfl) ?_
              refine q_iconst (v := (5 : Int32)) hM dX9_skillOf_93 (by decide) ?_
              refine q_idiv hM (by decide) dX9_skillOf_94 (fun z13560 hz13560 => ?_)
              first | have tz13560 := i_divT hz13560 (rfl : w14_7.toInt = w14_7.toInt) (kc_5 : (5 : Int32).toInt = 5) (by omega) (by omega) | skip
              refine q_istore (lv9 := [(7, .int z13560), (6, .int z13557), (5, .int z13555), (9, .int z13549), (0, .ref (ad 102)), (1, .int co), (2, .int ro), (3, .int so), (4, .int aa), (8, .int w14_8)]) hM dX9_skillOf_95 hl (by decide) rfl (fun ls hl => ?_)
              refine q_iinc (lv9 := fun z13561 => [(8, .int z13561), (7, .int z13560), (6, .int z13557), (5, .int z13555), (9, .int z13549), (0, .ref (ad 102)), (1, .int co), (2, .int ro), (3, .int so), (4, .int aa)]) hM dX9_skillOf_97 hl (kq := 9) rfl (by decide) (fun _ => rfl) (fun z13561 ls hz13561 hl => ?_)
              first | have tz13561 := i_addT hz13561 (rfl : w14_8.toInt = w14_8.toInt) (kc_1 : (Int32.ofInt 1).toInt = 1) (by omega) (by omega) | skip
              refine q_goto (tgt := 14) hM dX9_skillOf_100 (by decide) ?_
              exact ih14 z13555 z13557 z13560 z13561 _ _ _ _ (by omega) hG (by omega) (by omega) (by rw [(cn_yes (by omega) (by omega : z13561.toInt = w14_8.toInt + 1) hbt9), ← un_st hlt9, ← i14_3]; exact tz13560) (wX_yes i14_4 (by omega) (by omega) hbt9 tyy13556 (by omega)) (by omega) (by omega) (by rw [(cn_yes (by omega) (by omega : z13561.toInt = w14_8.toInt + 1) hbt9)]; exact SK_st i14_7 dm9 (by omega) (has_t hr13550 (by omega)) hz13553 hz13554 hz13555) (by omega) (fun k9 h9 hb9 => by
                  rw [f13559]
                  unfold upd
                  by_cases e : k9 = w14_8.toInt.toNat
                  · rw [if_pos (show k9 = w14_8.toNatClampNeg from e), e]; exact dm9
                  · rw [if_neg (show ¬ k9 = w14_8.toNatClampNeg from e)]; exact i14_9 k9 (by omega) hb9) (lv_sub hl [5, 6, 7, 8, 9, 3, 2, 1, 0] rfl) hW
            · refine q_iconst (v := ((-1) : Int32)) hM dX9_skillOf_54 (by decide) ?_
              exact hE _ _ _ _ _ _ hW.1 ⟨_, rfl, hW.2.1, hG, hW.2.2, (Or.inl ⟨by omega, SK_not i14_7 dm9 (by omega) (has_f hr13550 (by omega) (by omega) (by omega)) hlt9⟩)⟩ dX9_skillOf_55
  have := kc_0
  have := kc_0
  exact L14 _ so (0 : Int32) z13537 (0 : Int32) _ _ _ _ (Nat.lt_succ_self _) hG (by omega) (by omega) (by rw [kc_0, tz13537]; exact un_0 hn1 hro) (by rw [kc_0]; rfl) (by omega) (by omega) (by rw [kc_0]; exact SK_0) (by omega) (fun k9 h9 => absurd h9 (by have := kc_0; omega)) (lv_sub hl [4, 5, 6, 7, 8, 3, 2, 1, 0] rfl) hW
