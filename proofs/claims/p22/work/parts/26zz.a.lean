/-- bits that stand for a set -/
def BS (b : Int32) (P : Nat → Prop) : Prop := ∀ q, q < 32 → (bt b q = true ↔ P q)
theorem BS_eq {a b : Int32} {P : Nat → Prop} (h : BS a P) (h1 : BS b P) : a = b := b_ext (fun q hq => Bool.eq_iff_iff.mpr ((h q hq).trans (h1 q hq).symm))
theorem BS_cg {a : Int32} {P Q : Nat → Prop} (h : BS a P) (e : ∀ q, q < 32 → (P q ↔ Q q)) : BS a Q := fun q hq => (h q hq).trans (e q hq)
theorem BS_0 {P : Nat → Prop} (h : ∀ q, ¬ P q) : BS 0 P := fun q _ => by
  rw [b_0]
  exact ⟨fun h1 => absurd h1 (by decide), fun h1 => absurd h1 (h q)⟩
/-- one bit more -/
theorem bt_ins {b z i : Int32} (hz : b ||| ((1 : Int32) <<< (i &&& 31)) = z) (h0 : 0 ≤ i.toInt) (h1 : i.toInt < 31) (q : Nat) (hq : q < 32) : bt z q = true ↔ (bt b q = true ∨ (q : Int) = i.toInt) := by
  obtain ⟨k, hk⟩ : ∃ k : Nat, i.toInt = k := ⟨i.toInt.toNat, by omega⟩
  have hi : i = nI k := nI_k hk (by omega)
  rw [← hz, hi, b_or, bt_sh1 k (by omega) q hq, Bool.or_eq_true, decide_eq_true_iff, ← hi]
  exact or_congr Iff.rfl (by omega)
theorem bt_not {c : Int32} (q : Nat) (hq : q < 32) : bt (c ^^^ (-1)) q = true ↔ ¬ bt c q = true := by
  rw [b_xor, b_m1 q hq]
  cases bt c q <;> decide
theorem bt_less {a c m z : Int32} (hm : c ^^^ (-1) = m) (hz : a &&& m = z) (q : Nat) (hq : q < 32) : bt z q = true ↔ (bt a q = true ∧ ¬ bt c q = true) := by
  rw [← hz, ← hm, b_and, Bool.and_eq_true, bt_not q hq]
theorem bt_un {a c z : Int32} (hz : a ||| c = z) (q : Nat) : bt z q = true ↔ (bt a q = true ∨ bt c q = true) := by
  rw [← hz, b_or, Bool.or_eq_true]
/-- what one comes to from i over links of L by one or more, never through c -/
def Rch (L : Nat → Nat → Prop) (c : Nat → Prop) (i j : Nat) : Prop := ∀ S : Nat → Prop, (∀ q, L i q → ¬ c q → S q) → (∀ k q, S k → L k q → ¬ c q → S q) → S j
theorem Rch_one {L : Nat → Nat → Prop} {c : Nat → Prop} {i j : Nat} (h : L i j) (n : ¬ c j) : Rch L c i j := fun _ h1 _ => h1 j h n
theorem Rch_more {L : Nat → Nat → Prop} {c : Nat → Prop} {i k j : Nat} (hk : Rch L c i k) (h : L k j) (n : ¬ c j) : Rch L c i j := fun S h1 h2 => h2 k j (hk S h1 h2) h n
theorem Rch_all {L : Nat → Nat → Prop} {c : Nat → Prop} {i j : Nat} (P : Nat → Prop) (hP : ∀ k q, L k q → P q) (h : Rch L c i j) : P j := h P (fun q h _ => hP i q h) (fun k q _ h _ => hP k q h)
/-- the class's links, the reference's -/
def Lx (g : Nat → va_E) (k j : Nat) : Prop := k < 12 ∧ j < 12 ∧ 0 < (arI g (6 + 1 * k) j).toInt
def Lm (g : Nat → va_E) (k j : Nat) : Prop := k < 12 ∧ j < 12 ∧ 0 < (arI g 133 (12 * k + j)).toInt
def LKr (g : Nat → va_E) : Prop := ∀ k j : Nat, k < 12 → j < 12 → arI g (6 + 1 * k) j = arI g 133 (12 * k + j)
theorem LKr_eq {g : Nat → va_E} (h : LKr g) : Lx g = Lm g := by
  funext k j
  refine propext ⟨fun ⟨a, b, c⟩ => ⟨a, b, by rw [← h k j a b]; exact c⟩, fun ⟨a, b, c⟩ => ⟨a, b, by rw [h k j a b]; exact c⟩⟩
/-- how many of the first n bits are set -/
def cb (b : Int32) : Nat → Int
  | 0 => 0
  | n + 1 => cb b n + if bt b n = true then 1 else 0
theorem cb_le (b : Int32) : ∀ n : Nat, 0 ≤ cb b n ∧ cb b n ≤ n
  | 0 => ⟨Int.le_refl 0, Int.le_refl 0⟩
  | n + 1 => by
    have := cb_le b n
    show 0 ≤ cb b n + _ ∧ cb b n + _ ≤ _
    split <;> omega
theorem cb_full (b : Int32) : ∀ n : Nat, (n : Int) ≤ cb b n → ∀ q, q < n → bt b q = true
  | 0, _, q, hq => absurd hq (Nat.not_lt_zero q)
  | n + 1, h, q, hq => by
    have h1 := cb_le b n
    have h2 : ((n + 1 : Nat) : Int) ≤ cb b n + (if bt b n = true then 1 else 0) := h
    by_cases c : bt b n = true
    · rw [if_pos c] at h2
      by_cases e : q = n
      · rw [e]; exact c
      · exact cb_full b n (by omega) q (by omega)
    · rw [if_neg c] at h2
      omega
theorem cb_mono {a b : Int32} (h : ∀ q, q < 32 → bt a q = true → bt b q = true) : ∀ n : Nat, n ≤ 32 → cb a n ≤ cb b n
  | 0, _ => Int.le_refl 0
  | n + 1, hn => by
    have h1 := cb_mono h n (by omega)
    show cb a n + _ ≤ cb b n + _
    by_cases c : bt a n = true
    · rw [if_pos c, if_pos (h n (by omega) c)]; omega
    · rw [if_neg c]
      split <;> omega
theorem cb_lt {a b : Int32} (h : ∀ q, q < 32 → bt a q = true → bt b q = true) {p : Nat} (hb : bt b p = true) (ha : ¬ bt a p = true) : ∀ n : Nat, p < n → n ≤ 32 → cb a n + 1 ≤ cb b n
  | 0, hp, _ => absurd hp (Nat.not_lt_zero p)
  | n + 1, hp, hn => by
    show cb a n + _ + 1 ≤ cb b n + _
    by_cases e : p = n
    · have h1 := cb_mono h n (by omega)
      rw [← e] at h1 ⊢
      rw [if_neg ha, if_pos hb]; omega
    · have h1 := cb_lt h hb ha n (by omega) (by omega)
      by_cases c : bt a n = true
      · rw [if_pos c, if_pos (h n (by omega) c)]; omega
      · rw [if_neg c]
        split <;> omega
/-- unlike sets of which one holds the other: there is one more -/
theorem cb_ne {a b : Int32} (h : ∀ q, q < 32 → bt a q = true → bt b q = true) (hb : ∀ q, q < 32 → bt b q = true → q < 12) (n : ¬ a = b) : cb a 12 + 1 ≤ cb b 12 := by
  by_cases e : ∃ p, p < 32 ∧ bt b p = true ∧ ¬ bt a p = true
  · obtain ⟨p, p1, p2, p3⟩ := e
    exact cb_lt h p2 p3 12 (hb p p1 p2) (by decide)
  · refine absurd (b_ext (fun q hq => Bool.eq_iff_iff.mpr ⟨h q hq, fun h1 => ?_⟩)) n
    by_cases c : bt a q = true
    · exact c
    · exact absurd ⟨q, hq, h1, c⟩ e
/-- between rounds: re come to so far, as asked already, ro rounds -/
def RI (L : Nat → Nat → Prop) (c i re as : Int32) (ro : Int) : Prop := (∀ q, q < 32 → bt re q = true → Rch L (fun q => bt c q = true) i.toInt.toNat q) ∧ (∀ q, L i.toInt.toNat q → ¬ bt c q = true → bt re q = true) ∧ (∀ k q, bt as k = true → L k q → ¬ bt c q = true → bt re q = true) ∧ (∀ q, q < 32 → bt as q = true → bt re q = true) ∧ ro ≤ cb as 12
/-- within a round: fr are fresh, those before j asked -/
def RJ (L : Nat → Nat → Prop) (c i re as fr : Int32) (j ro : Int) : Prop := (∀ q, q < 32 → bt re q = true → Rch L (fun q => bt c q = true) i.toInt.toNat q) ∧ (∀ q, L i.toInt.toNat q → ¬ bt c q = true → bt re q = true) ∧ (∀ k q, bt as k = true → (bt fr k = true → (k : Int) < j) → L k q → ¬ bt c q = true → bt re q = true) ∧ (∀ q, q < 32 → bt as q = true → bt re q = true) ∧ ro + 1 ≤ cb as 12 ∧ (∀ q, q < 32 → bt fr q = true → bt as q = true)
theorem b32 {x : Int32} {k : Nat} (h : bt x k = true) : k < 32 := by
  by_cases c : k < 32
  · exact c
  · rw [b_big (by omega)] at h
    exact absurd h (by decide)
theorem RI_0 {L : Nat → Nat → Prop} {c i ln m re : Int32} (hl : BS ln (L i.toInt.toNat)) (hb : ∀ k q, L k q → q < 12) (hm : c ^^^ (-1) = m) (hz : ln &&& m = re) : RI L c i re 0 0 := by
  refine ⟨fun q hq h => ?_, fun q hL hn => ?_, fun k q h => ?_, fun q _ h => ?_, (cb_le 0 12).1⟩
  · have h1 := (bt_less hm hz q hq).mp h
    exact Rch_one ((hl q hq).mp h1.1) h1.2
  · have q1 := hb _ _ hL
    exact (bt_less hm hz q (by omega)).mpr ⟨(hl q (by omega)).mpr hL, hn⟩
  · rw [b_0] at h; exact absurd h (by decide)
  · rw [b_0] at h; exact absurd h (by decide)
theorem RI_12 {L : Nat → Nat → Prop} {c i re as : Int32} {ro : Int} (h : RI L c i re as ro) (hb : ∀ k q, L k q → q < 12) (q : Nat) (hq : bt re q = true) : q < 12 := Rch_all (fun q => q < 12) hb (h.1 q (b32 hq) hq)
theorem RI_J {L : Nat → Nat → Prop} {c i re as fr m : Int32} {ro : Int} (h : RI L c i re as ro) (hb : ∀ k q, L k q → q < 12) (hm : as ^^^ (-1) = m) (hz : re &&& m = fr) (hne : ¬ as.toInt = re.toInt) : RJ L c i re re fr 0 ro := by
  obtain ⟨h1, h2, h3, h4, h5⟩ := id h
  refine ⟨h1, h2, fun k q hk hf hL hn => ?_, fun q _ hq => hq, ?_, fun q hq hf => ((bt_less hm hz q hq).mp hf).1⟩
  · by_cases e : bt as k = true
    · exact h3 k q e hL hn
    · have := hf ((bt_less hm hz k (b32 hk)).mpr ⟨hk, e⟩)
      omega
  · have := cb_ne h4 (fun q hq h9 => RI_12 h hb q h9) (fun e => hne (by rw [e]))
    omega
theorem RJ_I {L : Nat → Nat → Prop} {c i re as fr : Int32} {j ro : Int} (h : RJ L c i re as fr j ro) (hb : ∀ k q, L k q → q < 12) (hj : 12 ≤ j) : RI L c i re as (ro + 1) := by
  obtain ⟨h1, h2, h3, h4, h5, h6⟩ := h
  refine ⟨h1, h2, fun k q hk hL hn => h3 k q hk (fun _ => ?_) hL hn, h4, h5⟩
  have : k < 12 := Rch_all (fun q => q < 12) hb (h1 k (b32 hk) (h4 k (b32 hk) hk))
  omega
theorem RJ_yes {L : Nat → Nat → Prop} {c i re as fr j j1 ln m x re1 : Int32} {ro : Int} (h : RJ L c i re as fr j.toInt ro) (hb : ∀ k q, L k q → q < 12) (h0 : 0 ≤ j.toInt) (hf : bt fr j.toInt.toNat = true) (hl : BS ln (L j.toInt.toNat)) (hm : c ^^^ (-1) = m) (hx : ln &&& m = x) (hr : re ||| x = re1) (hj : j1.toInt = j.toInt + 1) : RJ L c i re1 as fr j1.toInt ro := by
  obtain ⟨h1, h2, h3, h4, h5, h6⟩ := h
  have up : ∀ q, bt re q = true → bt re1 q = true := fun q h => (bt_un hr q).mpr (Or.inl h)
  refine ⟨fun q hq h9 => ?_, fun q hL hn => up q (h2 q hL hn), fun k q hk hk2 hL hn => ?_, fun q hq h9 => up q (h4 q hq h9), h5, h6⟩
  · rcases (bt_un hr q).mp h9 with h9 | h9
    · exact h1 q hq h9
    · have h8 := (bt_less hm hx q hq).mp h9
      have q7 := b32 hf
      exact Rch_more (h1 _ q7 (h4 _ q7 (h6 _ q7 hf))) ((hl q hq).mp h8.1) h8.2
  · by_cases e : k = j.toInt.toNat
    · have q1 := hb _ _ hL
      rw [e] at hL
      exact (bt_un hr q).mpr (Or.inr ((bt_less hm hx q (by omega)).mpr ⟨(hl q (by omega)).mpr hL, hn⟩))
    · exact up q (h3 k q hk (fun h9 => by have := hk2 h9; omega) hL hn)
theorem RJ_no {L : Nat → Nat → Prop} {c i re as fr j j1 : Int32} {ro : Int} (h : RJ L c i re as fr j.toInt ro) (h0 : 0 ≤ j.toInt) (hf : bt fr j.toInt.toNat = false) (hj : j1.toInt = j.toInt + 1) : RJ L c i re as fr j1.toInt ro := by
  obtain ⟨h1, h2, h3, h4, h5, h6⟩ := h
  refine ⟨h1, h2, fun k q hk hk2 hL hn => h3 k q hk (fun h9 => ?_) hL hn, h4, h5, h6⟩
  have a := hk2 h9
  by_cases e : k = j.toInt.toNat
  · rw [e, hf] at h9
    exact absurd h9 (by decide)
  · omega
theorem RI_end {L : Nat → Nat → Prop} {c i re as : Int32} {ro : Int} (h : RI L c i re as ro) (hb : ∀ k q, L k q → q < 12) (he : as.toInt = re.toInt ∨ 12 ≤ ro) : BS re (Rch L (fun q => bt c q = true) i.toInt.toNat) := by
  have b12 := RI_12 h hb
  obtain ⟨h1, h2, h3, h4, h5⟩ := h
  refine fun q hq => ⟨h1 q hq, fun hr => hr (fun q => bt re q = true) h2 (fun k q hk hL hn => ?_)⟩
  refine h3 k q ?_ hL hn
  rcases he with he | he
  · rw [Int32.toInt_inj.mp he]; exact hk
  · exact cb_full as 12 (by omega) k (b12 k hk)
/-- what one comes to from a set of facts by one link -/
def Cm (L : Nat → Nat → Prop) (fr wi : Int32) (q : Nat) : Prop := ∃ k, bt fr k = true ∧ L k q ∧ ¬ bt wi q = true
/-- so far, and a step -/
def RMs (L : Nat → Nat → Prop) (c i s t : Int32) : Prop := (∀ q, q < 32 → bt t q = true → Rch L (fun q => bt c q = true) i.toInt.toNat q) ∧ (∀ q, L i.toInt.toNat q → ¬ bt c q = true → bt t q = true) ∧ (∀ k q, bt s k = true → L k q → ¬ bt c q = true → bt t q = true)
theorem RM_0 {L : Nat → Nat → Prop} {c i z t : Int32} (hb : ∀ k q, L k q → q < 12) (h0 : 0 ≤ i.toInt) (h1 : i.toInt < 12) (hz : (1 : Int32) <<< (i &&& 31) = z) (ht : BS t (Cm L z c)) : RMs L c i 0 t := by
  have e : ∀ q, bt z q = true → q = i.toInt.toNat := fun q hq => by
    have := (bt_ins (b := 0) (z := z) (i := i) (by rw [hz]; exact b_ext (fun j _ => by rw [b_or, b_0, Bool.false_or])) h0 (by omega) q (b32 hq)).mp hq
    rw [b_0] at this
    rcases this with h | h
    · exact absurd h (by decide)
    · omega
  have e1 : bt z i.toInt.toNat = true := (bt_ins (b := 0) (z := z) (i := i) (by rw [hz]; exact b_ext (fun j _ => by rw [b_or, b_0, Bool.false_or])) h0 (by omega) _ (by omega)).mpr (Or.inr (by omega))
  refine ⟨fun q hq h => ?_, fun q hL hn => ?_, fun k q h => ?_⟩
  · obtain ⟨k, k1, k2, k3⟩ := (ht q hq).mp h
    rw [e k k1] at k2
    exact Rch_one k2 k3
  · have q1 := hb _ _ hL
    exact (ht q (by omega)).mpr ⟨_, e1, hL, hn⟩
  · rw [b_0] at h; exact absurd h (by decide)
theorem RM_next {L : Nat → Nat → Prop} {c i s t x t1 : Int32} (hb : ∀ k q, L k q → q < 12) (h : RMs L c i s t) (hx : BS x (Cm L t c)) (ht : t ||| x = t1) : RMs L c i t t1 := by
  obtain ⟨h1, h2, h3⟩ := h
  refine ⟨fun q hq h9 => ?_, fun q hL hn => (bt_un ht q).mpr (Or.inl (h2 q hL hn)), fun k q hk hL hn => ?_⟩
  · rcases (bt_un ht q).mp h9 with h9 | h9
    · exact h1 q hq h9
    · obtain ⟨k, k1, k2, k3⟩ := (hx q hq).mp h9
      exact Rch_more (h1 k (b32 k1) k1) k2 k3
  · have q1 := hb _ _ hL
    exact (bt_un ht q).mpr (Or.inr ((hx q (by omega)).mpr ⟨k, hk, hL, hn⟩))
theorem RM_end {L : Nat → Nat → Prop} {c i s t : Int32} (h : RMs L c i s t) (e : t.toInt = s.toInt) : BS s (Rch L (fun q => bt c q = true) i.toInt.toNat) := by
  obtain ⟨h1, h2, h3⟩ := h
  rw [Int32.toInt_inj.mp e] at h1 h2 h3
  exact fun q hq => ⟨h1 q hq, fun hr => hr (fun q => bt s q = true) h2 h3⟩
theorem MK_set {P : Nat → Prop} {b s z j j1 : Int32} (h : BS b (fun q => (q : Int) < j.toInt ∧ P q)) (hs : (1 : Int32) <<< (j &&& 31) = s) (hz : b ||| s = z) (h0 : 0 ≤ j.toInt) (h1 : j.toInt < 31) (hp : P j.toInt.toNat) (hj : j1.toInt = j.toInt + 1) : BS z (fun q => (q : Int) < j1.toInt ∧ P q) := by
  intro q hq
  refine (bt_ins (by rw [hs]; exact hz) h0 h1 q hq).trans ⟨fun h9 => ?_, fun h9 => ?_⟩
  · rcases h9 with h9 | h9
    · have := (h q hq).mp h9
      exact ⟨by omega, this.2⟩
    · rw [show q = j.toInt.toNat by omega]
      exact ⟨by omega, hp⟩
  · by_cases e : (q : Int) = j.toInt
    · exact Or.inr e
    · exact Or.inl ((h q hq).mpr ⟨by omega, h9.2⟩)
theorem MK_no {P : Nat → Prop} {b j j1 : Int32} (h : BS b (fun q => (q : Int) < j.toInt ∧ P q)) (h0 : 0 ≤ j.toInt) (hp : ¬ P j.toInt.toNat) (hj : j1.toInt = j.toInt + 1) : BS b (fun q => (q : Int) < j1.toInt ∧ P q) := by
  refine BS_cg h (fun q hq => ⟨fun h9 => ⟨by omega, h9.2⟩, fun h9 => ⟨?_, h9.2⟩⟩)
  by_cases e : q = j.toInt.toNat
  · rw [e] at h9; exact absurd h9.2 hp
  · omega
theorem Lxb {g : Nat → va_E} : ∀ k q, Lx g k q → q < 12 := fun _ _ h => h.2.1
theorem Lmb {g : Nat → va_E} : ∀ k q, Lm g k q → q < 12 := fun _ _ h => h.2.1
theorem has_t {r b i : Int32} {Q : Prop} (h : (r.toInt = 1 ∧ 0 ≤ i.toInt ∧ i.toInt < 31 ∧ bt b i.toInt.toNat = true) ∨ (r.toInt = 0 ∧ Q)) (n : ¬ r.toInt = 0) : bt b i.toInt.toNat = true := by
  rcases h with h | h
  · exact h.2.2.2
  · exact absurd h.1 n
theorem has_f {r b i : Int32} (h : (r.toInt = 1 ∧ 0 ≤ i.toInt ∧ i.toInt < 31 ∧ bt b i.toInt.toNat = true) ∨ (r.toInt = 0 ∧ (i.toInt < 0 ∨ 31 ≤ i.toInt ∨ bt b i.toInt.toNat = false))) (n : r.toInt = 0) (h0 : 0 ≤ i.toInt) (h1 : i.toInt < 31) : bt b i.toInt.toNat = false := by
  rcases h with h | ⟨-, h | h | h⟩
  · omega
  · omega
  · omega
  · exact h
/-- from those of the first n facts that fr names, by one link; and from k, to the first m -/
def Cd (L : Nat → Nat → Prop) (fr wi : Int32) (n : Int) (q : Nat) : Prop := ∃ k : Nat, (k : Int) < n ∧ bt fr k = true ∧ L k q ∧ ¬ bt wi q = true
def Ce (L : Nat → Nat → Prop) (fr wi k : Int32) (m : Int) (q : Nat) : Prop := Cd L fr wi k.toInt q ∨ ((q : Int) < m ∧ bt fr k.toInt.toNat = true ∧ L k.toInt.toNat q ∧ ¬ bt wi q = true)
theorem Cd_0 {L : Nat → Nat → Prop} {fr wi : Int32} : BS 0 (Cd L fr wi 0) := BS_0 (fun q ⟨k, h, _⟩ => by omega)
theorem Ce_0 {L : Nat → Nat → Prop} {b fr wi k : Int32} (h : BS b (Cd L fr wi k.toInt)) : BS b (Ce L fr wi k 0) := BS_cg h (fun q _ => ⟨Or.inl, fun h => h.elim id (fun h => by have := h.1; omega)⟩)
theorem Ce_yes {L : Nat → Nat → Prop} {b fr wi k j j1 s z : Int32} (h : BS b (Ce L fr wi k j.toInt)) (hs : (1 : Int32) <<< (j &&& 31) = s) (hz : b ||| s = z) (h0 : 0 ≤ j.toInt) (h1 : j.toInt < 31) (hf : bt fr k.toInt.toNat = true) (hL : L k.toInt.toNat j.toInt.toNat) (hw : bt wi j.toInt.toNat = false) (hj : j1.toInt = j.toInt + 1) : BS z (Ce L fr wi k j1.toInt) := by
  intro q hq
  refine (bt_ins (by rw [hs]; exact hz) h0 h1 q hq).trans ⟨fun h9 => ?_, fun h9 => ?_⟩
  · rcases h9 with h9 | h9
    · rcases (h q hq).mp h9 with h8 | h8
      · exact Or.inl h8
      · exact Or.inr ⟨by omega, h8.2⟩
    · rw [show q = j.toInt.toNat by omega]
      exact Or.inr ⟨by omega, hf, hL, by rw [hw]; decide⟩
  · by_cases e : (q : Int) = j.toInt
    · exact Or.inr e
    · refine Or.inl ((h q hq).mpr ?_)
      rcases h9 with h9 | h9
      · exact Or.inl h9
      · exact Or.inr ⟨by omega, h9.2⟩
theorem Ce_no {L : Nat → Nat → Prop} {b fr wi k j j1 : Int32} (h : BS b (Ce L fr wi k j.toInt)) (h0 : 0 ≤ j.toInt) (hn : ¬ L k.toInt.toNat j.toInt.toNat ∨ bt wi j.toInt.toNat = true) (hj : j1.toInt = j.toInt + 1) : BS b (Ce L fr wi k j1.toInt) := by
  refine BS_cg h (fun q _ => ⟨fun h9 => ?_, fun h9 => ?_⟩)
  · rcases h9 with h9 | h9
    · exact Or.inl h9
    · exact Or.inr ⟨by omega, h9.2⟩
  · rcases h9 with h9 | ⟨a, b1, c, d⟩
    · exact Or.inl h9
    · by_cases e : q = j.toInt.toNat
      · rw [e] at c d
        rcases hn with hn | hn
        · exact absurd c hn
        · exact absurd hn d
      · exact Or.inr ⟨by omega, b1, c, d⟩
theorem Cd_next {L : Nat → Nat → Prop} {b fr wi k k1 : Int32} {m : Int} (h : BS b (Ce L fr wi k m)) (hb : ∀ k q, L k q → q < 12) (h0 : 0 ≤ k.toInt) (hm : bt fr k.toInt.toNat = false ∨ 12 ≤ m) (hk : k1.toInt = k.toInt + 1) : BS b (Cd L fr wi k1.toInt) := by
  refine BS_cg h (fun q _ => ⟨fun h9 => ?_, fun h9 => ?_⟩)
  · rcases h9 with ⟨k9, a, b1⟩ | ⟨a, b1, c, d⟩
    · exact ⟨k9, by omega, b1⟩
    · exact ⟨k.toInt.toNat, by omega, b1, c, d⟩
  · obtain ⟨k9, a, b1, c, d⟩ := h9
    by_cases e : k9 = k.toInt.toNat
    · rw [e] at b1 c
      rcases hm with hm | hm
      · rw [hm] at b1; exact absurd b1 (by decide)
      · have := hb _ _ c
        exact Or.inr ⟨by omega, b1, c, d⟩
    · exact Or.inl ⟨k9, by omega, b1, c, d⟩
theorem Cd_end {L : Nat → Nat → Prop} {b fr wi k : Int32} (h : BS b (Cd L fr wi k.toInt)) (hb : ∀ k q, L k q → k < 12) (hk : 12 ≤ k.toInt) : BS b (Cm L fr wi) := BS_cg h (fun q _ => ⟨fun ⟨k9, _, h⟩ => ⟨k9, h⟩, fun ⟨k9, b1, c, d⟩ => ⟨k9, by have := hb _ _ c; omega, b1, c, d⟩⟩)
theorem LK_upd {g : Nat → va_E} (h : LKr g) {k j : Nat} (hk : k < 12) (hj : j < 12) {a b c : Int32} (a0 : 0 ≤ a.toInt) (a1 : a.toInt < 12) (b0 : 0 ≤ b.toInt) (b1 : b.toInt < 12) : (if k = a.toInt.toNat then upd (arI g (6 + 1 * k)) b.toNatClampNeg c else arI g (6 + 1 * k)) j = upd (arI g 133) (12 * a.toInt.toNat + b.toInt.toNat) c (12 * k + j) := by
  have eb : b.toNatClampNeg = b.toInt.toNat := rfl
  unfold upd
  by_cases e : k = a.toInt.toNat
  · rw [if_pos e]
    by_cases f : j = b.toNatClampNeg
    · rw [if_pos f, if_pos (by omega)]
    · rw [if_neg f, if_neg (by omega)]; exact h k j hk hj
  · rw [if_neg e, if_neg (by omega)]; exact h k j hk hj
def RQ (g : Nat → va_E) : Prop := RP g ∧ LKr g
theorem RQ_0 (ad : Nat → Nat) (cA : Nat → ClassId) : RQ (gF ad cA) := ⟨RP_0 ad cA, fun k j hk _ => by rw [(az_all ad cA (6 + 1 * k) j).resolve_right (by omega), (az_all ad cA 133 (12 * k + j)).resolve_right (by omega)]⟩

theorem Lm_cg {g g1 : Nat → va_E} (h : arI g1 133 = arI g 133) : Lm g1 = Lm g := by
  funext k j
  unfold Lm
  rw [h]
theorem ti_in {f : Nat → Int32} {n : Int} {i : Int32} (h : ti f n i = 1) : 0 ≤ i.toInt ∧ i.toInt < n := by
  unfold ti at h
  by_cases c : 0 ≤ i.toInt ∧ i.toInt < n ∧ (f i.toInt.toNat).toInt ≠ 0
  · exact ⟨c.1, c.2.1⟩
  · rw [if_neg c] at h; exact absurd h (by decide)
/-- how many of the first n are of a kind -/
noncomputable def cP (P : Nat → Prop) : Nat → Int
  | 0 => 0
  | n + 1 => cP P n + @ite Int (P n) (Classical.propDecidable (P n)) 1 0
theorem cb_cP {b : Int32} {P : Nat → Prop} (h : BS b P) : ∀ n : Nat, n ≤ 32 → cb b n = cP P n
  | 0, _ => rfl
  | n + 1, hn => by
    have h1 := cb_cP h n (by omega)
    have h2 := h n (by omega)
    show cb b n + (if bt b n = true then 1 else 0) = cP P n + @ite Int (P n) (Classical.propDecidable (P n)) 1 0
    rw [h1]
    by_cases c : bt b n = true
    · rw [if_pos c, if_pos (h2.mp c)]
    · rw [if_neg c, if_neg (fun q => c (h2.mpr q))]
theorem b_4095 : ∀ i, i < 32 → bt 4095 i = decide (i < 12) := by decide +kernel
theorem b_12 {x : Int32} (h : ∀ q, q < 32 → bt x q = true → q < 12) : 0 ≤ x.toInt ∧ x.toInt < 4096 := by
  have e : x &&& 4095 = x := b_ext (fun i hi => by
    rw [b_and, b_4095 i hi]
    cases c : bt x i with
    | false => rfl
    | true => rw [decide_eq_true (h i hi c)]; rfl)
  have h1 := i_andk e (by decide)
  have h2 : (4095 : Int32).toInt = 4095 := by decide
  omega
theorem BS_12 {x : Int32} {P : Nat → Prop} (h : BS x P) (hp : ∀ q, P q → q < 12) : 0 ≤ x.toInt ∧ x.toInt < 4096 := b_12 (fun q hq hb => hp q ((h q hq).mp hb))
theorem bc_dec : ∀ a, a < 64 → ∀ b, b < 64 → (bcF (nI (64 * a + b))).toInt = cb (nI (64 * a + b)) 12 := by decide +kernel
theorem bc_cb {x : Int32} (h0 : 0 ≤ x.toInt) (h1 : x.toInt < 4096) : (bcF x).toInt = cb x 12 := by
  obtain ⟨k, hk⟩ : ∃ k : Nat, x.toInt = k := ⟨x.toInt.toNat, by omega⟩
  have hx : x = nI k := nI_k hk (by omega)
  have h := bc_dec (k / 64) (by omega) (k % 64) (by omega)
  rw [show 64 * (k / 64) + k % 64 = k by omega, ← hx] at h
  exact h
theorem sz_dec : ∀ a, a < 64 → ∀ b, b < 64 → 64 * a + b ≠ 0 → cb (nI (64 * a + b) &&& (nI (64 * a + b) - 1)) 12 + 1 = cb (nI (64 * a + b)) 12 := by decide +kernel
theorem sz_cb {v t z : Int32} (ht : v - 1 = t) (hz : v &&& t = z) (h0 : 1 ≤ v.toInt) (h1 : v.toInt < 4096) : cb z 12 + 1 = cb v 12 := by
  obtain ⟨k, hk⟩ : ∃ k : Nat, v.toInt = k := ⟨v.toInt.toNat, by omega⟩
  have hx : v = nI k := nI_k hk (by omega)
  have h := sz_dec (k / 64) (by omega) (k % 64) (by omega) (by omega)
  rw [show 64 * (k / 64) + k % 64 = k by omega, ← hx] at h
  rw [← hz, ← ht]
  exact h
theorem cb_00 {x : Int32} (h : x.toInt = 0) : cb x 12 = 0 := by
  rw [show x = 0 from Int32.toInt_inj.mp h]
  decide
/-- how many one comes to -/
noncomputable def cL (L : Nat → Nat → Prop) (i : Nat) : Int := cP (Rch L (fun q => bt 0 q = true) i) 12
theorem cL_x {L : Nat → Nat → Prop} {i : Nat} {x r : Int32} (hb : ∀ k q, L k q → q < 12) (h : BS x (Rch L (fun q => bt 0 q = true) i)) (hr : r = bcF x) : r.toInt = cL L i := by
  have h1 := BS_12 h (fun q hq => Rch_all (fun q => q < 12) hb hq)
  rw [hr, bc_cb h1.1 h1.2]
  exact cb_cP h 12 (by decide)
theorem cL_m {L : Nat → Nat → Prop} {i : Nat} {x r : Int32} (h : BS x (Rch L (fun q => bt 0 q = true) i)) (hr : r.toInt = cb x 12) : r.toInt = cL L i := hr.trans (cb_cP h 12 (by decide))
/-- what is told, by bits, by flags -/
def tB (b : Int32) (q : Nat) : Int := if bt b q = true then 1 else 0
def tM (f : Nat → Int32) (q : Nat) : Int := (f q).toInt
theorem bi_tB (b i : Int32) (h0 : 0 ≤ i.toInt) (h1 : i.toInt < 31) : bi b i = tB b i.toInt.toNat := by
  unfold bi tB
  by_cases c : bt b i.toInt.toNat = true
  · rw [if_pos c, if_pos ⟨h0, h1, c⟩]
  · rw [if_neg c, if_neg (fun h => c h.2.2)]
theorem SM_t {b : Int32} {f : Nat → Int32} {n : Nat} (h : SMr b f n) (q : Nat) (hq : q < n) : tB b q = tM f q := (h q hq).symm
/-- the first of the first n told ones that counts most -/
def bsO (t c : Nat → Int) : Nat → Int × Int
  | 0 => (-2, -1)
  | n + 1 => if t n ≠ 0 ∧ (bsO t c n).2 < c n then ((n : Int), c n) else bsO t c n
theorem bsO_s (t c : Nat → Int) (n : Nat) : bsO t c (n + 1) = if t n ≠ 0 ∧ (bsO t c n).2 < c n then ((n : Int), c n) else bsO t c n := rfl
def BO (t c : Nat → Int) (n : Nat) (b m : Int) : Prop := b = (bsO t c n).1 ∧ m = (bsO t c n).2
theorem BO_0 {t c : Nat → Int} : BO t c 0 (-2) (-1) := ⟨rfl, rfl⟩
theorem BO_no {t c : Nat → Int} {i i1 : Int32} {b m : Int} (h : BO t c i.toInt.toNat b m) (h0 : 0 ≤ i.toInt) (hj : i1.toInt = i.toInt + 1) (hn : t i.toInt.toNat = 0 ∨ c i.toInt.toNat ≤ m) : BO t c i1.toInt.toNat b m := by
  have h2 := h.2
  unfold BO
  rw [show i1.toInt.toNat = i.toInt.toNat + 1 by omega, bsO_s, if_neg (fun q => by have q1 := q.1; have q2 := q.2; omega)]
  exact h
theorem BO_yes {t c : Nat → Int} {i i1 : Int32} {b m m1 : Int} (h : BO t c i.toInt.toNat b m) (h0 : 0 ≤ i.toInt) (hj : i1.toInt = i.toInt + 1) (ht : t i.toInt.toNat ≠ 0) (hm : m < m1) (hc : m1 = c i.toInt.toNat) : BO t c i1.toInt.toNat i.toInt m1 := by
  have h2 := h.2
  unfold BO
  rw [show i1.toInt.toNat = i.toInt.toNat + 1 by omega, bsO_s, if_pos ⟨ht, by omega⟩]
  exact ⟨by show i.toInt = ((i.toInt.toNat : Nat) : Int); omega, hc⟩
theorem bsO_cg {t c t1 c1 : Nat → Int} : ∀ n, (∀ q, q < n → t q = t1 q) → (∀ q, q < n → c q = c1 q) → bsO t c n = bsO t1 c1 n
  | 0, _, _ => rfl
  | n + 1, ht, hc => by
    rw [bsO_s, bsO_s, bsO_cg n (fun q hq => ht q (by omega)) (fun q hq => hc q (by omega)), hc n (by omega), ht n (by omega)]
/-- told ones that recall each other; so far -/
def KN (L : Nat → Nat → Prop) (i q : Nat) : Prop := q = i ∨ (Rch L (fun q => bt 0 q = true) i q ∧ Rch L (fun q => bt 0 q = true) q i)
def Ke (L : Nat → Nat → Prop) (i : Nat) (m : Int) (q : Nat) : Prop := q = i ∨ ((q : Int) < m ∧ Rch L (fun q => bt 0 q = true) i q ∧ Rch L (fun q => bt 0 q = true) q i)
theorem bt_one {i z : Int32} (hz : (1 : Int32) <<< (i &&& 31) = z) (h0 : 0 ≤ i.toInt) (h1 : i.toInt < 31) (q : Nat) (hq : q < 32) : bt z q = true ↔ q = i.toInt.toNat := by
  obtain ⟨k, hk⟩ : ∃ k : Nat, i.toInt = k := ⟨i.toInt.toNat, by omega⟩
  have hi : i = nI k := nI_k hk (by omega)
  rw [← hz, hi, bt_sh1 k (by omega) q hq, decide_eq_true_iff, ← hi, hk]
  exact Iff.rfl
theorem Ke_0 {L : Nat → Nat → Prop} {i z : Int32} (hz : (1 : Int32) <<< (i &&& 31) = z) (h0 : 0 ≤ i.toInt) (h1 : i.toInt < 31) : BS z (Ke L i.toInt.toNat 0) := fun q hq => (bt_one hz h0 h1 q hq).trans ⟨Or.inl, fun h => h.elim id (fun h => by have := h.1; omega)⟩
theorem Ke_yes {L : Nat → Nat → Prop} {i : Nat} {b j j1 s z : Int32} (h : BS b (Ke L i j.toInt)) (hs : (1 : Int32) <<< (j &&& 31) = s) (hz : b ||| s = z) (h0 : 0 ≤ j.toInt) (h1 : j.toInt < 31) (hx : Rch L (fun q => bt 0 q = true) i j.toInt.toNat) (hy : Rch L (fun q => bt 0 q = true) j.toInt.toNat i) (hj : j1.toInt = j.toInt + 1) : BS z (Ke L i j1.toInt) := by
  intro q hq
  refine (bt_ins (by rw [hs]; exact hz) h0 h1 q hq).trans ⟨fun h9 => ?_, fun h9 => ?_⟩
  · rcases h9 with h9 | h9
    · rcases (h q hq).mp h9 with h8 | h8
      · exact Or.inl h8
      · exact Or.inr ⟨by omega, h8.2⟩
    · have e : q = j.toInt.toNat := by omega
      rw [e]
      exact Or.inr ⟨by omega, hx, hy⟩
  · by_cases e : (q : Int) = j.toInt
    · exact Or.inr e
    · refine Or.inl ((h q hq).mpr ?_)
      rcases h9 with h9 | h9
      · exact Or.inl h9
      · exact Or.inr ⟨by omega, h9.2⟩
theorem Ke_no {L : Nat → Nat → Prop} {i : Nat} {b j j1 : Int32} (h : BS b (Ke L i j.toInt)) (h0 : 0 ≤ j.toInt) (hn : ¬ (Rch L (fun q => bt 0 q = true) i j.toInt.toNat ∧ Rch L (fun q => bt 0 q = true) j.toInt.toNat i)) (hj : j1.toInt = j.toInt + 1) : BS b (Ke L i j1.toInt) := by
  refine BS_cg h (fun q _ => ⟨fun h9 => ?_, fun h9 => ?_⟩)
  · rcases h9 with h9 | h9
    · exact Or.inl h9
    · exact Or.inr ⟨by omega, h9.2⟩
  · rcases h9 with h9 | h9
    · exact Or.inl h9
    · by_cases e : q = j.toInt.toNat
      · rw [e] at h9; exact absurd h9.2 hn
      · exact Or.inr ⟨by omega, h9.2⟩
theorem Ke_end {L : Nat → Nat → Prop} {i : Nat} {b j : Int32} (h : BS b (Ke L i j.toInt)) (hb : ∀ k q, L k q → q < 12) (hj : 12 ≤ j.toInt) : BS b (KN L i) := BS_cg h (fun q _ => ⟨fun h9 => h9.elim Or.inl (fun h => Or.inr h.2), fun h9 => h9.elim Or.inl (fun h => Or.inr ⟨by have := Rch_all (fun q => q < 12) hb h.1; omega, h⟩)⟩)
theorem KN_12 {L : Nat → Nat → Prop} {i : Nat} (hb : ∀ k q, L k q → q < 12) (hi : i < 12) (q : Nat) (h : KN L i q) : q < 12 := h.elim (fun e => by omega) (fun h => Rch_all (fun q => q < 12) hb h.1)
def KP (L : Nat → Nat → Prop) (i : Nat) : Prop := ∀ q, q < i → ¬ KN L i q
noncomputable def kc9 (t : Nat → Int) (P : Nat → Prop) : Nat → Int
  | 0 => 0
  | n + 1 => kc9 t P n + @ite Int (t n ≠ 0 ∧ P n) (Classical.propDecidable _) 1 0
theorem kc9_s (t : Nat → Int) (P : Nat → Prop) (n : Nat) : kc9 t P (n + 1) = kc9 t P n + @ite Int (t n ≠ 0 ∧ P n) (Classical.propDecidable _) 1 0 := rfl
theorem kc9_no {t : Nat → Int} {P : Nat → Prop} {i i1 : Int32} {n n1 : Int} (h : n = kc9 t P i.toInt.toNat) (h0 : 0 ≤ i.toInt) (hj : i1.toInt = i.toInt + 1) (hn : t i.toInt.toNat = 0 ∨ ¬ P i.toInt.toNat) (e : n1 = n) : n1 = kc9 t P i1.toInt.toNat := by
  rw [show i1.toInt.toNat = i.toInt.toNat + 1 by omega, kc9_s, if_neg (fun q => hn.elim q.1 (fun z => z q.2))]
  omega
theorem kc9_yes {t : Nat → Int} {P : Nat → Prop} {i i1 : Int32} {n n1 : Int} (h : n = kc9 t P i.toInt.toNat) (h0 : 0 ≤ i.toInt) (hj : i1.toInt = i.toInt + 1) (ht : t i.toInt.toNat ≠ 0) (hp : P i.toInt.toNat) (e : n1 = n + 1) : n1 = kc9 t P i1.toInt.toNat := by
  rw [show i1.toInt.toNat = i.toInt.toNat + 1 by omega, kc9_s, if_pos ⟨ht, hp⟩]
  omega
theorem kc9_cg {t t1 : Nat → Int} {P : Nat → Prop} : ∀ n, (∀ q, q < n → t q = t1 q) → kc9 t P n = kc9 t1 P n
  | 0, _ => rfl
  | n + 1, ht => by rw [kc9_s, kc9_s, kc9_cg n (fun q hq => ht q (by omega)), ht n (by omega)]
theorem low_dec : ∀ a, a < 64 → ∀ b, b < 64 → 64 * a + b ≠ 0 → ∃ k, k < 12 ∧ nI (64 * a + b) &&& (-(nI (64 * a + b))) = (1 : Int32) <<< (nI k &&& 31) ∧ bt (nI (64 * a + b)) k = true ∧ ∀ q, q < k → bt (nI (64 * a + b)) q = false := by decide +kernel
theorem sh_inj : ∀ k, k < 12 → ∀ i, i < 12 → (1 : Int32) <<< (nI k &&& 31) = (1 : Int32) <<< (nI i &&& 31) → k = i := by decide +kernel
theorem lb_iff {L : Nat → Nat → Prop} {i b r s : Int32} (h : BS b (KN L i.toInt.toNat)) (hb : ∀ k q, L k q → q < 12) (h0 : 0 ≤ i.toInt) (h1 : i.toInt < 12) (hr : r = b &&& (-b)) (hs : (1 : Int32) <<< (i &&& 31) = s) : r.toInt = s.toInt ↔ KP L i.toInt.toNat := by
  have hr0 := BS_12 h (KN_12 hb (by omega))
  have hi0 : bt b i.toInt.toNat = true := (h _ (by omega)).mpr (Or.inl rfl)
  obtain ⟨m, hm⟩ : ∃ m : Nat, b.toInt = m := ⟨b.toInt.toNat, by omega⟩
  have hbm : b = nI m := nI_k hm (by omega)
  have hm0 : m ≠ 0 := by
    intro e
    rw [hbm, e, show nI 0 = 0 by decide, b_0] at hi0
    exact absurd hi0 (by decide)
  obtain ⟨k, k1, k2, k3, k4⟩ := low_dec (m / 64) (by omega) (m % 64) (by omega) (by omega)
  rw [show 64 * (m / 64) + m % 64 = m by omega, ← hbm] at k2 k3 k4
  have hii : i = nI i.toInt.toNat := nI_k (by omega) (by omega)
  refine ⟨fun e => ?_, fun hP => ?_⟩
  · have e2 := Int32.toInt_inj.mp e
    rw [hr, k2, ← hs, hii] at e2
    have e3 := sh_inj k k1 i.toInt.toNat (by omega) e2
    intro q hq hK
    have := (h q (by omega)).mpr hK
    rw [k4 q (by omega)] at this
    exact absurd this (by decide)
  · have hk : KN L i.toInt.toNat k := (h k (by omega)).mp k3
    have h2 : ¬ k < i.toInt.toNat := fun z => hP k z hk
    have h3 : ¬ i.toInt.toNat < k := fun z => by
      rw [k4 _ z] at hi0
      exact absurd hi0 (by decide)
    have e : k = i.toInt.toNat := by omega
    rw [hr, k2, ← hs, e, ← hii]
theorem mask_dec : ∀ i, i < 12 → ∀ q, q < 32 → bt (((1 : Int32) <<< (nI i &&& 31)) - 1) q = decide (q < i) := by decide +kernel
theorem kb_iff {L : Nat → Nat → Prop} {i b s t z : Int32} (h : BS b (KN L i.toInt.toNat)) (h0 : 0 ≤ i.toInt) (h1 : i.toInt < 12) (hs : (1 : Int32) <<< (i &&& 31) = s) (ht : s - 1 = t) (hz : b &&& t = z) : z.toInt = 0 ↔ KP L i.toInt.toNat := by
  have hii : i = nI i.toInt.toNat := nI_k (by omega) (by omega)
  have hb : ∀ q, q < 32 → bt z q = (bt b q && decide (q < i.toInt.toNat)) := fun q hq => by
    have e := mask_dec i.toInt.toNat (by omega) q hq
    rw [← hii, hs, ht] at e
    rw [← hz, b_and, e]
  refine ⟨fun e q hq hK => ?_, fun hP => ?_⟩
  · have e1 := hb q (by omega)
    rw [show z = 0 from Int32.toInt_inj.mp e, b_0, (h q (by omega)).mpr hK, decide_eq_true hq] at e1
    exact absurd e1 (by decide)
  · have e : z = 0 := b_ext (fun q hq => by
      rw [hb q hq, b_0]
      by_cases c : q < i.toInt.toNat
      · have : bt b q = false := by
          cases d : bt b q with
          | false => rfl
          | true => exact absurd ((h q hq).mp d) (hP q c)
        rw [this]; rfl
      · rw [decide_eq_false c, Bool.and_false])
    rw [e]; decide
theorem mh_t {r b i : Int32} (h : (r.toInt = 1 ∧ bt b i.toInt.toNat = true) ∨ (r.toInt = 0 ∧ bt b i.toInt.toNat = false)) (n : ¬ r.toInt = 0) : bt b i.toInt.toNat = true := h.elim (fun h => h.2) (fun h => absurd h.1 n)
theorem mh_f {r b i : Int32} (h : (r.toInt = 1 ∧ bt b i.toInt.toNat = true) ∨ (r.toInt = 0 ∧ bt b i.toInt.toNat = false)) (n : r.toInt = 0) : bt b i.toInt.toNat = false := h.elim (fun h => by omega) (fun h => h.2)
theorem bff {b : Bool} (h : b = false) : ¬ b = true := by rw [h]; decide
theorem sub_in {f o : Int32} (h1 : 0 ≤ o.toInt) (h : f &&& (o ^^^ (-1)) = 0) : 0 ≤ f.toInt ∧ f.toInt ≤ o.toInt := by
  have e : f &&& o = f := b_ext (fun q hq => by
    have e1 : bt (f &&& (o ^^^ (-1))) q = false := by rw [h, b_0]
    rw [b_and, b_xor, b_m1 q hq] at e1
    rw [b_and]
    revert e1
    cases bt f q <;> cases bt o q <;> decide)
  exact i_andk e h1

/-- the fewest facts without which j isn't reached -/
def oth (t i j : Int32) : Int32 := (t &&& (((1 : Int32) <<< (i &&& 31)) ^^^ (-1))) &&& (((1 : Int32) <<< (j &&& 31)) ^^^ (-1))
def Av (L : Nat → Nat → Prop) (i j : Nat) (s : Int32) : Prop := ¬ Rch L (fun q => bt s q = true) i j
noncomputable def ctB (o : Int32) (A : Int32 → Prop) : Nat → Int32
  | 0 => o
  | n + 1 => @ite Int32 (nI n &&& (o ^^^ (-1)) = 0 ∧ cb (nI n) 12 < cb (ctB o A n) 12 ∧ A (nI n)) (Classical.propDecidable _) (nI n) (ctB o A n)
theorem ctB_s (o : Int32) (A : Int32 → Prop) (n : Nat) : ctB o A (n + 1) = @ite Int32 (nI n &&& (o ^^^ (-1)) = 0 ∧ cb (nI n) 12 < cb (ctB o A n) 12 ∧ A (nI n)) (Classical.propDecidable _) (nI n) (ctB o A n) := rfl
theorem nI_self {f : Int32} (h : 0 ≤ f.toInt) : nI f.toInt.toNat = f := (nI_k (by omega) (by have := i_rng f; omega)).symm
theorem ct_no {o b f f1 : Int32} {A : Int32 → Prop} (h : b = ctB o A f.toInt.toNat) (h0 : 0 ≤ f.toInt) (hj : f1.toInt = f.toInt + 1) (hn : ¬ f &&& (o ^^^ (-1)) = 0 ∨ cb b 12 ≤ cb f 12 ∨ ¬ A f) : b = ctB o A f1.toInt.toNat := by
  rw [show f1.toInt.toNat = f.toInt.toNat + 1 by omega, ctB_s, if_neg]
  · exact h
  · rw [nI_self h0, ← h]
    rintro ⟨a, b, c⟩
    rcases hn with hn | hn | hn
    · exact hn a
    · omega
    · exact hn c
theorem ct_yes {o b f f1 : Int32} {A : Int32 → Prop} (h : b = ctB o A f.toInt.toNat) (h0 : 0 ≤ f.toInt) (hj : f1.toInt = f.toInt + 1) (ha : f &&& (o ^^^ (-1)) = 0) (hc : cb f 12 < cb b 12) (hA : A f) : f = ctB o A f1.toInt.toNat := by
  rw [show f1.toInt.toNat = f.toInt.toNat + 1 by omega, ctB_s, if_pos]
  · exact (nI_self h0).symm
  · rw [nI_self h0, ← h]
    exact ⟨ha, hc, hA⟩
theorem sub_le {f o : Int32} (h0 : 0 ≤ f.toInt) (h1 : 0 ≤ o.toInt) (h : f &&& (o ^^^ (-1)) = 0) : f.toInt ≤ o.toInt := by
  have e : f &&& o = f := b_ext (fun q hq => by
    have e1 : bt (f &&& (o ^^^ (-1))) q = false := by rw [h, b_0]
    rw [b_and, b_xor, b_m1 q hq] at e1
    rw [b_and]
    revert e1
    cases bt f q <;> cases bt o q <;> decide)
  exact (i_andk e h1).2
theorem ct_st {o : Int32} {A : Int32 → Prop} (h0 : 0 ≤ o.toInt) (n : Nat) (h : o.toInt < n) : ∀ k, n + k < 4097 → ctB o A (n + k) = ctB o A n
  | 0, _ => rfl
  | k + 1, hk => by
    have e : (nI (n + k)).toInt = ((n + k : Nat) : Int) := nI_toInt (by omega)
    rw [show n + (k + 1) = n + k + 1 by omega, ctB_s, if_neg (fun q => by have := sub_le (f := nI (n + k)) (by omega) h0 q.1; omega)]
    exact ct_st h0 n h k (by omega)
theorem ct_end {o b f : Int32} {A : Int32 → Prop} (h : b = ctB o A f.toInt.toNat) (h0 : 0 ≤ o.toInt) (h1 : o.toInt < f.toInt) (h2 : f.toInt ≤ 4096) : b = ctB o A 4096 := by
  have e := ct_st (A := A) h0 f.toInt.toNat (by omega) (4096 - f.toInt.toNat) (by omega)
  rw [show f.toInt.toNat + (4096 - f.toInt.toNat) = 4096 by omega] at e
  rw [e]; exact h
theorem MK_or {P : Nat → Prop} {b z j j1 : Int32} (h : BS b (fun q => (q : Int) < j.toInt ∧ P q)) (hz : b ||| 0 = z) (h0 : 0 ≤ j.toInt) (hp : ¬ P j.toInt.toNat) (hj : j1.toInt = j.toInt + 1) : BS z (fun q => (q : Int) < j1.toInt ∧ P q) := by
  rw [show z = b by rw [← hz]; exact b_ext (fun i _ => by rw [b_or, b_0, Bool.or_false])]
  exact MK_no h h0 hp hj
theorem told_eq {td r : Int32} {f : Nat → Int32} (h : SMr td f 12) (h0 : 0 ≤ td.toInt) (h1 : td.toInt < 4096) (hr : BS r (fun q => (q : Int) < 12 ∧ tM f q ≠ 0)) : r = td := by
  refine BS_eq hr (fun q hq => ⟨fun hb => ?_, fun hb => ?_⟩)
  · have q1 := bt_lt (n := 12) h0 h1 hb
    refine ⟨by omega, ?_⟩
    rw [← SM_t h q q1]; unfold tB; rw [if_pos hb]; decide
  · have q2 := hb.2
    rw [← SM_t h q (by omega)] at q2
    unfold tB at q2
    by_cases c : bt td q = true
    · exact c
    · rw [if_neg c] at q2; exact absurd rfl q2
theorem a_t {r b t : Int32} (h : (r.toInt = 1 ∧ b &&& (t ^^^ (-1)) = 0) ∨ (r.toInt = 0 ∧ ¬ b &&& (t ^^^ (-1)) = 0)) (n : ¬ r.toInt = 0) : b &&& (t ^^^ (-1)) = 0 := h.elim (fun h => h.2) (fun h => absurd h.1 n)
theorem a_f {r b t : Int32} (h : (r.toInt = 1 ∧ b &&& (t ^^^ (-1)) = 0) ∨ (r.toInt = 0 ∧ ¬ b &&& (t ^^^ (-1)) = 0)) (n : r.toInt = 0) : ¬ b &&& (t ^^^ (-1)) = 0 := h.elim (fun h => by omega) (fun h => h.2)
theorem z_t {f o m z : Int32} (hm : o ^^^ (-1) = m) (hz : f &&& m = z) (h : z.toInt = 0) : f &&& (o ^^^ (-1)) = 0 := by rw [hm, hz]; exact Int32.toInt_inj.mp h
theorem z_f {f o m z : Int32} (hm : o ^^^ (-1) = m) (hz : f &&& m = z) (h : ¬ z.toInt = 0) : ¬ f &&& (o ^^^ (-1)) = 0 := by
  rw [hm, hz]
  exact fun e => h (by rw [e]; decide)


set_option maxRecDepth 100000 in
set_option maxHeartbeats 4000000 in
theorem s_X5_linked (l : Launch) (D : va_G) (cA : Nat → ClassId) (ad : Nat → Nat) (g0 : Nat → va_E) (i : Int32) (hSh : Shp ad cA g0) (hG : Rng g0) (i0 : 0 ≤ i.toInt) (i12 : i.toInt < 12) : CT l NN ad cA D yX5_linked cX5_linked 4 (some FieldType.int) (0, 0) [.ref (ad 3), .int i] g0 (PU g0 (fun r => BS r (Lx g0 i.toInt.toNat))) := by
  refine q_enterI (by decide) (Nat.le_of_ble_eq_true rfl) rfl (fun K H locs ls _ _ hM hW0 hR hC hE hl => ?_)
  have hl : lv_has ls 4 [(0, .ref (ad 3)), (1, .int i)] := hl
  have hW : WS ad cA (fun i k => False) g0 K g0 H locs := ⟨hW0, hSh, FR.rf⟩
  refine q_iconst (v := (0 : Int32)) hM dX5_linked_0 (by decide) ?_
  refine q_istore_n (lv9 := [(2, .int (0 : Int32)), (0, .ref (ad 3)), (1, .int i)]) hM dX5_linked_1 hl (by decide) rfl (fun ls hl => ?_)
  refine q_iconst (v := (0 : Int32)) hM dX5_linked_2 (by decide) ?_
  refine q_istore_n (lv9 := [(3, .int (0 : Int32)), (2, .int (0 : Int32)), (0, .ref (ad 3)), (1, .int i)]) hM dX5_linked_3 hl (by decide) rfl (fun ls hl => ?_)
  have L4 : ∀ (fu4 : Nat) (w4_2 : Int32) (w4_3 : Int32) (H : Heap) (locs : List Loc) (ls : Array Slot), (12 - w4_3.toInt).toNat < fu4 → (0 ≤ w4_3.toInt) → (w4_3.toInt ≤ 12) → (BS w4_2 (fun q => (q : Int) < w4_3.toInt ∧ Lx g0 i.toInt.toNat q)) → lv_has ls 4 [(0, .ref (ad 3)), (1, .int i), (2, .int w4_2), (3, .int w4_3)] → WS ad cA (fun i k => False) g0 K g0 H locs → XX K 0 0 H locs 4 ls [] := by
    intro fu4
    induction fu4 with
    | zero => intro w4_2 w4_3 H locs ls h0; omega
    | succ fu4 ih4 =>
      intro w4_2 w4_3 H locs ls hm4 i4_0 i4_1 i4_2 hl hW
      refine q_iload_n hM dX5_linked_4 (lv_at hl 3 rfl) ?_
      refine q_bipush (v := (12 : Int32)) hM dX5_linked_5 (by decide) ?_
      refine q_icmp_ge (tgt := 33) hM dX5_linked_7 (by decide) (rfl : w4_3.toInt = w4_3.toInt) (kc_12 : (12 : Int32).toInt = 12) (fun h7 => ?_) (fun h7 => ?_)
      · refine q_iload_n hM dX5_linked_33 (lv_at hl 2 rfl) ?_
        exact hE _ _ _ _ _ _ hW.1 ⟨_, rfl, (BS_cg i4_2 (fun q hq => ⟨fun h => h.2, fun h => ⟨by have := h.2.1; omega, h⟩⟩)), rfl⟩ dX5_linked_34
      · refine q_aload_n hM dX5_linked_10 (lv_at hl 0 rfl) ?_
        refine w_get (v := .ref (ad 5)) hM hW FG_X5_17 lb_3 (rf_3_1 hW.2.1) dX5_linked_11 ?_
        refine q_iload_n hM dX5_linked_14 (lv_at hl 1 rfl) ?_
        refine w_aald hM hW lb_5 (Or.inl rfl) (i_in (by omega) (by omega)) (aq (aq_5 hW.2.1) (by omega) (by omega)) dX5_linked_15 ?_
        refine q_iload_n hM dX5_linked_16 (lv_at hl 3 rfl) ?_
        refine w_iald hM hW (lr_6 (by omega)) (i_in (by omega) (by omega)) dX5_linked_17 ?_
        refine q_top (fun y13535 hy13535 => ?_)
        refine q_if_le (tgt := 27) hM dX5_linked_18 (by decide) (rfl : y13535.toInt = y13535.toInt) (fun h18 => ?_) (fun h18 => ?_)
        · refine q_iinc (lv9 := fun z13537 => [(3, .int z13537), (0, .ref (ad 3)), (1, .int i), (2, .int w4_2)]) hM dX5_linked_27 hl (kq := 3) rfl (by decide) (fun _ => rfl) (fun z13537 ls hz13537 hl => ?_)
          first | have tz13537 := i_addT hz13537 (rfl : w4_3.toInt = w4_3.toInt) (kc_1 : (Int32.ofInt 1).toInt = 1) (by omega) (by omega) | skip
          refine q_goto (tgt := 4) hM dX5_linked_30 (by decide) ?_
          exact ih4 w4_2 z13537 _ _ _ (by omega) (by omega) (by omega) (MK_no i4_2 (by omega) (fun h9 => absurd h9.2.2 (by show ¬ 0 < (arI g0 (6 + 1 * i.toInt.toNat) w4_3.toNatClampNeg).toInt; rw [← hy13535]; omega)) (by omega)) (lv_sub hl [1, 2, 3, 0] rfl) hW
        · refine q_iload_n hM dX5_linked_21 (lv_at hl 2 rfl) ?_
          refine q_iconst (v := (1 : Int32)) hM dX5_linked_22 (by decide) ?_
          refine q_iload_n hM dX5_linked_23 (lv_at hl 3 rfl) ?_
          refine q_ishl hM dX5_linked_24 (fun z13539 hz13539 => ?_)
          refine q_ior hM dX5_linked_25 (fun z13540 hz13540 => ?_)
          refine q_istore_n (lv9 := [(2, .int z13540), (0, .ref (ad 3)), (1, .int i), (3, .int w4_3)]) hM dX5_linked_26 hl (by decide) rfl (fun ls hl => ?_)
          refine q_iinc (lv9 := fun z13541 => [(3, .int z13541), (2, .int z13540), (0, .ref (ad 3)), (1, .int i)]) hM dX5_linked_27 hl (kq := 3) rfl (by decide) (fun _ => rfl) (fun z13541 ls hz13541 hl => ?_)
          first | have tz13541 := i_addT hz13541 (rfl : w4_3.toInt = w4_3.toInt) (kc_1 : (Int32.ofInt 1).toInt = 1) (by omega) (by omega) | skip
          refine q_goto (tgt := 4) hM dX5_linked_30 (by decide) ?_
          exact ih4 z13540 z13541 _ _ _ (by omega) (by omega) (by omega) (MK_set i4_2 hz13539 hz13540 (by omega) (by omega) ⟨by omega, by omega, by show  0 < (arI g0 (6 + 1 * i.toInt.toNat) w4_3.toNatClampNeg).toInt; rw [← hy13535]; omega⟩ (by omega)) (lv_sub hl [2, 3, 1, 0] rfl) hW
  have := kc_0
  have := kc_0
  exact L4 _ (0 : Int32) (0 : Int32) _ _ _ (Nat.lt_succ_self _) (by omega) (by omega) (BS_0 (fun q h => absurd h.1 (by have := kc_0; omega))) (lv_sub hl [2, 3, 1, 0] rfl) hW


set_option maxRecDepth 100000 in
set_option maxHeartbeats 4000000 in
theorem s_X5_reached (l : Launch) (D : va_G) (cA : Nat → ClassId) (ad : Nat → Nat) (g0 : Nat → va_E) (i : Int32) (cu : Int32) (hSh : Shp ad cA g0) (hG : Rng g0) (i0 : 0 ≤ i.toInt) (i12 : i.toInt < 12) : CT l NN ad cA D yX5_reached cX5_reached 8 (some FieldType.int) (1, 23) [.ref (ad 3), .int i, .int cu] g0 (PU g0 (fun r => BS r (Rch (Lx g0) (fun q => bt cu q = true) i.toInt.toNat))) := by
  refine q_enterI (by decide) (Nat.le_of_ble_eq_true rfl) rfl (fun K H locs ls _ _ hM hW0 hR hC hE hl => ?_)
  have hl : lv_has ls 8 [(0, .ref (ad 3)), (1, .int i), (2, .int cu)] := hl
  have hW : WS ad cA (fun i k => False) g0 K g0 H locs := ⟨hW0, hSh, FR.rf⟩
  refine q_aload_n hM dX5_reached_0 (lv_at hl 0 rfl) ?_
  refine q_iload_n hM dX5_reached_1 (lv_at hl 1 rfl) ?_
  refine q_callV (As := [.int i]) (rest := []) hM hW.1 hR hC myX5_linked (kAW (v_3_8 (List.mem_of_getElem? (i := 0) rfl)) rfl) (rfl : vwCl[5]? = some (RX5, TX5, 3)) rfl lb_3.1 (shO hW.2.1 lb_3) (s_X5_linked _ _ cA ad g0 i hW.2.1 hG (by  omega) (by  omega)) ⟨by decide, by decide⟩ rfl rfl hl.1 (Nat.le_of_ble_eq_true rfl) dX5_reached_2 (fun v g13543 H locs hp hW1 => ?_)
  obtain ⟨r13542, rfl, hr13542, rfl⟩ := hp
  have hW : WS ad cA (fun i k => False) g0 K g0 H locs := ⟨hW1, hW.2.1, hW.2.2⟩
  refine q_iload_n hM dX5_reached_5 (lv_at hl 2 rfl) ?_
  refine q_iconst (v := ((-1) : Int32)) hM dX5_reached_6 (by decide) ?_
  refine q_ixor hM dX5_reached_7 (fun z13544 hz13544 => ?_)
  refine q_iand hM dX5_reached_8 (fun z13545 hz13545 => ?_)
  refine q_istore_n (lv9 := [(3, .int z13545), (0, .ref (ad 3)), (1, .int i), (2, .int cu)]) hM dX5_reached_9 hl (by decide) rfl (fun ls hl => ?_)
  refine q_iconst (v := (0 : Int32)) hM dX5_reached_10 (by decide) ?_
  refine q_istore (lv9 := [(4, .int (0 : Int32)), (3, .int z13545), (0, .ref (ad 3)), (1, .int i), (2, .int cu)]) hM dX5_reached_11 hl (by decide) rfl (fun ls hl => ?_)
  refine q_iconst (v := (0 : Int32)) hM dX5_reached_13 (by decide) ?_
  refine q_istore (lv9 := [(5, .int (0 : Int32)), (4, .int (0 : Int32)), (3, .int z13545), (0, .ref (ad 3)), (1, .int i), (2, .int cu)]) hM dX5_reached_14 hl (by decide) rfl (fun ls hl => ?_)
  have L16 : ∀ (fu16 : Nat) (w16_4 : Int32) (w16_3 : Int32) (w16_5 : Int32) (H : Heap) (locs : List Loc) (ls : Array Slot), (12 - w16_5.toInt).toNat < fu16 → (0 ≤ w16_5.toInt) → (w16_5.toInt ≤ 12) → (RI (Lx g0) cu i w16_3 w16_4 w16_5.toInt) → lv_has ls 8 [(0, .ref (ad 3)), (1, .int i), (2, .int cu), (3, .int w16_3), (4, .int w16_4), (5, .int w16_5)] → WS ad cA (fun i k => False) g0 K g0 H locs → XX K 0 0 H locs 16 ls [] := by
    intro fu16
    induction fu16 with
    | zero => intro w16_4 w16_3 w16_5 H locs ls h0; omega
    | succ fu16 ih16 =>
      intro w16_4 w16_3 w16_5 H locs ls hm16 i16_0 i16_1 i16_2 hl hW
      refine q_iload hM dX5_reached_16 (lv_at hl 5 rfl) ?_
      refine q_bipush (v := (12 : Int32)) hM dX5_reached_18 (by decide) ?_
      refine q_icmp_ge (tgt := 85) hM dX5_reached_20 (by decide) (rfl : w16_5.toInt = w16_5.toInt) (kc_12 : (12 : Int32).toInt = 12) (fun h20 => ?_) (fun h20 => ?_)
      · refine q_iload_n hM dX5_reached_85 (lv_at hl 3 rfl) ?_
        exact hE _ _ _ _ _ _ hW.1 ⟨_, rfl, (RI_end i16_2 Lxb (by omega)), rfl⟩ dX5_reached_86
      · refine q_iload hM dX5_reached_23 (lv_at hl 4 rfl) ?_
        refine q_iload_n hM dX5_reached_25 (lv_at hl 3 rfl) ?_
        refine q_icmp_eq (tgt := 85) hM dX5_reached_26 (by decide) (rfl : w16_4.toInt = w16_4.toInt) (rfl : w16_3.toInt = w16_3.toInt) (fun h26 => ?_) (fun h26 => ?_)
        · refine q_iload_n hM dX5_reached_85 (lv_at hl 3 rfl) ?_
          exact hE _ _ _ _ _ _ hW.1 ⟨_, rfl, (RI_end i16_2 Lxb (by omega)), rfl⟩ dX5_reached_86
        · refine q_iload_n hM dX5_reached_29 (lv_at hl 3 rfl) ?_
          refine q_iload hM dX5_reached_30 (lv_at hl 4 rfl) ?_
          refine q_iconst (v := ((-1) : Int32)) hM dX5_reached_32 (by decide) ?_
          refine q_ixor hM dX5_reached_33 (fun z13551 hz13551 => ?_)
          refine q_iand hM dX5_reached_34 (fun z13552 hz13552 => ?_)
          refine q_istore (lv9 := [(6, .int z13552), (0, .ref (ad 3)), (1, .int i), (2, .int cu), (3, .int w16_3), (4, .int w16_4), (5, .int w16_5)]) hM dX5_reached_35 hl (by decide) rfl (fun ls hl => ?_)
          refine q_iload_n hM dX5_reached_37 (lv_at hl 4 rfl) ?_
          refine q_istore (lv9 := [(4, .int w16_3), (6, .int z13552), (0, .ref (ad 3)), (1, .int i), (2, .int cu), (3, .int w16_3), (5, .int w16_5)]) hM dX5_reached_38 hl (by decide) rfl (fun ls hl => ?_)
          refine q_iconst (v := (0 : Int32)) hM dX5_reached_40 (by decide) ?_
          refine q_istore (lv9 := [(7, .int (0 : Int32)), (4, .int w16_3), (6, .int z13552), (0, .ref (ad 3)), (1, .int i), (2, .int cu), (3, .int w16_3), (5, .int w16_5)]) hM dX5_reached_41 hl (by decide) rfl (fun ls hl => ?_)
          have L43 : ∀ (fu43 : Nat) (w43_3 : Int32) (w43_7 : Int32) (H : Heap) (locs : List Loc) (ls : Array Slot), (12 - w43_7.toInt).toNat < fu43 → (0 ≤ w43_7.toInt) → (w43_7.toInt ≤ 12) → (RJ (Lx g0) cu i w43_3 w16_3 z13552 w43_7.toInt w16_5.toInt) → lv_has ls 8 [(0, .ref (ad 3)), (1, .int i), (2, .int cu), (3, .int w43_3), (4, .int w16_3), (5, .int w16_5), (6, .int z13552), (7, .int w43_7)] → WS ad cA (fun i k => False) g0 K g0 H locs → XX K 0 0 H locs 43 ls [] := by
            intro fu43
            induction fu43 with
            | zero => intro w43_3 w43_7 H locs ls h0; omega
            | succ fu43 ih43 =>
              intro w43_3 w43_7 H locs ls hm43 i43_0 i43_1 i43_2 hl hW
              refine q_iload hM dX5_reached_43 (lv_at hl 7 rfl) ?_
              refine q_bipush (v := (12 : Int32)) hM dX5_reached_45 (by decide) ?_
              refine q_icmp_ge (tgt := 79) hM dX5_reached_47 (by decide) (rfl : w43_7.toInt = w43_7.toInt) (kc_12 : (12 : Int32).toInt = 12) (fun h47 => ?_) (fun h47 => ?_)
              · refine q_iinc (lv9 := fun z13555 => [(5, .int z13555), (0, .ref (ad 3)), (1, .int i), (2, .int cu), (3, .int w43_3), (4, .int w16_3), (6, .int z13552), (7, .int w43_7)]) hM dX5_reached_79 hl (kq := 5) rfl (by decide) (fun _ => rfl) (fun z13555 ls hz13555 hl => ?_)
                first | have tz13555 := i_addT hz13555 (rfl : w16_5.toInt = w16_5.toInt) (kc_1 : (Int32.ofInt 1).toInt = 1) (by omega) (by omega) | skip
                refine q_goto (tgt := 16) hM dX5_reached_82 (by decide) ?_
                exact ih16 w16_3 w43_3 z13555 _ _ _ (by omega) (by omega) (by omega) (by rw [show z13555.toInt = w16_5.toInt + 1 by omega]; exact RJ_I i43_2 Lxb (by omega)) (lv_sub hl [1, 2, 3, 4, 5, 0] rfl) hW
              · refine q_iload hM dX5_reached_50 (lv_at hl 6 rfl) ?_
                refine q_iload hM dX5_reached_52 (lv_at hl 7 rfl) ?_
                refine q_callN (host := "ForgetSchool") (As := [.int z13552, .int w43_7]) (rest := []) hM hW.1 hR hC myX11_has (List.mem_of_getElem? (i := 9) rfl) (c_X11_has _ _ cA ad g0 z13552 w43_7 hW.2.1) ⟨by decide, by decide⟩ rfl rfl hl.1 (Nat.le_of_ble_eq_true rfl) dX5_reached_54 (fun v g13558 H locs hp hW1 => ?_)
                obtain ⟨r13557, rfl, hr13557, rfl⟩ := hp
                have hW : WS ad cA (fun i k => False) g0 K g0 H locs := ⟨hW1, hW.2.1, hW.2.2⟩
                have hbr13557 := has_bi hr13557
                have hcr13557 := bi_01 z13552 w43_7
                first | have ltr13557 := has_lt 5 hr13557 (by omega) (by omega) | have ltr13557 := has_lt 6 hr13557 (by omega) (by omega) | have ltr13557 := has_lt 8 hr13557 (by omega) (by omega) | have ltr13557 := has_lt 12 hr13557 (by omega) (by omega) | skip
                refine q_if_eq (tgt := 73) hM dX5_reached_57 (by decide) (rfl : r13557.toInt = r13557.toInt) (fun h57 => ?_) (fun h57 => ?_)
                · refine q_iinc (lv9 := fun z13560 => [(7, .int z13560), (0, .ref (ad 3)), (1, .int i), (2, .int cu), (3, .int w43_3), (4, .int w16_3), (5, .int w16_5), (6, .int z13552)]) hM dX5_reached_73 hl (kq := 7) rfl (by decide) (fun _ => rfl) (fun z13560 ls hz13560 hl => ?_)
                  first | have tz13560 := i_addT hz13560 (rfl : w43_7.toInt = w43_7.toInt) (kc_1 : (Int32.ofInt 1).toInt = 1) (by omega) (by omega) | skip
                  refine q_goto (tgt := 43) hM dX5_reached_76 (by decide) ?_
                  exact ih43 w43_3 z13560 _ _ _ (by omega) (by omega) (by omega) (RJ_no i43_2 (by omega) (has_f hr13557 (by omega) (by omega) (by omega)) (by omega)) (lv_sub hl [1, 2, 3, 4, 5, 6, 7, 0] rfl) hW
                · refine q_iload_n hM dX5_reached_60 (lv_at hl 3 rfl) ?_
                  refine q_aload_n hM dX5_reached_61 (lv_at hl 0 rfl) ?_
                  refine q_iload hM dX5_reached_62 (lv_at hl 7 rfl) ?_
                  refine q_callV (As := [.int w43_7]) (rest := [.int w43_3]) hM hW.1 hR hC myX5_linked (kAW (v_3_8 (List.mem_of_getElem? (i := 0) rfl)) rfl) (rfl : vwCl[5]? = some (RX5, TX5, 3)) rfl lb_3.1 (shO hW.2.1 lb_3) (s_X5_linked _ _ cA ad g0 w43_7 hW.2.1 hG (by  omega) (by  omega)) ⟨by decide, by decide⟩ rfl rfl hl.1 (Nat.le_of_ble_eq_true rfl) dX5_reached_64 (fun v g13563 H locs hp hW1 => ?_)
                  obtain ⟨r13562, rfl, hr13562, rfl⟩ := hp
                  have hW : WS ad cA (fun i k => False) g0 K g0 H locs := ⟨hW1, hW.2.1, hW.2.2⟩
                  refine q_iload_n hM dX5_reached_67 (lv_at hl 2 rfl) ?_
                  refine q_iconst (v := ((-1) : Int32)) hM dX5_reached_68 (by decide) ?_
                  refine q_ixor hM dX5_reached_69 (fun z13564 hz13564 => ?_)
                  refine q_iand hM dX5_reached_70 (fun z13565 hz13565 => ?_)
                  refine q_ior hM dX5_reached_71 (fun z13566 hz13566 => ?_)
                  refine q_istore_n (lv9 := [(3, .int z13566), (0, .ref (ad 3)), (1, .int i), (2, .int cu), (4, .int w16_3), (5, .int w16_5), (6, .int z13552), (7, .int w43_7)]) hM dX5_reached_72 hl (by decide) rfl (fun ls hl => ?_)
                  refine q_iinc (lv9 := fun z13567 => [(7, .int z13567), (3, .int z13566), (0, .ref (ad 3)), (1, .int i), (2, .int cu), (4, .int w16_3), (5, .int w16_5), (6, .int z13552)]) hM dX5_reached_73 hl (kq := 7) rfl (by decide) (fun _ => rfl) (fun z13567 ls hz13567 hl => ?_)
                  first | have tz13567 := i_addT hz13567 (rfl : w43_7.toInt = w43_7.toInt) (kc_1 : (Int32.ofInt 1).toInt = 1) (by omega) (by omega) | skip
                  refine q_goto (tgt := 43) hM dX5_reached_76 (by decide) ?_
                  exact ih43 z13566 z13567 _ _ _ (by omega) (by omega) (by omega) (RJ_yes i43_2 Lxb (by omega) (has_t hr13557 (by omega)) hr13562 hz13564 hz13565 hz13566 (by omega)) (lv_sub hl [2, 3, 4, 1, 5, 6, 7, 0] rfl) hW
          have := kc_0
          exact L43 _ w16_3 (0 : Int32) _ _ _ (Nat.lt_succ_self _) (by omega) (by omega) (by rw [kc_0]; exact RI_J i16_2 Lxb hz13551 hz13552 (by omega)) (lv_sub hl [3, 4, 5, 6, 1, 7, 2, 0] rfl) hW
  have := kc_0
  have := kc_0
  exact L16 _ (0 : Int32) z13545 (0 : Int32) _ _ _ (Nat.lt_succ_self _) (by omega) (by omega) (by rw [kc_0]; exact RI_0 hr13542 Lxb hz13544 hz13545) (lv_sub hl [3, 4, 5, 2, 1, 0] rfl) hW
