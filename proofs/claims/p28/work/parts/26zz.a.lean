/-- bits that stand for a set -/
def BS (b : Int32) (P : Nat → Prop) : Prop := ∀ q, q < 32 → (bt b q = true ↔ P q)
theorem BS_eq {a b : Int32} {P : Nat → Prop} (h : BS a P) (h1 : BS b P) : a = b := b_ext (fun q hq => Bool.eq_iff_iff.mpr ((h q hq).trans (h1 q hq).symm))
theorem BS_cg {a : Int32} {P Q : Nat → Prop} (h : BS a P) (e : ∀ q, q < 32 → (P q ↔ Q q)) : BS a Q := fun q hq => (h q hq).trans (e q hq)
theorem BS_0 {P : Nat → Prop} (h : ∀ q, ¬ P q) : BS 0 P := fun q _ => by
  rw [b_0]
  exact ⟨fun h1 => absurd h1 (by decide), fun h1 => absurd h1 (h q)⟩
/-- one bit more -/
theorem bt_ins {b z i : Int32} (hz : b ||| ((1 : Int32) <<< (i &&& 31)) = z) (h0 : 0 ≤ i.toInt) (h1 : i.toInt < 31) (q : Nat) (hq : q < 32) : bt z q = true ↔ (bt b q = true ∨ (q : Int) = i.toInt) := by
  obtain ⟨k, hk⟩ : ∃ k : Nat, i.toInt = k := ⟨i.toInt.toNat, by omega⟩
  have hi : i = nI k := nI_k hk (by omega)
  rw [← hz, hi, b_or, bt_sh1 k (by omega) q hq, Bool.or_eq_true, decide_eq_true_iff, ← hi]
  exact or_congr Iff.rfl (by omega)
theorem bt_not {c : Int32} (q : Nat) (hq : q < 32) : bt (c ^^^ (-1)) q = true ↔ ¬ bt c q = true := by
  rw [b_xor, b_m1 q hq]
  cases bt c q <;> decide
theorem bt_less {a c m z : Int32} (hm : c ^^^ (-1) = m) (hz : a &&& m = z) (q : Nat) (hq : q < 32) : bt z q = true ↔ (bt a q = true ∧ ¬ bt c q = true) := by
  rw [← hz, ← hm, b_and, Bool.and_eq_true, bt_not q hq]
theorem bt_un {a c z : Int32} (hz : a ||| c = z) (q : Nat) : bt z q = true ↔ (bt a q = true ∨ bt c q = true) := by
  rw [← hz, b_or, Bool.or_eq_true]
/-- what one comes to from i over links of L by one or more, never through c -/
def Rch (L : Nat → Nat → Prop) (c : Nat → Prop) (i j : Nat) : Prop := ∀ S : Nat → Prop, (∀ q, L i q → ¬ c q → S q) → (∀ k q, S k → L k q → ¬ c q → S q) → S j
theorem Rch_one {L : Nat → Nat → Prop} {c : Nat → Prop} {i j : Nat} (h : L i j) (n : ¬ c j) : Rch L c i j := fun _ h1 _ => h1 j h n
theorem Rch_more {L : Nat → Nat → Prop} {c : Nat → Prop} {i k j : Nat} (hk : Rch L c i k) (h : L k j) (n : ¬ c j) : Rch L c i j := fun S h1 h2 => h2 k j (hk S h1 h2) h n
theorem Rch_all {L : Nat → Nat → Prop} {c : Nat → Prop} {i j : Nat} (P : Nat → Prop) (hP : ∀ k q, L k q → P q) (h : Rch L c i j) : P j := h P (fun q h _ => hP i q h) (fun k q _ h _ => hP k q h)
/-- the class's links, the reference's -/
def Lx (g : Nat → va_E) (k j : Nat) : Prop := k < 12 ∧ j < 12 ∧ 0 < (arI g (6 + 1 * k) j).toInt
def Lm (g : Nat → va_E) (k j : Nat) : Prop := k < 12 ∧ j < 12 ∧ 0 < (arI g 133 (12 * k + j)).toInt
def LKr (g : Nat → va_E) : Prop := ∀ k j : Nat, k < 12 → j < 12 → arI g (6 + 1 * k) j = arI g 133 (12 * k + j)
theorem LKr_eq {g : Nat → va_E} (h : LKr g) : Lx g = Lm g := by
  funext k j
  refine propext ⟨fun ⟨a, b, c⟩ => ⟨a, b, by rw [← h k j a b]; exact c⟩, fun ⟨a, b, c⟩ => ⟨a, b, by rw [h k j a b]; exact c⟩⟩
/-- how many of the first n bits are set -/
def cb (b : Int32) : Nat → Int
  | 0 => 0
  | n + 1 => cb b n + if bt b n = true then 1 else 0
theorem cb_le (b : Int32) : ∀ n : Nat, 0 ≤ cb b n ∧ cb b n ≤ n
  | 0 => ⟨Int.le_refl 0, Int.le_refl 0⟩
  | n + 1 => by
    have := cb_le b n
    show 0 ≤ cb b n + _ ∧ cb b n + _ ≤ _
    split <;> omega
theorem cb_full (b : Int32) : ∀ n : Nat, (n : Int) ≤ cb b n → ∀ q, q < n → bt b q = true
  | 0, _, q, hq => absurd hq (Nat.not_lt_zero q)
  | n + 1, h, q, hq => by
    have h1 := cb_le b n
    have h2 : ((n + 1 : Nat) : Int) ≤ cb b n + (if bt b n = true then 1 else 0) := h
    by_cases c : bt b n = true
    · rw [if_pos c] at h2
      by_cases e : q = n
      · rw [e]; exact c
      · exact cb_full b n (by omega) q (by omega)
    · rw [if_neg c] at h2
      omega
theorem cb_mono {a b : Int32} (h : ∀ q, q < 32 → bt a q = true → bt b q = true) : ∀ n : Nat, n ≤ 32 → cb a n ≤ cb b n
  | 0, _ => Int.le_refl 0
  | n + 1, hn => by
    have h1 := cb_mono h n (by omega)
    show cb a n + _ ≤ cb b n + _
    by_cases c : bt a n = true
    · rw [if_pos c, if_pos (h n (by omega) c)]; omega
    · rw [if_neg c]
      split <;> omega
theorem cb_lt {a b : Int32} (h : ∀ q, q < 32 → bt a q = true → bt b q = true) {p : Nat} (hb : bt b p = true) (ha : ¬ bt a p = true) : ∀ n : Nat, p < n → n ≤ 32 → cb a n + 1 ≤ cb b n
  | 0, hp, _ => absurd hp (Nat.not_lt_zero p)
  | n + 1, hp, hn => by
    show cb a n + _ + 1 ≤ cb b n + _
    by_cases e : p = n
    · have h1 := cb_mono h n (by omega)
      rw [← e] at h1 ⊢
      rw [if_neg ha, if_pos hb]; omega
    · have h1 := cb_lt h hb ha n (by omega) (by omega)
      by_cases c : bt a n = true
      · rw [if_pos c, if_pos (h n (by omega) c)]; omega
      · rw [if_neg c]
        split <;> omega
/-- unlike sets of which one holds the other: there is one more -/
theorem cb_ne {a b : Int32} (h : ∀ q, q < 32 → bt a q = true → bt b q = true) (hb : ∀ q, q < 32 → bt b q = true → q < 12) (n : ¬ a = b) : cb a 12 + 1 ≤ cb b 12 := by
  by_cases e : ∃ p, p < 32 ∧ bt b p = true ∧ ¬ bt a p = true
  · obtain ⟨p, p1, p2, p3⟩ := e
    exact cb_lt h p2 p3 12 (hb p p1 p2) (by decide)
  · refine absurd (b_ext (fun q hq => Bool.eq_iff_iff.mpr ⟨h q hq, fun h1 => ?_⟩)) n
    by_cases c : bt a q = true
    · exact c
    · exact absurd ⟨q, hq, h1, c⟩ e
/-- between rounds: re come to so far, as asked already, ro rounds -/
def RI (L : Nat → Nat → Prop) (c i re as : Int32) (ro : Int) : Prop := (∀ q, q < 32 → bt re q = true → Rch L (fun q => bt c q = true) i.toInt.toNat q) ∧ (∀ q, L i.toInt.toNat q → ¬ bt c q = true → bt re q = true) ∧ (∀ k q, bt as k = true → L k q → ¬ bt c q = true → bt re q = true) ∧ (∀ q, q < 32 → bt as q = true → bt re q = true) ∧ ro ≤ cb as 12
/-- within a round: fr are fresh, those before j asked -/
def RJ (L : Nat → Nat → Prop) (c i re as fr : Int32) (j ro : Int) : Prop := (∀ q, q < 32 → bt re q = true → Rch L (fun q => bt c q = true) i.toInt.toNat q) ∧ (∀ q, L i.toInt.toNat q → ¬ bt c q = true → bt re q = true) ∧ (∀ k q, bt as k = true → (bt fr k = true → (k : Int) < j) → L k q → ¬ bt c q = true → bt re q = true) ∧ (∀ q, q < 32 → bt as q = true → bt re q = true) ∧ ro + 1 ≤ cb as 12 ∧ (∀ q, q < 32 → bt fr q = true → bt as q = true)
theorem b32 {x : Int32} {k : Nat} (h : bt x k = true) : k < 32 := by
  by_cases c : k < 32
  · exact c
  · rw [b_big (by omega)] at h
    exact absurd h (by decide)
theorem RI_0 {L : Nat → Nat → Prop} {c i ln m re : Int32} (hl : BS ln (L i.toInt.toNat)) (hb : ∀ k q, L k q → q < 12) (hm : c ^^^ (-1) = m) (hz : ln &&& m = re) : RI L c i re 0 0 := by
  refine ⟨fun q hq h => ?_, fun q hL hn => ?_, fun k q h => ?_, fun q _ h => ?_, (cb_le 0 12).1⟩
  · have h1 := (bt_less hm hz q hq).mp h
    exact Rch_one ((hl q hq).mp h1.1) h1.2
  · have q1 := hb _ _ hL
    exact (bt_less hm hz q (by omega)).mpr ⟨(hl q (by omega)).mpr hL, hn⟩
  · rw [b_0] at h; exact absurd h (by decide)
  · rw [b_0] at h; exact absurd h (by decide)
theorem RI_12 {L : Nat → Nat → Prop} {c i re as : Int32} {ro : Int} (h : RI L c i re as ro) (hb : ∀ k q, L k q → q < 12) (q : Nat) (hq : bt re q = true) : q < 12 := Rch_all (fun q => q < 12) hb (h.1 q (b32 hq) hq)
theorem RI_J {L : Nat → Nat → Prop} {c i re as fr m : Int32} {ro : Int} (h : RI L c i re as ro) (hb : ∀ k q, L k q → q < 12) (hm : as ^^^ (-1) = m) (hz : re &&& m = fr) (hne : ¬ as.toInt = re.toInt) : RJ L c i re re fr 0 ro := by
  obtain ⟨h1, h2, h3, h4, h5⟩ := id h
  refine ⟨h1, h2, fun k q hk hf hL hn => ?_, fun q _ hq => hq, ?_, fun q hq hf => ((bt_less hm hz q hq).mp hf).1⟩
  · by_cases e : bt as k = true
    · exact h3 k q e hL hn
    · have := hf ((bt_less hm hz k (b32 hk)).mpr ⟨hk, e⟩)
      omega
  · have := cb_ne h4 (fun q hq h9 => RI_12 h hb q h9) (fun e => hne (by rw [e]))
    omega
theorem RJ_I {L : Nat → Nat → Prop} {c i re as fr : Int32} {j ro : Int} (h : RJ L c i re as fr j ro) (hb : ∀ k q, L k q → q < 12) (hj : 12 ≤ j) : RI L c i re as (ro + 1) := by
  obtain ⟨h1, h2, h3, h4, h5, h6⟩ := h
  refine ⟨h1, h2, fun k q hk hL hn => h3 k q hk (fun _ => ?_) hL hn, h4, h5⟩
  have : k < 12 := Rch_all (fun q => q < 12) hb (h1 k (b32 hk) (h4 k (b32 hk) hk))
  omega
theorem RJ_yes {L : Nat → Nat → Prop} {c i re as fr j j1 ln m x re1 : Int32} {ro : Int} (h : RJ L c i re as fr j.toInt ro) (hb : ∀ k q, L k q → q < 12) (h0 : 0 ≤ j.toInt) (hf : bt fr j.toInt.toNat = true) (hl : BS ln (L j.toInt.toNat)) (hm : c ^^^ (-1) = m) (hx : ln &&& m = x) (hr : re ||| x = re1) (hj : j1.toInt = j.toInt + 1) : RJ L c i re1 as fr j1.toInt ro := by
  obtain ⟨h1, h2, h3, h4, h5, h6⟩ := h
  have up : ∀ q, bt re q = true → bt re1 q = true := fun q h => (bt_un hr q).mpr (Or.inl h)
  refine ⟨fun q hq h9 => ?_, fun q hL hn => up q (h2 q hL hn), fun k q hk hk2 hL hn => ?_, fun q hq h9 => up q (h4 q hq h9), h5, h6⟩
  · rcases (bt_un hr q).mp h9 with h9 | h9
    · exact h1 q hq h9
    · have h8 := (bt_less hm hx q hq).mp h9
      have q7 := b32 hf
      exact Rch_more (h1 _ q7 (h4 _ q7 (h6 _ q7 hf))) ((hl q hq).mp h8.1) h8.2
  · by_cases e : k = j.toInt.toNat
    · have q1 := hb _ _ hL
      rw [e] at hL
      exact (bt_un hr q).mpr (Or.inr ((bt_less hm hx q (by omega)).mpr ⟨(hl q (by omega)).mpr hL, hn⟩))
    · exact up q (h3 k q hk (fun h9 => by have := hk2 h9; omega) hL hn)
theorem RJ_no {L : Nat → Nat → Prop} {c i re as fr j j1 : Int32} {ro : Int} (h : RJ L c i re as fr j.toInt ro) (h0 : 0 ≤ j.toInt) (hf : bt fr j.toInt.toNat = false) (hj : j1.toInt = j.toInt + 1) : RJ L c i re as fr j1.toInt ro := by
  obtain ⟨h1, h2, h3, h4, h5, h6⟩ := h
  refine ⟨h1, h2, fun k q hk hk2 hL hn => h3 k q hk (fun h9 => ?_) hL hn, h4, h5, h6⟩
  have a := hk2 h9
  by_cases e : k = j.toInt.toNat
  · rw [e, hf] at h9
    exact absurd h9 (by decide)
  · omega
theorem RI_end {L : Nat → Nat → Prop} {c i re as : Int32} {ro : Int} (h : RI L c i re as ro) (hb : ∀ k q, L k q → q < 12) (he : as.toInt = re.toInt ∨ 12 ≤ ro) : BS re (Rch L (fun q => bt c q = true) i.toInt.toNat) := by
  have b12 := RI_12 h hb
  obtain ⟨h1, h2, h3, h4, h5⟩ := h
  refine fun q hq => ⟨h1 q hq, fun hr => hr (fun q => bt re q = true) h2 (fun k q hk hL hn => ?_)⟩
  refine h3 k q ?_ hL hn
  rcases he with he | he
  · rw [Int32.toInt_inj.mp he]; exact hk
  · exact cb_full as 12 (by omega) k (b12 k hk)
/-- what one comes to from a set of facts by one link -/
def Cm (L : Nat → Nat → Prop) (fr wi : Int32) (q : Nat) : Prop := ∃ k, bt fr k = true ∧ L k q ∧ ¬ bt wi q = true
/-- so far, and a step -/
def RMs (L : Nat → Nat → Prop) (c i s t : Int32) : Prop := (∀ q, q < 32 → bt t q = true → Rch L (fun q => bt c q = true) i.toInt.toNat q) ∧ (∀ q, L i.toInt.toNat q → ¬ bt c q = true → bt t q = true) ∧ (∀ k q, bt s k = true → L k q → ¬ bt c q = true → bt t q = true)
theorem RM_0 {L : Nat → Nat → Prop} {c i z t : Int32} (hb : ∀ k q, L k q → q < 12) (h0 : 0 ≤ i.toInt) (h1 : i.toInt < 12) (hz : (1 : Int32) <<< (i &&& 31) = z) (ht : BS t (Cm L z c)) : RMs L c i 0 t := by
  have e : ∀ q, bt z q = true → q = i.toInt.toNat := fun q hq => by
    have := (bt_ins (b := 0) (z := z) (i := i) (by rw [hz]; exact b_ext (fun j _ => by rw [b_or, b_0, Bool.false_or])) h0 (by omega) q (b32 hq)).mp hq
    rw [b_0] at this
    rcases this with h | h
    · exact absurd h (by decide)
    · omega
  have e1 : bt z i.toInt.toNat = true := (bt_ins (b := 0) (z := z) (i := i) (by rw [hz]; exact b_ext (fun j _ => by rw [b_or, b_0, Bool.false_or])) h0 (by omega) _ (by omega)).mpr (Or.inr (by omega))
  refine ⟨fun q hq h => ?_, fun q hL hn => ?_, fun k q h => ?_⟩
  · obtain ⟨k, k1, k2, k3⟩ := (ht q hq).mp h
    rw [e k k1] at k2
    exact Rch_one k2 k3
  · have q1 := hb _ _ hL
    exact (ht q (by omega)).mpr ⟨_, e1, hL, hn⟩
  · rw [b_0] at h; exact absurd h (by decide)
theorem RM_next {L : Nat → Nat → Prop} {c i s t x t1 : Int32} (hb : ∀ k q, L k q → q < 12) (h : RMs L c i s t) (hx : BS x (Cm L t c)) (ht : t ||| x = t1) : RMs L c i t t1 := by
  obtain ⟨h1, h2, h3⟩ := h
  refine ⟨fun q hq h9 => ?_, fun q hL hn => (bt_un ht q).mpr (Or.inl (h2 q hL hn)), fun k q hk hL hn => ?_⟩
  · rcases (bt_un ht q).mp h9 with h9 | h9
    · exact h1 q hq h9
    · obtain ⟨k, k1, k2, k3⟩ := (hx q hq).mp h9
      exact Rch_more (h1 k (b32 k1) k1) k2 k3
  · have q1 := hb _ _ hL
    exact (bt_un ht q).mpr (Or.inr ((hx q (by omega)).mpr ⟨k, hk, hL, hn⟩))
theorem RM_end {L : Nat → Nat → Prop} {c i s t : Int32} (h : RMs L c i s t) (e : t.toInt = s.toInt) : BS s (Rch L (fun q => bt c q = true) i.toInt.toNat) := by
  obtain ⟨h1, h2, h3⟩ := h
  rw [Int32.toInt_inj.mp e] at h1 h2 h3
  exact fun q hq => ⟨h1 q hq, fun hr => hr (fun q => bt s q = true) h2 h3⟩
theorem MK_set {P : Nat → Prop} {b s z j j1 : Int32} (h : BS b (fun q => (q : Int) < j.toInt ∧ P q)) (hs : (1 : Int32) <<< (j &&& 31) = s) (hz : b ||| s = z) (h0 : 0 ≤ j.toInt) (h1 : j.toInt < 31) (hp : P j.toInt.toNat) (hj : j1.toInt = j.toInt + 1) : BS z (fun q => (q : Int) < j1.toInt ∧ P q) := by
  intro q hq
  refine (bt_ins (by rw [hs]; exact hz) h0 h1 q hq).trans ⟨fun h9 => ?_, fun h9 => ?_⟩
  · rcases h9 with h9 | h9
    · have := (h q hq).mp h9
      exact ⟨by omega, this.2⟩
    · rw [show q = j.toInt.toNat by omega]
      exact ⟨by omega, hp⟩
  · by_cases e : (q : Int) = j.toInt
    · exact Or.inr e
    · exact Or.inl ((h q hq).mpr ⟨by omega, h9.2⟩)
theorem MK_no {P : Nat → Prop} {b j j1 : Int32} (h : BS b (fun q => (q : Int) < j.toInt ∧ P q)) (h0 : 0 ≤ j.toInt) (hp : ¬ P j.toInt.toNat) (hj : j1.toInt = j.toInt + 1) : BS b (fun q => (q : Int) < j1.toInt ∧ P q) := by
  refine BS_cg h (fun q hq => ⟨fun h9 => ⟨by omega, h9.2⟩, fun h9 => ⟨?_, h9.2⟩⟩)
  by_cases e : q = j.toInt.toNat
  · rw [e] at h9; exact absurd h9.2 hp
  · omega
theorem Lxb {g : Nat → va_E} : ∀ k q, Lx g k q → q < 12 := fun _ _ h => h.2.1
theorem Lmb {g : Nat → va_E} : ∀ k q, Lm g k q → q < 12 := fun _ _ h => h.2.1
theorem has_t {r b i : Int32} {Q : Prop} (h : (r.toInt = 1 ∧ 0 ≤ i.toInt ∧ i.toInt < 31 ∧ bt b i.toInt.toNat = true) ∨ (r.toInt = 0 ∧ Q)) (n : ¬ r.toInt = 0) : bt b i.toInt.toNat = true := by
  rcases h with h | h
  · exact h.2.2.2
  · exact absurd h.1 n
theorem has_f {r b i : Int32} (h : (r.toInt = 1 ∧ 0 ≤ i.toInt ∧ i.toInt < 31 ∧ bt b i.toInt.toNat = true) ∨ (r.toInt = 0 ∧ (i.toInt < 0 ∨ 31 ≤ i.toInt ∨ bt b i.toInt.toNat = false))) (n : r.toInt = 0) (h0 : 0 ≤ i.toInt) (h1 : i.toInt < 31) : bt b i.toInt.toNat = false := by
  rcases h with h | ⟨-, h | h | h⟩
  · omega
  · omega
  · omega
  · exact h
/-- from those of the first n facts that fr names, by one link; and from k, to the first m -/
def Cd (L : Nat → Nat → Prop) (fr wi : Int32) (n : Int) (q : Nat) : Prop := ∃ k : Nat, (k : Int) < n ∧ bt fr k = true ∧ L k q ∧ ¬ bt wi q = true
def Ce (L : Nat → Nat → Prop) (fr wi k : Int32) (m : Int) (q : Nat) : Prop := Cd L fr wi k.toInt q ∨ ((q : Int) < m ∧ bt fr k.toInt.toNat = true ∧ L k.toInt.toNat q ∧ ¬ bt wi q = true)
theorem Cd_0 {L : Nat → Nat → Prop} {fr wi : Int32} : BS 0 (Cd L fr wi 0) := BS_0 (fun q ⟨k, h, _⟩ => by omega)
theorem Ce_0 {L : Nat → Nat → Prop} {b fr wi k : Int32} (h : BS b (Cd L fr wi k.toInt)) : BS b (Ce L fr wi k 0) := BS_cg h (fun q _ => ⟨Or.inl, fun h => h.elim id (fun h => by have := h.1; omega)⟩)
theorem Ce_yes {L : Nat → Nat → Prop} {b fr wi k j j1 s z : Int32} (h : BS b (Ce L fr wi k j.toInt)) (hs : (1 : Int32) <<< (j &&& 31) = s) (hz : b ||| s = z) (h0 : 0 ≤ j.toInt) (h1 : j.toInt < 31) (hf : bt fr k.toInt.toNat = true) (hL : L k.toInt.toNat j.toInt.toNat) (hw : bt wi j.toInt.toNat = false) (hj : j1.toInt = j.toInt + 1) : BS z (Ce L fr wi k j1.toInt) := by
  intro q hq
  refine (bt_ins (by rw [hs]; exact hz) h0 h1 q hq).trans ⟨fun h9 => ?_, fun h9 => ?_⟩
  · rcases h9 with h9 | h9
    · rcases (h q hq).mp h9 with h8 | h8
      · exact Or.inl h8
      · exact Or.inr ⟨by omega, h8.2⟩
    · rw [show q = j.toInt.toNat by omega]
      exact Or.inr ⟨by omega, hf, hL, by rw [hw]; decide⟩
  · by_cases e : (q : Int) = j.toInt
    · exact Or.inr e
    · refine Or.inl ((h q hq).mpr ?_)
      rcases h9 with h9 | h9
      · exact Or.inl h9
      · exact Or.inr ⟨by omega, h9.2⟩
theorem Ce_no {L : Nat → Nat → Prop} {b fr wi k j j1 : Int32} (h : BS b (Ce L fr wi k j.toInt)) (h0 : 0 ≤ j.toInt) (hn : ¬ L k.toInt.toNat j.toInt.toNat ∨ bt wi j.toInt.toNat = true) (hj : j1.toInt = j.toInt + 1) : BS b (Ce L fr wi k j1.toInt) := by
  refine BS_cg h (fun q _ => ⟨fun h9 => ?_, fun h9 => ?_⟩)
  · rcases h9 with h9 | h9
    · exact Or.inl h9
    · exact Or.inr ⟨by omega, h9.2⟩
  · rcases h9 with h9 | ⟨a, b1, c, d⟩
    · exact Or.inl h9
    · by_cases e : q = j.toInt.toNat
      · rw [e] at c d
        rcases hn with hn | hn
        · exact absurd c hn
        · exact absurd hn d
      · exact Or.inr ⟨by omega, b1, c, d⟩
theorem Cd_next {L : Nat → Nat → Prop} {b fr wi k k1 : Int32} {m : Int} (h : BS b (Ce L fr wi k m)) (hb : ∀ k q, L k q → q < 12) (h0 : 0 ≤ k.toInt) (hm : bt fr k.toInt.toNat = false ∨ 12 ≤ m) (hk : k1.toInt = k.toInt + 1) : BS b (Cd L fr wi k1.toInt) := by
  refine BS_cg h (fun q _ => ⟨fun h9 => ?_, fun h9 => ?_⟩)
  · rcases h9 with ⟨k9, a, b1⟩ | ⟨a, b1, c, d⟩
    · exact ⟨k9, by omega, b1⟩
    · exact ⟨k.toInt.toNat, by omega, b1, c, d⟩
  · obtain ⟨k9, a, b1, c, d⟩ := h9
    by_cases e : k9 = k.toInt.toNat
    · rw [e] at b1 c
      rcases hm with hm | hm
      · rw [hm] at b1; exact absurd b1 (by decide)
      · have := hb _ _ c
        exact Or.inr ⟨by omega, b1, c, d⟩
    · exact Or.inl ⟨k9, by omega, b1, c, d⟩
theorem Cd_end {L : Nat → Nat → Prop} {b fr wi k : Int32} (h : BS b (Cd L fr wi k.toInt)) (hb : ∀ k q, L k q → k < 12) (hk : 12 ≤ k.toInt) : BS b (Cm L fr wi) := BS_cg h (fun q _ => ⟨fun ⟨k9, _, h⟩ => ⟨k9, h⟩, fun ⟨k9, b1, c, d⟩ => ⟨k9, by have := hb _ _ c; omega, b1, c, d⟩⟩)
theorem LK_upd {g : Nat → va_E} (h : LKr g) {k j : Nat} (hk : k < 12) (hj : j < 12) {a b c : Int32} (a0 : 0 ≤ a.toInt) (a1 : a.toInt < 12) (b0 : 0 ≤ b.toInt) (b1 : b.toInt < 12) : (if k = a.toInt.toNat then upd (arI g (6 + 1 * k)) b.toNatClampNeg c else arI g (6 + 1 * k)) j = upd (arI g 133) (12 * a.toInt.toNat + b.toInt.toNat) c (12 * k + j) := by
  have eb : b.toNatClampNeg = b.toInt.toNat := rfl
  unfold upd
  by_cases e : k = a.toInt.toNat
  · rw [if_pos e]
    by_cases f : j = b.toNatClampNeg
    · rw [if_pos f, if_pos (by omega)]
    · rw [if_neg f, if_neg (by omega)]; exact h k j hk hj
  · rw [if_neg e, if_neg (by omega)]; exact h k j hk hj
def RQ (g : Nat → va_E) : Prop := RP g ∧ LKr g
theorem RQ_0 (ad : Nat → Nat) (cA : Nat → ClassId) : RQ (gF ad cA) := ⟨RP_0 ad cA, fun k j hk _ => by rw [(az_all ad cA (6 + 1 * k) j).resolve_right (by omega), (az_all ad cA 133 (12 * k + j)).resolve_right (by omega)]⟩

theorem Lm_cg {g g1 : Nat → va_E} (h : arI g1 133 = arI g 133) : Lm g1 = Lm g := by
  funext k j
  unfold Lm
  rw [h]
theorem ti_in {f : Nat → Int32} {n : Int} {i : Int32} (h : ti f n i = 1) : 0 ≤ i.toInt ∧ i.toInt < n := by
  unfold ti at h
  by_cases c : 0 ≤ i.toInt ∧ i.toInt < n ∧ (f i.toInt.toNat).toInt ≠ 0
  · exact ⟨c.1, c.2.1⟩
  · rw [if_neg c] at h; exact absurd h (by decide)
/-- how many of the first n are of a kind -/
noncomputable def cP (P : Nat → Prop) : Nat → Int
  | 0 => 0
  | n + 1 => cP P n + @ite Int (P n) (Classical.propDecidable (P n)) 1 0
theorem cb_cP {b : Int32} {P : Nat → Prop} (h : BS b P) : ∀ n : Nat, n ≤ 32 → cb b n = cP P n
  | 0, _ => rfl
  | n + 1, hn => by
    have h1 := cb_cP h n (by omega)
    have h2 := h n (by omega)
    show cb b n + (if bt b n = true then 1 else 0) = cP P n + @ite Int (P n) (Classical.propDecidable (P n)) 1 0
    rw [h1]
    by_cases c : bt b n = true
    · rw [if_pos c, if_pos (h2.mp c)]
    · rw [if_neg c, if_neg (fun q => c (h2.mpr q))]
theorem b_4095 : ∀ i, i < 32 → bt 4095 i = decide (i < 12) := by decide +kernel
theorem b_12 {x : Int32} (h : ∀ q, q < 32 → bt x q = true → q < 12) : 0 ≤ x.toInt ∧ x.toInt < 4096 := by
  have e : x &&& 4095 = x := b_ext (fun i hi => by
    rw [b_and, b_4095 i hi]
    cases c : bt x i with
    | false => rfl
    | true => rw [decide_eq_true (h i hi c)]; rfl)
  have h1 := i_andk e (by decide)
  have h2 : (4095 : Int32).toInt = 4095 := by decide
  omega
theorem BS_12 {x : Int32} {P : Nat → Prop} (h : BS x P) (hp : ∀ q, P q → q < 12) : 0 ≤ x.toInt ∧ x.toInt < 4096 := b_12 (fun q hq hb => hp q ((h q hq).mp hb))
theorem bc_dec : ∀ a, a < 64 → ∀ b, b < 64 → (bcF (nI (64 * a + b))).toInt = cb (nI (64 * a + b)) 12 := by decide +kernel
theorem bc_cb {x : Int32} (h0 : 0 ≤ x.toInt) (h1 : x.toInt < 4096) : (bcF x).toInt = cb x 12 := by
  obtain ⟨k, hk⟩ : ∃ k : Nat, x.toInt = k := ⟨x.toInt.toNat, by omega⟩
  have hx : x = nI k := nI_k hk (by omega)
  have h := bc_dec (k / 64) (by omega) (k % 64) (by omega)
  rw [show 64 * (k / 64) + k % 64 = k by omega, ← hx] at h
  exact h
theorem sz_dec : ∀ a, a < 64 → ∀ b, b < 64 → 64 * a + b ≠ 0 → cb (nI (64 * a + b) &&& (nI (64 * a + b) - 1)) 12 + 1 = cb (nI (64 * a + b)) 12 := by decide +kernel
theorem sz_cb {v t z : Int32} (ht : v - 1 = t) (hz : v &&& t = z) (h0 : 1 ≤ v.toInt) (h1 : v.toInt < 4096) : cb z 12 + 1 = cb v 12 := by
  obtain ⟨k, hk⟩ : ∃ k : Nat, v.toInt = k := ⟨v.toInt.toNat, by omega⟩
  have hx : v = nI k := nI_k hk (by omega)
  have h := sz_dec (k / 64) (by omega) (k % 64) (by omega) (by omega)
  rw [show 64 * (k / 64) + k % 64 = k by omega, ← hx] at h
  rw [← hz, ← ht]
  exact h
theorem cb_00 {x : Int32} (h : x.toInt = 0) : cb x 12 = 0 := by
  rw [show x = 0 from Int32.toInt_inj.mp h]
  decide
/-- how many one comes to -/
noncomputable def cL (L : Nat → Nat → Prop) (i : Nat) : Int := cP (Rch L (fun q => bt 0 q = true) i) 12
theorem cL_x {L : Nat → Nat → Prop} {i : Nat} {x r : Int32} (hb : ∀ k q, L k q → q < 12) (h : BS x (Rch L (fun q => bt 0 q = true) i)) (hr : r = bcF x) : r.toInt = cL L i := by
  have h1 := BS_12 h (fun q hq => Rch_all (fun q => q < 12) hb hq)
  rw [hr, bc_cb h1.1 h1.2]
  exact cb_cP h 12 (by decide)
theorem cL_m {L : Nat → Nat → Prop} {i : Nat} {x r : Int32} (h : BS x (Rch L (fun q => bt 0 q = true) i)) (hr : r.toInt = cb x 12) : r.toInt = cL L i := hr.trans (cb_cP h 12 (by decide))
/-- what is told, by bits, by flags -/
def tB (b : Int32) (q : Nat) : Int := if bt b q = true then 1 else 0
def tM (f : Nat → Int32) (q : Nat) : Int := (f q).toInt
theorem bi_tB (b i : Int32) (h0 : 0 ≤ i.toInt) (h1 : i.toInt < 31) : bi b i = tB b i.toInt.toNat := by
  unfold bi tB
  by_cases c : bt b i.toInt.toNat = true
  · rw [if_pos c, if_pos ⟨h0, h1, c⟩]
  · rw [if_neg c, if_neg (fun h => c h.2.2)]
theorem SM_t {b : Int32} {f : Nat → Int32} {n : Nat} (h : SMr b f n) (q : Nat) (hq : q < n) : tB b q = tM f q := (h q hq).symm
/-- the first of the first n told ones that counts most -/
def bsO (t c : Nat → Int) : Nat → Int × Int
  | 0 => (-2, -1)
  | n + 1 => if t n ≠ 0 ∧ (bsO t c n).2 < c n then ((n : Int), c n) else bsO t c n
theorem bsO_s (t c : Nat → Int) (n : Nat) : bsO t c (n + 1) = if t n ≠ 0 ∧ (bsO t c n).2 < c n then ((n : Int), c n) else bsO t c n := rfl
def BO (t c : Nat → Int) (n : Nat) (b m : Int) : Prop := b = (bsO t c n).1 ∧ m = (bsO t c n).2
theorem BO_0 {t c : Nat → Int} : BO t c 0 (-2) (-1) := ⟨rfl, rfl⟩
theorem BO_no {t c : Nat → Int} {i i1 : Int32} {b m : Int} (h : BO t c i.toInt.toNat b m) (h0 : 0 ≤ i.toInt) (hj : i1.toInt = i.toInt + 1) (hn : t i.toInt.toNat = 0 ∨ c i.toInt.toNat ≤ m) : BO t c i1.toInt.toNat b m := by
  have h2 := h.2
  unfold BO
  rw [show i1.toInt.toNat = i.toInt.toNat + 1 by omega, bsO_s, if_neg (fun q => by have q1 := q.1; have q2 := q.2; omega)]
  exact h
theorem BO_yes {t c : Nat → Int} {i i1 : Int32} {b m m1 : Int} (h : BO t c i.toInt.toNat b m) (h0 : 0 ≤ i.toInt) (hj : i1.toInt = i.toInt + 1) (ht : t i.toInt.toNat ≠ 0) (hm : m < m1) (hc : m1 = c i.toInt.toNat) : BO t c i1.toInt.toNat i.toInt m1 := by
  have h2 := h.2
  unfold BO
  rw [show i1.toInt.toNat = i.toInt.toNat + 1 by omega, bsO_s, if_pos ⟨ht, by omega⟩]
  exact ⟨by show i.toInt = ((i.toInt.toNat : Nat) : Int); omega, hc⟩
theorem bsO_cg {t c t1 c1 : Nat → Int} : ∀ n, (∀ q, q < n → t q = t1 q) → (∀ q, q < n → c q = c1 q) → bsO t c n = bsO t1 c1 n
  | 0, _, _ => rfl
  | n + 1, ht, hc => by
    rw [bsO_s, bsO_s, bsO_cg n (fun q hq => ht q (by omega)) (fun q hq => hc q (by omega)), hc n (by omega), ht n (by omega)]
/-- told ones that recall each other; so far -/
def KN (L : Nat → Nat → Prop) (i q : Nat) : Prop := q = i ∨ (Rch L (fun q => bt 0 q = true) i q ∧ Rch L (fun q => bt 0 q = true) q i)
def Ke (L : Nat → Nat → Prop) (i : Nat) (m : Int) (q : Nat) : Prop := q = i ∨ ((q : Int) < m ∧ Rch L (fun q => bt 0 q = true) i q ∧ Rch L (fun q => bt 0 q = true) q i)
theorem bt_one {i z : Int32} (hz : (1 : Int32) <<< (i &&& 31) = z) (h0 : 0 ≤ i.toInt) (h1 : i.toInt < 31) (q : Nat) (hq : q < 32) : bt z q = true ↔ q = i.toInt.toNat := by
  obtain ⟨k, hk⟩ : ∃ k : Nat, i.toInt = k := ⟨i.toInt.toNat, by omega⟩
  have hi : i = nI k := nI_k hk (by omega)
  rw [← hz, hi, bt_sh1 k (by omega) q hq, decide_eq_true_iff, ← hi, hk]
  exact Iff.rfl
theorem Ke_0 {L : Nat → Nat → Prop} {i z : Int32} (hz : (1 : Int32) <<< (i &&& 31) = z) (h0 : 0 ≤ i.toInt) (h1 : i.toInt < 31) : BS z (Ke L i.toInt.toNat 0) := fun q hq => (bt_one hz h0 h1 q hq).trans ⟨Or.inl, fun h => h.elim id (fun h => by have := h.1; omega)⟩
theorem Ke_yes {L : Nat → Nat → Prop} {i : Nat} {b j j1 s z : Int32} (h : BS b (Ke L i j.toInt)) (hs : (1 : Int32) <<< (j &&& 31) = s) (hz : b ||| s = z) (h0 : 0 ≤ j.toInt) (h1 : j.toInt < 31) (hx : Rch L (fun q => bt 0 q = true) i j.toInt.toNat) (hy : Rch L (fun q => bt 0 q = true) j.toInt.toNat i) (hj : j1.toInt = j.toInt + 1) : BS z (Ke L i j1.toInt) := by
  intro q hq
  refine (bt_ins (by rw [hs]; exact hz) h0 h1 q hq).trans ⟨fun h9 => ?_, fun h9 => ?_⟩
  · rcases h9 with h9 | h9
    · rcases (h q hq).mp h9 with h8 | h8
      · exact Or.inl h8
      · exact Or.inr ⟨by omega, h8.2⟩
    · have e : q = j.toInt.toNat := by omega
      rw [e]
      exact Or.inr ⟨by omega, hx, hy⟩
  · by_cases e : (q : Int) = j.toInt
    · exact Or.inr e
    · refine Or.inl ((h q hq).mpr ?_)
      rcases h9 with h9 | h9
      · exact Or.inl h9
      · exact Or.inr ⟨by omega, h9.2⟩
theorem Ke_no {L : Nat → Nat → Prop} {i : Nat} {b j j1 : Int32} (h : BS b (Ke L i j.toInt)) (h0 : 0 ≤ j.toInt) (hn : ¬ (Rch L (fun q => bt 0 q = true) i j.toInt.toNat ∧ Rch L (fun q => bt 0 q = true) j.toInt.toNat i)) (hj : j1.toInt = j.toInt + 1) : BS b (Ke L i j1.toInt) := by
  refine BS_cg h (fun q _ => ⟨fun h9 => ?_, fun h9 => ?_⟩)
  · rcases h9 with h9 | h9
    · exact Or.inl h9
    · exact Or.inr ⟨by omega, h9.2⟩
  · rcases h9 with h9 | h9
    · exact Or.inl h9
    · by_cases e : q = j.toInt.toNat
      · rw [e] at h9; exact absurd h9.2 hn
      · exact Or.inr ⟨by omega, h9.2⟩
theorem Ke_end {L : Nat → Nat → Prop} {i : Nat} {b j : Int32} (h : BS b (Ke L i j.toInt)) (hb : ∀ k q, L k q → q < 12) (hj : 12 ≤ j.toInt) : BS b (KN L i) := BS_cg h (fun q _ => ⟨fun h9 => h9.elim Or.inl (fun h => Or.inr h.2), fun h9 => h9.elim Or.inl (fun h => Or.inr ⟨by have := Rch_all (fun q => q < 12) hb h.1; omega, h⟩)⟩)
theorem KN_12 {L : Nat → Nat → Prop} {i : Nat} (hb : ∀ k q, L k q → q < 12) (hi : i < 12) (q : Nat) (h : KN L i q) : q < 12 := h.elim (fun e => by omega) (fun h => Rch_all (fun q => q < 12) hb h.1)
def KP (L : Nat → Nat → Prop) (i : Nat) : Prop := ∀ q, q < i → ¬ KN L i q
noncomputable def kc9 (t : Nat → Int) (P : Nat → Prop) : Nat → Int
  | 0 => 0
  | n + 1 => kc9 t P n + @ite Int (t n ≠ 0 ∧ P n) (Classical.propDecidable _) 1 0
theorem kc9_s (t : Nat → Int) (P : Nat → Prop) (n : Nat) : kc9 t P (n + 1) = kc9 t P n + @ite Int (t n ≠ 0 ∧ P n) (Classical.propDecidable _) 1 0 := rfl
theorem kc9_no {t : Nat → Int} {P : Nat → Prop} {i i1 : Int32} {n n1 : Int} (h : n = kc9 t P i.toInt.toNat) (h0 : 0 ≤ i.toInt) (hj : i1.toInt = i.toInt + 1) (hn : t i.toInt.toNat = 0 ∨ ¬ P i.toInt.toNat) (e : n1 = n) : n1 = kc9 t P i1.toInt.toNat := by
  rw [show i1.toInt.toNat = i.toInt.toNat + 1 by omega, kc9_s, if_neg (fun q => hn.elim q.1 (fun z => z q.2))]
  omega
theorem kc9_yes {t : Nat → Int} {P : Nat → Prop} {i i1 : Int32} {n n1 : Int} (h : n = kc9 t P i.toInt.toNat) (h0 : 0 ≤ i.toInt) (hj : i1.toInt = i.toInt + 1) (ht : t i.toInt.toNat ≠ 0) (hp : P i.toInt.toNat) (e : n1 = n + 1) : n1 = kc9 t P i1.toInt.toNat := by
  rw [show i1.toInt.toNat = i.toInt.toNat + 1 by omega, kc9_s, if_pos ⟨ht, hp⟩]
  omega
theorem kc9_cg {t t1 : Nat → Int} {P : Nat → Prop} : ∀ n, (∀ q, q < n → t q = t1 q) → kc9 t P n = kc9 t1 P n
  | 0, _ => rfl
  | n + 1, ht => by rw [kc9_s, kc9_s, kc9_cg n (fun q hq => ht q (by omega)), ht n (by omega)]
theorem low_dec : ∀ a, a < 64 → ∀ b, b < 64 → 64 * a + b ≠ 0 → ∃ k, k < 12 ∧ nI (64 * a + b) &&& (-(nI (64 * a + b))) = (1 : Int32) <<< (nI k &&& 31) ∧ bt (nI (64 * a + b)) k = true ∧ ∀ q, q < k → bt (nI (64 * a + b)) q = false := by decide +kernel
theorem sh_inj : ∀ k, k < 12 → ∀ i, i < 12 → (1 : Int32) <<< (nI k &&& 31) = (1 : Int32) <<< (nI i &&& 31) → k = i := by decide +kernel
theorem lb_iff {L : Nat → Nat → Prop} {i b r s : Int32} (h : BS b (KN L i.toInt.toNat)) (hb : ∀ k q, L k q → q < 12) (h0 : 0 ≤ i.toInt) (h1 : i.toInt < 12) (hr : r = b &&& (-b)) (hs : (1 : Int32) <<< (i &&& 31) = s) : r.toInt = s.toInt ↔ KP L i.toInt.toNat := by
  have hr0 := BS_12 h (KN_12 hb (by omega))
  have hi0 : bt b i.toInt.toNat = true := (h _ (by omega)).mpr (Or.inl rfl)
  obtain ⟨m, hm⟩ : ∃ m : Nat, b.toInt = m := ⟨b.toInt.toNat, by omega⟩
  have hbm : b = nI m := nI_k hm (by omega)
  have hm0 : m ≠ 0 := by
    intro e
    rw [hbm, e, show nI 0 = 0 by decide, b_0] at hi0
    exact absurd hi0 (by decide)
  obtain ⟨k, k1, k2, k3, k4⟩ := low_dec (m / 64) (by omega) (m % 64) (by omega) (by omega)
  rw [show 64 * (m / 64) + m % 64 = m by omega, ← hbm] at k2 k3 k4
  have hii : i = nI i.toInt.toNat := nI_k (by omega) (by omega)
  refine ⟨fun e => ?_, fun hP => ?_⟩
  · have e2 := Int32.toInt_inj.mp e
    rw [hr, k2, ← hs, hii] at e2
    have e3 := sh_inj k k1 i.toInt.toNat (by omega) e2
    intro q hq hK
    have := (h q (by omega)).mpr hK
    rw [k4 q (by omega)] at this
    exact absurd this (by decide)
  · have hk : KN L i.toInt.toNat k := (h k (by omega)).mp k3
    have h2 : ¬ k < i.toInt.toNat := fun z => hP k z hk
    have h3 : ¬ i.toInt.toNat < k := fun z => by
      rw [k4 _ z] at hi0
      exact absurd hi0 (by decide)
    have e : k = i.toInt.toNat := by omega
    rw [hr, k2, ← hs, e, ← hii]
theorem mask_dec : ∀ i, i < 12 → ∀ q, q < 32 → bt (((1 : Int32) <<< (nI i &&& 31)) - 1) q = decide (q < i) := by decide +kernel
theorem kb_iff {L : Nat → Nat → Prop} {i b s t z : Int32} (h : BS b (KN L i.toInt.toNat)) (h0 : 0 ≤ i.toInt) (h1 : i.toInt < 12) (hs : (1 : Int32) <<< (i &&& 31) = s) (ht : s - 1 = t) (hz : b &&& t = z) : z.toInt = 0 ↔ KP L i.toInt.toNat := by
  have hii : i = nI i.toInt.toNat := nI_k (by omega) (by omega)
  have hb : ∀ q, q < 32 → bt z q = (bt b q && decide (q < i.toInt.toNat)) := fun q hq => by
    have e := mask_dec i.toInt.toNat (by omega) q hq
    rw [← hii, hs, ht] at e
    rw [← hz, b_and, e]
  refine ⟨fun e q hq hK => ?_, fun hP => ?_⟩
  · have e1 := hb q (by omega)
    rw [show z = 0 from Int32.toInt_inj.mp e, b_0, (h q (by omega)).mpr hK, decide_eq_true hq] at e1
    exact absurd e1 (by decide)
  · have e : z = 0 := b_ext (fun q hq => by
      rw [hb q hq, b_0]
      by_cases c : q < i.toInt.toNat
      · have : bt b q = false := by
          cases d : bt b q with
          | false => rfl
          | true => exact absurd ((h q hq).mp d) (hP q c)
        rw [this]; rfl
      · rw [decide_eq_false c, Bool.and_false])
    rw [e]; decide
theorem mh_t {r b i : Int32} (h : (r.toInt = 1 ∧ bt b i.toInt.toNat = true) ∨ (r.toInt = 0 ∧ bt b i.toInt.toNat = false)) (n : ¬ r.toInt = 0) : bt b i.toInt.toNat = true := h.elim (fun h => h.2) (fun h => absurd h.1 n)
theorem mh_f {r b i : Int32} (h : (r.toInt = 1 ∧ bt b i.toInt.toNat = true) ∨ (r.toInt = 0 ∧ bt b i.toInt.toNat = false)) (n : r.toInt = 0) : bt b i.toInt.toNat = false := h.elim (fun h => by omega) (fun h => h.2)
theorem bff {b : Bool} (h : b = false) : ¬ b = true := by rw [h]; decide
theorem sub_in {f o : Int32} (h1 : 0 ≤ o.toInt) (h : f &&& (o ^^^ (-1)) = 0) : 0 ≤ f.toInt ∧ f.toInt ≤ o.toInt := by
  have e : f &&& o = f := b_ext (fun q hq => by
    have e1 : bt (f &&& (o ^^^ (-1))) q = false := by rw [h, b_0]
    rw [b_and, b_xor, b_m1 q hq] at e1
    rw [b_and]
    revert e1
    cases bt f q <;> cases bt o q <;> decide)
  exact i_andk e h1

theorem a_t {r b t : Int32} (h : (r.toInt = 1 ∧ b &&& (t ^^^ (-1)) = 0) ∨ (r.toInt = 0 ∧ ¬ b &&& (t ^^^ (-1)) = 0)) (n : ¬ r.toInt = 0) : b &&& (t ^^^ (-1)) = 0 := h.elim (fun h => h.2) (fun h => absurd h.1 n)
theorem a_f {r b t : Int32} (h : (r.toInt = 1 ∧ b &&& (t ^^^ (-1)) = 0) ∨ (r.toInt = 0 ∧ ¬ b &&& (t ^^^ (-1)) = 0)) (n : r.toInt = 0) : ¬ b &&& (t ^^^ (-1)) = 0 := h.elim (fun h => by omega) (fun h => h.2)
theorem z_t {f o m z : Int32} (hm : o ^^^ (-1) = m) (hz : f &&& m = z) (h : z.toInt = 0) : f &&& (o ^^^ (-1)) = 0 := by rw [hm, hz]; exact Int32.toInt_inj.mp h
theorem z_f {f o m z : Int32} (hm : o ^^^ (-1) = m) (hz : f &&& m = z) (h : ¬ z.toInt = 0) : ¬ f &&& (o ^^^ (-1)) = 0 := by
  rw [hm, hz]
  exact fun e => h (by rw [e]; decide)

theorem pos_cb {x : Int32} (h0 : 0 ≤ x.toInt) (h : 2 ≤ cb x 12) : 1 ≤ x.toInt := by
  by_cases c : x.toInt = 0
  · rw [cb_00 c] at h; omega
  · omega

/-- how much two of s remind each other -/
def rT (w : Nat → Nat → Int32) (s : Int32) (p q : Nat) : Int := if bt s p = true ∧ bt s q = true then (w p q).toInt else 0
def rX (g : Nat → va_E) (p q : Nat) : Int32 := arI g (104 + 1 * p) q
def rM (g : Nat → va_E) (p q : Nat) : Int32 := arI g 175 (8 * p + q)
theorem rT_a {w : Nat → Nat → Int32} {s : Int32} {p q : Nat} (h : bt s p = false) : rT w s p q = 0 := by
  unfold rT
  rw [if_neg (fun h9 => by rw [h] at h9; exact absurd h9.1 (by decide))]
theorem rT_b {w : Nat → Nat → Int32} {s : Int32} {p q : Nat} (h : bt s q = false) : rT w s p q = 0 := by
  unfold rT
  rw [if_neg (fun h9 => by rw [h] at h9; exact absurd h9.2 (by decide))]
theorem rT_c {w : Nat → Nat → Int32} {s : Int32} {p q : Nat} (h : bt s p = true) (h1 : bt s q = true) : rT w s p q = (w p q).toInt := by
  unfold rT
  rw [if_pos ⟨h, h1⟩]
def rowX (t : Nat → Nat → Int) (p : Nat) : Nat → Int
  | 0 => 0
  | n + 1 => rowX t p n + if p < n then t p n else 0
def allX (t : Nat → Nat → Int) : Nat → Int
  | 0 => 0
  | p + 1 => allX t p + rowX t p 8
def rowM (t : Nat → Nat → Int) (p : Nat) : Nat → Int
  | 0 => 0
  | n + 1 => rowM t p n + t p n
def allM (t : Nat → Nat → Int) : Nat → Int
  | 0 => 0
  | p + 1 => allM t p + rowM t p p
theorem rowX_s (t : Nat → Nat → Int) (p n : Nat) : rowX t p (n + 1) = rowX t p n + if p < n then t p n else 0 := rfl
theorem allX_s (t : Nat → Nat → Int) (p : Nat) : allX t (p + 1) = allX t p + rowX t p 8 := rfl
theorem rowM_s (t : Nat → Nat → Int) (p n : Nat) : rowM t p (n + 1) = rowM t p n + t p n := rfl
theorem allM_s (t : Nat → Nat → Int) (p : Nat) : allM t (p + 1) = allM t p + rowM t p p := rfl
theorem rowX_0 (t : Nat → Nat → Int) (p : Nat) : ∀ n : Nat, n ≤ p + 1 → rowX t p n = 0
  | 0, _ => rfl
  | n + 1, h => by rw [rowX_s, rowX_0 t p n (by omega), if_neg (by omega)]; rfl
theorem rowX_cg {t u : Nat → Nat → Int} (p : Nat) : ∀ n : Nat, (∀ q, q < n → p < q → t p q = u p q) → rowX t p n = rowX u p n
  | 0, _ => rfl
  | n + 1, h => by
    rw [rowX_s, rowX_s, rowX_cg p n (fun q hq => h q (by omega))]
    by_cases c : p < n
    · rw [if_pos c, if_pos c, h n (by omega) c]
    · rw [if_neg c, if_neg c]
theorem allX_cg {t u : Nat → Nat → Int} : ∀ n : Nat, n ≤ 8 → (∀ p q, p < 8 → q < 8 → p < q → t p q = u p q) → allX t n = allX u n
  | 0, _, _ => rfl
  | n + 1, h8, h => by rw [allX_s, allX_s, allX_cg n (by omega) h, rowX_cg n 8 (fun q hq hl => h n q (by omega) hq hl)]
theorem rowX_z {t : Nat → Nat → Int} (p : Nat) : ∀ n : Nat, (∀ q, q < n → p < q → t p q = 0) → rowX t p n = 0
  | 0, _ => rfl
  | n + 1, h => by
    rw [rowX_s, rowX_z p n (fun q hq => h q (by omega))]
    by_cases c : p < n
    · rw [if_pos c, h n (by omega) c]; rfl
    · rw [if_neg c]; rfl
theorem allX_z {t : Nat → Nat → Int} : ∀ n : Nat, n ≤ 8 → (∀ p q, p < 8 → q < 8 → p < q → t p q = 0) → allX t n = 0
  | 0, _, _ => rfl
  | n + 1, h8, h => by rw [allX_s, allX_z n (by omega) h, rowX_z n 8 (fun q hq hl => h n q (by omega) hq hl)]; rfl
/-- by rows of the lower, by rows of the higher -/
theorem all_eq {t u : Nat → Nat → Int} (h : ∀ p q, p < 8 → q < 8 → p < q → t p q = u q p) : allX t 8 = allM u 8 := by
  have e : allX t 8 = allX (fun p q => u q p) 8 := allX_cg 8 (by decide) h
  rw [e]
  simp [allX, rowX, allM, rowM]
  omega
theorem rx_no {t : Nat → Nat → Int} {s : Int} {p q q1 : Int32} (h : s = allX t p.toInt.toNat + rowX t p.toInt.toNat q.toInt.toNat) (h0 : 0 ≤ q.toInt) (hj : q1.toInt = q.toInt + 1) (ht : t p.toInt.toNat q.toInt.toNat = 0) : s = allX t p.toInt.toNat + rowX t p.toInt.toNat q1.toInt.toNat := by
  rw [show q1.toInt.toNat = q.toInt.toNat + 1 by omega, rowX_s, ht]
  split <;> omega
theorem rx_yes {t : Nat → Nat → Int} {s s1 x : Int} {p q q1 : Int32} (h : s = allX t p.toInt.toNat + rowX t p.toInt.toNat q.toInt.toNat) (h0 : 0 ≤ p.toInt) (hl : p.toInt < q.toInt) (hj : q1.toInt = q.toInt + 1) (ht : t p.toInt.toNat q.toInt.toNat = x) (hs : s1 = s + x) : s1 = allX t p.toInt.toNat + rowX t p.toInt.toNat q1.toInt.toNat := by
  rw [show q1.toInt.toNat = q.toInt.toNat + 1 by omega, rowX_s, ht, if_pos (by omega)]
  omega
theorem rx_0 {t : Nat → Nat → Int} {s : Int} {p q : Int32} (h : s = allX t p.toInt.toNat) (h0 : 0 ≤ p.toInt) (hq : q.toInt = p.toInt + 1) : s = allX t p.toInt.toNat + rowX t p.toInt.toNat q.toInt.toNat := by
  rw [rowX_0 t _ _ (by omega)]
  omega
theorem rx_end {t : Nat → Nat → Int} {s : Int} {p p1 q : Int32} (h : s = allX t p.toInt.toNat + rowX t p.toInt.toNat q.toInt.toNat) (h0 : 0 ≤ p.toInt) (hq : q.toInt = 8) (hp : p1.toInt = p.toInt + 1) : s = allX t p1.toInt.toNat := by
  rw [show p1.toInt.toNat = p.toInt.toNat + 1 by omega, allX_s, ← show q.toInt.toNat = 8 by omega]
  exact h
theorem rm_st {t : Nat → Nat → Int} {s s1 x : Int} {p q q1 : Int32} (h : s = allM t p.toInt.toNat + rowM t p.toInt.toNat q.toInt.toNat) (h0 : 0 ≤ q.toInt) (hj : q1.toInt = q.toInt + 1) (ht : t p.toInt.toNat q.toInt.toNat = x) (hs : s1 = s + x) : s1 = allM t p.toInt.toNat + rowM t p.toInt.toNat q1.toInt.toNat := by
  rw [show q1.toInt.toNat = q.toInt.toNat + 1 by omega, rowM_s, ht]
  omega
theorem rm_0 {t : Nat → Nat → Int} {s : Int} {p q : Int32} (h : s = allM t p.toInt.toNat) (hq : q.toInt = 0) : s = allM t p.toInt.toNat + rowM t p.toInt.toNat q.toInt.toNat := by
  rw [hq]
  show s = allM t p.toInt.toNat + 0
  omega
theorem rm_end {t : Nat → Nat → Int} {s : Int} {p p1 q : Int32} (h : s = allM t p.toInt.toNat + rowM t p.toInt.toNat q.toInt.toNat) (h0 : 0 ≤ p.toInt) (hq : q.toInt = p.toInt) (hp : p1.toInt = p.toInt + 1) : s = allM t p1.toInt.toNat := by
  rw [show p1.toInt.toNat = p.toInt.toNat + 1 by omega, allM_s]
  rw [hq] at h
  exact h
/-- how much those in one room remind each other, if s is one -/
def sub (b o : Int32) : Prop := b &&& (o ^^^ (-1)) = 0
def vX (w : Nat → Nat → Int32) (so s : Int32) : Int := allX (rT w s) 8 + allX (rT w (so &&& (s ^^^ (-1)))) 8
def vM (w : Nat → Nat → Int32) (so s : Int32) : Int := allM (rT w s) 8 + allM (rT w (so &&& (s ^^^ (-1)))) 8
def AR (v : Int32 → Int) (o b : Int32) : Prop := sub b o ∧ 1 ≤ b.toInt ∧ ∀ s : Int32, 1 ≤ s.toInt → sub s o → v b < v s ∨ (v b = v s ∧ b.toInt ≤ s.toInt)
theorem AR_1 {v : Int32 → Int} {o a b : Int32} (h : AR v o a) (h1 : AR v o b) : a = b := by
  have e1 := h.2.2 b h1.2.1 h1.1
  have e2 := h1.2.2 a h.2.1 h.1
  exact Int32.toInt_inj.mp (by omega)
theorem sub_self (o : Int32) : sub o o := b_ext (fun q hq => by
  rw [b_and, b_xor, b_m1 q hq, b_0]
  cases bt o q <;> decide)
/-- the best of those before f, of o -/
def BR (v : Int32 → Int) (o b : Int32) (m : Int) (f : Int) : Prop := sub b o ∧ 1 ≤ b.toInt ∧ m = v b ∧ ∀ s : Int32, (1 ≤ s.toInt ∧ s.toInt < f) ∨ s = o → sub s o → m < v s ∨ (m = v s ∧ b.toInt ≤ s.toInt)
theorem BR_0 {v : Int32 → Int} {o : Int32} {m : Int} (h : 1 ≤ o.toInt) (hm : m = v o) : BR v o o m 1 := ⟨sub_self o, h, hm, fun s hs _ => by
  rcases hs with hs | hs
  · omega
  · rw [hs]; omega⟩
theorem BR_no {v : Int32 → Int} {o b f f1 : Int32} {m : Int} (h : BR v o b m f.toInt) (hj : f1.toInt = f.toInt + 1) (hn : ¬ sub f o ∨ m < v f ∨ (m = v f ∧ b.toInt ≤ f.toInt)) : BR v o b m f1.toInt := by
  obtain ⟨h1, h2, h3, h4⟩ := h
  refine ⟨h1, h2, h3, fun s hs hu => ?_⟩
  by_cases e : s.toInt = f.toInt
  · have e2 : s = f := Int32.toInt_inj.mp e
    rw [e2] at hu ⊢
    rcases hn with hn | hn
    · exact absurd hu hn
    · exact hn
  · refine h4 s ?_ hu
    rcases hs with hs | hs
    · exact Or.inl (by omega)
    · exact Or.inr hs
theorem BR_yes {v : Int32 → Int} {o b f f1 : Int32} {m m1 : Int} (h : BR v o b m f.toInt) (h0 : 1 ≤ f.toInt) (hj : f1.toInt = f.toInt + 1) (hu : sub f o) (hm : m1 = v f) (hl : m1 < m ∨ (m1 = m ∧ f.toInt < b.toInt)) : BR v o f m1 f1.toInt := by
  obtain ⟨h1, h2, h3, h4⟩ := h
  refine ⟨hu, h0, hm, fun s hs hu2 => ?_⟩
  by_cases e : s.toInt = f.toInt
  · have e2 : s = f := Int32.toInt_inj.mp e
    rw [e2]; omega
  · have := h4 s (by
      rcases hs with hs | hs
      · exact Or.inl (by omega)
      · exact Or.inr hs) hu2
    omega
theorem BR_end {v : Int32 → Int} {o b f : Int32} {m : Int} (h : BR v o b m f.toInt) (h0 : 0 ≤ o.toInt) (hf : o.toInt ≤ f.toInt) : AR v o b := by
  obtain ⟨h1, h2, h3, h4⟩ := h
  refine ⟨h1, h2, fun s hs hu => ?_⟩
  have e := sub_in h0 hu
  rw [← h3]
  refine h4 s ?_ hu
  by_cases c : s.toInt = o.toInt
  · exact Or.inr (Int32.toInt_inj.mp c)
  · exact Or.inl (by omega)
/-- the reference's: none yet, or the best of those before f -/
def BM (v : Int32 → Int) (o b : Int32) (m : Int) (f : Int) : Prop := ((b.toInt = 0 ∧ m = 1000000000) ∨ (sub b o ∧ 1 ≤ b.toInt ∧ b.toInt < f ∧ m = v b)) ∧ ∀ s : Int32, 1 ≤ s.toInt → s.toInt < f → sub s o → m < v s ∨ (m = v s ∧ b.toInt ≤ s.toInt)
theorem BM_0 {v : Int32 → Int} {o : Int32} : BM v o 0 1000000000 1 := ⟨Or.inl ⟨by decide, rfl⟩, fun s h1 h2 => by omega⟩
theorem BM_no {v : Int32 → Int} {o b f f1 : Int32} {m : Int} (h : BM v o b m f.toInt) (hj : f1.toInt = f.toInt + 1) (hn : ¬ sub f o ∨ (v f < 1000000000 ∧ m ≤ v f)) : BM v o b m f1.toInt := by
  obtain ⟨h1, h4⟩ := h
  refine ⟨h1.elim Or.inl (fun h => Or.inr ⟨h.1, h.2.1, by have := h.2.2.1; omega, h.2.2.2⟩), fun s a1 a2 hu => ?_⟩
  by_cases e : s.toInt = f.toInt
  · have e2 : s = f := Int32.toInt_inj.mp e
    rw [e2] at hu ⊢
    rcases hn with hn | hn
    · exact absurd hu hn
    · rcases h1 with h1 | h1
      · omega
      · have := h1.2.2.1
        omega
  · exact h4 s a1 (by omega) hu
theorem BM_yes {v : Int32 → Int} {o b f f1 : Int32} {m m1 : Int} (h : BM v o b m f.toInt) (h0 : 1 ≤ f.toInt) (hj : f1.toInt = f.toInt + 1) (hu : sub f o) (hm : m1 = v f) (hl : m1 < m) : BM v o f m1 f1.toInt := by
  obtain ⟨h1, h4⟩ := h
  refine ⟨Or.inr ⟨hu, h0, by omega, hm⟩, fun s a1 a2 hu2 => ?_⟩
  by_cases e : s.toInt = f.toInt
  · have e2 : s = f := Int32.toInt_inj.mp e
    rw [e2]; omega
  · have := h4 s a1 (by omega) hu2
    omega
theorem BM_end {v : Int32 → Int} {o b f : Int32} {m : Int} (h : BM v o b m f.toInt) (h0 : 1 ≤ o.toInt) (hf : o.toInt < f.toInt) (hv : v o < 1000000000) : AR v o b ∧ m = v b := by
  obtain ⟨h1, h4⟩ := h
  have h2 := h4 o h0 hf (sub_self o)
  rcases h1 with h1 | h1
  · omega
  · refine ⟨⟨h1.1, h1.2.1, fun s a1 hu => ?_⟩, h1.2.2.2⟩
    have := sub_in (by omega) hu
    have := h4 s a1 (by omega) hu
    rw [h1.2.2.2] at this
    exact this
theorem rowM_b {t : Nat → Nat → Int} (h : ∀ p q, p < 8 → q < 8 → 0 ≤ t p q ∧ t p q ≤ 99) (p : Nat) (hp : p < 8) : ∀ n : Nat, n ≤ 8 → 0 ≤ rowM t p n ∧ rowM t p n ≤ 99 * n
  | 0, _ => ⟨Int.le_refl 0, Int.le_refl 0⟩
  | n + 1, hn => by
    have h1 := rowM_b h p hp n (by omega)
    have h2 := h p n hp (by omega)
    rw [rowM_s]
    omega
theorem allM_b {t : Nat → Nat → Int} (h : ∀ p q, p < 8 → q < 8 → 0 ≤ t p q ∧ t p q ≤ 99) : ∀ n : Nat, n ≤ 8 → 0 ≤ allM t n ∧ allM t n ≤ 800 * n
  | 0, _ => ⟨Int.le_refl 0, Int.le_refl 0⟩
  | n + 1, hn => by
    have h1 := allM_b h n (by omega)
    have h2 := rowM_b h n (by omega) n (by omega)
    rw [allM_s]
    omega
theorem rT_rg {w : Nat → Nat → Int32} (h : ∀ p q, p < 8 → q < 8 → 0 ≤ (w p q).toInt ∧ (w p q).toInt ≤ 99) (s : Int32) (p q : Nat) (hp : p < 8) (hq : q < 8) : 0 ≤ rT w s p q ∧ rT w s p q ≤ 99 := by
  unfold rT
  have := h p q hp hq
  split <;> omega
theorem vM_b {w : Nat → Nat → Int32} (h : ∀ p q, p < 8 → q < 8 → 0 ≤ (w p q).toInt ∧ (w p q).toInt ≤ 99) (so s : Int32) : vM w so s < 1000000000 := by
  have h1 := allM_b (rT_rg h s) 8 (by decide)
  have h2 := allM_b (rT_rg h (so &&& (s ^^^ (-1)))) 8 (by decide)
  unfold vM
  omega
/-- the rest without the lowest: by both ways; what is left of it then; how many there are -/
theorem rest_dec1 : ∀ a, a < 16 → ∀ b, b < 16 → 2 ≤ cb (nI (16 * a + b)) 12 → nI (16 * a + b) &&& ((nI (16 * a + b) &&& (-(nI (16 * a + b)))) ^^^ (-1)) = nI (16 * a + b) &&& (nI (16 * a + b) - 1) ∧ 1 ≤ (nI (16 * a + b) &&& (nI (16 * a + b) - 1)).toInt ∧ (nI (16 * a + b) &&& (nI (16 * a + b) - 1)).toInt < 256 := by decide +kernel
def onebit (n : Int32) : Bool := (List.range 8).all (fun p => (List.range 8).all (fun q => !(decide (p < q)) || !(bt (n &&& ((n &&& (n - 1)) ^^^ (-1))) p && bt (n &&& ((n &&& (n - 1)) ^^^ (-1))) q)))
theorem rest_dec2 : ∀ a, a < 16 → ∀ b, b < 16 → onebit (nI (16 * a + b)) = true := by decide +kernel
theorem rest_of {so : Int32} (h0 : 0 ≤ so.toInt) (h1 : so.toInt < 256) (h2 : 2 ≤ cb so 12) : so &&& ((so &&& (-so)) ^^^ (-1)) = so &&& (so - 1) ∧ 1 ≤ (so &&& (so - 1)).toInt ∧ (so &&& (so - 1)).toInt < 256 ∧ ∀ p, p < 8 → ∀ q, q < 8 → p < q → (bt (so &&& ((so &&& (so - 1)) ^^^ (-1))) p && bt (so &&& ((so &&& (so - 1)) ^^^ (-1))) q) = false := by
  obtain ⟨k, hk⟩ : ∃ k : Nat, so.toInt = k := ⟨so.toInt.toNat, by omega⟩
  have hx : so = nI k := nI_k hk (by omega)
  have h := rest_dec1 (k / 16) (by omega) (k % 16) (by omega)
  have h3 := rest_dec2 (k / 16) (by omega) (k % 16) (by omega)
  rw [show 16 * (k / 16) + k % 16 = k by omega, ← hx] at h h3
  obtain ⟨e1, e2, e3⟩ := h h2
  refine ⟨e1, e2, e3, fun p hp q hq hl => ?_⟩
  unfold onebit at h3
  have h4 := List.all_eq_true.mp (List.all_eq_true.mp h3 p (List.mem_range.mpr hp)) q (List.mem_range.mpr hq)
  rw [decide_eq_true hl, Bool.not_true, Bool.false_or, Bool.not_eq_true'] at h4
  exact h4
theorem noise_1 {w : Nat → Nat → Int32} {so : Int32} (h0 : 0 ≤ so.toInt) (h1 : so.toInt < 256) (h2 : 2 ≤ cb so 12) : allX (rT w (so &&& ((so &&& (so - 1)) ^^^ (-1)))) 8 = 0 := allX_z 8 (by decide) (fun p q hp hq hl => by
  have h3 := (rest_of h0 h1 h2).2.2.2 p hp q hq hl
  cases c : bt (so &&& ((so &&& (so - 1)) ^^^ (-1))) p with
  | false => exact rT_a c
  | true =>
    rw [c, Bool.true_and] at h3
    exact rT_b h3)
/-- reminding, alike on both sides -/
def RMr (g : Nat → va_E) : Prop := ∀ p q : Nat, p < 8 → q < 8 → arI g (104 + 1 * p) q = arI g 175 (8 * p + q) ∧ arI g 175 (8 * p + q) = arI g 175 (8 * q + p) ∧ 0 ≤ (arI g 175 (8 * p + q)).toInt ∧ (arI g 175 (8 * p + q)).toInt ≤ 99
theorem vXM {g g1 : Nat → va_E} (h : RMr g) (e : arI g1 175 = arI g 175) : vX (rX g) = vM (rM g1) := by
  have key : ∀ s : Int32, allX (rT (rX g) s) 8 = allM (rT (rM g1) s) 8 := fun s => all_eq (fun p q hp hq hl => by
    have h1 := h p q hp hq
    have e2 : rX g p q = rM g1 q p := by
      unfold rX rM
      rw [e, h1.1, h1.2.1]
    unfold rT
    rw [e2]
    by_cases c : bt s p = true ∧ bt s q = true
    · rw [if_pos c, if_pos ⟨c.2, c.1⟩]
    · rw [if_neg c, if_neg (fun c2 => c ⟨c2.2, c2.1⟩)])
  funext so s
  unfold vX vM
  rw [key, key]
def RS (g : Nat → va_E) : Prop := RP g ∧ RMr g
theorem RS_0 (ad : Nat → Nat) (cA : Nat → ClassId) : RS (gF ad cA) := ⟨RP_0 ad cA, fun p q hp hq => by
  have e1 : arI (gF ad cA) (104 + 1 * p) q = 0 := (az_all ad cA _ _).resolve_right (by omega)
  have e2 : ∀ j, arI (gF ad cA) 175 j = 0 := fun j => (az_all ad cA _ _).resolve_right (by omega)
  rw [e1, e2, e2]
  exact ⟨rfl, rfl, by decide, by decide⟩⟩
/-- who is asked: told ones, two at least -/
theorem some_iff {td so : Int32} {f : Nat → Int32} (h : SMr td f 8) (h0 : 0 ≤ td.toInt) (h1 : td.toInt < 256) : so &&& (td ^^^ (-1)) = 0 ↔ (0 ≤ so.toInt ∧ so.toInt < 256 ∧ ∀ p : Nat, p < 8 → bt so p = true → tM f p ≠ 0) := by
  refine ⟨fun e => ?_, fun ⟨a, b, c⟩ => ?_⟩
  · have e1 := sub_in h0 e
    refine ⟨e1.1, by omega, fun p hp hb => ?_⟩
    have e2 : bt (so &&& (td ^^^ (-1))) p = false := by rw [e, b_0]
    rw [b_and, b_xor, b_m1 p (by omega), hb] at e2
    rw [← SM_t h p hp]
    unfold tB
    cases d : bt td p with
    | true => rw [if_pos rfl]; decide
    | false => rw [d] at e2; exact absurd e2 (by decide)
  · refine b_ext (fun q hq => ?_)
    rw [b_and, b_xor, b_m1 q hq, b_0]
    cases d : bt so q with
    | false => rfl
    | true =>
      have q8 := bt_lt (n := 8) a b d
      have e1 := c q q8 d
      rw [← SM_t h q q8] at e1
      unfold tB at e1
      cases d2 : bt td q with
      | true => rfl
      | false => rw [d2, if_neg (by decide)] at e1; exact absurd rfl e1
theorem RM_upd {g g2 : Nat → va_E} {a b c : Int32} (h : RMr g) (a0 : 0 ≤ a.toInt) (a1 : a.toInt < 8) (b0 : 0 ≤ b.toInt) (b1 : b.toInt < 8) (hne : a.toInt ≠ b.toInt) (c0 : 0 ≤ c.toInt) (c1 : c.toInt ≤ 99) (e1 : ∀ k : Nat, k < 8 → arI g2 (104 + 1 * k) = if k = b.toInt.toNat then upd (arI g (104 + 1 * k)) a.toNatClampNeg c else if k = a.toInt.toNat then upd (arI g (104 + 1 * k)) b.toNatClampNeg c else arI g (104 + 1 * k)) (e2 : arI g2 175 = upd (upd (arI g 175) (8 * a.toInt.toNat + b.toInt.toNat) c) (8 * b.toInt.toNat + a.toInt.toNat) c) : RMr g2 := by
  have ea : a.toNatClampNeg = a.toInt.toNat := rfl
  have eb : b.toNatClampNeg = b.toInt.toNat := rfl
  obtain ⟨x, hx⟩ : ∃ x : Nat, a.toInt.toNat = x := ⟨_, rfl⟩
  obtain ⟨y, hy⟩ : ∃ y : Nat, b.toInt.toNat = y := ⟨_, rfl⟩
  have hx8 : x < 8 := by omega
  have hy8 : y < 8 := by omega
  have hxy : x ≠ y := by omega
  have kM : ∀ p q : Nat, p < 8 → q < 8 → arI g2 175 (8 * p + q) = if (p = y ∧ q = x) ∨ (p = x ∧ q = y) then c else arI g 175 (8 * p + q) := fun p q hp hq => by
    rw [e2, hx, hy]
    unfold upd
    by_cases u : p = y ∧ q = x
    · rw [if_pos (by omega), if_pos (Or.inl u)]
    · rw [if_neg (by omega)]
      by_cases v : p = x ∧ q = y
      · rw [if_pos (by omega), if_pos (Or.inr v)]
      · rw [if_neg (by omega), if_neg (fun z => z.elim u v)]
  have kX : ∀ p q : Nat, p < 8 → q < 8 → arI g2 (104 + 1 * p) q = if (p = y ∧ q = x) ∨ (p = x ∧ q = y) then c else arI g (104 + 1 * p) q := fun p q hp hq => by
    rw [e1 p hp, ea, eb, hx, hy]
    unfold upd
    by_cases u : p = y
    · rw [if_pos u]
      by_cases v : q = x
      · rw [if_pos v, if_pos (Or.inl ⟨u, v⟩)]
      · rw [if_neg v, if_neg (by omega)]
    · rw [if_neg u]
      by_cases v : p = x
      · rw [if_pos v]
        by_cases z : q = y
        · rw [if_pos z, if_pos (Or.inr ⟨v, z⟩)]
        · rw [if_neg z, if_neg (by omega)]
      · rw [if_neg v, if_neg (by omega)]
  intro p q hp hq
  obtain ⟨h1, h2, h3, h4⟩ := h p q hp hq
  rw [kX p q hp hq, kM p q hp hq, kM q p hq hp]
  by_cases u : (p = y ∧ q = x) ∨ (p = x ∧ q = y)
  · have u2 : (q = y ∧ p = x) ∨ (q = x ∧ p = y) := by omega
    rw [if_pos u, if_pos u, if_pos u2]
    exact ⟨rfl, rfl, c0, c1⟩
  · have u2 : ¬ ((q = y ∧ p = x) ∨ (q = x ∧ p = y)) := by omega
    rw [if_neg u, if_neg u, if_neg u2]
    exact ⟨h1, h2, h3, h4⟩


set_option maxRecDepth 100000 in
set_option maxHeartbeats 4000000 in
theorem s_X11_reminds (l : Launch) (D : va_G) (cA : Nat → ClassId) (ad : Nat → Nat) (g0 : Nat → va_E) (a : Int32) (b : Int32) (c : Int32) (td : Int32)  (hSh : Shp ad cA g0) (hG : Rng g0) (h_td : fld g0 18 3 = .int td) : CT l NN ad cA D yX11_reminds cX11_reminds 4 (some FieldType.boolean) (1, 22) [.ref (ad 0), .int a, .int b, .int c] g0 (fun v g' => ∃ (r : Int32), v = some (.int r) ∧ Shp ad cA g' ∧ Rng g' ∧ FR (fun i k => (104 ≤ i ∧ i < 112)) g0 g' ∧ (((bi td a = 1 ∧ bi td b = 1 ∧ a.toInt ≠ b.toInt ∧ 0 ≤ c.toInt ∧ c.toInt ≤ 99) ∧ ∀ k : Nat, k < 8 → arI g' (104 + 1 * k) = if k = b.toInt.toNat then upd (arI g0 (104 + 1 * k)) a.toNatClampNeg c else if k = a.toInt.toNat then upd (arI g0 (104 + 1 * k)) b.toNatClampNeg c else arI g0 (104 + 1 * k)) ∨ (¬ (bi td a = 1 ∧ bi td b = 1 ∧ a.toInt ≠ b.toInt ∧ 0 ≤ c.toInt ∧ c.toInt ≤ 99) ∧ ∀ k : Nat, k < 8 → arI g' (104 + 1 * k) = arI g0 (104 + 1 * k))) ∧ (r.toInt = 0 ∨ r.toInt = 1)) := by
  refine q_enterZ (by decide) (Nat.le_of_ble_eq_true rfl) (fun K H locs ls _ _ hM hW0 hR hC hE hl => ?_)
  have hl : lv_has ls 4 [(0, .ref (ad 0)), (1, .int a), (2, .int b), (3, .int c)] := hl
  have hW : WS ad cA (fun i k => (104 ≤ i ∧ i < 112)) g0 K g0 H locs := ⟨hW0, hSh, FR.rf⟩
  have b_td := hG.f h_td rF_18_3 (by decide)
  have := kc_0
  have := kc_1
  refine q_aload_n hM dX11_reminds_0 (lv_at hl 0 rfl) ?_
  refine w_get (v := .ref (ad 18)) hM hW FG_X11_26 lb_0 (rf_0_10 hW.2.1) dX11_reminds_1 ?_
  refine w_get (v := .int td) hM hW FG_X11_135 lb_18 ((hW.2.2.1 18 3 (by omega)).trans h_td) dX11_reminds_4 ?_
  refine q_iload_n hM dX11_reminds_7 (lv_at hl 1 rfl) ?_
  refine q_callS (As := [.int td, .int a]) (rest := []) hM hW.1 hR hC myX11_has (kAW (v_1_10 (List.mem_of_getElem? (i := 8) rfl)) rfl) (c_X11_has _ _ cA ad g0 td a hW.2.1) ⟨by decide, by decide⟩ rfl rfl hl.1 (Nat.le_of_ble_eq_true rfl) dX11_reminds_8 (fun v g13533 H locs hp hW1 => ?_)
  obtain ⟨r13532, rfl, hr13532, rfl⟩ := hp
  have hW : WS ad cA (fun i k => (104 ≤ i ∧ i < 112)) g0 K g0 H locs := ⟨hW1, hW.2.1, hW.2.2⟩
  have hbr13532 := has_bi hr13532
  have hcr13532 := bi_01 td a
  first | have ltr13532 := has_lt 5 hr13532 (by omega) (by omega) | have ltr13532 := has_lt 6 hr13532 (by omega) (by omega) | have ltr13532 := has_lt 8 hr13532 (by omega) (by omega) | have ltr13532 := has_lt 12 hr13532 (by omega) (by omega) | skip
  refine q_if_eq (tgt := 43) hM dX11_reminds_11 (by decide) (rfl : r13532.toInt = r13532.toInt) (fun h11 => ?_) (fun h11 => ?_)
  · refine q_iconst (v := (0 : Int32)) hM dX11_reminds_43 (by decide) ?_
    exact hE _ _ _ _ _ _ hW.1 nz_0 ⟨_, rfl, hW.2.1, hG, hW.2.2, (Or.inr ⟨by omega, fun _ _ => rfl⟩), (by have := kc_0; omega)⟩ dX11_reminds_44
  · refine q_aload_n hM dX11_reminds_14 (lv_at hl 0 rfl) ?_
    refine w_get (v := .ref (ad 18)) hM hW FG_X11_26 lb_0 (rf_0_10 hW.2.1) dX11_reminds_15 ?_
    refine w_get (v := .int td) hM hW FG_X11_135 lb_18 ((hW.2.2.1 18 3 (by omega)).trans h_td) dX11_reminds_18 ?_
    refine q_iload_n hM dX11_reminds_21 (lv_at hl 2 rfl) ?_
    refine q_callS (As := [.int td, .int b]) (rest := []) hM hW.1 hR hC myX11_has (kAW (v_1_10 (List.mem_of_getElem? (i := 8) rfl)) rfl) (c_X11_has _ _ cA ad g0 td b hW.2.1) ⟨by decide, by decide⟩ rfl rfl hl.1 (Nat.le_of_ble_eq_true rfl) dX11_reminds_22 (fun v g13537 H locs hp hW1 => ?_)
    obtain ⟨r13536, rfl, hr13536, rfl⟩ := hp
    have hW : WS ad cA (fun i k => (104 ≤ i ∧ i < 112)) g0 K g0 H locs := ⟨hW1, hW.2.1, hW.2.2⟩
    have hbr13536 := has_bi hr13536
    have hcr13536 := bi_01 td b
    first | have ltr13536 := has_lt 5 hr13536 (by omega) (by omega) | have ltr13536 := has_lt 6 hr13536 (by omega) (by omega) | have ltr13536 := has_lt 8 hr13536 (by omega) (by omega) | have ltr13536 := has_lt 12 hr13536 (by omega) (by omega) | skip
    refine q_if_eq (tgt := 43) hM dX11_reminds_25 (by decide) (rfl : r13536.toInt = r13536.toInt) (fun h25 => ?_) (fun h25 => ?_)
    · refine q_iconst (v := (0 : Int32)) hM dX11_reminds_43 (by decide) ?_
      exact hE _ _ _ _ _ _ hW.1 nz_0 ⟨_, rfl, hW.2.1, hG, hW.2.2, (Or.inr ⟨by omega, fun _ _ => rfl⟩), (by have := kc_0; omega)⟩ dX11_reminds_44
    · refine q_iload_n hM dX11_reminds_28 (lv_at hl 1 rfl) ?_
      refine q_iload_n hM dX11_reminds_29 (lv_at hl 2 rfl) ?_
      refine q_icmp_eq (tgt := 43) hM dX11_reminds_30 (by decide) (rfl : a.toInt = a.toInt) (rfl : b.toInt = b.toInt) (fun h30 => ?_) (fun h30 => ?_)
      · refine q_iconst (v := (0 : Int32)) hM dX11_reminds_43 (by decide) ?_
        exact hE _ _ _ _ _ _ hW.1 nz_0 ⟨_, rfl, hW.2.1, hG, hW.2.2, (Or.inr ⟨by omega, fun _ _ => rfl⟩), (by have := kc_0; omega)⟩ dX11_reminds_44
      · refine q_iload_n hM dX11_reminds_33 (lv_at hl 3 rfl) ?_
        refine q_iconst (v := (0 : Int32)) hM dX11_reminds_34 (by decide) ?_
        refine q_bipush (v := (99 : Int32)) hM dX11_reminds_35 (by decide) ?_
        refine q_callS (As := [.int c, .int (0 : Int32), .int (99 : Int32)]) (rest := []) hM hW.1 hR hC myX11_within (kAW (v_1_10 (List.mem_of_getElem? (i := 1) rfl)) rfl) (c_X11_within _ _ cA ad g0 c (0 : Int32) (99 : Int32) hW.2.1) ⟨by decide, by decide⟩ rfl rfl hl.1 (Nat.le_of_ble_eq_true rfl) dX11_reminds_37 (fun v g13543 H locs hp hW1 => ?_)
        obtain ⟨r13542, rfl, hr13542, rfl⟩ := hp
        have hW : WS ad cA (fun i k => (104 ≤ i ∧ i < 112)) g0 K g0 H locs := ⟨hW1, hW.2.1, hW.2.2⟩
        have := kc_0
        have := kc_99
        refine q_if_ne (tgt := 45) hM dX11_reminds_40 (by decide) (rfl : r13542.toInt = r13542.toInt) (fun h40 => ?_) (fun h40 => ?_)
        · refine q_aload_n hM dX11_reminds_45 (lv_at hl 0 rfl) ?_
          refine w_get (v := .ref (ad 102)) hM hW FG_X11_90 lb_0 (rf_0_3 hW.2.1) dX11_reminds_46 ?_
          refine w_get (v := .ref (ad 103)) hM hW FG_X11_264 lb_102 (rf_102_0 hW.2.1) dX11_reminds_49 ?_
          refine q_iload_n hM dX11_reminds_52 (lv_at hl 1 rfl) ?_
          refine w_aald hM hW lb_103 (Or.inl rfl) (i_in (by omega) (by omega)) (aq (aq_103 hW.2.1) (by omega) (by omega)) dX11_reminds_53 ?_
          refine q_iload_n hM dX11_reminds_54 (lv_at hl 2 rfl) ?_
          refine q_iload_n hM dX11_reminds_55 (lv_at hl 3 rfl) ?_
          refine w_iast hM hW (lr_104 (by omega)) (by omega) (i_in (by omega) (by omega)) dX11_reminds_56 (fun g13545 H locs hW e1 e2 => ?_)
          have hS0 := e1
          have eS0 := e2
          have hG := hG.st e1 e2 (rA_row_104 (by omega)) (by have := i_rng c; omega) (by have := i_rng c; omega)
          refine q_aload_n hM dX11_reminds_57 (lv_at hl 0 rfl) ?_
          refine w_get (v := .ref (ad 102)) hM hW FG_X11_90 lb_0 (rf_0_3 hW.2.1) dX11_reminds_58 ?_
          refine w_get (v := .ref (ad 103)) hM hW FG_X11_264 lb_102 (rf_102_0 hW.2.1) dX11_reminds_61 ?_
          refine q_iload_n hM dX11_reminds_64 (lv_at hl 2 rfl) ?_
          refine w_aald hM hW lb_103 (Or.inl rfl) (i_in (by omega) (by omega)) (aq (aq_103 hW.2.1) (by omega) (by omega)) dX11_reminds_65 ?_
          refine q_iload_n hM dX11_reminds_66 (lv_at hl 1 rfl) ?_
          refine q_iload_n hM dX11_reminds_67 (lv_at hl 3 rfl) ?_
          refine w_iast hM hW (lr_104 (by omega)) (by omega) (i_in (by omega) (by omega)) dX11_reminds_68 (fun g13546 H locs hW e1 e2 => ?_)
          have hS1 := e1
          have eS1 := e2
          have hG := hG.st e1 e2 (rA_row_104 (by omega)) (by have := i_rng c; omega) (by have := i_rng c; omega)
          refine q_iconst (v := (1 : Int32)) hM dX11_reminds_69 (by decide) ?_
          exact hE _ _ _ _ _ _ hW.1 nz_1 ⟨_, rfl, hW.2.1, hG, hW.2.2, (Or.inl ⟨by omega, fun k hk => by
              by_cases e : k = b.toInt.toNat
              · rw [if_pos e, e, hS1]
                exact congrArg (fun z => upd z a.toNatClampNeg c) (eS0.2.1 (104 + 1 * b.toInt.toNat) (by unfold Only; omega))
              · rw [if_neg e]
                by_cases e3 : k = a.toInt.toNat
                · rw [if_pos e3, e3, eS1.2.1 (104 + 1 * a.toInt.toNat) (by unfold Only; omega)]; exact hS0
                · rw [if_neg e3]; exact (eS1.2.1 (104 + 1 * k) (by unfold Only; omega)).trans (eS0.2.1 (104 + 1 * k) (by unfold Only; omega))⟩), (by have := kc_1; omega)⟩ dX11_reminds_70
        · refine q_iconst (v := (0 : Int32)) hM dX11_reminds_43 (by decide) ?_
          exact hE _ _ _ _ _ _ hW.1 nz_0 ⟨_, rfl, hW.2.1, hG, hW.2.2, (Or.inr ⟨by omega, fun _ _ => rfl⟩), (by have := kc_0; omega)⟩ dX11_reminds_44
