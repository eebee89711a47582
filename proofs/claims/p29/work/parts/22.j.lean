def LWQ (g : Nat → va_E) : Prop := LawOK g ∧ (∀ k : Nat, (k : Int) < (arI g 148 0).toInt → (arI g 145 k).toInt ≤ (fI g 129 32).toInt) ∧ ∀ k : Nat, (k : Int) < (arI g 148 1).toInt → 240 ≤ (arI g 143 (16 + k)).toInt
theorem LWQ_fr {T : Nat → Nat → Prop} {g g1 : Nat → va_E} (h : LWQ g) (hf : FR T g g1) (n1 : ¬ T 143 0) (n2 : ¬ T 144 0) (n3 : ¬ T 145 0) (n4 : ¬ T 146 0) (n5 : ¬ T 148 0) (n6 : ¬ T 129 32) : LWQ g1 := by
  refine ⟨LawOK_fr h.1 hf n1 n2 n3 n4 n5, fun k hk => ?_, fun k hk => ?_⟩
  · rw [hf.2.1 148 n5] at hk
    rw [hf.2.1 145 n3, show fI g1 129 32 = fI g 129 32 by unfold fI; rw [hf.1 129 32 n6]]
    exact h.2.1 k hk
  · rw [hf.2.1 148 n5] at hk
    rw [hf.2.1 143 n1]
    exact h.2.2 k hk
theorem LWQ_law {g g1 : Nat → va_E} {S F T C : Nat → Int32} {kk cc : Int} (h : LWQ g) (hNA : NA S F T C kk cc) (k16 : kk ≤ 16) (c0 : 0 ≤ cc) (c240 : cc ≤ 240) (hs : ∀ j : Nat, (j : Int) < kk → arI g1 143 j = S j ∧ arI g1 144 j = F j ∧ arI g1 145 j = T j) (ho : ∀ j : Nat, 16 ≤ j → arI g1 143 j = arI g 143 j ∧ arI g1 144 j = arI g 144 j ∧ arI g1 145 j = arI g 145 j) (hc : ∀ j : Nat, (j : Int) < cc → arI g1 146 j = C j) (hc2 : ∀ j : Nat, 240 ≤ j → arI g1 146 j = arI g 146 j) (m0 : (arI g1 148 0).toInt = kk) (m1 : arI g1 148 1 = arI g 148 1) (cm : (fI g1 129 32).toInt = cc) : LWQ g1 := by
  refine ⟨fun l k hl hk => ?_, fun k hk => ?_, fun k hk => ?_⟩
  · rcases (show l = 0 ∨ l = 1 by omega) with rfl | rfl
    · rw [m0] at hk
      rw [show 16 * 0 + k = k by omega]
      obtain ⟨a1, a2, a3⟩ := hs k hk
      obtain ⟨b1, b2, b3, b4, b5, b6⟩ := hNA k hk
      unfold LA1
      rw [a1, a2, a3]
      exact ⟨b1, b2, b3, by omega, by omega, vok_eq (fun j hj => hc _ (by omega)) b5, vok_eq (fun j hj => hc _ (by omega)) b6⟩
    · rw [m1] at hk
      have q := h.1 1 k hl hk
      have q2 := h.2.2 k hk
      rw [show 16 * 1 + k = 16 + k by omega] at q ⊢
      obtain ⟨a1, a2, a3⟩ := ho (16 + k) (by omega)
      obtain ⟨b1, b2, b3, b4, b5, b6, b7⟩ := q
      unfold LA1
      rw [a1, a2, a3]
      exact ⟨b1, b2, b3, b4, b5, vok_eq (fun j hj => hc2 _ (by omega)) b6, vok_eq (fun j hj => hc2 _ (by omega)) b7⟩
  · rw [m0] at hk
    obtain ⟨a1, a2, a3⟩ := hs k hk
    obtain ⟨b1, b2, b3, b4, b5, b6⟩ := hNA k hk
    rw [a3, cm]
    exact b4
  · rw [m1] at hk
    obtain ⟨a1, a2, a3⟩ := ho (16 + k) (by omega)
    rw [a1]
    exact h.2.2 k hk
theorem dpt_sh {f f1 : Nat → Int32} {a b : Nat} : ∀ n, (∀ j, j < n → f1 (b + j) = f (a + j)) → dpt f1 b n = dpt f a n
  | 0, _ => rfl
  | n + 1, h => by
    show dpt f1 b n + eff (f1 (b + n)) = dpt f a n + eff (f (a + n))
    rw [dpt_sh n (fun j hj => h j (by omega)), h n (by omega)]
theorem vok_sh {f f1 : Nat → Int32} {a b n : Nat} (h : ∀ j, j < n → f1 (b + j) = f (a + j)) (hv : vok f a n) : vok f1 b n := by
  intro j hj
  rw [dpt_sh j (fun i hi => h i (by omega)), h j hj]
  exact hv j hj
theorem LWQ_copy {g g1 : Nat → va_E} {kk cc : Int} (h : LWQ g) (k16 : kk ≤ 16) (c240 : cc ≤ 240) (hk0 : (arI g 148 0).toInt = kk) (hcc : (fI g 129 32).toInt = cc) (hs : ∀ j : Nat, (j : Int) < kk → (arI g1 143 (16 + j)).toInt = 240 + (arI g 143 j).toInt ∧ (arI g1 144 (16 + j)).toInt = 240 + (arI g 144 j).toInt ∧ (arI g1 145 (16 + j)).toInt = 240 + (arI g 145 j).toInt) (ho : ∀ j : Nat, j < 16 → arI g1 143 j = arI g 143 j ∧ arI g1 144 j = arI g 144 j ∧ arI g1 145 j = arI g 145 j) (hc : ∀ j : Nat, (j : Int) < cc → arI g1 146 (240 + j) = arI g 146 j) (hc2 : ∀ j : Nat, j < 240 → arI g1 146 j = arI g 146 j) (m0 : arI g1 148 0 = arI g 148 0) (m1 : arI g1 148 1 = arI g 148 0) (cm : fI g1 129 32 = fI g 129 32) : LWQ g1 := by
  refine ⟨fun l k hl hk => ?_, fun k hk => ?_, fun k hk => ?_⟩
  · rcases (show l = 0 ∨ l = 1 by omega) with rfl | rfl
    · rw [m0] at hk
      have q := h.1 0 k hl hk
      have q2 := h.2.1 k hk
      rw [show 16 * 0 + k = k by omega] at q ⊢
      obtain ⟨a1, a2, a3⟩ := ho k (by omega)
      obtain ⟨b1, b2, b3, b4, b5, b6, b7⟩ := q
      unfold LA1
      rw [a1, a2, a3]
      exact ⟨b1, b2, b3, b4, b5, vok_eq (fun j hj => hc2 _ (by omega)) b6, vok_eq (fun j hj => hc2 _ (by omega)) b7⟩
    · rw [m1] at hk
      have q := h.1 0 k (by omega) hk
      have q2 := h.2.1 k hk
      rw [show 16 * 0 + k = k by omega] at q
      rw [show 16 * 1 + k = 16 + k by omega]
      obtain ⟨a1, a2, a3⟩ := hs k (by omega)
      obtain ⟨b1, b2, b3, b4, b5, b6, b7⟩ := q
      unfold LA1
      rw [a1, a2, a3]
      refine ⟨by omega, by omega, by omega, by omega, by omega, ?_, ?_⟩
      · rw [show (240 + (arI g 143 k).toInt).toNat = 240 + (arI g 143 k).toInt.toNat by omega, show (240 + (arI g 144 k).toInt - (240 + (arI g 143 k).toInt)).toNat = ((arI g 144 k).toInt - (arI g 143 k).toInt).toNat by omega]
        exact vok_sh (fun j hj => by rw [Nat.add_assoc]; exact hc _ (by omega)) b6
      · rw [show (240 + (arI g 144 k).toInt).toNat = 240 + (arI g 144 k).toInt.toNat by omega, show (240 + (arI g 145 k).toInt - (240 + (arI g 144 k).toInt)).toNat = ((arI g 145 k).toInt - (arI g 144 k).toInt).toNat by omega]
        exact vok_sh (fun j hj => by rw [Nat.add_assoc]; exact hc _ (by omega)) b7
  · rw [m0] at hk
    obtain ⟨a1, a2, a3⟩ := ho k (by omega)
    rw [a3, cm]
    exact h.2.1 k hk
  · rw [m1] at hk
    have q := h.1 0 k (by omega) hk
    rw [show 16 * 0 + k = k by omega] at q
    obtain ⟨a1, a2, a3⟩ := hs k (by omega)
    rw [a1]
    have := q.1
    omega
/-- one more place of a row is as it should be -/
theorem row_cp {f f1 h : Nat → Int32} {o x : Int32} {m : Int} (e : f1 = upd f o.toNatClampNeg x) (hh : ∀ j : Nat, (j : Int) < o.toInt → f j = h j) (hx : x = h o.toNatClampNeg) (hm : m ≤ o.toInt + 1) : ∀ j : Nat, (j : Int) < m → f1 j = h j := by
  intro j hj
  have eo : o.toNatClampNeg = o.toInt.toNat := rfl
  rw [e]
  unfold upd
  by_cases q : j = o.toNatClampNeg
  · rw [if_pos q, q]; exact hx
  · rw [if_neg q]; exact hh j (by omega)
theorem row_up {f f1 h : Nat → Int32} {o x : Int32} {n : Nat} (e : f1 = upd f o.toNatClampNeg x) (hh : ∀ j : Nat, n ≤ j → f j = h j) (ho : o.toNatClampNeg < n) : ∀ j : Nat, n ≤ j → f1 j = h j := by
  intro j hj
  rw [e]
  unfold upd
  rw [if_neg (by omega)]
  exact hh j hj
theorem row_dn {f f1 h : Nat → Int32} {o x : Int32} {n : Nat} (e : f1 = upd f o.toNatClampNeg x) (hh : ∀ j : Nat, j < n → f j = h j) (ho : n ≤ o.toNatClampNeg) : ∀ j : Nat, j < n → f1 j = h j := by
  intro j hj
  rw [e]
  unfold upd
  rw [if_neg (by omega)]
  exact hh j hj

theorem LWQ_eq {g g1 : Nat → va_E} {x : Int32} (h : LWQ g) (e1 : arI g1 143 = arI g 143) (e2 : arI g1 144 = arI g 144) (e3 : arI g1 145 = arI g 145) (e4 : arI g1 146 = arI g 146) (e5 : arI g1 148 = arI g 148) (f1 : fld g1 129 32 = .int x) (f0 : fld g 129 32 = .int x) : LWQ g1 := by
  refine ⟨fun l k hl hk => ?_, fun k hk => ?_, fun k hk => ?_⟩
  · rw [e5] at hk
    exact LA1_eq (h.1 l k hl hk) e1 e2 e3 e4
  · rw [e5] at hk
    rw [e3, fI_of f1, ← fI_of f0]
    exact h.2.1 k hk
  · rw [e5] at hk
    rw [e1]
    exact h.2.2 k hk
theorem row_sh {f f1 h : Nat → Int32} {o x : Int32} {m m1 : Int} {d : Nat} {c : Int} (e : f1 = upd f o.toNatClampNeg x) (hh : ∀ j : Nat, (j : Int) < m → (f (d + j)).toInt = c + (h j).toInt) (m0 : 0 ≤ m) (ho : o.toInt = d + m) (hx : x.toInt = c + (h m.toNat).toInt) (hm : m1 = m + 1) : ∀ j : Nat, (j : Int) < m1 → (f1 (d + j)).toInt = c + (h j).toInt := by
  intro j hj
  have eo : o.toNatClampNeg = o.toInt.toNat := rfl
  rw [e]
  unfold upd
  by_cases q : d + j = o.toNatClampNeg
  · rw [if_pos q, show j = m.toNat by omega]; exact hx
  · rw [if_neg q]; exact hh j (by omega)
theorem row_sc {f f1 h : Nat → Int32} {o x : Int32} {m m1 : Int} {d : Nat} (e : f1 = upd f o.toNatClampNeg x) (hh : ∀ j : Nat, (j : Int) < m → f (d + j) = h j) (m0 : 0 ≤ m) (ho : o.toInt = d + m) (hx : x = h m.toNat) (hm : m1 = m + 1) : ∀ j : Nat, (j : Int) < m1 → f1 (d + j) = h j := by
  intro j hj
  have eo : o.toNatClampNeg = o.toInt.toNat := rfl
  rw [e]
  unfold upd
  by_cases q : d + j = o.toNatClampNeg
  · rw [if_pos q, show j = m.toNat by omega]; exact hx
  · rw [if_neg q]; exact hh j (by omega)

theorem dX12_law_0 : decode cX12_law 0 = .ok (.iload_n 1, 1) := by decide +kernel
theorem dX12_law_1 : decode cX12_law 1 = .ok (.i2l, 1) := by decide +kernel
theorem dX12_law_2 : decode cX12_law 2 = .ok (.lconst 1, 1) := by decide +kernel
theorem dX12_law_3 : decode cX12_law 3 = .ok (.ldc2_w 357, 3) := by decide +kernel
theorem dX12_law_6 : decode cX12_law 6 = .ok (.invokestatic 190, 3) := by decide +kernel
theorem dX12_law_9 : decode cX12_law 9 = .ok (.ifCond .eq 11, 3) := by decide +kernel
theorem dX12_law_12 : decode cX12_law 12 = .ok (.iload_n 1, 1) := by decide +kernel
theorem dX12_law_13 : decode cX12_law 13 = .ok (.aload_n 0, 1) := by decide +kernel
theorem dX12_law_14 : decode cX12_law 14 = .ok (.getfield 166, 3) := by decide +kernel
theorem dX12_law_17 : decode cX12_law 17 = .ok (.if_icmp .le 5, 3) := by decide +kernel
theorem dX12_law_20 : decode cX12_law 20 = .ok (.iconst (-1), 1) := by decide +kernel
theorem dX12_law_21 : decode cX12_law 21 = .ok (.ireturn, 1) := by decide +kernel
theorem dX12_law_22 : decode cX12_law 22 = .ok (.aload_n 0, 1) := by decide +kernel
theorem dX12_law_23 : decode cX12_law 23 = .ok (.iload_n 1, 1) := by decide +kernel
theorem dX12_law_24 : decode cX12_law 24 = .ok (.invokevirtual 270, 3) := by decide +kernel
theorem dX12_law_27 : decode cX12_law 27 = .ok (.aload_n 0, 1) := by decide +kernel
theorem dX12_law_28 : decode cX12_law 28 = .ok (.iconst 0, 1) := by decide +kernel
theorem dX12_law_29 : decode cX12_law 29 = .ok (.putfield 351, 3) := by decide +kernel
theorem dX12_law_32 : decode cX12_law 32 = .ok (.aload_n 0, 1) := by decide +kernel
theorem dX12_law_33 : decode cX12_law 33 = .ok (.iconst 0, 1) := by decide +kernel
theorem dX12_law_34 : decode cX12_law 34 = .ok (.putfield 278, 3) := by decide +kernel
theorem dX12_law_37 : decode cX12_law 37 = .ok (.iconst 1, 1) := by decide +kernel
theorem dX12_law_38 : decode cX12_law 38 = .ok (.istore_n 2, 1) := by decide +kernel
theorem dX12_law_39 : decode cX12_law 39 = .ok (.iload_n 2, 1) := by decide +kernel
theorem dX12_law_40 : decode cX12_law 40 = .ok (.ifCond .eq 73, 3) := by decide +kernel
theorem dX12_law_43 : decode cX12_law 43 = .ok (.aload_n 0, 1) := by decide +kernel
theorem dX12_law_44 : decode cX12_law 44 = .ok (.invokevirtual 234, 3) := by decide +kernel
theorem dX12_law_47 : decode cX12_law 47 = .ok (.ifCond .eq 66, 3) := by decide +kernel
theorem dX12_law_50 : decode cX12_law 50 = .ok (.aload_n 0, 1) := by decide +kernel
theorem dX12_law_51 : decode cX12_law 51 = .ok (.invokevirtual 359, 3) := by decide +kernel
theorem dX12_law_54 : decode cX12_law 54 = .ok (.aload_n 0, 1) := by decide +kernel
theorem dX12_law_55 : decode cX12_law 55 = .ok (.invokevirtual 234, 3) := by decide +kernel
theorem dX12_law_58 : decode cX12_law 58 = .ok (.ifCond .eq 18, 3) := by decide +kernel
theorem dX12_law_61 : decode cX12_law 61 = .ok (.aload_n 0, 1) := by decide +kernel
theorem dX12_law_62 : decode cX12_law 62 = .ok (.getfield 173, 3) := by decide +kernel
theorem dX12_law_65 : decode cX12_law 65 = .ok (.aload_n 0, 1) := by decide +kernel
theorem dX12_law_66 : decode cX12_law 66 = .ok (.getfield 176, 3) := by decide +kernel
theorem dX12_law_69 : decode cX12_law 69 = .ok (.if_icmp .ge 7, 3) := by decide +kernel
theorem dX12_law_72 : decode cX12_law 72 = .ok (.iconst 1, 1) := by decide +kernel
theorem dX12_law_73 : decode cX12_law 73 = .ok (.goto 4, 3) := by decide +kernel
theorem dX12_law_76 : decode cX12_law 76 = .ok (.iconst 0, 1) := by decide +kernel
theorem dX12_law_77 : decode cX12_law 77 = .ok (.istore_n 2, 1) := by decide +kernel
theorem dX12_law_78 : decode cX12_law 78 = .ok (.iload_n 2, 1) := by decide +kernel
theorem dX12_law_79 : decode cX12_law 79 = .ok (.ifCond .eq (-40), 3) := by decide +kernel
theorem dX12_law_82 : decode cX12_law 82 = .ok (.aload_n 0, 1) := by decide +kernel
theorem dX12_law_83 : decode cX12_law 83 = .ok (.invokevirtual 182, 3) := by decide +kernel
theorem dX12_law_86 : decode cX12_law 86 = .ok (.bipush 59, 2) := by decide +kernel
theorem dX12_law_88 : decode cX12_law 88 = .ok (.if_icmp .eq 12, 3) := by decide +kernel
theorem dX12_law_91 : decode cX12_law 91 = .ok (.aload_n 0, 1) := by decide +kernel
theorem dX12_law_92 : decode cX12_law 92 = .ok (.iconst 1, 1) := by decide +kernel
theorem dX12_law_93 : decode cX12_law 93 = .ok (.aload_n 0, 1) := by decide +kernel
theorem dX12_law_94 : decode cX12_law 94 = .ok (.getfield 173, 3) := by decide +kernel
theorem dX12_law_97 : decode cX12_law 97 = .ok (.invokevirtual 230, 3) := by decide +kernel
theorem dX12_law_100 : decode cX12_law 100 = .ok (.aload_n 0, 1) := by decide +kernel
theorem dX12_law_101 : decode cX12_law 101 = .ok (.dup, 1) := by decide +kernel
theorem dX12_law_102 : decode cX12_law 102 = .ok (.getfield 173, 3) := by decide +kernel
theorem dX12_law_105 : decode cX12_law 105 = .ok (.iconst 1, 1) := by decide +kernel
theorem dX12_law_106 : decode cX12_law 106 = .ok (.iadd, 1) := by decide +kernel
theorem dX12_law_107 : decode cX12_law 107 = .ok (.putfield 173, 3) := by decide +kernel
theorem dX12_law_110 : decode cX12_law 110 = .ok (.goto (-71), 3) := by decide +kernel
theorem dX12_law_113 : decode cX12_law 113 = .ok (.aload_n 0, 1) := by decide +kernel
theorem dX12_law_114 : decode cX12_law 114 = .ok (.getfield 179, 3) := by decide +kernel
theorem dX12_law_117 : decode cX12_law 117 = .ok (.ifCond .ge 8, 3) := by decide +kernel
theorem dX12_law_120 : decode cX12_law 120 = .ok (.aload_n 0, 1) := by decide +kernel
theorem dX12_law_121 : decode cX12_law 121 = .ok (.getfield 179, 3) := by decide +kernel
theorem dX12_law_124 : decode cX12_law 124 = .ok (.ireturn, 1) := by decide +kernel
theorem dX12_law_125 : decode cX12_law 125 = .ok (.iconst 0, 1) := by decide +kernel
theorem dX12_law_126 : decode cX12_law 126 = .ok (.istore_n 3, 1) := by decide +kernel
theorem dX12_law_127 : decode cX12_law 127 = .ok (.iload_n 3, 1) := by decide +kernel
theorem dX12_law_128 : decode cX12_law 128 = .ok (.aload_n 0, 1) := by decide +kernel
theorem dX12_law_129 : decode cX12_law 129 = .ok (.getfield 351, 3) := by decide +kernel
theorem dX12_law_132 : decode cX12_law 132 = .ok (.if_icmp .ge 57, 3) := by decide +kernel
theorem dX12_law_135 : decode cX12_law 135 = .ok (.aload_n 0, 1) := by decide +kernel
theorem dX12_law_136 : decode cX12_law 136 = .ok (.getfield 52, 3) := by decide +kernel
theorem dX12_law_139 : decode cX12_law 139 = .ok (.iload_n 3, 1) := by decide +kernel
theorem dX12_law_140 : decode cX12_law 140 = .ok (.aload_n 0, 1) := by decide +kernel
theorem dX12_law_141 : decode cX12_law 141 = .ok (.getfield 73, 3) := by decide +kernel
theorem dX12_law_144 : decode cX12_law 144 = .ok (.iload_n 3, 1) := by decide +kernel
theorem dX12_law_145 : decode cX12_law 145 = .ok (.iaload, 1) := by decide +kernel
theorem dX12_law_146 : decode cX12_law 146 = .ok (.iastore, 1) := by decide +kernel
theorem dX12_law_147 : decode cX12_law 147 = .ok (.aload_n 0, 1) := by decide +kernel
theorem dX12_law_148 : decode cX12_law 148 = .ok (.getfield 55, 3) := by decide +kernel
theorem dX12_law_151 : decode cX12_law 151 = .ok (.iload_n 3, 1) := by decide +kernel
theorem dX12_law_152 : decode cX12_law 152 = .ok (.aload_n 0, 1) := by decide +kernel
theorem dX12_law_153 : decode cX12_law 153 = .ok (.getfield 76, 3) := by decide +kernel
theorem dX12_law_156 : decode cX12_law 156 = .ok (.iload_n 3, 1) := by decide +kernel
theorem dX12_law_157 : decode cX12_law 157 = .ok (.iaload, 1) := by decide +kernel
theorem dX12_law_158 : decode cX12_law 158 = .ok (.iastore, 1) := by decide +kernel
theorem dX12_law_159 : decode cX12_law 159 = .ok (.aload_n 0, 1) := by decide +kernel
theorem dX12_law_160 : decode cX12_law 160 = .ok (.getfield 58, 3) := by decide +kernel
theorem dX12_law_163 : decode cX12_law 163 = .ok (.iload_n 3, 1) := by decide +kernel
theorem dX12_law_164 : decode cX12_law 164 = .ok (.aload_n 0, 1) := by decide +kernel
theorem dX12_law_165 : decode cX12_law 165 = .ok (.getfield 79, 3) := by decide +kernel
theorem dX12_law_168 : decode cX12_law 168 = .ok (.iload_n 3, 1) := by decide +kernel
theorem dX12_law_169 : decode cX12_law 169 = .ok (.iaload, 1) := by decide +kernel
theorem dX12_law_170 : decode cX12_law 170 = .ok (.iastore, 1) := by decide +kernel
theorem dX12_law_171 : decode cX12_law 171 = .ok (.aload_n 0, 1) := by decide +kernel
theorem dX12_law_172 : decode cX12_law 172 = .ok (.getfield 61, 3) := by decide +kernel
theorem dX12_law_175 : decode cX12_law 175 = .ok (.iload_n 3, 1) := by decide +kernel
theorem dX12_law_176 : decode cX12_law 176 = .ok (.aload_n 0, 1) := by decide +kernel
theorem dX12_law_177 : decode cX12_law 177 = .ok (.getfield 82, 3) := by decide +kernel
theorem dX12_law_180 : decode cX12_law 180 = .ok (.iload_n 3, 1) := by decide +kernel
theorem dX12_law_181 : decode cX12_law 181 = .ok (.iaload, 1) := by decide +kernel
theorem dX12_law_182 : decode cX12_law 182 = .ok (.iastore, 1) := by decide +kernel
theorem dX12_law_183 : decode cX12_law 183 = .ok (.iinc 3 1, 3) := by decide +kernel
theorem dX12_law_186 : decode cX12_law 186 = .ok (.goto (-59), 3) := by decide +kernel
theorem dX12_law_189 : decode cX12_law 189 = .ok (.iconst 0, 1) := by decide +kernel
theorem dX12_law_190 : decode cX12_law 190 = .ok (.istore_n 3, 1) := by decide +kernel
theorem dX12_law_191 : decode cX12_law 191 = .ok (.iload_n 3, 1) := by decide +kernel
theorem dX12_law_192 : decode cX12_law 192 = .ok (.aload_n 0, 1) := by decide +kernel
theorem dX12_law_193 : decode cX12_law 193 = .ok (.getfield 278, 3) := by decide +kernel
theorem dX12_law_196 : decode cX12_law 196 = .ok (.if_icmp .ge 33, 3) := by decide +kernel
theorem dX12_law_199 : decode cX12_law 199 = .ok (.aload_n 0, 1) := by decide +kernel
theorem dX12_law_200 : decode cX12_law 200 = .ok (.getfield 64, 3) := by decide +kernel
theorem dX12_law_203 : decode cX12_law 203 = .ok (.iload_n 3, 1) := by decide +kernel
theorem dX12_law_204 : decode cX12_law 204 = .ok (.aload_n 0, 1) := by decide +kernel
theorem dX12_law_205 : decode cX12_law 205 = .ok (.getfield 85, 3) := by decide +kernel
theorem dX12_law_208 : decode cX12_law 208 = .ok (.iload_n 3, 1) := by decide +kernel
theorem dX12_law_209 : decode cX12_law 209 = .ok (.iaload, 1) := by decide +kernel
theorem dX12_law_210 : decode cX12_law 210 = .ok (.iastore, 1) := by decide +kernel
theorem dX12_law_211 : decode cX12_law 211 = .ok (.aload_n 0, 1) := by decide +kernel
theorem dX12_law_212 : decode cX12_law 212 = .ok (.getfield 67, 3) := by decide +kernel
theorem dX12_law_215 : decode cX12_law 215 = .ok (.iload_n 3, 1) := by decide +kernel
theorem dX12_law_216 : decode cX12_law 216 = .ok (.aload_n 0, 1) := by decide +kernel
theorem dX12_law_217 : decode cX12_law 217 = .ok (.getfield 88, 3) := by decide +kernel
theorem dX12_law_220 : decode cX12_law 220 = .ok (.iload_n 3, 1) := by decide +kernel
theorem dX12_law_221 : decode cX12_law 221 = .ok (.iaload, 1) := by decide +kernel
theorem dX12_law_222 : decode cX12_law 222 = .ok (.iastore, 1) := by decide +kernel
theorem dX12_law_223 : decode cX12_law 223 = .ok (.iinc 3 1, 3) := by decide +kernel
theorem dX12_law_226 : decode cX12_law 226 = .ok (.goto (-35), 3) := by decide +kernel
theorem dX12_law_229 : decode cX12_law 229 = .ok (.aload_n 0, 1) := by decide +kernel
theorem dX12_law_230 : decode cX12_law 230 = .ok (.getfield 70, 3) := by decide +kernel
theorem dX12_law_233 : decode cX12_law 233 = .ok (.iconst 0, 1) := by decide +kernel
theorem dX12_law_234 : decode cX12_law 234 = .ok (.aload_n 0, 1) := by decide +kernel
theorem dX12_law_235 : decode cX12_law 235 = .ok (.getfield 351, 3) := by decide +kernel
theorem dX12_law_238 : decode cX12_law 238 = .ok (.iastore, 1) := by decide +kernel
theorem dX12_law_239 : decode cX12_law 239 = .ok (.aload_n 0, 1) := by decide +kernel
theorem dX12_law_240 : decode cX12_law 240 = .ok (.aload_n 0, 1) := by decide +kernel
theorem dX12_law_241 : decode cX12_law 241 = .ok (.getfield 278, 3) := by decide +kernel
theorem dX12_law_244 : decode cX12_law 244 = .ok (.putfield 362, 3) := by decide +kernel
theorem dX12_law_247 : decode cX12_law 247 = .ok (.aload_n 0, 1) := by decide +kernel
theorem dX12_law_248 : decode cX12_law 248 = .ok (.getfield 351, 3) := by decide +kernel
theorem dX12_law_251 : decode cX12_law 251 = .ok (.ireturn, 1) := by decide +kernel
theorem FP_X12_362 : FPX RX12 362 12 86 32 .int := ⟨⟨RX12, TX12, tyX12, rfl, wX12, by decide, kAW (v_4_4 (List.mem_of_getElem? (i := 13) rfl)) rfl, rfl, tyX12_ok, nmX12, by decide +kernel, rfl⟩, by decide +kernel⟩
theorem myX12_clause : MI yX12_clause cX12_clause 2 none 0 := ⟨kAW (v_5_11 (List.mem_of_getElem? (i := 14) rfl)) rfl, kAW (v_0_0 (List.mem_of_getElem? (i := 13) rfl)) rfl, kAW (v_5_11 (List.mem_of_getElem? (i := 13) rfl)) rfl, kAW (tp_t2 (List.mem_of_getElem? (i := 15) rfl)) rfl, by decide, by decide, by decide +kernel⟩
set_option maxRecDepth 100000 in
set_option maxHeartbeats 4000000 in
theorem p_X12_law (l : Launch) (D : va_G) (cA : Nat → ClassId) (ad : Nat → Nat) (g0 : Nat → va_E) (a : Int32) (cm : Int32)  (hSh : Shp ad cA g0) (hG : Rng g0) (h_cm : fld g0 129 32 = .int cm) (hQ : LWQ g0) : CT l NN ad cA D yX12_law cX12_law 4 (some FieldType.int) (8, 171) [.ref (ad 129), .int a] g0 (fun v g' => ∃ (r : Int32), v = some (.int r) ∧ Shp ad cA g' ∧ Rng g' ∧ FR (fun i k => (i = 129 ∧ (k = 1 ∨ k = 3 ∨ k = 4 ∨ k = 5 ∨ k = 6 ∨ k = 7 ∨ k = 8 ∨ k = 9 ∨ k = 32 ∨ k = 39 ∨ k = 40)) ∨ (142 ≤ i ∧ i < 156)) g0 g' ∧ (LWQ g')) := by
  refine q_enterI (by decide) (Nat.le_of_ble_eq_true rfl) rfl (fun K H locs ls _ _ hM hW0 hR hC hE hl => ?_)
  have hl : lv_has ls 4 [(0, .ref (ad 129)), (1, .int a)] := hl
  have hW : WS ad cA (fun i k => (i = 129 ∧ (k = 1 ∨ k = 3 ∨ k = 4 ∨ k = 5 ∨ k = 6 ∨ k = 7 ∨ k = 8 ∨ k = 9 ∨ k = 32 ∨ k = 39 ∨ k = 40)) ∨ (142 ≤ i ∧ i < 156)) g0 K g0 H locs := ⟨hW0, hSh, FR.rf⟩
  have b_cm := hG.f h_cm rF_129_32 (by decide)
  have := kc_0
  have := kc_1
  have := kc_m1
  have := kc_m2
  have f11697 : fld g0 129 32 = .int cm := h_cm
  refine q_iload_n hM dX12_law_0 (lv_at hl 1 rfl) ?_
  refine q_i2l hM dX12_law_1 ?_
  have := l_i2l a
  refine q_lconst (v := 1) hM dX12_law_2 (by decide) ?_
  have := kl_1
  refine q_ldc2 (v := 240) hM (kAW (v_5_11 (List.mem_of_getElem? (i := 10) rfl)) rfl) dX12_law_3 ?_
  have := kl_240
  refine q_callS (As := [.long a.toInt64, .long (1 : Int64), .long (240 : Int64)]) (rest := []) hM hW.1 hR hC myX12_lies (kAW (v_5_4 (List.mem_of_getElem? (i := 14) rfl)) rfl) (c_X12_lies _ _ cA ad g0 a.toInt64 (1 : Int64) (240 : Int64) hW.2.1) ⟨by decide, by decide⟩ rfl rfl hl.1 (Nat.le_of_ble_eq_true rfl) dX12_law_6 (fun v g11699 H locs hp hW1 => ?_)
  obtain ⟨r11698, rfl, hr11698, rfl⟩ := hp
  have hW : WS ad cA (fun i k => (i = 129 ∧ (k = 1 ∨ k = 3 ∨ k = 4 ∨ k = 5 ∨ k = 6 ∨ k = 7 ∨ k = 8 ∨ k = 9 ∨ k = 32 ∨ k = 39 ∨ k = 40)) ∨ (142 ≤ i ∧ i < 156)) g0 K g0 H locs := ⟨hW1, hW.2.1, hW.2.2⟩
  refine q_if_eq (tgt := 20) hM dX12_law_9 (by decide) (rfl : r11698.toInt = r11698.toInt) (fun h9 => ?_) (fun h9 => ?_)
  · refine q_iconst (v := ((-1) : Int32)) hM dX12_law_20 (by decide) ?_
    exact hE _ _ _ _ _ _ hW.1 ⟨_, rfl, hW.2.1, hG, hW.2.2, (LWQ_eq hQ (rfl : arI g0 143 = arI g0 143) (rfl : arI g0 144 = arI g0 144) (rfl : arI g0 145 = arI g0 145) (rfl : arI g0 146 = arI g0 146) (rfl : arI g0 148 = arI g0 148) f11697 h_cm)⟩ dX12_law_21
  · refine q_iload_n hM dX12_law_12 (lv_at hl 1 rfl) ?_
    refine q_aload_n hM dX12_law_13 (lv_at hl 0 rfl) ?_
    refine w_getI hM hW FG_X12_166 lb_129 (by decide) (by decide) dX12_law_14 (fun x11702 fx11702 => ?_)
    have bx11702 := hG.f fx11702 rF_129_1 (by decide)
    refine q_icmp_le (tgt := 22) hM dX12_law_17 (by decide) (rfl : a.toInt = a.toInt) (rfl : x11702.toInt = x11702.toInt) (fun h17 => ?_) (fun h17 => ?_)
    · refine q_aload_n hM dX12_law_22 (lv_at hl 0 rfl) ?_
      refine q_iload_n hM dX12_law_23 (lv_at hl 1 rfl) ?_
      refine q_callV (As := [.int a]) (rest := []) hM hW.1 hR hC myX12_begins (kAW (v_5_8 (List.mem_of_getElem? (i := 7) rfl)) rfl) (rfl : vwCl[12]? = some (RX12, TX12, 86)) rfl lb_129.1 (shO hW.2.1 lb_129) (a_X12_begins _ _ cA ad g0 a hW.2.1 hG (by  omega) (by  omega)) ⟨by decide, by decide⟩ rfl rfl hl.1 (Nat.le_of_ble_eq_true rfl) dX12_law_24 (fun v g11713 H locs hp hW1 => ?_)
      obtain ⟨v11704, v11705, v11706, rfl, hs1, hG, hf1, q11707, q11708, q11709, e11710, e11711, e11712⟩ := hp
      have f11714 : arI g11713 143 = arI g0 143 := (hf1.2.1 143 (by omega)).trans (rfl : arI g0 143 = arI g0 143)
      have f11715 : arI g11713 144 = arI g0 144 := (hf1.2.1 144 (by omega)).trans (rfl : arI g0 144 = arI g0 144)
      have f11716 : arI g11713 145 = arI g0 145 := (hf1.2.1 145 (by omega)).trans (rfl : arI g0 145 = arI g0 145)
      have f11717 : arI g11713 146 = arI g0 146 := (hf1.2.1 146 (by omega)).trans (rfl : arI g0 146 = arI g0 146)
      have f11718 : arI g11713 148 = arI g0 148 := (hf1.2.1 148 (by omega)).trans (rfl : arI g0 148 = arI g0 148)
      have f11719 : fld g11713 129 32 = .int cm := (hf1.1 129 32 (by omega)).trans f11697
      have hW : WS ad cA (fun i k => (i = 129 ∧ (k = 1 ∨ k = 3 ∨ k = 4 ∨ k = 5 ∨ k = 6 ∨ k = 7 ∨ k = 8 ∨ k = 9 ∨ k = 32 ∨ k = 39 ∨ k = 40)) ∨ (142 ≤ i ∧ i < 156)) g0 K g11713 H locs := ⟨hW1, hs1, hW.2.2.tr hf1 (fun i k h => (Or.inl (by omega)))⟩
      refine q_aload_n hM dX12_law_27 (lv_at hl 0 rfl) ?_
      refine q_iconst (v := (0 : Int32)) hM dX12_law_28 (by decide) ?_
      refine w_put hM hW FP_X12_351 lb_129 (by omega) (Or.inl ⟨_, rfl⟩) rfl rfl dX12_law_29 (fun g11720 H locs hW e1 e2 => ?_)
      have f11721 : arI g11720 143 = arI g0 143 := (e2.2.1 143 (by unfold Only; omega)).trans f11714
      have f11722 : arI g11720 144 = arI g0 144 := (e2.2.1 144 (by unfold Only; omega)).trans f11715
      have f11723 : arI g11720 145 = arI g0 145 := (e2.2.1 145 (by unfold Only; omega)).trans f11716
      have f11724 : arI g11720 146 = arI g0 146 := (e2.2.1 146 (by unfold Only; omega)).trans f11717
      have f11725 : arI g11720 148 = arI g0 148 := (e2.2.1 148 (by unfold Only; omega)).trans f11718
      have f11726 : fld g11720 129 32 = .int cm := (e2.1 129 32 (by unfold Only; omega)).trans f11719
      have f11727 : fld g11720 129 3 = .int v11704 := (e2.1 129 3 (by unfold Only; omega)).trans q11707
      have f11728 : fld g11720 129 4 = .int v11705 := (e2.1 129 4 (by unfold Only; omega)).trans q11708
      have f11729 : fld g11720 129 5 = .int v11706 := (e2.1 129 5 (by unfold Only; omega)).trans q11709
      have f11730 : fld g11720 129 6 = .int (0 : Int32) := e1
      have hG := hG.put e1 e2 rF_129_6 (by decide) (by have := kc_0; have := i_rng (0 : Int32); omega) (by have := kc_0; have := i_rng (0 : Int32); omega)
      refine q_aload_n hM dX12_law_32 (lv_at hl 0 rfl) ?_
      refine q_iconst (v := (0 : Int32)) hM dX12_law_33 (by decide) ?_
      refine w_put hM hW FP_X12_278 lb_129 (by omega) (Or.inl ⟨_, rfl⟩) rfl rfl dX12_law_34 (fun g11731 H locs hW e1 e2 => ?_)
      have f11732 : arI g11731 143 = arI g0 143 := (e2.2.1 143 (by unfold Only; omega)).trans f11721
      have f11733 : arI g11731 144 = arI g0 144 := (e2.2.1 144 (by unfold Only; omega)).trans f11722
      have f11734 : arI g11731 145 = arI g0 145 := (e2.2.1 145 (by unfold Only; omega)).trans f11723
      have f11735 : arI g11731 146 = arI g0 146 := (e2.2.1 146 (by unfold Only; omega)).trans f11724
      have f11736 : arI g11731 148 = arI g0 148 := (e2.2.1 148 (by unfold Only; omega)).trans f11725
      have f11737 : fld g11731 129 32 = .int cm := (e2.1 129 32 (by unfold Only; omega)).trans f11726
      have f11738 : fld g11731 129 3 = .int v11704 := (e2.1 129 3 (by unfold Only; omega)).trans f11727
      have f11739 : fld g11731 129 4 = .int v11705 := (e2.1 129 4 (by unfold Only; omega)).trans f11728
      have f11740 : fld g11731 129 5 = .int v11706 := (e2.1 129 5 (by unfold Only; omega)).trans f11729
      have f11741 : fld g11731 129 6 = .int (0 : Int32) := (e2.1 129 6 (by unfold Only; omega)).trans f11730
      have f11742 : fld g11731 129 7 = .int (0 : Int32) := e1
      have hG := hG.put e1 e2 rF_129_7 (by decide) (by have := kc_0; have := i_rng (0 : Int32); omega) (by have := kc_0; have := i_rng (0 : Int32); omega)
      refine q_iconst (v := (1 : Int32)) hM dX12_law_37 (by decide) ?_
      refine q_istore_n (lv9 := [(2, .int (1 : Int32)), (0, .ref (ad 129)), (1, .int a)]) hM dX12_law_38 hl (by decide) rfl (fun ls hl => ?_)
      have L39 : ∀ (fu39 : Nat) (w39_2 : Int32) (ee : Int32) (pp : Int32) (bb : Int32) (cc : Int32) (kk : Int32) (h9_39 : Nat → va_E) (H : Heap) (locs : List Loc) (ls : Array Slot), (ee.toInt - pp.toInt + 1).toNat + (bb.toInt + 1).toNat < fu39 → (Rng h9_39) → (0 ≤ pp.toInt) → (pp.toInt ≤ ee.toInt) → (ee.toInt ≤ 240) → (bb.toInt ≤ 0) → (0 ≤ cc.toInt) → (cc.toInt ≤ pp.toInt) → (bb.toInt = 0 → NA (arI h9_39 150) (arI h9_39 151) (arI h9_39 152) (arI h9_39 153) kk.toInt cc.toInt) → (fld h9_39 129 4 = .int ee) → (fld h9_39 129 3 = .int pp) → (fld h9_39 129 5 = .int bb) → (fld h9_39 129 7 = .int cc) → (fld h9_39 129 6 = .int kk) → (fld h9_39 129 32 = .int cm) → (arI h9_39 143 = arI g0 143) → (arI h9_39 144 = arI g0 144) → (arI h9_39 145 = arI g0 145) → (arI h9_39 146 = arI g0 146) → (arI h9_39 148 = arI g0 148) → lv_has ls 4 [(0, .ref (ad 129)), (1, .int a), (2, .int w39_2)] → WS ad cA (fun i k => (i = 129 ∧ (k = 1 ∨ k = 3 ∨ k = 4 ∨ k = 5 ∨ k = 6 ∨ k = 7 ∨ k = 8 ∨ k = 9 ∨ k = 32 ∨ k = 39 ∨ k = 40)) ∨ (142 ≤ i ∧ i < 156)) g0 K h9_39 H locs → XX K 0 0 H locs 39 ls [] := by
        intro fu39
        induction fu39 with
        | zero => intro w39_2 ee pp bb cc kk h9_39 H locs ls h0; omega
        | succ fu39 ih39 =>
          intro w39_2 ee pp bb cc kk h9_39 H locs ls hm39 i39_0 i39_1 i39_2 i39_3 i39_4 i39_5 i39_6 i39_7 c39_129_4 c39_129_3 c39_129_5 c39_129_7 c39_129_6 c39_129_32 d39_143 d39_144 d39_145 d39_146 d39_148 hl hW
          have hG := i39_0
          refine q_iload_n hM dX12_law_39 (lv_at hl 2 rfl) ?_
          refine q_if_eq (tgt := 113) hM dX12_law_40 (by decide) (rfl : w39_2.toInt = w39_2.toInt) (fun h40 => ?_) (fun h40 => ?_)
          · refine q_aload_n hM dX12_law_113 (lv_at hl 0 rfl) ?_
            refine w_get (v := .int bb) hM hW FG_X12_179 lb_129 c39_129_5 dX12_law_114 ?_
            have bbb := hG.f c39_129_5 rF_129_5 (by decide)
            refine q_if_ge (tgt := 125) hM dX12_law_117 (by decide) (rfl : bb.toInt = bb.toInt) (fun h117 => ?_) (fun h117 => ?_)
            · refine q_iconst (v := (0 : Int32)) hM dX12_law_125 (by decide) ?_
              refine q_istore_n (lv9 := [(3, .int (0 : Int32)), (0, .ref (ad 129)), (1, .int a), (2, .int w39_2)]) hM dX12_law_126 hl (by decide) rfl (fun ls hl => ?_)
              have L127 : ∀ (fu127 : Nat) (w127_3 : Int32) (h9_127 : Nat → va_E) (H : Heap) (locs : List Loc) (ls : Array Slot), (16 - w127_3.toInt).toNat < fu127 → (Rng h9_127) → (0 ≤ w127_3.toInt) → (w127_3.toInt ≤ 16) → (∀ j : Nat, (j : Int) < w127_3.toInt → arI h9_127 143 j = arI h9_39 150 j) → (∀ j : Nat, (j : Int) < w127_3.toInt → arI h9_127 144 j = arI h9_39 151 j) → (∀ j : Nat, (j : Int) < w127_3.toInt → arI h9_127 145 j = arI h9_39 152 j) → (∀ j : Nat, 16 ≤ j → arI h9_127 143 j = arI g0 143 j) → (∀ j : Nat, 16 ≤ j → arI h9_127 144 j = arI g0 144 j) → (∀ j : Nat, 16 ≤ j → arI h9_127 145 j = arI g0 145 j) → (fld h9_127 129 6 = .int kk) → (fld h9_127 129 7 = .int cc) → (fld h9_127 129 32 = .int cm) → (arI h9_127 149 = arI h9_39 149) → (arI h9_127 150 = arI h9_39 150) → (arI h9_127 151 = arI h9_39 151) → (arI h9_127 152 = arI h9_39 152) → (arI h9_127 153 = arI h9_39 153) → (arI h9_127 146 = arI g0 146) → (arI h9_127 148 = arI g0 148) → lv_has ls 4 [(0, .ref (ad 129)), (1, .int a), (2, .int w39_2), (3, .int w127_3)] → WS ad cA (fun i k => (i = 129 ∧ (k = 1 ∨ k = 3 ∨ k = 4 ∨ k = 5 ∨ k = 6 ∨ k = 7 ∨ k = 8 ∨ k = 9 ∨ k = 32 ∨ k = 39 ∨ k = 40)) ∨ (142 ≤ i ∧ i < 156)) g0 K h9_127 H locs → XX K 0 0 H locs 127 ls [] := by
                intro fu127
                induction fu127 with
                | zero => intro w127_3 h9_127 H locs ls h0; omega
                | succ fu127 ih127 =>
                  intro w127_3 h9_127 H locs ls hm127 i127_0 i127_1 i127_2 i127_3 i127_4 i127_5 i127_6 i127_7 i127_8 c127_129_6 c127_129_7 c127_129_32 d127_149 d127_150 d127_151 d127_152 d127_153 d127_146 d127_148 hl hW
                  have hG := i127_0
                  refine q_iload_n hM dX12_law_127 (lv_at hl 3 rfl) ?_
                  refine q_aload_n hM dX12_law_128 (lv_at hl 0 rfl) ?_
                  refine w_get (v := .int kk) hM hW FG_X12_351 lb_129 c127_129_6 dX12_law_129 ?_
                  have bkk := hG.f c127_129_6 rF_129_6 (by decide)
                  refine q_icmp_ge (tgt := 189) hM dX12_law_132 (by decide) (rfl : w127_3.toInt = w127_3.toInt) (rfl : kk.toInt = kk.toInt) (fun h132 => ?_) (fun h132 => ?_)
                  · refine q_iconst (v := (0 : Int32)) hM dX12_law_189 (by decide) ?_
                    refine q_istore_n (lv9 := [(3, .int (0 : Int32)), (0, .ref (ad 129)), (1, .int a), (2, .int w39_2)]) hM dX12_law_190 hl (by decide) rfl (fun ls hl => ?_)
                    have L191 : ∀ (fu191 : Nat) (w191_3 : Int32) (h9_191 : Nat → va_E) (H : Heap) (locs : List Loc) (ls : Array Slot), (240 - w191_3.toInt).toNat < fu191 → (Rng h9_191) → (0 ≤ w191_3.toInt) → (w191_3.toInt ≤ 240) → (∀ j : Nat, (j : Int) < w191_3.toInt → arI h9_191 146 j = arI h9_39 153 j) → (∀ j : Nat, 240 ≤ j → arI h9_191 146 j = arI g0 146 j) → (fld h9_191 129 6 = .int kk) → (fld h9_191 129 7 = .int cc) → (fld h9_191 129 32 = .int cm) → (arI h9_191 153 = arI h9_39 153) → (arI h9_191 148 = arI g0 148) → (arI h9_191 143 = arI h9_127 143) → (arI h9_191 144 = arI h9_127 144) → (arI h9_191 145 = arI h9_127 145) → lv_has ls 4 [(0, .ref (ad 129)), (1, .int a), (2, .int w39_2), (3, .int w191_3)] → WS ad cA (fun i k => (i = 129 ∧ (k = 1 ∨ k = 3 ∨ k = 4 ∨ k = 5 ∨ k = 6 ∨ k = 7 ∨ k = 8 ∨ k = 9 ∨ k = 32 ∨ k = 39 ∨ k = 40)) ∨ (142 ≤ i ∧ i < 156)) g0 K h9_191 H locs → XX K 0 0 H locs 191 ls [] := by
                      intro fu191
                      induction fu191 with
                      | zero => intro w191_3 h9_191 H locs ls h0; omega
                      | succ fu191 ih191 =>
                        intro w191_3 h9_191 H locs ls hm191 i191_0 i191_1 i191_2 i191_3 i191_4 c191_129_6 c191_129_7 c191_129_32 d191_153 d191_148 d191_143 d191_144 d191_145 hl hW
                        have hG := i191_0
                        refine q_iload_n hM dX12_law_191 (lv_at hl 3 rfl) ?_
                        refine q_aload_n hM dX12_law_192 (lv_at hl 0 rfl) ?_
                        refine w_get (v := .int cc) hM hW FG_X12_278 lb_129 c191_129_7 dX12_law_193 ?_
                        have bcc := hG.f c191_129_7 rF_129_7 (by decide)
                        refine q_icmp_ge (tgt := 229) hM dX12_law_196 (by decide) (rfl : w191_3.toInt = w191_3.toInt) (rfl : cc.toInt = cc.toInt) (fun h196 => ?_) (fun h196 => ?_)
                        · refine q_aload_n hM dX12_law_229 (lv_at hl 0 rfl) ?_
                          refine w_get (v := .ref (ad 148)) hM hW FG_X12_70 lb_129 (rf_129_30 hW.2.1) dX12_law_230 ?_
                          refine q_iconst (v := (0 : Int32)) hM dX12_law_233 (by decide) ?_
                          refine q_aload_n hM dX12_law_234 (lv_at hl 0 rfl) ?_
                          refine w_get (v := .int kk) hM hW FG_X12_351 lb_129 c191_129_6 dX12_law_235 ?_
                          have bkk := hG.f c191_129_6 rF_129_6 (by decide)
                          refine w_iast hM hW lb_148 (by omega) (i_in (by rw [kc_0]; decide) (by rw [kc_0]; decide)) dX12_law_238 (fun g11750 H locs hW e1 e2 => ?_)
                          have f11751 : fld g11750 129 6 = .int kk := (e2.1 129 6 (by unfold Only; omega)).trans c191_129_6
                          have f11752 : fld g11750 129 7 = .int cc := (e2.1 129 7 (by unfold Only; omega)).trans c191_129_7
                          have f11753 : fld g11750 129 32 = .int cm := (e2.1 129 32 (by unfold Only; omega)).trans c191_129_32
                          have f11754 : arI g11750 153 = arI h9_39 153 := (e2.2.1 153 (by unfold Only; omega)).trans d191_153
                          have f11755 : arI g11750 143 = arI h9_127 143 := (e2.2.1 143 (by unfold Only; omega)).trans d191_143
                          have f11756 : arI g11750 144 = arI h9_127 144 := (e2.2.1 144 (by unfold Only; omega)).trans d191_144
                          have f11757 : arI g11750 145 = arI h9_127 145 := (e2.2.1 145 (by unfold Only; omega)).trans d191_145
                          have f11758 : arI g11750 146 = arI h9_191 146 := (e2.2.1 146 (by unfold Only; omega)).trans (rfl : arI h9_191 146 = arI h9_191 146)
                          have f11759 := e1
                          rw [d191_148] at f11759
                          have hG := hG.st e1 e2 rA_148 (by have := i_rng kk; omega) (by have := i_rng kk; omega)
                          refine q_aload_n hM dX12_law_239 (lv_at hl 0 rfl) ?_
                          refine q_aload_n hM dX12_law_240 (lv_at hl 0 rfl) ?_
                          refine w_get (v := .int cc) hM hW FG_X12_278 lb_129 f11752 dX12_law_241 ?_
                          have bcc := hG.f f11752 rF_129_7 (by decide)
                          refine w_put hM hW FP_X12_362 lb_129 (by omega) (Or.inl ⟨_, rfl⟩) rfl rfl dX12_law_244 (fun g11760 H locs hW e1 e2 => ?_)
                          have f11761 : fld g11760 129 6 = .int kk := (e2.1 129 6 (by unfold Only; omega)).trans f11751
                          have f11762 : fld g11760 129 7 = .int cc := (e2.1 129 7 (by unfold Only; omega)).trans f11752
                          have f11763 : arI g11760 153 = arI h9_39 153 := (e2.2.1 153 (by unfold Only; omega)).trans f11754
                          have f11764 : arI g11760 143 = arI h9_127 143 := (e2.2.1 143 (by unfold Only; omega)).trans f11755
                          have f11765 : arI g11760 144 = arI h9_127 144 := (e2.2.1 144 (by unfold Only; omega)).trans f11756
                          have f11766 : arI g11760 145 = arI h9_127 145 := (e2.2.1 145 (by unfold Only; omega)).trans f11757
                          have f11767 : arI g11760 146 = arI h9_191 146 := (e2.2.1 146 (by unfold Only; omega)).trans f11758
                          have f11768 : arI g11760 148 = upd (arI g0 148) (0 : Int32).toNatClampNeg kk := (e2.2.1 148 (by unfold Only; omega)).trans f11759
                          have f11769 : fld g11760 129 32 = .int cc := e1
                          have hG := hG.put e1 e2 rF_129_32 (by decide) (by have := i_rng cc; omega) (by have := i_rng cc; omega)
                          refine q_aload_n hM dX12_law_247 (lv_at hl 0 rfl) ?_
                          refine w_get (v := .int kk) hM hW FG_X12_351 lb_129 f11761 dX12_law_248 ?_
                          have bkk := hG.f f11761 rF_129_6 (by decide)
                          exact hE _ _ _ _ _ _ hW.1 ⟨_, rfl, hW.2.1, hG, hW.2.2, (LWQ_law hQ (i39_7 (by omega)) (by omega) (by omega) (by omega) (fun j hj => ⟨by rw [f11764]; exact i127_3 j (by omega), by rw [f11765]; exact i127_4 j (by omega), by rw [f11766]; exact i127_5 j (by omega)⟩) (fun j hj => ⟨by rw [f11764]; exact i127_6 j hj, by rw [f11765]; exact i127_7 j hj, by rw [f11766]; exact i127_8 j hj⟩) (fun j hj => by rw [f11767]; exact i191_3 j (by omega)) (fun j hj => by rw [f11767]; exact i191_4 j hj) (by rw [f11768]; unfold upd; rw [if_pos (by decide)]) (by rw [f11768]; unfold upd; rw [if_neg (by decide)]) (by rw [fI_of f11769]))⟩ dX12_law_251
                        · refine q_aload_n hM dX12_law_199 (lv_at hl 0 rfl) ?_
                          refine w_get (v := .ref (ad 146)) hM hW FG_X12_64 lb_129 (rf_129_28 hW.2.1) dX12_law_200 ?_
                          refine q_iload_n hM dX12_law_203 (lv_at hl 3 rfl) ?_
                          refine q_aload_n hM dX12_law_204 (lv_at hl 0 rfl) ?_
                          refine w_get (v := .ref (ad 153)) hM hW FG_X12_85 lb_129 (rf_129_37 hW.2.1) dX12_law_205 ?_
                          refine q_iload_n hM dX12_law_208 (lv_at hl 3 rfl) ?_
                          refine w_iald hM hW lb_153 (i_in (by omega) (by omega)) dX12_law_209 ?_
                          refine q_top (fun y11771 hy11771 => ?_)
                          rw [d191_153] at hy11771
                          refine w_iast hM hW lb_146 (by omega) (i_in (by omega) (by omega)) dX12_law_210 (fun g11772 H locs hW e1 e2 => ?_)
                          have f11773 : fld g11772 129 6 = .int kk := (e2.1 129 6 (by unfold Only; omega)).trans c191_129_6
                          have f11774 : fld g11772 129 7 = .int cc := (e2.1 129 7 (by unfold Only; omega)).trans c191_129_7
                          have f11775 : fld g11772 129 32 = .int cm := (e2.1 129 32 (by unfold Only; omega)).trans c191_129_32
                          have f11776 : arI g11772 153 = arI h9_39 153 := (e2.2.1 153 (by unfold Only; omega)).trans d191_153
                          have f11777 : arI g11772 148 = arI g0 148 := (e2.2.1 148 (by unfold Only; omega)).trans d191_148
                          have f11778 : arI g11772 143 = arI h9_127 143 := (e2.2.1 143 (by unfold Only; omega)).trans d191_143
                          have f11779 : arI g11772 144 = arI h9_127 144 := (e2.2.1 144 (by unfold Only; omega)).trans d191_144
                          have f11780 : arI g11772 145 = arI h9_127 145 := (e2.2.1 145 (by unfold Only; omega)).trans d191_145
                          have f11781 := e1
                          rw [(rfl : arI h9_191 146 = arI h9_191 146)] at f11781
                          have hG := hG.st e1 e2 (rfl : rA 146 = (-2147483648, 2147483647)) (by have := i_rng y11771; omega) (by have := i_rng y11771; omega)
                          refine q_aload_n hM dX12_law_211 (lv_at hl 0 rfl) ?_
                          refine w_get (v := .ref (ad 147)) hM hW FG_X12_67 lb_129 (rf_129_29 hW.2.1) dX12_law_212 ?_
                          refine q_iload_n hM dX12_law_215 (lv_at hl 3 rfl) ?_
                          refine q_aload_n hM dX12_law_216 (lv_at hl 0 rfl) ?_
                          refine w_get (v := .ref (ad 154)) hM hW FG_X12_88 lb_129 (rf_129_38 hW.2.1) dX12_law_217 ?_
                          refine q_iload_n hM dX12_law_220 (lv_at hl 3 rfl) ?_
                          refine w_iald hM hW lb_154 (i_in (by omega) (by omega)) dX12_law_221 ?_
                          refine q_top (fun y11782 hy11782 => ?_)
                          refine w_iast hM hW lb_147 (by omega) (i_in (by omega) (by omega)) dX12_law_222 (fun g11783 H locs hW e1 e2 => ?_)
                          have f11784 : fld g11783 129 6 = .int kk := (e2.1 129 6 (by unfold Only; omega)).trans f11773
                          have f11785 : fld g11783 129 7 = .int cc := (e2.1 129 7 (by unfold Only; omega)).trans f11774
                          have f11786 : fld g11783 129 32 = .int cm := (e2.1 129 32 (by unfold Only; omega)).trans f11775
                          have f11787 : arI g11783 153 = arI h9_39 153 := (e2.2.1 153 (by unfold Only; omega)).trans f11776
                          have f11788 : arI g11783 148 = arI g0 148 := (e2.2.1 148 (by unfold Only; omega)).trans f11777
                          have f11789 : arI g11783 143 = arI h9_127 143 := (e2.2.1 143 (by unfold Only; omega)).trans f11778
                          have f11790 : arI g11783 144 = arI h9_127 144 := (e2.2.1 144 (by unfold Only; omega)).trans f11779
                          have f11791 : arI g11783 145 = arI h9_127 145 := (e2.2.1 145 (by unfold Only; omega)).trans f11780
                          have f11792 : arI g11783 146 = upd (arI h9_191 146) w191_3.toNatClampNeg y11771 := (e2.2.1 146 (by unfold Only; omega)).trans f11781
                          have hG := hG.st e1 e2 (rfl : rA 147 = (-2147483648, 2147483647)) (by have := i_rng y11782; omega) (by have := i_rng y11782; omega)
                          refine q_iinc (lv9 := fun z11793 => [(3, .int z11793), (0, .ref (ad 129)), (1, .int a), (2, .int w39_2)]) hM dX12_law_223 hl (kq := 3) rfl (by decide) (fun _ => rfl) (fun z11793 ls hz11793 hl => ?_)
                          first | have tz11793 := i_addT hz11793 (rfl : w191_3.toInt = w191_3.toInt) (kc_1 : (Int32.ofInt 1).toInt = 1) (by omega) (by omega) | skip
                          refine q_goto (tgt := 191) hM dX12_law_226 (by decide) ?_
                          exact ih191 z11793 _ _ _ _ (by omega) hG (by omega) (by omega) (by rw [f11792]; exact row_cp rfl i191_3 hy11771 (by omega)) (by rw [f11792]; exact row_up rfl i191_4 (by show w191_3.toInt.toNat < 240; omega)) f11784 f11785 f11786 f11787 f11788 f11789 f11790 f11791 (lv_sub hl [1, 2, 3, 0] rfl) hW
                    have := kc_0
                    exact L191 _ (0 : Int32) _ _ _ _ (Nat.lt_succ_self _) hG (by omega) (by omega) (fun j hj => absurd hj (by have := kc_0; omega)) (fun j hj => by rw [d127_146]) c127_129_6 c127_129_7 c127_129_32 d127_153 d127_148 (rfl : arI h9_127 143 = arI h9_127 143) (rfl : arI h9_127 144 = arI h9_127 144) (rfl : arI h9_127 145 = arI h9_127 145) (lv_sub hl [1, 2, 3, 0] rfl) hW
                  · refine q_aload_n hM dX12_law_135 (lv_at hl 0 rfl) ?_
                    refine w_get (v := .ref (ad 142)) hM hW FG_X12_52 lb_129 (rf_129_24 hW.2.1) dX12_law_136 ?_
                    refine q_iload_n hM dX12_law_139 (lv_at hl 3 rfl) ?_
                    refine q_aload_n hM dX12_law_140 (lv_at hl 0 rfl) ?_
                    refine w_get (v := .ref (ad 149)) hM hW FG_X12_73 lb_129 (rf_129_33 hW.2.1) dX12_law_141 ?_
                    refine q_iload_n hM dX12_law_144 (lv_at hl 3 rfl) ?_
                    refine w_iald hM hW lb_149 (i_in (by omega) (by omega)) dX12_law_145 ?_
                    refine q_top (fun y11795 hy11795 => ?_)
                    refine w_iast hM hW lb_142 (by omega) (i_in (by omega) (by omega)) dX12_law_146 (fun g11796 H locs hW e1 e2 => ?_)
                    have f11797 : fld g11796 129 6 = .int kk := (e2.1 129 6 (by unfold Only; omega)).trans c127_129_6
                    have f11798 : fld g11796 129 7 = .int cc := (e2.1 129 7 (by unfold Only; omega)).trans c127_129_7
                    have f11799 : fld g11796 129 32 = .int cm := (e2.1 129 32 (by unfold Only; omega)).trans c127_129_32
                    have f11800 : arI g11796 149 = arI h9_39 149 := (e2.2.1 149 (by unfold Only; omega)).trans d127_149
                    have f11801 : arI g11796 150 = arI h9_39 150 := (e2.2.1 150 (by unfold Only; omega)).trans d127_150
                    have f11802 : arI g11796 151 = arI h9_39 151 := (e2.2.1 151 (by unfold Only; omega)).trans d127_151
                    have f11803 : arI g11796 152 = arI h9_39 152 := (e2.2.1 152 (by unfold Only; omega)).trans d127_152
                    have f11804 : arI g11796 153 = arI h9_39 153 := (e2.2.1 153 (by unfold Only; omega)).trans d127_153
                    have f11805 : arI g11796 146 = arI g0 146 := (e2.2.1 146 (by unfold Only; omega)).trans d127_146
                    have f11806 : arI g11796 148 = arI g0 148 := (e2.2.1 148 (by unfold Only; omega)).trans d127_148
                    have f11807 : arI g11796 143 = arI h9_127 143 := (e2.2.1 143 (by unfold Only; omega)).trans (rfl : arI h9_127 143 = arI h9_127 143)
                    have f11808 : arI g11796 144 = arI h9_127 144 := (e2.2.1 144 (by unfold Only; omega)).trans (rfl : arI h9_127 144 = arI h9_127 144)
                    have f11809 : arI g11796 145 = arI h9_127 145 := (e2.2.1 145 (by unfold Only; omega)).trans (rfl : arI h9_127 145 = arI h9_127 145)
                    have hG := hG.st e1 e2 (rfl : rA 142 = (-2147483648, 2147483647)) (by have := i_rng y11795; omega) (by have := i_rng y11795; omega)
                    refine q_aload_n hM dX12_law_147 (lv_at hl 0 rfl) ?_
                    refine w_get (v := .ref (ad 143)) hM hW FG_X12_55 lb_129 (rf_129_25 hW.2.1) dX12_law_148 ?_
                    refine q_iload_n hM dX12_law_151 (lv_at hl 3 rfl) ?_
                    refine q_aload_n hM dX12_law_152 (lv_at hl 0 rfl) ?_
                    refine w_get (v := .ref (ad 150)) hM hW FG_X12_76 lb_129 (rf_129_34 hW.2.1) dX12_law_153 ?_
                    refine q_iload_n hM dX12_law_156 (lv_at hl 3 rfl) ?_
                    refine w_iald hM hW lb_150 (i_in (by omega) (by omega)) dX12_law_157 ?_
                    refine q_top (fun y11810 hy11810 => ?_)
                    rw [f11801] at hy11810
                    refine w_iast hM hW lb_143 (by omega) (i_in (by omega) (by omega)) dX12_law_158 (fun g11811 H locs hW e1 e2 => ?_)
                    have f11812 : fld g11811 129 6 = .int kk := (e2.1 129 6 (by unfold Only; omega)).trans f11797
                    have f11813 : fld g11811 129 7 = .int cc := (e2.1 129 7 (by unfold Only; omega)).trans f11798
                    have f11814 : fld g11811 129 32 = .int cm := (e2.1 129 32 (by unfold Only; omega)).trans f11799
                    have f11815 : arI g11811 149 = arI h9_39 149 := (e2.2.1 149 (by unfold Only; omega)).trans f11800
                    have f11816 : arI g11811 150 = arI h9_39 150 := (e2.2.1 150 (by unfold Only; omega)).trans f11801
                    have f11817 : arI g11811 151 = arI h9_39 151 := (e2.2.1 151 (by unfold Only; omega)).trans f11802
                    have f11818 : arI g11811 152 = arI h9_39 152 := (e2.2.1 152 (by unfold Only; omega)).trans f11803
                    have f11819 : arI g11811 153 = arI h9_39 153 := (e2.2.1 153 (by unfold Only; omega)).trans f11804
                    have f11820 : arI g11811 146 = arI g0 146 := (e2.2.1 146 (by unfold Only; omega)).trans f11805
                    have f11821 : arI g11811 148 = arI g0 148 := (e2.2.1 148 (by unfold Only; omega)).trans f11806
                    have f11822 : arI g11811 144 = arI h9_127 144 := (e2.2.1 144 (by unfold Only; omega)).trans f11808
                    have f11823 : arI g11811 145 = arI h9_127 145 := (e2.2.1 145 (by unfold Only; omega)).trans f11809
                    have f11824 := e1
                    rw [f11807] at f11824
                    have hG := hG.st e1 e2 (rfl : rA 143 = (-2147483648, 2147483647)) (by have := i_rng y11810; omega) (by have := i_rng y11810; omega)
                    refine q_aload_n hM dX12_law_159 (lv_at hl 0 rfl) ?_
                    refine w_get (v := .ref (ad 144)) hM hW FG_X12_58 lb_129 (rf_129_26 hW.2.1) dX12_law_160 ?_
                    refine q_iload_n hM dX12_law_163 (lv_at hl 3 rfl) ?_
                    refine q_aload_n hM dX12_law_164 (lv_at hl 0 rfl) ?_
                    refine w_get (v := .ref (ad 151)) hM hW FG_X12_79 lb_129 (rf_129_35 hW.2.1) dX12_law_165 ?_
                    refine q_iload_n hM dX12_law_168 (lv_at hl 3 rfl) ?_
                    refine w_iald hM hW lb_151 (i_in (by omega) (by omega)) dX12_law_169 ?_
                    refine q_top (fun y11825 hy11825 => ?_)
                    rw [f11817] at hy11825
                    refine w_iast hM hW lb_144 (by omega) (i_in (by omega) (by omega)) dX12_law_170 (fun g11826 H locs hW e1 e2 => ?_)
                    have f11827 : fld g11826 129 6 = .int kk := (e2.1 129 6 (by unfold Only; omega)).trans f11812
                    have f11828 : fld g11826 129 7 = .int cc := (e2.1 129 7 (by unfold Only; omega)).trans f11813
                    have f11829 : fld g11826 129 32 = .int cm := (e2.1 129 32 (by unfold Only; omega)).trans f11814
                    have f11830 : arI g11826 149 = arI h9_39 149 := (e2.2.1 149 (by unfold Only; omega)).trans f11815
                    have f11831 : arI g11826 150 = arI h9_39 150 := (e2.2.1 150 (by unfold Only; omega)).trans f11816
                    have f11832 : arI g11826 151 = arI h9_39 151 := (e2.2.1 151 (by unfold Only; omega)).trans f11817
                    have f11833 : arI g11826 152 = arI h9_39 152 := (e2.2.1 152 (by unfold Only; omega)).trans f11818
                    have f11834 : arI g11826 153 = arI h9_39 153 := (e2.2.1 153 (by unfold Only; omega)).trans f11819
                    have f11835 : arI g11826 146 = arI g0 146 := (e2.2.1 146 (by unfold Only; omega)).trans f11820
                    have f11836 : arI g11826 148 = arI g0 148 := (e2.2.1 148 (by unfold Only; omega)).trans f11821
                    have f11837 : arI g11826 145 = arI h9_127 145 := (e2.2.1 145 (by unfold Only; omega)).trans f11823
                    have f11838 : arI g11826 143 = upd (arI h9_127 143) w127_3.toNatClampNeg y11810 := (e2.2.1 143 (by unfold Only; omega)).trans f11824
                    have f11839 := e1
                    rw [f11822] at f11839
                    have hG := hG.st e1 e2 (rfl : rA 144 = (-2147483648, 2147483647)) (by have := i_rng y11825; omega) (by have := i_rng y11825; omega)
                    refine q_aload_n hM dX12_law_171 (lv_at hl 0 rfl) ?_
                    refine w_get (v := .ref (ad 145)) hM hW FG_X12_61 lb_129 (rf_129_27 hW.2.1) dX12_law_172 ?_
                    refine q_iload_n hM dX12_law_175 (lv_at hl 3 rfl) ?_
                    refine q_aload_n hM dX12_law_176 (lv_at hl 0 rfl) ?_
                    refine w_get (v := .ref (ad 152)) hM hW FG_X12_82 lb_129 (rf_129_36 hW.2.1) dX12_law_177 ?_
                    refine q_iload_n hM dX12_law_180 (lv_at hl 3 rfl) ?_
                    refine w_iald hM hW lb_152 (i_in (by omega) (by omega)) dX12_law_181 ?_
                    refine q_top (fun y11840 hy11840 => ?_)
                    rw [f11833] at hy11840
                    refine w_iast hM hW lb_145 (by omega) (i_in (by omega) (by omega)) dX12_law_182 (fun g11841 H locs hW e1 e2 => ?_)
                    have f11842 : fld g11841 129 6 = .int kk := (e2.1 129 6 (by unfold Only; omega)).trans f11827
                    have f11843 : fld g11841 129 7 = .int cc := (e2.1 129 7 (by unfold Only; omega)).trans f11828
                    have f11844 : fld g11841 129 32 = .int cm := (e2.1 129 32 (by unfold Only; omega)).trans f11829
                    have f11845 : arI g11841 149 = arI h9_39 149 := (e2.2.1 149 (by unfold Only; omega)).trans f11830
                    have f11846 : arI g11841 150 = arI h9_39 150 := (e2.2.1 150 (by unfold Only; omega)).trans f11831
                    have f11847 : arI g11841 151 = arI h9_39 151 := (e2.2.1 151 (by unfold Only; omega)).trans f11832
                    have f11848 : arI g11841 152 = arI h9_39 152 := (e2.2.1 152 (by unfold Only; omega)).trans f11833
                    have f11849 : arI g11841 153 = arI h9_39 153 := (e2.2.1 153 (by unfold Only; omega)).trans f11834
                    have f11850 : arI g11841 146 = arI g0 146 := (e2.2.1 146 (by unfold Only; omega)).trans f11835
                    have f11851 : arI g11841 148 = arI g0 148 := (e2.2.1 148 (by unfold Only; omega)).trans f11836
                    have f11852 : arI g11841 143 = upd (arI h9_127 143) w127_3.toNatClampNeg y11810 := (e2.2.1 143 (by unfold Only; omega)).trans f11838
                    have f11853 : arI g11841 144 = upd (arI h9_127 144) w127_3.toNatClampNeg y11825 := (e2.2.1 144 (by unfold Only; omega)).trans f11839
                    have f11854 := e1
                    rw [f11837] at f11854
                    have hG := hG.st e1 e2 (rfl : rA 145 = (-2147483648, 2147483647)) (by have := i_rng y11840; omega) (by have := i_rng y11840; omega)
                    refine q_iinc (lv9 := fun z11855 => [(3, .int z11855), (0, .ref (ad 129)), (1, .int a), (2, .int w39_2)]) hM dX12_law_183 hl (kq := 3) rfl (by decide) (fun _ => rfl) (fun z11855 ls hz11855 hl => ?_)
                    first | have tz11855 := i_addT hz11855 (rfl : w127_3.toInt = w127_3.toInt) (kc_1 : (Int32.ofInt 1).toInt = 1) (by omega) (by omega) | skip
                    refine q_goto (tgt := 127) hM dX12_law_186 (by decide) ?_
                    exact ih127 z11855 _ _ _ _ (by omega) hG (by omega) (by omega) (by rw [f11852]; exact row_cp rfl i127_3 hy11810 (by omega)) (by rw [f11853]; exact row_cp rfl i127_4 hy11825 (by omega)) (by rw [f11854]; exact row_cp rfl i127_5 hy11840 (by omega)) (by rw [f11852]; exact row_up rfl i127_6 (by show w127_3.toInt.toNat < 16; omega)) (by rw [f11853]; exact row_up rfl i127_7 (by show w127_3.toInt.toNat < 16; omega)) (by rw [f11854]; exact row_up rfl i127_8 (by show w127_3.toInt.toNat < 16; omega)) f11842 f11843 f11844 f11845 f11846 f11847 f11848 f11849 f11850 f11851 (lv_sub hl [1, 2, 3, 0] rfl) hW
              have := kc_0
              exact L127 _ (0 : Int32) _ _ _ _ (Nat.lt_succ_self _) hG (by omega) (by omega) (fun j hj => absurd hj (by have := kc_0; omega)) (fun j hj => absurd hj (by have := kc_0; omega)) (fun j hj => absurd hj (by have := kc_0; omega)) (fun j hj => by rw [d39_143]) (fun j hj => by rw [d39_144]) (fun j hj => by rw [d39_145]) c39_129_6 c39_129_7 c39_129_32 (rfl : arI h9_39 149 = arI h9_39 149) (rfl : arI h9_39 150 = arI h9_39 150) (rfl : arI h9_39 151 = arI h9_39 151) (rfl : arI h9_39 152 = arI h9_39 152) (rfl : arI h9_39 153 = arI h9_39 153) d39_146 d39_148 (lv_sub hl [1, 2, 3, 0] rfl) hW
            · refine q_aload_n hM dX12_law_120 (lv_at hl 0 rfl) ?_
              refine w_get (v := .int bb) hM hW FG_X12_179 lb_129 c39_129_5 dX12_law_121 ?_
              have bbb := hG.f c39_129_5 rF_129_5 (by decide)
              exact hE _ _ _ _ _ _ hW.1 ⟨_, rfl, hW.2.1, hG, hW.2.2, (LWQ_eq hQ d39_143 d39_144 d39_145 d39_146 d39_148 c39_129_32 h_cm)⟩ dX12_law_124
          · refine q_aload_n hM dX12_law_43 (lv_at hl 0 rfl) ?_
            refine q_callV (As := []) (rest := []) hM hW.1 hR hC myX12_isGood (kAW (v_5_8 (List.mem_of_getElem? (i := 11) rfl)) rfl) (rfl : vwCl[12]? = some (RX12, TX12, 86)) rfl lb_129.1 (shO hW.2.1 lb_129) (a_X12_isGood _ _ cA ad h9_39 bb hW.2.1 hG c39_129_5) ⟨by decide, by decide⟩ rfl rfl hl.1 (Nat.le_of_ble_eq_true rfl) dX12_law_44 (fun v g11859 H locs hp hW1 => ?_)
            obtain ⟨r11858, rfl, hr11858, rfl⟩ := hp
            have hW : WS ad cA (fun i k => (i = 129 ∧ (k = 1 ∨ k = 3 ∨ k = 4 ∨ k = 5 ∨ k = 6 ∨ k = 7 ∨ k = 8 ∨ k = 9 ∨ k = 32 ∨ k = 39 ∨ k = 40)) ∨ (142 ≤ i ∧ i < 156)) g0 K h9_39 H locs := ⟨hW1, hW.2.1, hW.2.2⟩
            refine q_if_eq (tgt := 113) hM dX12_law_47 (by decide) (rfl : r11858.toInt = r11858.toInt) (fun h47 => ?_) (fun h47 => ?_)
            · refine q_aload_n hM dX12_law_113 (lv_at hl 0 rfl) ?_
              refine w_get (v := .int bb) hM hW FG_X12_179 lb_129 c39_129_5 dX12_law_114 ?_
              have bbb := hG.f c39_129_5 rF_129_5 (by decide)
              refine q_if_ge (tgt := 125) hM dX12_law_117 (by decide) (rfl : bb.toInt = bb.toInt) (fun h117 => ?_) (fun h117 => ?_)
              · refine q_iconst (v := (0 : Int32)) hM dX12_law_125 (by decide) ?_
                refine q_istore_n (lv9 := [(3, .int (0 : Int32)), (0, .ref (ad 129)), (1, .int a), (2, .int w39_2)]) hM dX12_law_126 hl (by decide) rfl (fun ls hl => ?_)
                have L127 : ∀ (fu127 : Nat) (w127_3 : Int32) (h9_127 : Nat → va_E) (H : Heap) (locs : List Loc) (ls : Array Slot), (16 - w127_3.toInt).toNat < fu127 → (Rng h9_127) → (0 ≤ w127_3.toInt) → (w127_3.toInt ≤ 16) → (∀ j : Nat, (j : Int) < w127_3.toInt → arI h9_127 143 j = arI h9_39 150 j) → (∀ j : Nat, (j : Int) < w127_3.toInt → arI h9_127 144 j = arI h9_39 151 j) → (∀ j : Nat, (j : Int) < w127_3.toInt → arI h9_127 145 j = arI h9_39 152 j) → (∀ j : Nat, 16 ≤ j → arI h9_127 143 j = arI g0 143 j) → (∀ j : Nat, 16 ≤ j → arI h9_127 144 j = arI g0 144 j) → (∀ j : Nat, 16 ≤ j → arI h9_127 145 j = arI g0 145 j) → (fld h9_127 129 6 = .int kk) → (fld h9_127 129 7 = .int cc) → (fld h9_127 129 32 = .int cm) → (arI h9_127 149 = arI h9_39 149) → (arI h9_127 150 = arI h9_39 150) → (arI h9_127 151 = arI h9_39 151) → (arI h9_127 152 = arI h9_39 152) → (arI h9_127 153 = arI h9_39 153) → (arI h9_127 146 = arI g0 146) → (arI h9_127 148 = arI g0 148) → lv_has ls 4 [(0, .ref (ad 129)), (1, .int a), (2, .int w39_2), (3, .int w127_3)] → WS ad cA (fun i k => (i = 129 ∧ (k = 1 ∨ k = 3 ∨ k = 4 ∨ k = 5 ∨ k = 6 ∨ k = 7 ∨ k = 8 ∨ k = 9 ∨ k = 32 ∨ k = 39 ∨ k = 40)) ∨ (142 ≤ i ∧ i < 156)) g0 K h9_127 H locs → XX K 0 0 H locs 127 ls [] := by
                  intro fu127
                  induction fu127 with
                  | zero => intro w127_3 h9_127 H locs ls h0; omega
                  | succ fu127 ih127 =>
                    intro w127_3 h9_127 H locs ls hm127 i127_0 i127_1 i127_2 i127_3 i127_4 i127_5 i127_6 i127_7 i127_8 c127_129_6 c127_129_7 c127_129_32 d127_149 d127_150 d127_151 d127_152 d127_153 d127_146 d127_148 hl hW
                    have hG := i127_0
                    refine q_iload_n hM dX12_law_127 (lv_at hl 3 rfl) ?_
                    refine q_aload_n hM dX12_law_128 (lv_at hl 0 rfl) ?_
                    refine w_get (v := .int kk) hM hW FG_X12_351 lb_129 c127_129_6 dX12_law_129 ?_
                    have bkk := hG.f c127_129_6 rF_129_6 (by decide)
                    refine q_icmp_ge (tgt := 189) hM dX12_law_132 (by decide) (rfl : w127_3.toInt = w127_3.toInt) (rfl : kk.toInt = kk.toInt) (fun h132 => ?_) (fun h132 => ?_)
                    · refine q_iconst (v := (0 : Int32)) hM dX12_law_189 (by decide) ?_
                      refine q_istore_n (lv9 := [(3, .int (0 : Int32)), (0, .ref (ad 129)), (1, .int a), (2, .int w39_2)]) hM dX12_law_190 hl (by decide) rfl (fun ls hl => ?_)
                      have L191 : ∀ (fu191 : Nat) (w191_3 : Int32) (h9_191 : Nat → va_E) (H : Heap) (locs : List Loc) (ls : Array Slot), (240 - w191_3.toInt).toNat < fu191 → (Rng h9_191) → (0 ≤ w191_3.toInt) → (w191_3.toInt ≤ 240) → (∀ j : Nat, (j : Int) < w191_3.toInt → arI h9_191 146 j = arI h9_39 153 j) → (∀ j : Nat, 240 ≤ j → arI h9_191 146 j = arI g0 146 j) → (fld h9_191 129 6 = .int kk) → (fld h9_191 129 7 = .int cc) → (fld h9_191 129 32 = .int cm) → (arI h9_191 153 = arI h9_39 153) → (arI h9_191 148 = arI g0 148) → (arI h9_191 143 = arI h9_127 143) → (arI h9_191 144 = arI h9_127 144) → (arI h9_191 145 = arI h9_127 145) → lv_has ls 4 [(0, .ref (ad 129)), (1, .int a), (2, .int w39_2), (3, .int w191_3)] → WS ad cA (fun i k => (i = 129 ∧ (k = 1 ∨ k = 3 ∨ k = 4 ∨ k = 5 ∨ k = 6 ∨ k = 7 ∨ k = 8 ∨ k = 9 ∨ k = 32 ∨ k = 39 ∨ k = 40)) ∨ (142 ≤ i ∧ i < 156)) g0 K h9_191 H locs → XX K 0 0 H locs 191 ls [] := by
                        intro fu191
                        induction fu191 with
                        | zero => intro w191_3 h9_191 H locs ls h0; omega
                        | succ fu191 ih191 =>
                          intro w191_3 h9_191 H locs ls hm191 i191_0 i191_1 i191_2 i191_3 i191_4 c191_129_6 c191_129_7 c191_129_32 d191_153 d191_148 d191_143 d191_144 d191_145 hl hW
                          have hG := i191_0
                          refine q_iload_n hM dX12_law_191 (lv_at hl 3 rfl) ?_
                          refine q_aload_n hM dX12_law_192 (lv_at hl 0 rfl) ?_
                          refine w_get (v := .int cc) hM hW FG_X12_278 lb_129 c191_129_7 dX12_law_193 ?_
                          have bcc := hG.f c191_129_7 rF_129_7 (by decide)
                          refine q_icmp_ge (tgt := 229) hM dX12_law_196 (by decide) (rfl : w191_3.toInt = w191_3.toInt) (rfl : cc.toInt = cc.toInt) (fun h196 => ?_) (fun h196 => ?_)
                          · refine q_aload_n hM dX12_law_229 (lv_at hl 0 rfl) ?_
                            refine w_get (v := .ref (ad 148)) hM hW FG_X12_70 lb_129 (rf_129_30 hW.2.1) dX12_law_230 ?_
                            refine q_iconst (v := (0 : Int32)) hM dX12_law_233 (by decide) ?_
                            refine q_aload_n hM dX12_law_234 (lv_at hl 0 rfl) ?_
                            refine w_get (v := .int kk) hM hW FG_X12_351 lb_129 c191_129_6 dX12_law_235 ?_
                            have bkk := hG.f c191_129_6 rF_129_6 (by decide)
                            refine w_iast hM hW lb_148 (by omega) (i_in (by rw [kc_0]; decide) (by rw [kc_0]; decide)) dX12_law_238 (fun g11866 H locs hW e1 e2 => ?_)
                            have f11867 : fld g11866 129 6 = .int kk := (e2.1 129 6 (by unfold Only; omega)).trans c191_129_6
                            have f11868 : fld g11866 129 7 = .int cc := (e2.1 129 7 (by unfold Only; omega)).trans c191_129_7
                            have f11869 : fld g11866 129 32 = .int cm := (e2.1 129 32 (by unfold Only; omega)).trans c191_129_32
                            have f11870 : arI g11866 153 = arI h9_39 153 := (e2.2.1 153 (by unfold Only; omega)).trans d191_153
                            have f11871 : arI g11866 143 = arI h9_127 143 := (e2.2.1 143 (by unfold Only; omega)).trans d191_143
                            have f11872 : arI g11866 144 = arI h9_127 144 := (e2.2.1 144 (by unfold Only; omega)).trans d191_144
                            have f11873 : arI g11866 145 = arI h9_127 145 := (e2.2.1 145 (by unfold Only; omega)).trans d191_145
                            have f11874 : arI g11866 146 = arI h9_191 146 := (e2.2.1 146 (by unfold Only; omega)).trans (rfl : arI h9_191 146 = arI h9_191 146)
                            have f11875 := e1
                            rw [d191_148] at f11875
                            have hG := hG.st e1 e2 rA_148 (by have := i_rng kk; omega) (by have := i_rng kk; omega)
                            refine q_aload_n hM dX12_law_239 (lv_at hl 0 rfl) ?_
                            refine q_aload_n hM dX12_law_240 (lv_at hl 0 rfl) ?_
                            refine w_get (v := .int cc) hM hW FG_X12_278 lb_129 f11868 dX12_law_241 ?_
                            have bcc := hG.f f11868 rF_129_7 (by decide)
                            refine w_put hM hW FP_X12_362 lb_129 (by omega) (Or.inl ⟨_, rfl⟩) rfl rfl dX12_law_244 (fun g11876 H locs hW e1 e2 => ?_)
                            have f11877 : fld g11876 129 6 = .int kk := (e2.1 129 6 (by unfold Only; omega)).trans f11867
                            have f11878 : fld g11876 129 7 = .int cc := (e2.1 129 7 (by unfold Only; omega)).trans f11868
                            have f11879 : arI g11876 153 = arI h9_39 153 := (e2.2.1 153 (by unfold Only; omega)).trans f11870
                            have f11880 : arI g11876 143 = arI h9_127 143 := (e2.2.1 143 (by unfold Only; omega)).trans f11871
                            have f11881 : arI g11876 144 = arI h9_127 144 := (e2.2.1 144 (by unfold Only; omega)).trans f11872
                            have f11882 : arI g11876 145 = arI h9_127 145 := (e2.2.1 145 (by unfold Only; omega)).trans f11873
                            have f11883 : arI g11876 146 = arI h9_191 146 := (e2.2.1 146 (by unfold Only; omega)).trans f11874
                            have f11884 : arI g11876 148 = upd (arI g0 148) (0 : Int32).toNatClampNeg kk := (e2.2.1 148 (by unfold Only; omega)).trans f11875
                            have f11885 : fld g11876 129 32 = .int cc := e1
                            have hG := hG.put e1 e2 rF_129_32 (by decide) (by have := i_rng cc; omega) (by have := i_rng cc; omega)
                            refine q_aload_n hM dX12_law_247 (lv_at hl 0 rfl) ?_
                            refine w_get (v := .int kk) hM hW FG_X12_351 lb_129 f11877 dX12_law_248 ?_
                            have bkk := hG.f f11877 rF_129_6 (by decide)
                            exact hE _ _ _ _ _ _ hW.1 ⟨_, rfl, hW.2.1, hG, hW.2.2, (LWQ_law hQ (i39_7 (by omega)) (by omega) (by omega) (by omega) (fun j hj => ⟨by rw [f11880]; exact i127_3 j (by omega), by rw [f11881]; exact i127_4 j (by omega), by rw [f11882]; exact i127_5 j (by omega)⟩) (fun j hj => ⟨by rw [f11880]; exact i127_6 j hj, by rw [f11881]; exact i127_7 j hj, by rw [f11882]; exact i127_8 j hj⟩) (fun j hj => by rw [f11883]; exact i191_3 j (by omega)) (fun j hj => by rw [f11883]; exact i191_4 j hj) (by rw [f11884]; unfold upd; rw [if_pos (by decide)]) (by rw [f11884]; unfold upd; rw [if_neg (by decide)]) (by rw [fI_of f11885]))⟩ dX12_law_251
                          · refine q_aload_n hM dX12_law_199 (lv_at hl 0 rfl) ?_
                            refine w_get (v := .ref (ad 146)) hM hW FG_X12_64 lb_129 (rf_129_28 hW.2.1) dX12_law_200 ?_
                            refine q_iload_n hM dX12_law_203 (lv_at hl 3 rfl) ?_
                            refine q_aload_n hM dX12_law_204 (lv_at hl 0 rfl) ?_
                            refine w_get (v := .ref (ad 153)) hM hW FG_X12_85 lb_129 (rf_129_37 hW.2.1) dX12_law_205 ?_
                            refine q_iload_n hM dX12_law_208 (lv_at hl 3 rfl) ?_
                            refine w_iald hM hW lb_153 (i_in (by omega) (by omega)) dX12_law_209 ?_
                            refine q_top (fun y11887 hy11887 => ?_)
                            rw [d191_153] at hy11887
                            refine w_iast hM hW lb_146 (by omega) (i_in (by omega) (by omega)) dX12_law_210 (fun g11888 H locs hW e1 e2 => ?_)
                            have f11889 : fld g11888 129 6 = .int kk := (e2.1 129 6 (by unfold Only; omega)).trans c191_129_6
                            have f11890 : fld g11888 129 7 = .int cc := (e2.1 129 7 (by unfold Only; omega)).trans c191_129_7
                            have f11891 : fld g11888 129 32 = .int cm := (e2.1 129 32 (by unfold Only; omega)).trans c191_129_32
                            have f11892 : arI g11888 153 = arI h9_39 153 := (e2.2.1 153 (by unfold Only; omega)).trans d191_153
                            have f11893 : arI g11888 148 = arI g0 148 := (e2.2.1 148 (by unfold Only; omega)).trans d191_148
                            have f11894 : arI g11888 143 = arI h9_127 143 := (e2.2.1 143 (by unfold Only; omega)).trans d191_143
                            have f11895 : arI g11888 144 = arI h9_127 144 := (e2.2.1 144 (by unfold Only; omega)).trans d191_144
                            have f11896 : arI g11888 145 = arI h9_127 145 := (e2.2.1 145 (by unfold Only; omega)).trans d191_145
                            have f11897 := e1
                            rw [(rfl : arI h9_191 146 = arI h9_191 146)] at f11897
                            have hG := hG.st e1 e2 (rfl : rA 146 = (-2147483648, 2147483647)) (by have := i_rng y11887; omega) (by have := i_rng y11887; omega)
                            refine q_aload_n hM dX12_law_211 (lv_at hl 0 rfl) ?_
                            refine w_get (v := .ref (ad 147)) hM hW FG_X12_67 lb_129 (rf_129_29 hW.2.1) dX12_law_212 ?_
                            refine q_iload_n hM dX12_law_215 (lv_at hl 3 rfl) ?_
                            refine q_aload_n hM dX12_law_216 (lv_at hl 0 rfl) ?_
                            refine w_get (v := .ref (ad 154)) hM hW FG_X12_88 lb_129 (rf_129_38 hW.2.1) dX12_law_217 ?_
                            refine q_iload_n hM dX12_law_220 (lv_at hl 3 rfl) ?_
                            refine w_iald hM hW lb_154 (i_in (by omega) (by omega)) dX12_law_221 ?_
                            refine q_top (fun y11898 hy11898 => ?_)
                            refine w_iast hM hW lb_147 (by omega) (i_in (by omega) (by omega)) dX12_law_222 (fun g11899 H locs hW e1 e2 => ?_)
                            have f11900 : fld g11899 129 6 = .int kk := (e2.1 129 6 (by unfold Only; omega)).trans f11889
                            have f11901 : fld g11899 129 7 = .int cc := (e2.1 129 7 (by unfold Only; omega)).trans f11890
                            have f11902 : fld g11899 129 32 = .int cm := (e2.1 129 32 (by unfold Only; omega)).trans f11891
                            have f11903 : arI g11899 153 = arI h9_39 153 := (e2.2.1 153 (by unfold Only; omega)).trans f11892
                            have f11904 : arI g11899 148 = arI g0 148 := (e2.2.1 148 (by unfold Only; omega)).trans f11893
                            have f11905 : arI g11899 143 = arI h9_127 143 := (e2.2.1 143 (by unfold Only; omega)).trans f11894
                            have f11906 : arI g11899 144 = arI h9_127 144 := (e2.2.1 144 (by unfold Only; omega)).trans f11895
                            have f11907 : arI g11899 145 = arI h9_127 145 := (e2.2.1 145 (by unfold Only; omega)).trans f11896
                            have f11908 : arI g11899 146 = upd (arI h9_191 146) w191_3.toNatClampNeg y11887 := (e2.2.1 146 (by unfold Only; omega)).trans f11897
                            have hG := hG.st e1 e2 (rfl : rA 147 = (-2147483648, 2147483647)) (by have := i_rng y11898; omega) (by have := i_rng y11898; omega)
                            refine q_iinc (lv9 := fun z11909 => [(3, .int z11909), (0, .ref (ad 129)), (1, .int a), (2, .int w39_2)]) hM dX12_law_223 hl (kq := 3) rfl (by decide) (fun _ => rfl) (fun z11909 ls hz11909 hl => ?_)
                            first | have tz11909 := i_addT hz11909 (rfl : w191_3.toInt = w191_3.toInt) (kc_1 : (Int32.ofInt 1).toInt = 1) (by omega) (by omega) | skip
                            refine q_goto (tgt := 191) hM dX12_law_226 (by decide) ?_
                            exact ih191 z11909 _ _ _ _ (by omega) hG (by omega) (by omega) (by rw [f11908]; exact row_cp rfl i191_3 hy11887 (by omega)) (by rw [f11908]; exact row_up rfl i191_4 (by show w191_3.toInt.toNat < 240; omega)) f11900 f11901 f11902 f11903 f11904 f11905 f11906 f11907 (lv_sub hl [1, 2, 3, 0] rfl) hW
                      have := kc_0
                      exact L191 _ (0 : Int32) _ _ _ _ (Nat.lt_succ_self _) hG (by omega) (by omega) (fun j hj => absurd hj (by have := kc_0; omega)) (fun j hj => by rw [d127_146]) c127_129_6 c127_129_7 c127_129_32 d127_153 d127_148 (rfl : arI h9_127 143 = arI h9_127 143) (rfl : arI h9_127 144 = arI h9_127 144) (rfl : arI h9_127 145 = arI h9_127 145) (lv_sub hl [1, 2, 3, 0] rfl) hW
                    · refine q_aload_n hM dX12_law_135 (lv_at hl 0 rfl) ?_
                      refine w_get (v := .ref (ad 142)) hM hW FG_X12_52 lb_129 (rf_129_24 hW.2.1) dX12_law_136 ?_
                      refine q_iload_n hM dX12_law_139 (lv_at hl 3 rfl) ?_
                      refine q_aload_n hM dX12_law_140 (lv_at hl 0 rfl) ?_
                      refine w_get (v := .ref (ad 149)) hM hW FG_X12_73 lb_129 (rf_129_33 hW.2.1) dX12_law_141 ?_
                      refine q_iload_n hM dX12_law_144 (lv_at hl 3 rfl) ?_
                      refine w_iald hM hW lb_149 (i_in (by omega) (by omega)) dX12_law_145 ?_
                      refine q_top (fun y11911 hy11911 => ?_)
                      refine w_iast hM hW lb_142 (by omega) (i_in (by omega) (by omega)) dX12_law_146 (fun g11912 H locs hW e1 e2 => ?_)
                      have f11913 : fld g11912 129 6 = .int kk := (e2.1 129 6 (by unfold Only; omega)).trans c127_129_6
                      have f11914 : fld g11912 129 7 = .int cc := (e2.1 129 7 (by unfold Only; omega)).trans c127_129_7
                      have f11915 : fld g11912 129 32 = .int cm := (e2.1 129 32 (by unfold Only; omega)).trans c127_129_32
                      have f11916 : arI g11912 149 = arI h9_39 149 := (e2.2.1 149 (by unfold Only; omega)).trans d127_149
                      have f11917 : arI g11912 150 = arI h9_39 150 := (e2.2.1 150 (by unfold Only; omega)).trans d127_150
                      have f11918 : arI g11912 151 = arI h9_39 151 := (e2.2.1 151 (by unfold Only; omega)).trans d127_151
                      have f11919 : arI g11912 152 = arI h9_39 152 := (e2.2.1 152 (by unfold Only; omega)).trans d127_152
                      have f11920 : arI g11912 153 = arI h9_39 153 := (e2.2.1 153 (by unfold Only; omega)).trans d127_153
                      have f11921 : arI g11912 146 = arI g0 146 := (e2.2.1 146 (by unfold Only; omega)).trans d127_146
                      have f11922 : arI g11912 148 = arI g0 148 := (e2.2.1 148 (by unfold Only; omega)).trans d127_148
                      have f11923 : arI g11912 143 = arI h9_127 143 := (e2.2.1 143 (by unfold Only; omega)).trans (rfl : arI h9_127 143 = arI h9_127 143)
                      have f11924 : arI g11912 144 = arI h9_127 144 := (e2.2.1 144 (by unfold Only; omega)).trans (rfl : arI h9_127 144 = arI h9_127 144)
                      have f11925 : arI g11912 145 = arI h9_127 145 := (e2.2.1 145 (by unfold Only; omega)).trans (rfl : arI h9_127 145 = arI h9_127 145)
                      have hG := hG.st e1 e2 (rfl : rA 142 = (-2147483648, 2147483647)) (by have := i_rng y11911; omega) (by have := i_rng y11911; omega)
                      refine q_aload_n hM dX12_law_147 (lv_at hl 0 rfl) ?_
                      refine w_get (v := .ref (ad 143)) hM hW FG_X12_55 lb_129 (rf_129_25 hW.2.1) dX12_law_148 ?_
                      refine q_iload_n hM dX12_law_151 (lv_at hl 3 rfl) ?_
                      refine q_aload_n hM dX12_law_152 (lv_at hl 0 rfl) ?_
                      refine w_get (v := .ref (ad 150)) hM hW FG_X12_76 lb_129 (rf_129_34 hW.2.1) dX12_law_153 ?_
                      refine q_iload_n hM dX12_law_156 (lv_at hl 3 rfl) ?_
                      refine w_iald hM hW lb_150 (i_in (by omega) (by omega)) dX12_law_157 ?_
                      refine q_top (fun y11926 hy11926 => ?_)
                      rw [f11917] at hy11926
                      refine w_iast hM hW lb_143 (by omega) (i_in (by omega) (by omega)) dX12_law_158 (fun g11927 H locs hW e1 e2 => ?_)
                      have f11928 : fld g11927 129 6 = .int kk := (e2.1 129 6 (by unfold Only; omega)).trans f11913
                      have f11929 : fld g11927 129 7 = .int cc := (e2.1 129 7 (by unfold Only; omega)).trans f11914
                      have f11930 : fld g11927 129 32 = .int cm := (e2.1 129 32 (by unfold Only; omega)).trans f11915
                      have f11931 : arI g11927 149 = arI h9_39 149 := (e2.2.1 149 (by unfold Only; omega)).trans f11916
                      have f11932 : arI g11927 150 = arI h9_39 150 := (e2.2.1 150 (by unfold Only; omega)).trans f11917
                      have f11933 : arI g11927 151 = arI h9_39 151 := (e2.2.1 151 (by unfold Only; omega)).trans f11918
                      have f11934 : arI g11927 152 = arI h9_39 152 := (e2.2.1 152 (by unfold Only; omega)).trans f11919
                      have f11935 : arI g11927 153 = arI h9_39 153 := (e2.2.1 153 (by unfold Only; omega)).trans f11920
                      have f11936 : arI g11927 146 = arI g0 146 := (e2.2.1 146 (by unfold Only; omega)).trans f11921
                      have f11937 : arI g11927 148 = arI g0 148 := (e2.2.1 148 (by unfold Only; omega)).trans f11922
                      have f11938 : arI g11927 144 = arI h9_127 144 := (e2.2.1 144 (by unfold Only; omega)).trans f11924
                      have f11939 : arI g11927 145 = arI h9_127 145 := (e2.2.1 145 (by unfold Only; omega)).trans f11925
                      have f11940 := e1
                      rw [f11923] at f11940
                      have hG := hG.st e1 e2 (rfl : rA 143 = (-2147483648, 2147483647)) (by have := i_rng y11926; omega) (by have := i_rng y11926; omega)
                      refine q_aload_n hM dX12_law_159 (lv_at hl 0 rfl) ?_
                      refine w_get (v := .ref (ad 144)) hM hW FG_X12_58 lb_129 (rf_129_26 hW.2.1) dX12_law_160 ?_
                      refine q_iload_n hM dX12_law_163 (lv_at hl 3 rfl) ?_
                      refine q_aload_n hM dX12_law_164 (lv_at hl 0 rfl) ?_
                      refine w_get (v := .ref (ad 151)) hM hW FG_X12_79 lb_129 (rf_129_35 hW.2.1) dX12_law_165 ?_
                      refine q_iload_n hM dX12_law_168 (lv_at hl 3 rfl) ?_
                      refine w_iald hM hW lb_151 (i_in (by omega) (by omega)) dX12_law_169 ?_
                      refine q_top (fun y11941 hy11941 => ?_)
                      rw [f11933] at hy11941
                      refine w_iast hM hW lb_144 (by omega) (i_in (by omega) (by omega)) dX12_law_170 (fun g11942 H locs hW e1 e2 => ?_)
                      have f11943 : fld g11942 129 6 = .int kk := (e2.1 129 6 (by unfold Only; omega)).trans f11928
                      have f11944 : fld g11942 129 7 = .int cc := (e2.1 129 7 (by unfold Only; omega)).trans f11929
                      have f11945 : fld g11942 129 32 = .int cm := (e2.1 129 32 (by unfold Only; omega)).trans f11930
                      have f11946 : arI g11942 149 = arI h9_39 149 := (e2.2.1 149 (by unfold Only; omega)).trans f11931
                      have f11947 : arI g11942 150 = arI h9_39 150 := (e2.2.1 150 (by unfold Only; omega)).trans f11932
                      have f11948 : arI g11942 151 = arI h9_39 151 := (e2.2.1 151 (by unfold Only; omega)).trans f11933
                      have f11949 : arI g11942 152 = arI h9_39 152 := (e2.2.1 152 (by unfold Only; omega)).trans f11934
                      have f11950 : arI g11942 153 = arI h9_39 153 := (e2.2.1 153 (by unfold Only; omega)).trans f11935
                      have f11951 : arI g11942 146 = arI g0 146 := (e2.2.1 146 (by unfold Only; omega)).trans f11936
                      have f11952 : arI g11942 148 = arI g0 148 := (e2.2.1 148 (by unfold Only; omega)).trans f11937
                      have f11953 : arI g11942 145 = arI h9_127 145 := (e2.2.1 145 (by unfold Only; omega)).trans f11939
                      have f11954 : arI g11942 143 = upd (arI h9_127 143) w127_3.toNatClampNeg y11926 := (e2.2.1 143 (by unfold Only; omega)).trans f11940
                      have f11955 := e1
                      rw [f11938] at f11955
                      have hG := hG.st e1 e2 (rfl : rA 144 = (-2147483648, 2147483647)) (by have := i_rng y11941; omega) (by have := i_rng y11941; omega)
                      refine q_aload_n hM dX12_law_171 (lv_at hl 0 rfl) ?_
                      refine w_get (v := .ref (ad 145)) hM hW FG_X12_61 lb_129 (rf_129_27 hW.2.1) dX12_law_172 ?_
                      refine q_iload_n hM dX12_law_175 (lv_at hl 3 rfl) ?_
                      refine q_aload_n hM dX12_law_176 (lv_at hl 0 rfl) ?_
                      refine w_get (v := .ref (ad 152)) hM hW FG_X12_82 lb_129 (rf_129_36 hW.2.1) dX12_law_177 ?_
                      refine q_iload_n hM dX12_law_180 (lv_at hl 3 rfl) ?_
                      refine w_iald hM hW lb_152 (i_in (by omega) (by omega)) dX12_law_181 ?_
                      refine q_top (fun y11956 hy11956 => ?_)
                      rw [f11949] at hy11956
                      refine w_iast hM hW lb_145 (by omega) (i_in (by omega) (by omega)) dX12_law_182 (fun g11957 H locs hW e1 e2 => ?_)
                      have f11958 : fld g11957 129 6 = .int kk := (e2.1 129 6 (by unfold Only; omega)).trans f11943
                      have f11959 : fld g11957 129 7 = .int cc := (e2.1 129 7 (by unfold Only; omega)).trans f11944
                      have f11960 : fld g11957 129 32 = .int cm := (e2.1 129 32 (by unfold Only; omega)).trans f11945
                      have f11961 : arI g11957 149 = arI h9_39 149 := (e2.2.1 149 (by unfold Only; omega)).trans f11946
                      have f11962 : arI g11957 150 = arI h9_39 150 := (e2.2.1 150 (by unfold Only; omega)).trans f11947
                      have f11963 : arI g11957 151 = arI h9_39 151 := (e2.2.1 151 (by unfold Only; omega)).trans f11948
                      have f11964 : arI g11957 152 = arI h9_39 152 := (e2.2.1 152 (by unfold Only; omega)).trans f11949
                      have f11965 : arI g11957 153 = arI h9_39 153 := (e2.2.1 153 (by unfold Only; omega)).trans f11950
                      have f11966 : arI g11957 146 = arI g0 146 := (e2.2.1 146 (by unfold Only; omega)).trans f11951
                      have f11967 : arI g11957 148 = arI g0 148 := (e2.2.1 148 (by unfold Only; omega)).trans f11952
                      have f11968 : arI g11957 143 = upd (arI h9_127 143) w127_3.toNatClampNeg y11926 := (e2.2.1 143 (by unfold Only; omega)).trans f11954
                      have f11969 : arI g11957 144 = upd (arI h9_127 144) w127_3.toNatClampNeg y11941 := (e2.2.1 144 (by unfold Only; omega)).trans f11955
                      have f11970 := e1
                      rw [f11953] at f11970
                      have hG := hG.st e1 e2 (rfl : rA 145 = (-2147483648, 2147483647)) (by have := i_rng y11956; omega) (by have := i_rng y11956; omega)
                      refine q_iinc (lv9 := fun z11971 => [(3, .int z11971), (0, .ref (ad 129)), (1, .int a), (2, .int w39_2)]) hM dX12_law_183 hl (kq := 3) rfl (by decide) (fun _ => rfl) (fun z11971 ls hz11971 hl => ?_)
                      first | have tz11971 := i_addT hz11971 (rfl : w127_3.toInt = w127_3.toInt) (kc_1 : (Int32.ofInt 1).toInt = 1) (by omega) (by omega) | skip
                      refine q_goto (tgt := 127) hM dX12_law_186 (by decide) ?_
                      exact ih127 z11971 _ _ _ _ (by omega) hG (by omega) (by omega) (by rw [f11968]; exact row_cp rfl i127_3 hy11926 (by omega)) (by rw [f11969]; exact row_cp rfl i127_4 hy11941 (by omega)) (by rw [f11970]; exact row_cp rfl i127_5 hy11956 (by omega)) (by rw [f11968]; exact row_up rfl i127_6 (by show w127_3.toInt.toNat < 16; omega)) (by rw [f11969]; exact row_up rfl i127_7 (by show w127_3.toInt.toNat < 16; omega)) (by rw [f11970]; exact row_up rfl i127_8 (by show w127_3.toInt.toNat < 16; omega)) f11958 f11959 f11960 f11961 f11962 f11963 f11964 f11965 f11966 f11967 (lv_sub hl [1, 2, 3, 0] rfl) hW
                have := kc_0
                exact L127 _ (0 : Int32) _ _ _ _ (Nat.lt_succ_self _) hG (by omega) (by omega) (fun j hj => absurd hj (by have := kc_0; omega)) (fun j hj => absurd hj (by have := kc_0; omega)) (fun j hj => absurd hj (by have := kc_0; omega)) (fun j hj => by rw [d39_143]) (fun j hj => by rw [d39_144]) (fun j hj => by rw [d39_145]) c39_129_6 c39_129_7 c39_129_32 (rfl : arI h9_39 149 = arI h9_39 149) (rfl : arI h9_39 150 = arI h9_39 150) (rfl : arI h9_39 151 = arI h9_39 151) (rfl : arI h9_39 152 = arI h9_39 152) (rfl : arI h9_39 153 = arI h9_39 153) d39_146 d39_148 (lv_sub hl [1, 2, 3, 0] rfl) hW
              · refine q_aload_n hM dX12_law_120 (lv_at hl 0 rfl) ?_
                refine w_get (v := .int bb) hM hW FG_X12_179 lb_129 c39_129_5 dX12_law_121 ?_
                have bbb := hG.f c39_129_5 rF_129_5 (by decide)
                exact hE _ _ _ _ _ _ hW.1 ⟨_, rfl, hW.2.1, hG, hW.2.2, (LWQ_eq hQ d39_143 d39_144 d39_145 d39_146 d39_148 c39_129_32 h_cm)⟩ dX12_law_124
            · refine q_aload_n hM dX12_law_50 (lv_at hl 0 rfl) ?_
              refine q_callV (As := []) (rest := []) hM hW.1 hR hC myX12_clause (kAW (v_5_11 (List.mem_of_getElem? (i := 11) rfl)) rfl) (rfl : vwCl[12]? = some (RX12, TX12, 86)) rfl lb_129.1 (shO hW.2.1 lb_129) (a_X12_clause _ _ cA ad h9_39 pp ee bb cc kk hW.2.1 hG c39_129_3 c39_129_4 c39_129_5 c39_129_7 c39_129_6 (by  omega) (by  omega) (by  omega) (by  omega) (by  omega) (i39_7 (by omega))) ⟨by decide, by decide⟩ rfl rfl hl.1 (Nat.le_of_ble_eq_true rfl) dX12_law_51 (fun v g11989 H locs hp hW1 => ?_)
              obtain ⟨v11974, v11975, v11976, v11977, rfl, hs1, hG, hf1, q11978, q11979, q11980, q11981, e11982, e11983, e11984, e11985, e11986, e11987, e11988⟩ := hp
              have f11990 : fld g11989 129 4 = .int ee := (hf1.1 129 4 (by omega)).trans c39_129_4
              have f11991 : fld g11989 129 32 = .int cm := (hf1.1 129 32 (by omega)).trans c39_129_32
              have f11992 : arI g11989 143 = arI g0 143 := (hf1.2.1 143 (by omega)).trans d39_143
              have f11993 : arI g11989 144 = arI g0 144 := (hf1.2.1 144 (by omega)).trans d39_144
              have f11994 : arI g11989 145 = arI g0 145 := (hf1.2.1 145 (by omega)).trans d39_145
              have f11995 : arI g11989 146 = arI g0 146 := (hf1.2.1 146 (by omega)).trans d39_146
              have f11996 : arI g11989 148 = arI g0 148 := (hf1.2.1 148 (by omega)).trans d39_148
              have hW : WS ad cA (fun i k => (i = 129 ∧ (k = 1 ∨ k = 3 ∨ k = 4 ∨ k = 5 ∨ k = 6 ∨ k = 7 ∨ k = 8 ∨ k = 9 ∨ k = 32 ∨ k = 39 ∨ k = 40)) ∨ (142 ≤ i ∧ i < 156)) g0 K g11989 H locs := ⟨hW1, hs1, hW.2.2.tr hf1 (fun i k h => h.elim (fun h => (Or.inl (by omega))) (fun h => (Or.inr (by omega))))⟩
              refine q_aload_n hM dX12_law_54 (lv_at hl 0 rfl) ?_
              refine q_callV (As := []) (rest := []) hM hW.1 hR hC myX12_isGood (kAW (v_5_8 (List.mem_of_getElem? (i := 11) rfl)) rfl) (rfl : vwCl[12]? = some (RX12, TX12, 86)) rfl lb_129.1 (shO hW.2.1 lb_129) (a_X12_isGood _ _ cA ad g11989 v11975 hW.2.1 hG q11979) ⟨by decide, by decide⟩ rfl rfl hl.1 (Nat.le_of_ble_eq_true rfl) dX12_law_55 (fun v g11998 H locs hp hW1 => ?_)
              obtain ⟨r11997, rfl, hr11997, rfl⟩ := hp
              have hW : WS ad cA (fun i k => (i = 129 ∧ (k = 1 ∨ k = 3 ∨ k = 4 ∨ k = 5 ∨ k = 6 ∨ k = 7 ∨ k = 8 ∨ k = 9 ∨ k = 32 ∨ k = 39 ∨ k = 40)) ∨ (142 ≤ i ∧ i < 156)) g0 K g11989 H locs := ⟨hW1, hW.2.1, hW.2.2⟩
              refine q_if_eq (tgt := 76) hM dX12_law_58 (by decide) (rfl : r11997.toInt = r11997.toInt) (fun h58 => ?_) (fun h58 => ?_)
              · refine q_iconst (v := (0 : Int32)) hM dX12_law_76 (by decide) ?_
                refine q_istore_n (lv9 := [(2, .int (0 : Int32)), (0, .ref (ad 129)), (1, .int a)]) hM dX12_law_77 hl (by decide) rfl (fun ls hl => ?_)
                refine q_iload_n hM dX12_law_78 (lv_at hl 0 rfl) ?_
                refine q_if_eq (tgt := 39) hM dX12_law_79 (by decide) (kc_0 : (0 : Int32).toInt = 0) (fun h79 => ?_) (fun h79 => ?_)
                · have := kc_0
                  exact ih39 (0 : Int32) ee v11974 v11975 v11976 v11977 _ _ _ _ (by omega) hG (by omega) (by omega) (by omega) (by omega) (by omega) (by omega) (fun q => by rw [(rfl : arI g11989 150 = arI g11989 150), (rfl : arI g11989 151 = arI g11989 151), (rfl : arI g11989 152 = arI g11989 152), (rfl : arI g11989 153 = arI g11989 153)]; exact e11988 (by omega)) f11990 q11978 q11979 q11980 q11981 f11991 f11992 f11993 f11994 f11995 f11996 (lv_sub hl [1, 2, 0] rfl) hW
                · omega
              · refine q_aload_n hM dX12_law_61 (lv_at hl 0 rfl) ?_
                refine w_get (v := .int v11974) hM hW FG_X12_173 lb_129 q11978 dX12_law_62 ?_
                have bv11974 := hG.f q11978 rF_129_3 (by decide)
                refine q_aload_n hM dX12_law_65 (lv_at hl 0 rfl) ?_
                refine w_get (v := .int ee) hM hW FG_X12_176 lb_129 f11990 dX12_law_66 ?_
                have bee := hG.f f11990 rF_129_4 (by decide)
                refine q_icmp_ge (tgt := 76) hM dX12_law_69 (by decide) (rfl : v11974.toInt = v11974.toInt) (rfl : ee.toInt = ee.toInt) (fun h69 => ?_) (fun h69 => ?_)
                · refine q_iconst (v := (0 : Int32)) hM dX12_law_76 (by decide) ?_
                  refine q_istore_n (lv9 := [(2, .int (0 : Int32)), (0, .ref (ad 129)), (1, .int a)]) hM dX12_law_77 hl (by decide) rfl (fun ls hl => ?_)
                  refine q_iload_n hM dX12_law_78 (lv_at hl 0 rfl) ?_
                  refine q_if_eq (tgt := 39) hM dX12_law_79 (by decide) (kc_0 : (0 : Int32).toInt = 0) (fun h79 => ?_) (fun h79 => ?_)
                  · have := kc_0
                    exact ih39 (0 : Int32) ee v11974 v11975 v11976 v11977 _ _ _ _ (by omega) hG (by omega) (by omega) (by omega) (by omega) (by omega) (by omega) (fun q => by rw [(rfl : arI g11989 150 = arI g11989 150), (rfl : arI g11989 151 = arI g11989 151), (rfl : arI g11989 152 = arI g11989 152), (rfl : arI g11989 153 = arI g11989 153)]; exact e11988 (by omega)) f11990 q11978 q11979 q11980 q11981 f11991 f11992 f11993 f11994 f11995 f11996 (lv_sub hl [1, 2, 0] rfl) hW
                  · omega
                · refine q_iconst (v := (1 : Int32)) hM dX12_law_72 (by decide) ?_
                  refine q_goto (tgt := 77) hM dX12_law_73 (by decide) ?_
                  refine q_istore_n (lv9 := [(2, .int (1 : Int32)), (0, .ref (ad 129)), (1, .int a)]) hM dX12_law_77 hl (by decide) rfl (fun ls hl => ?_)
                  refine q_iload_n hM dX12_law_78 (lv_at hl 0 rfl) ?_
                  refine q_if_eq (tgt := 39) hM dX12_law_79 (by decide) (kc_1 : (1 : Int32).toInt = 1) (fun h79 => ?_) (fun h79 => ?_)
                  · omega
                  · refine q_aload_n hM dX12_law_82 (lv_at hl 1 rfl) ?_
                    refine q_callV (As := []) (rest := []) hM hW.1 hR hC myX12_here (kAW (v_5_9 (List.mem_of_getElem? (i := 3) rfl)) rfl) (rfl : vwCl[12]? = some (RX12, TX12, 86)) rfl lb_129.1 (shO hW.2.1 lb_129) (a_X12_here _ _ cA ad g11989 v11974 ee hW.2.1 hG q11978 f11990 (by  omega) (by  omega)) ⟨by decide, by decide⟩ rfl rfl hl.1 (Nat.le_of_ble_eq_true rfl) dX12_law_83 (fun v g12010 H locs hp hW1 => ?_)
                    obtain ⟨r12009, rfl, hr12009, rfl⟩ := hp
                    have hW : WS ad cA (fun i k => (i = 129 ∧ (k = 1 ∨ k = 3 ∨ k = 4 ∨ k = 5 ∨ k = 6 ∨ k = 7 ∨ k = 8 ∨ k = 9 ∨ k = 32 ∨ k = 39 ∨ k = 40)) ∨ (142 ≤ i ∧ i < 156)) g0 K g11989 H locs := ⟨hW1, hW.2.1, hW.2.2⟩
                    rw [hW.2.2.2.1 130 (by omega)] at hr12009
                    refine q_bipush (v := (59 : Int32)) hM dX12_law_86 (by decide) ?_
                    refine q_icmp_eq (tgt := 100) hM dX12_law_88 (by decide) (rfl : r12009.toInt = r12009.toInt) (kc_59 : (59 : Int32).toInt = 59) (fun h88 => ?_) (fun h88 => ?_)
                    · refine q_aload_n hM dX12_law_100 (lv_at hl 1 rfl) ?_
                      refine q_dup hM dX12_law_101 rfl ?_
                      refine w_get (v := .int v11974) hM hW FG_X12_173 lb_129 q11978 dX12_law_102 ?_
                      have bv11974 := hG.f q11978 rF_129_3 (by decide)
                      refine q_iconst (v := (1 : Int32)) hM dX12_law_105 (by decide) ?_
                      refine q_iadd hM dX12_law_106 (fun z12012 hz12012 => ?_)
                      first | have tz12012 := i_addT hz12012 (rfl : v11974.toInt = v11974.toInt) (kc_1 : (1 : Int32).toInt = 1) (by omega) (by omega) | skip
                      refine w_put hM hW FP_X12_173 lb_129 (by omega) (Or.inl ⟨_, rfl⟩) rfl rfl dX12_law_107 (fun g12013 H locs hW e1 e2 => ?_)
                      have f12014 : fld g12013 129 4 = .int ee := (e2.1 129 4 (by unfold Only; omega)).trans f11990
                      have f12015 : fld g12013 129 32 = .int cm := (e2.1 129 32 (by unfold Only; omega)).trans f11991
                      have f12016 : arI g12013 143 = arI g0 143 := (e2.2.1 143 (by unfold Only; omega)).trans f11992
                      have f12017 : arI g12013 144 = arI g0 144 := (e2.2.1 144 (by unfold Only; omega)).trans f11993
                      have f12018 : arI g12013 145 = arI g0 145 := (e2.2.1 145 (by unfold Only; omega)).trans f11994
                      have f12019 : arI g12013 146 = arI g0 146 := (e2.2.1 146 (by unfold Only; omega)).trans f11995
                      have f12020 : arI g12013 148 = arI g0 148 := (e2.2.1 148 (by unfold Only; omega)).trans f11996
                      have f12021 : fld g12013 129 5 = .int v11975 := (e2.1 129 5 (by unfold Only; omega)).trans q11979
                      have f12022 : fld g12013 129 7 = .int v11976 := (e2.1 129 7 (by unfold Only; omega)).trans q11980
                      have f12023 : fld g12013 129 6 = .int v11977 := (e2.1 129 6 (by unfold Only; omega)).trans q11981
                      have f12024 : arI g12013 150 = arI g11989 150 := (e2.2.1 150 (by unfold Only; omega)).trans (rfl : arI g11989 150 = arI g11989 150)
                      have f12025 : arI g12013 151 = arI g11989 151 := (e2.2.1 151 (by unfold Only; omega)).trans (rfl : arI g11989 151 = arI g11989 151)
                      have f12026 : arI g12013 152 = arI g11989 152 := (e2.2.1 152 (by unfold Only; omega)).trans (rfl : arI g11989 152 = arI g11989 152)
                      have f12027 : arI g12013 153 = arI g11989 153 := (e2.2.1 153 (by unfold Only; omega)).trans (rfl : arI g11989 153 = arI g11989 153)
                      have f12028 : fld g12013 129 3 = .int z12012 := e1
                      have hG := hG.put e1 e2 rF_129_3 (by decide) (by have := i_rng z12012; omega) (by have := i_rng z12012; omega)
                      refine q_goto (tgt := 39) hM dX12_law_110 (by decide) ?_
                      have := kc_1
                      exact ih39 (1 : Int32) ee z12012 v11975 v11976 v11977 _ _ _ _ (by omega) hG (by omega) (by omega) (by omega) (by omega) (by omega) (by omega) (fun q => by rw [f12024, f12025, f12026, f12027]; exact e11988 (by omega)) f12014 f12028 f12021 f12022 f12023 f12015 f12016 f12017 f12018 f12019 f12020 (lv_sub hl [1, 2, 0] rfl) hW
                    · refine q_aload_n hM dX12_law_91 (lv_at hl 1 rfl) ?_
                      refine q_iconst (v := (1 : Int32)) hM dX12_law_92 (by decide) ?_
                      refine q_aload_n hM dX12_law_93 (lv_at hl 1 rfl) ?_
                      refine w_get (v := .int v11974) hM hW FG_X12_173 lb_129 q11978 dX12_law_94 ?_
                      have bv11974 := hG.f q11978 rF_129_3 (by decide)
                      refine q_callV (As := [.int (1 : Int32), .int v11974]) (rest := []) hM hW.1 hR hC myX12_wrongs (kAW (v_5_9 (List.mem_of_getElem? (i := 11) rfl)) rfl) (rfl : vwCl[12]? = some (RX12, TX12, 86)) rfl lb_129.1 (shO hW.2.1 lb_129) (a_X12_wrongs _ _ cA ad g11989 (1 : Int32) v11974 v11975 hW.2.1 hG q11979 (by have := kc_1; omega) (by have := kc_1; omega) (by have := kc_1; omega) (by have := kc_1; omega)) ⟨by decide, by decide⟩ rfl rfl hl.1 (Nat.le_of_ble_eq_true rfl) dX12_law_97 (fun v g12033 H locs hp hW1 => ?_)
                      obtain ⟨v12030, rfl, hs1, hG, hf1, q12031, e12032⟩ := hp
                      have f12034 : fld g12033 129 4 = .int ee := (hf1.1 129 4 (by omega)).trans f11990
                      have f12035 : fld g12033 129 32 = .int cm := (hf1.1 129 32 (by omega)).trans f11991
                      have f12036 : arI g12033 143 = arI g0 143 := (hf1.2.1 143 (by omega)).trans f11992
                      have f12037 : arI g12033 144 = arI g0 144 := (hf1.2.1 144 (by omega)).trans f11993
                      have f12038 : arI g12033 145 = arI g0 145 := (hf1.2.1 145 (by omega)).trans f11994
                      have f12039 : arI g12033 146 = arI g0 146 := (hf1.2.1 146 (by omega)).trans f11995
                      have f12040 : arI g12033 148 = arI g0 148 := (hf1.2.1 148 (by omega)).trans f11996
                      have f12041 : fld g12033 129 3 = .int v11974 := (hf1.1 129 3 (by omega)).trans q11978
                      have f12042 : fld g12033 129 7 = .int v11976 := (hf1.1 129 7 (by omega)).trans q11980
                      have f12043 : fld g12033 129 6 = .int v11977 := (hf1.1 129 6 (by omega)).trans q11981
                      have f12044 : arI g12033 150 = arI g11989 150 := (hf1.2.1 150 (by omega)).trans (rfl : arI g11989 150 = arI g11989 150)
                      have f12045 : arI g12033 151 = arI g11989 151 := (hf1.2.1 151 (by omega)).trans (rfl : arI g11989 151 = arI g11989 151)
                      have f12046 : arI g12033 152 = arI g11989 152 := (hf1.2.1 152 (by omega)).trans (rfl : arI g11989 152 = arI g11989 152)
                      have f12047 : arI g12033 153 = arI g11989 153 := (hf1.2.1 153 (by omega)).trans (rfl : arI g11989 153 = arI g11989 153)
                      have hW : WS ad cA (fun i k => (i = 129 ∧ (k = 1 ∨ k = 3 ∨ k = 4 ∨ k = 5 ∨ k = 6 ∨ k = 7 ∨ k = 8 ∨ k = 9 ∨ k = 32 ∨ k = 39 ∨ k = 40)) ∨ (142 ≤ i ∧ i < 156)) g0 K g12033 H locs := ⟨hW1, hs1, hW.2.2.tr hf1 (fun i k h => (Or.inl (by omega)))⟩
                      refine q_aload_n hM dX12_law_100 (lv_at hl 1 rfl) ?_
                      refine q_dup hM dX12_law_101 rfl ?_
                      refine w_get (v := .int v11974) hM hW FG_X12_173 lb_129 f12041 dX12_law_102 ?_
                      have bv11974 := hG.f f12041 rF_129_3 (by decide)
                      refine q_iconst (v := (1 : Int32)) hM dX12_law_105 (by decide) ?_
                      refine q_iadd hM dX12_law_106 (fun z12048 hz12048 => ?_)
                      first | have tz12048 := i_addT hz12048 (rfl : v11974.toInt = v11974.toInt) (kc_1 : (1 : Int32).toInt = 1) (by omega) (by omega) | skip
                      refine w_put hM hW FP_X12_173 lb_129 (by omega) (Or.inl ⟨_, rfl⟩) rfl rfl dX12_law_107 (fun g12049 H locs hW e1 e2 => ?_)
                      have f12050 : fld g12049 129 4 = .int ee := (e2.1 129 4 (by unfold Only; omega)).trans f12034
                      have f12051 : fld g12049 129 32 = .int cm := (e2.1 129 32 (by unfold Only; omega)).trans f12035
                      have f12052 : arI g12049 143 = arI g0 143 := (e2.2.1 143 (by unfold Only; omega)).trans f12036
                      have f12053 : arI g12049 144 = arI g0 144 := (e2.2.1 144 (by unfold Only; omega)).trans f12037
                      have f12054 : arI g12049 145 = arI g0 145 := (e2.2.1 145 (by unfold Only; omega)).trans f12038
                      have f12055 : arI g12049 146 = arI g0 146 := (e2.2.1 146 (by unfold Only; omega)).trans f12039
                      have f12056 : arI g12049 148 = arI g0 148 := (e2.2.1 148 (by unfold Only; omega)).trans f12040
                      have f12057 : fld g12049 129 7 = .int v11976 := (e2.1 129 7 (by unfold Only; omega)).trans f12042
                      have f12058 : fld g12049 129 6 = .int v11977 := (e2.1 129 6 (by unfold Only; omega)).trans f12043
                      have f12059 : arI g12049 150 = arI g11989 150 := (e2.2.1 150 (by unfold Only; omega)).trans f12044
                      have f12060 : arI g12049 151 = arI g11989 151 := (e2.2.1 151 (by unfold Only; omega)).trans f12045
                      have f12061 : arI g12049 152 = arI g11989 152 := (e2.2.1 152 (by unfold Only; omega)).trans f12046
                      have f12062 : arI g12049 153 = arI g11989 153 := (e2.2.1 153 (by unfold Only; omega)).trans f12047
                      have f12063 : fld g12049 129 5 = .int v12030 := (e2.1 129 5 (by unfold Only; omega)).trans q12031
                      have f12064 : fld g12049 129 3 = .int z12048 := e1
                      have hG := hG.put e1 e2 rF_129_3 (by decide) (by have := i_rng z12048; omega) (by have := i_rng z12048; omega)
                      refine q_goto (tgt := 39) hM dX12_law_110 (by decide) ?_
                      have := kc_1
                      exact ih39 (1 : Int32) ee z12048 v12030 v11976 v11977 _ _ _ _ (by omega) hG (by omega) (by omega) (by omega) (by omega) (by omega) (by omega) (fun q => by rw [f12059, f12060, f12061, f12062]; exact e11988 (by omega)) f12050 f12064 f12063 f12057 f12058 f12051 f12052 f12053 f12054 f12055 f12056 (lv_sub hl [1, 2, 0] rfl) hW
      have := kc_1
      have := kc_0
      have := kc_0
      exact L39 _ (1 : Int32) v11705 v11704 v11706 (0 : Int32) (0 : Int32) _ _ _ _ (Nat.lt_succ_self _) hG (by omega) (by omega) (by omega) (by omega) (by omega) (by omega) (fun _ k hk => absurd hk (by have := kc_0; omega)) f11739 f11738 f11740 f11742 f11741 f11737 f11732 f11733 f11734 f11735 f11736 (lv_sub hl [1, 2, 0] rfl) hW
    · refine q_iconst (v := ((-1) : Int32)) hM dX12_law_20 (by decide) ?_
      exact hE _ _ _ _ _ _ hW.1 ⟨_, rfl, hW.2.1, hG, hW.2.2, (LWQ_eq hQ (rfl : arI g0 143 = arI g0 143) (rfl : arI g0 144 = arI g0 144) (rfl : arI g0 145 = arI g0 145) (rfl : arI g0 146 = arI g0 146) (rfl : arI g0 148 = arI g0 148) f11697 h_cm)⟩ dX12_law_21
