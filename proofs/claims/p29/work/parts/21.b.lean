def eff (c : Int32) : Int := if 2 < c.toInt then -1 else if c.toInt = 2 then 0 else 1
theorem eff_c (c : Int32) : (2 < c.toInt ∧ eff c = -1) ∨ (c.toInt = 2 ∧ eff c = 0) ∨ (c.toInt < 2 ∧ eff c = 1) := by
  unfold eff
  split
  · omega
  · split <;> omega
/-- how many numbers lie on the pile behind n signs of a text that begins at a -/
def dpt (f : Nat → Int32) (a : Nat) : Nat → Int
  | 0 => 0
  | n + 1 => dpt f a n + eff (f (a + n))
def vok (f : Nat → Int32) (a n : Nat) : Prop := ∀ j, j < n → (2 < (f (a + j)).toInt → 2 ≤ dpt f a j) ∧ ((f (a + j)).toInt = 2 → 1 ≤ dpt f a j)
theorem dpt_next {f : Nat → Int32} {fr i z y : Int32} (h0 : 0 ≤ fr.toInt) (h1 : fr.toInt ≤ i.toInt) (hz : z.toInt = i.toInt + 1) (hy : y = f i.toNatClampNeg) : dpt f fr.toInt.toNat (z.toInt - fr.toInt).toNat = dpt f fr.toInt.toNat (i.toInt - fr.toInt).toNat + eff y := by
  rw [show (z.toInt - fr.toInt).toNat = (i.toInt - fr.toInt).toNat + 1 by omega]
  show dpt f _ _ + eff (f _) = _
  rw [show fr.toInt.toNat + (i.toInt - fr.toInt).toNat = i.toNatClampNeg by show _ = i.toInt.toNat; omega, ← hy]
theorem vok_at {f : Nat → Int32} {fr i y : Int32} {n : Nat} (hv : vok f fr.toInt.toNat n) (h0 : 0 ≤ fr.toInt) (h1 : fr.toInt ≤ i.toInt) (hi : (i.toInt - fr.toInt).toNat < n) (hy : y = f i.toNatClampNeg) : (2 < y.toInt → 2 ≤ dpt f fr.toInt.toNat (i.toInt - fr.toInt).toNat) ∧ (y.toInt = 2 → 1 ≤ dpt f fr.toInt.toNat (i.toInt - fr.toInt).toNat) := by
  have h := hv _ hi
  rw [show fr.toInt.toNat + (i.toInt - fr.toInt).toNat = i.toNatClampNeg by show _ = i.toInt.toNat; omega, ← hy] at h
  exact h
theorem dpt_0 {f : Nat → Int32} {fr : Int32} : dpt f fr.toInt.toNat (fr.toInt - fr.toInt).toNat = 0 := by rw [Int.sub_self]; rfl
/-- one clause's programs stand within the text and never miss a number -/
def LA1 (g : Nat → va_E) (k : Nat) : Prop := 0 ≤ (arI g 143 k).toInt ∧ (arI g 143 k).toInt ≤ (arI g 144 k).toInt ∧ (arI g 144 k).toInt ≤ (arI g 145 k).toInt ∧ (arI g 145 k).toInt ≤ 480 ∧ (arI g 145 k).toInt ≤ (arI g 143 k).toInt + 240 ∧ vok (arI g 146) (arI g 143 k).toInt.toNat ((arI g 144 k).toInt - (arI g 143 k).toInt).toNat ∧ vok (arI g 146) (arI g 144 k).toInt.toNat ((arI g 145 k).toInt - (arI g 144 k).toInt).toNat
def LawOK (g : Nat → va_E) : Prop := ∀ l k : Nat, l < 2 → (k : Int) < (arI g 148 l).toInt → LA1 g (16 * l + k)
theorem LA1_eq {g g1 : Nat → va_E} {k : Nat} (h : LA1 g k) (e1 : arI g1 143 = arI g 143) (e2 : arI g1 144 = arI g 144) (e3 : arI g1 145 = arI g 145) (e4 : arI g1 146 = arI g 146) : LA1 g1 k := by
  unfold LA1
  rw [e1, e2, e3, e4]
  exact h
theorem LawOK_fr {T : Nat → Nat → Prop} {g g1 : Nat → va_E} (h : LawOK g) (hf : FR T g g1) (n1 : ¬ T 143 0) (n2 : ¬ T 144 0) (n3 : ¬ T 145 0) (n4 : ¬ T 146 0) (n5 : ¬ T 148 0) : LawOK g1 := by
  intro l k hl hk
  rw [hf.2.1 148 n5] at hk
  exact LA1_eq (h l k hl hk) (hf.2.1 143 n1) (hf.2.1 144 n2) (hf.2.1 145 n3) (hf.2.1 146 n4)
theorem LawOK_at {g : Nat → va_E} (h : LawOK g) {l fr k y : Int32} (l0 : 0 ≤ l.toInt) (l1 : l.toInt ≤ 1) (hf : fr.toInt = 16 * l.toInt) (h1 : fr.toInt ≤ k.toInt) (hy : y = arI g 148 l.toNatClampNeg) (h2 : k.toInt < fr.toInt + y.toInt) : LA1 g k.toNatClampNeg := by
  have e : k.toNatClampNeg = 16 * l.toNatClampNeg + (k.toInt - fr.toInt).toNat := by
    show k.toInt.toNat = 16 * l.toInt.toNat + (k.toInt - fr.toInt).toNat
    omega
  rw [e]
  refine h _ _ (by show l.toInt.toNat < 2; omega) ?_
  rw [← hy]
  omega

theorem dX12_valueOf_0 : decode cX12_valueOf 0 = .ok (.iload_n 1, 1) := by decide +kernel
theorem dX12_valueOf_1 : decode cX12_valueOf 1 = .ok (.tableswitch 138 97 118 #[128, 138, 123, 138, 138, 103, 138, 138, 138, 138, 108, 138, 138, 133, 138, 118, 138, 138, 138, 138, 138, 113], 103) := by decide +kernel
theorem dX12_valueOf_104 : decode cX12_valueOf 104 = .ok (.aload_n 0, 1) := by decide +kernel
theorem dX12_valueOf_105 : decode cX12_valueOf 105 = .ok (.getfield 365, 3) := by decide +kernel
theorem dX12_valueOf_108 : decode cX12_valueOf 108 = .ok (.ireturn, 1) := by decide +kernel
theorem dX12_valueOf_109 : decode cX12_valueOf 109 = .ok (.aload_n 0, 1) := by decide +kernel
theorem dX12_valueOf_110 : decode cX12_valueOf 110 = .ok (.getfield 368, 3) := by decide +kernel
theorem dX12_valueOf_113 : decode cX12_valueOf 113 = .ok (.ireturn, 1) := by decide +kernel
theorem dX12_valueOf_114 : decode cX12_valueOf 114 = .ok (.aload_n 0, 1) := by decide +kernel
theorem dX12_valueOf_115 : decode cX12_valueOf 115 = .ok (.getfield 371, 3) := by decide +kernel
theorem dX12_valueOf_118 : decode cX12_valueOf 118 = .ok (.ireturn, 1) := by decide +kernel
theorem dX12_valueOf_119 : decode cX12_valueOf 119 = .ok (.aload_n 0, 1) := by decide +kernel
theorem dX12_valueOf_120 : decode cX12_valueOf 120 = .ok (.getfield 374, 3) := by decide +kernel
theorem dX12_valueOf_123 : decode cX12_valueOf 123 = .ok (.ireturn, 1) := by decide +kernel
theorem dX12_valueOf_124 : decode cX12_valueOf 124 = .ok (.aload_n 0, 1) := by decide +kernel
theorem dX12_valueOf_125 : decode cX12_valueOf 125 = .ok (.getfield 377, 3) := by decide +kernel
theorem dX12_valueOf_128 : decode cX12_valueOf 128 = .ok (.ireturn, 1) := by decide +kernel
theorem dX12_valueOf_129 : decode cX12_valueOf 129 = .ok (.aload_n 0, 1) := by decide +kernel
theorem dX12_valueOf_130 : decode cX12_valueOf 130 = .ok (.getfield 380, 3) := by decide +kernel
theorem dX12_valueOf_133 : decode cX12_valueOf 133 = .ok (.ireturn, 1) := by decide +kernel
theorem dX12_valueOf_134 : decode cX12_valueOf 134 = .ok (.aload_n 0, 1) := by decide +kernel
theorem dX12_valueOf_135 : decode cX12_valueOf 135 = .ok (.getfield 383, 3) := by decide +kernel
theorem dX12_valueOf_138 : decode cX12_valueOf 138 = .ok (.ireturn, 1) := by decide +kernel
theorem dX12_valueOf_139 : decode cX12_valueOf 139 = .ok (.aload_n 0, 1) := by decide +kernel
theorem dX12_valueOf_140 : decode cX12_valueOf 140 = .ok (.getfield 386, 3) := by decide +kernel
theorem dX12_valueOf_143 : decode cX12_valueOf 143 = .ok (.ireturn, 1) := by decide +kernel
theorem FG_X12_386 : FG RX12 386 12 86 49 := ⟨RX12, TX12, rfl, wX12, by decide, kAW (v_4_5 (List.mem_of_getElem? (i := 14) rfl)) rfl, rfl⟩
theorem FG_X12_380 : FG RX12 380 12 86 47 := ⟨RX12, TX12, rfl, wX12, by decide, kAW (v_4_5 (List.mem_of_getElem? (i := 12) rfl)) rfl, rfl⟩
theorem FG_X12_377 : FG RX12 377 12 86 46 := ⟨RX12, TX12, rfl, wX12, by decide, kAW (v_4_5 (List.mem_of_getElem? (i := 11) rfl)) rfl, rfl⟩
theorem FG_X12_365 : FG RX12 365 12 86 42 := ⟨RX12, TX12, rfl, wX12, by decide, kAW (v_4_5 (List.mem_of_getElem? (i := 7) rfl)) rfl, rfl⟩
theorem FG_X12_368 : FG RX12 368 12 86 43 := ⟨RX12, TX12, rfl, wX12, by decide, kAW (v_4_5 (List.mem_of_getElem? (i := 8) rfl)) rfl, rfl⟩
theorem FG_X12_383 : FG RX12 383 12 86 48 := ⟨RX12, TX12, rfl, wX12, by decide, kAW (v_4_5 (List.mem_of_getElem? (i := 13) rfl)) rfl, rfl⟩
theorem FG_X12_374 : FG RX12 374 12 86 45 := ⟨RX12, TX12, rfl, wX12, by decide, kAW (v_4_5 (List.mem_of_getElem? (i := 10) rfl)) rfl, rfl⟩
theorem FG_X12_371 : FG RX12 371 12 86 44 := ⟨RX12, TX12, rfl, wX12, by decide, kAW (v_4_5 (List.mem_of_getElem? (i := 9) rfl)) rfl, rfl⟩
set_option maxRecDepth 100000 in
set_option maxHeartbeats 4000000 in
theorem a_X12_valueOf (l : Launch) (D : va_G) (cA : Nat → ClassId) (ad : Nat → Nat) (g0 : Nat → va_E) (c : Int32) (hSh : Shp ad cA g0) (hG : Rng g0) : CT l NN ad cA D yX12_valueOf cX12_valueOf 2 (some FieldType.int) (0, 0) [.ref (ad 129), .int c] g0 (PU g0 (fun r => True)) := by
  refine q_enterI (by decide) (Nat.le_of_ble_eq_true rfl) rfl (fun K H locs ls _ _ hM hW0 hR hC hE hl => ?_)
  have hl : lv_has ls 2 [(0, .ref (ad 129)), (1, .int c)] := hl
  have hW : WS ad cA (fun i k => False) g0 K g0 H locs := ⟨hW0, hSh, FR.rf⟩
  refine q_iload_n hM dX12_valueOf_0 (lv_at hl 1 rfl) ?_
  rcases (show c.toInt < 97 ∨ 118 < c.toInt ∨ c.toInt = 97 ∨ c.toInt = 98 ∨ c.toInt = 99 ∨ c.toInt = 100 ∨ c.toInt = 101 ∨ c.toInt = 102 ∨ c.toInt = 103 ∨ c.toInt = 104 ∨ c.toInt = 105 ∨ c.toInt = 106 ∨ c.toInt = 107 ∨ c.toInt = 108 ∨ c.toInt = 109 ∨ c.toInt = 110 ∨ c.toInt = 111 ∨ c.toInt = 112 ∨ c.toInt = 113 ∨ c.toInt = 114 ∨ c.toInt = 115 ∨ c.toInt = 116 ∨ c.toInt = 117 ∨ c.toInt = 118 from by omega) with h1 | h1 | h1 | h1 | h1 | h1 | h1 | h1 | h1 | h1 | h1 | h1 | h1 | h1 | h1 | h1 | h1 | h1 | h1 | h1 | h1 | h1 | h1 | h1
  · refine q_tableOut (tgt := 139) hM dX12_valueOf_1 rfl (by omega) (by decide) ?_
    refine q_aload_n hM dX12_valueOf_139 (lv_at hl 0 rfl) ?_
    refine w_getI hM hW FG_X12_386 lb_129 (by decide) (by decide) dX12_valueOf_140 (fun x5687 fx5687 => ?_)
    exact hE _ _ _ _ _ _ hW.1 ⟨_, rfl, (by trivial), rfl⟩ dX12_valueOf_143
  · refine q_tableOut (tgt := 139) hM dX12_valueOf_1 rfl (by omega) (by decide) ?_
    refine q_aload_n hM dX12_valueOf_139 (lv_at hl 0 rfl) ?_
    refine w_getI hM hW FG_X12_386 lb_129 (by decide) (by decide) dX12_valueOf_140 (fun x5689 fx5689 => ?_)
    exact hE _ _ _ _ _ _ hW.1 ⟨_, rfl, (by trivial), rfl⟩ dX12_valueOf_143
  · refine q_tableIn (tgt := 129) hM dX12_valueOf_1 ((rfl : c.toInt = _).trans h1) (by decide) (by decide) rfl (by decide) ?_
    refine q_aload_n hM dX12_valueOf_129 (lv_at hl 0 rfl) ?_
    refine w_getI hM hW FG_X12_380 lb_129 (by decide) (by decide) dX12_valueOf_130 (fun x5691 fx5691 => ?_)
    exact hE _ _ _ _ _ _ hW.1 ⟨_, rfl, (by trivial), rfl⟩ dX12_valueOf_133
  · refine q_tableIn (tgt := 139) hM dX12_valueOf_1 ((rfl : c.toInt = _).trans h1) (by decide) (by decide) rfl (by decide) ?_
    refine q_aload_n hM dX12_valueOf_139 (lv_at hl 0 rfl) ?_
    refine w_getI hM hW FG_X12_386 lb_129 (by decide) (by decide) dX12_valueOf_140 (fun x5693 fx5693 => ?_)
    exact hE _ _ _ _ _ _ hW.1 ⟨_, rfl, (by trivial), rfl⟩ dX12_valueOf_143
  · refine q_tableIn (tgt := 124) hM dX12_valueOf_1 ((rfl : c.toInt = _).trans h1) (by decide) (by decide) rfl (by decide) ?_
    refine q_aload_n hM dX12_valueOf_124 (lv_at hl 0 rfl) ?_
    refine w_getI hM hW FG_X12_377 lb_129 (by decide) (by decide) dX12_valueOf_125 (fun x5695 fx5695 => ?_)
    exact hE _ _ _ _ _ _ hW.1 ⟨_, rfl, (by trivial), rfl⟩ dX12_valueOf_128
  · refine q_tableIn (tgt := 139) hM dX12_valueOf_1 ((rfl : c.toInt = _).trans h1) (by decide) (by decide) rfl (by decide) ?_
    refine q_aload_n hM dX12_valueOf_139 (lv_at hl 0 rfl) ?_
    refine w_getI hM hW FG_X12_386 lb_129 (by decide) (by decide) dX12_valueOf_140 (fun x5697 fx5697 => ?_)
    exact hE _ _ _ _ _ _ hW.1 ⟨_, rfl, (by trivial), rfl⟩ dX12_valueOf_143
  · refine q_tableIn (tgt := 139) hM dX12_valueOf_1 ((rfl : c.toInt = _).trans h1) (by decide) (by decide) rfl (by decide) ?_
    refine q_aload_n hM dX12_valueOf_139 (lv_at hl 0 rfl) ?_
    refine w_getI hM hW FG_X12_386 lb_129 (by decide) (by decide) dX12_valueOf_140 (fun x5699 fx5699 => ?_)
    exact hE _ _ _ _ _ _ hW.1 ⟨_, rfl, (by trivial), rfl⟩ dX12_valueOf_143
  · refine q_tableIn (tgt := 104) hM dX12_valueOf_1 ((rfl : c.toInt = _).trans h1) (by decide) (by decide) rfl (by decide) ?_
    refine q_aload_n hM dX12_valueOf_104 (lv_at hl 0 rfl) ?_
    refine w_getI hM hW FG_X12_365 lb_129 (by decide) (by decide) dX12_valueOf_105 (fun x5701 fx5701 => ?_)
    exact hE _ _ _ _ _ _ hW.1 ⟨_, rfl, (by trivial), rfl⟩ dX12_valueOf_108
  · refine q_tableIn (tgt := 139) hM dX12_valueOf_1 ((rfl : c.toInt = _).trans h1) (by decide) (by decide) rfl (by decide) ?_
    refine q_aload_n hM dX12_valueOf_139 (lv_at hl 0 rfl) ?_
    refine w_getI hM hW FG_X12_386 lb_129 (by decide) (by decide) dX12_valueOf_140 (fun x5703 fx5703 => ?_)
    exact hE _ _ _ _ _ _ hW.1 ⟨_, rfl, (by trivial), rfl⟩ dX12_valueOf_143
  · refine q_tableIn (tgt := 139) hM dX12_valueOf_1 ((rfl : c.toInt = _).trans h1) (by decide) (by decide) rfl (by decide) ?_
    refine q_aload_n hM dX12_valueOf_139 (lv_at hl 0 rfl) ?_
    refine w_getI hM hW FG_X12_386 lb_129 (by decide) (by decide) dX12_valueOf_140 (fun x5705 fx5705 => ?_)
    exact hE _ _ _ _ _ _ hW.1 ⟨_, rfl, (by trivial), rfl⟩ dX12_valueOf_143
  · refine q_tableIn (tgt := 139) hM dX12_valueOf_1 ((rfl : c.toInt = _).trans h1) (by decide) (by decide) rfl (by decide) ?_
    refine q_aload_n hM dX12_valueOf_139 (lv_at hl 0 rfl) ?_
    refine w_getI hM hW FG_X12_386 lb_129 (by decide) (by decide) dX12_valueOf_140 (fun x5707 fx5707 => ?_)
    exact hE _ _ _ _ _ _ hW.1 ⟨_, rfl, (by trivial), rfl⟩ dX12_valueOf_143
  · refine q_tableIn (tgt := 139) hM dX12_valueOf_1 ((rfl : c.toInt = _).trans h1) (by decide) (by decide) rfl (by decide) ?_
    refine q_aload_n hM dX12_valueOf_139 (lv_at hl 0 rfl) ?_
    refine w_getI hM hW FG_X12_386 lb_129 (by decide) (by decide) dX12_valueOf_140 (fun x5709 fx5709 => ?_)
    exact hE _ _ _ _ _ _ hW.1 ⟨_, rfl, (by trivial), rfl⟩ dX12_valueOf_143
  · refine q_tableIn (tgt := 109) hM dX12_valueOf_1 ((rfl : c.toInt = _).trans h1) (by decide) (by decide) rfl (by decide) ?_
    refine q_aload_n hM dX12_valueOf_109 (lv_at hl 0 rfl) ?_
    refine w_getI hM hW FG_X12_368 lb_129 (by decide) (by decide) dX12_valueOf_110 (fun x5711 fx5711 => ?_)
    exact hE _ _ _ _ _ _ hW.1 ⟨_, rfl, (by trivial), rfl⟩ dX12_valueOf_113
  · refine q_tableIn (tgt := 139) hM dX12_valueOf_1 ((rfl : c.toInt = _).trans h1) (by decide) (by decide) rfl (by decide) ?_
    refine q_aload_n hM dX12_valueOf_139 (lv_at hl 0 rfl) ?_
    refine w_getI hM hW FG_X12_386 lb_129 (by decide) (by decide) dX12_valueOf_140 (fun x5713 fx5713 => ?_)
    exact hE _ _ _ _ _ _ hW.1 ⟨_, rfl, (by trivial), rfl⟩ dX12_valueOf_143
  · refine q_tableIn (tgt := 139) hM dX12_valueOf_1 ((rfl : c.toInt = _).trans h1) (by decide) (by decide) rfl (by decide) ?_
    refine q_aload_n hM dX12_valueOf_139 (lv_at hl 0 rfl) ?_
    refine w_getI hM hW FG_X12_386 lb_129 (by decide) (by decide) dX12_valueOf_140 (fun x5715 fx5715 => ?_)
    exact hE _ _ _ _ _ _ hW.1 ⟨_, rfl, (by trivial), rfl⟩ dX12_valueOf_143
  · refine q_tableIn (tgt := 134) hM dX12_valueOf_1 ((rfl : c.toInt = _).trans h1) (by decide) (by decide) rfl (by decide) ?_
    refine q_aload_n hM dX12_valueOf_134 (lv_at hl 0 rfl) ?_
    refine w_getI hM hW FG_X12_383 lb_129 (by decide) (by decide) dX12_valueOf_135 (fun x5717 fx5717 => ?_)
    exact hE _ _ _ _ _ _ hW.1 ⟨_, rfl, (by trivial), rfl⟩ dX12_valueOf_138
  · refine q_tableIn (tgt := 139) hM dX12_valueOf_1 ((rfl : c.toInt = _).trans h1) (by decide) (by decide) rfl (by decide) ?_
    refine q_aload_n hM dX12_valueOf_139 (lv_at hl 0 rfl) ?_
    refine w_getI hM hW FG_X12_386 lb_129 (by decide) (by decide) dX12_valueOf_140 (fun x5719 fx5719 => ?_)
    exact hE _ _ _ _ _ _ hW.1 ⟨_, rfl, (by trivial), rfl⟩ dX12_valueOf_143
  · refine q_tableIn (tgt := 119) hM dX12_valueOf_1 ((rfl : c.toInt = _).trans h1) (by decide) (by decide) rfl (by decide) ?_
    refine q_aload_n hM dX12_valueOf_119 (lv_at hl 0 rfl) ?_
    refine w_getI hM hW FG_X12_374 lb_129 (by decide) (by decide) dX12_valueOf_120 (fun x5721 fx5721 => ?_)
    exact hE _ _ _ _ _ _ hW.1 ⟨_, rfl, (by trivial), rfl⟩ dX12_valueOf_123
  · refine q_tableIn (tgt := 139) hM dX12_valueOf_1 ((rfl : c.toInt = _).trans h1) (by decide) (by decide) rfl (by decide) ?_
    refine q_aload_n hM dX12_valueOf_139 (lv_at hl 0 rfl) ?_
    refine w_getI hM hW FG_X12_386 lb_129 (by decide) (by decide) dX12_valueOf_140 (fun x5723 fx5723 => ?_)
    exact hE _ _ _ _ _ _ hW.1 ⟨_, rfl, (by trivial), rfl⟩ dX12_valueOf_143
  · refine q_tableIn (tgt := 139) hM dX12_valueOf_1 ((rfl : c.toInt = _).trans h1) (by decide) (by decide) rfl (by decide) ?_
    refine q_aload_n hM dX12_valueOf_139 (lv_at hl 0 rfl) ?_
    refine w_getI hM hW FG_X12_386 lb_129 (by decide) (by decide) dX12_valueOf_140 (fun x5725 fx5725 => ?_)
    exact hE _ _ _ _ _ _ hW.1 ⟨_, rfl, (by trivial), rfl⟩ dX12_valueOf_143
  · refine q_tableIn (tgt := 139) hM dX12_valueOf_1 ((rfl : c.toInt = _).trans h1) (by decide) (by decide) rfl (by decide) ?_
    refine q_aload_n hM dX12_valueOf_139 (lv_at hl 0 rfl) ?_
    refine w_getI hM hW FG_X12_386 lb_129 (by decide) (by decide) dX12_valueOf_140 (fun x5727 fx5727 => ?_)
    exact hE _ _ _ _ _ _ hW.1 ⟨_, rfl, (by trivial), rfl⟩ dX12_valueOf_143
  · refine q_tableIn (tgt := 139) hM dX12_valueOf_1 ((rfl : c.toInt = _).trans h1) (by decide) (by decide) rfl (by decide) ?_
    refine q_aload_n hM dX12_valueOf_139 (lv_at hl 0 rfl) ?_
    refine w_getI hM hW FG_X12_386 lb_129 (by decide) (by decide) dX12_valueOf_140 (fun x5729 fx5729 => ?_)
    exact hE _ _ _ _ _ _ hW.1 ⟨_, rfl, (by trivial), rfl⟩ dX12_valueOf_143
  · refine q_tableIn (tgt := 139) hM dX12_valueOf_1 ((rfl : c.toInt = _).trans h1) (by decide) (by decide) rfl (by decide) ?_
    refine q_aload_n hM dX12_valueOf_139 (lv_at hl 0 rfl) ?_
    refine w_getI hM hW FG_X12_386 lb_129 (by decide) (by decide) dX12_valueOf_140 (fun x5731 fx5731 => ?_)
    exact hE _ _ _ _ _ _ hW.1 ⟨_, rfl, (by trivial), rfl⟩ dX12_valueOf_143
  · refine q_tableIn (tgt := 114) hM dX12_valueOf_1 ((rfl : c.toInt = _).trans h1) (by decide) (by decide) rfl (by decide) ?_
    refine q_aload_n hM dX12_valueOf_114 (lv_at hl 0 rfl) ?_
    refine w_getI hM hW FG_X12_371 lb_129 (by decide) (by decide) dX12_valueOf_115 (fun x5733 fx5733 => ?_)
    exact hE _ _ _ _ _ _ hW.1 ⟨_, rfl, (by trivial), rfl⟩ dX12_valueOf_118

theorem dX12_worked_0 : decode cX12_worked 0 = .ok (.iload_n 0, 1) := by decide +kernel
theorem dX12_worked_1 : decode cX12_worked 1 = .ok (.lookupswitch 125 #[(37, 91), (42, 75), (43, 67), (45, 71), (47, 79), (60, 103), (62, 114)], 67) := by decide +kernel
theorem dX12_worked_68 : decode cX12_worked 68 = .ok (.iload_n 1, 1) := by decide +kernel
theorem dX12_worked_69 : decode cX12_worked 69 = .ok (.iload_n 2, 1) := by decide +kernel
theorem dX12_worked_70 : decode cX12_worked 70 = .ok (.iadd, 1) := by decide +kernel
theorem dX12_worked_71 : decode cX12_worked 71 = .ok (.ireturn, 1) := by decide +kernel
theorem dX12_worked_72 : decode cX12_worked 72 = .ok (.iload_n 1, 1) := by decide +kernel
theorem dX12_worked_73 : decode cX12_worked 73 = .ok (.iload_n 2, 1) := by decide +kernel
theorem dX12_worked_74 : decode cX12_worked 74 = .ok (.isub, 1) := by decide +kernel
theorem dX12_worked_75 : decode cX12_worked 75 = .ok (.ireturn, 1) := by decide +kernel
theorem dX12_worked_76 : decode cX12_worked 76 = .ok (.iload_n 1, 1) := by decide +kernel
theorem dX12_worked_77 : decode cX12_worked 77 = .ok (.iload_n 2, 1) := by decide +kernel
theorem dX12_worked_78 : decode cX12_worked 78 = .ok (.imul, 1) := by decide +kernel
theorem dX12_worked_79 : decode cX12_worked 79 = .ok (.ireturn, 1) := by decide +kernel
theorem dX12_worked_80 : decode cX12_worked 80 = .ok (.iload_n 2, 1) := by decide +kernel
theorem dX12_worked_81 : decode cX12_worked 81 = .ok (.ifCond .ne 7, 3) := by decide +kernel
theorem dX12_worked_84 : decode cX12_worked 84 = .ok (.iconst 0, 1) := by decide +kernel
theorem dX12_worked_85 : decode cX12_worked 85 = .ok (.goto 6, 3) := by decide +kernel
theorem dX12_worked_88 : decode cX12_worked 88 = .ok (.iload_n 1, 1) := by decide +kernel
theorem dX12_worked_89 : decode cX12_worked 89 = .ok (.iload_n 2, 1) := by decide +kernel
theorem dX12_worked_90 : decode cX12_worked 90 = .ok (.idiv, 1) := by decide +kernel
theorem dX12_worked_91 : decode cX12_worked 91 = .ok (.ireturn, 1) := by decide +kernel
theorem dX12_worked_92 : decode cX12_worked 92 = .ok (.iload_n 2, 1) := by decide +kernel
theorem dX12_worked_93 : decode cX12_worked 93 = .ok (.ifCond .ne 7, 3) := by decide +kernel
theorem dX12_worked_96 : decode cX12_worked 96 = .ok (.iconst 0, 1) := by decide +kernel
theorem dX12_worked_97 : decode cX12_worked 97 = .ok (.goto 6, 3) := by decide +kernel
theorem dX12_worked_100 : decode cX12_worked 100 = .ok (.iload_n 1, 1) := by decide +kernel
theorem dX12_worked_101 : decode cX12_worked 101 = .ok (.iload_n 2, 1) := by decide +kernel
theorem dX12_worked_102 : decode cX12_worked 102 = .ok (.irem, 1) := by decide +kernel
theorem dX12_worked_103 : decode cX12_worked 103 = .ok (.ireturn, 1) := by decide +kernel
theorem dX12_worked_104 : decode cX12_worked 104 = .ok (.iload_n 1, 1) := by decide +kernel
theorem dX12_worked_105 : decode cX12_worked 105 = .ok (.iload_n 2, 1) := by decide +kernel
theorem dX12_worked_106 : decode cX12_worked 106 = .ok (.if_icmp .ge 7, 3) := by decide +kernel
theorem dX12_worked_109 : decode cX12_worked 109 = .ok (.iconst 1, 1) := by decide +kernel
theorem dX12_worked_110 : decode cX12_worked 110 = .ok (.goto 4, 3) := by decide +kernel
theorem dX12_worked_113 : decode cX12_worked 113 = .ok (.iconst 0, 1) := by decide +kernel
theorem dX12_worked_114 : decode cX12_worked 114 = .ok (.ireturn, 1) := by decide +kernel
theorem dX12_worked_115 : decode cX12_worked 115 = .ok (.iload_n 1, 1) := by decide +kernel
theorem dX12_worked_116 : decode cX12_worked 116 = .ok (.iload_n 2, 1) := by decide +kernel
theorem dX12_worked_117 : decode cX12_worked 117 = .ok (.if_icmp .le 7, 3) := by decide +kernel
theorem dX12_worked_120 : decode cX12_worked 120 = .ok (.iconst 1, 1) := by decide +kernel
theorem dX12_worked_121 : decode cX12_worked 121 = .ok (.goto 4, 3) := by decide +kernel
theorem dX12_worked_124 : decode cX12_worked 124 = .ok (.iconst 0, 1) := by decide +kernel
theorem dX12_worked_125 : decode cX12_worked 125 = .ok (.ireturn, 1) := by decide +kernel
theorem dX12_worked_126 : decode cX12_worked 126 = .ok (.iload_n 1, 1) := by decide +kernel
theorem dX12_worked_127 : decode cX12_worked 127 = .ok (.iload_n 2, 1) := by decide +kernel
theorem dX12_worked_128 : decode cX12_worked 128 = .ok (.if_icmp .ne 7, 3) := by decide +kernel
theorem dX12_worked_131 : decode cX12_worked 131 = .ok (.iconst 1, 1) := by decide +kernel
theorem dX12_worked_132 : decode cX12_worked 132 = .ok (.goto 4, 3) := by decide +kernel
theorem dX12_worked_135 : decode cX12_worked 135 = .ok (.iconst 0, 1) := by decide +kernel
theorem dX12_worked_136 : decode cX12_worked 136 = .ok (.ireturn, 1) := by decide +kernel
set_option maxRecDepth 100000 in
set_option maxHeartbeats 4000000 in
theorem a_X12_worked (l : Launch) (D : va_G) (cA : Nat → ClassId) (ad : Nat → Nat) (g0 : Nat → va_E) (c : Int32) (a : Int32) (b : Int32) (hSh : Shp ad cA g0) (hG : Rng g0) : CT l NN ad cA D yX12_worked cX12_worked 3 (some FieldType.int) (0, 0) [.int c, .int a, .int b] g0 (PU g0 (fun r => True)) := by
  refine q_enterI (by decide) (Nat.le_of_ble_eq_true rfl) rfl (fun K H locs ls _ _ hM hW0 hR hC hE hl => ?_)
  have hl : lv_has ls 3 [(0, .int c), (1, .int a), (2, .int b)] := hl
  have hW : WS ad cA (fun i k => False) g0 K g0 H locs := ⟨hW0, hSh, FR.rf⟩
  refine q_iload_n hM dX12_worked_0 (lv_at hl 0 rfl) ?_
  rcases (show c.toInt = 37 ∨ c.toInt = 42 ∨ c.toInt = 43 ∨ c.toInt = 45 ∨ c.toInt = 47 ∨ c.toInt = 60 ∨ c.toInt = 62 ∨ (¬ c.toInt = 37 ∧ ¬ c.toInt = 42 ∧ ¬ c.toInt = 43 ∧ ¬ c.toInt = 45 ∧ ¬ c.toInt = 47 ∧ ¬ c.toInt = 60 ∧ ¬ c.toInt = 62) from by omega) with h1 | h1 | h1 | h1 | h1 | h1 | h1 | h1
  · refine q_lookup (off := 91) (tgt := 92) hM dX12_worked_1 (by decide) (by rw [h1]; rfl) (by decide) ?_
    refine q_iload_n hM dX12_worked_92 (lv_at hl 2 rfl) ?_
    refine q_if_ne (tgt := 100) hM dX12_worked_93 (by decide) (rfl : b.toInt = b.toInt) (fun h93 => ?_) (fun h93 => ?_)
    · refine q_iload_n hM dX12_worked_100 (lv_at hl 1 rfl) ?_
      refine q_iload_n hM dX12_worked_101 (lv_at hl 2 rfl) ?_
      refine q_irem hM (by intro e9; have e8 := congrArg Int32.toInt e9; have := kc_0; have e7 := kc_0; omega) dX12_worked_102 (fun z5736 hz5736 => ?_)
      first | have tz5736 := i_remT hz5736 (rfl : a.toInt = a.toInt) (rfl : b.toInt = b.toInt) (by omega) (by omega) | skip
      exact hE _ _ _ _ _ _ hW.1 ⟨_, rfl, (by trivial), rfl⟩ dX12_worked_103
    · refine q_iconst (v := (0 : Int32)) hM dX12_worked_96 (by decide) ?_
      refine q_goto (tgt := 103) hM dX12_worked_97 (by decide) ?_
      exact hE _ _ _ _ _ _ hW.1 ⟨_, rfl, (by have := kc_0; trivial), rfl⟩ dX12_worked_103
  · refine q_lookup (off := 75) (tgt := 76) hM dX12_worked_1 (by decide) (by rw [h1]; rfl) (by decide) ?_
    refine q_iload_n hM dX12_worked_76 (lv_at hl 1 rfl) ?_
    refine q_iload_n hM dX12_worked_77 (lv_at hl 2 rfl) ?_
    refine q_imul hM dX12_worked_78 (fun z5739 hz5739 => ?_)
    first | have tz5739 := i_mulT hz5739 (rfl : a.toInt = a.toInt) (rfl : b.toInt = b.toInt) (by omega) (by omega) | skip
    exact hE _ _ _ _ _ _ hW.1 ⟨_, rfl, (by trivial), rfl⟩ dX12_worked_79
  · refine q_lookup (off := 67) (tgt := 68) hM dX12_worked_1 (by decide) (by rw [h1]; rfl) (by decide) ?_
    refine q_iload_n hM dX12_worked_68 (lv_at hl 1 rfl) ?_
    refine q_iload_n hM dX12_worked_69 (lv_at hl 2 rfl) ?_
    refine q_iadd hM dX12_worked_70 (fun z5741 hz5741 => ?_)
    first | have tz5741 := i_addT hz5741 (rfl : a.toInt = a.toInt) (rfl : b.toInt = b.toInt) (by omega) (by omega) | skip
    exact hE _ _ _ _ _ _ hW.1 ⟨_, rfl, (by trivial), rfl⟩ dX12_worked_71
  · refine q_lookup (off := 71) (tgt := 72) hM dX12_worked_1 (by decide) (by rw [h1]; rfl) (by decide) ?_
    refine q_iload_n hM dX12_worked_72 (lv_at hl 1 rfl) ?_
    refine q_iload_n hM dX12_worked_73 (lv_at hl 2 rfl) ?_
    refine q_isub hM dX12_worked_74 (fun z5743 hz5743 => ?_)
    first | have tz5743 := i_subT hz5743 (rfl : a.toInt = a.toInt) (rfl : b.toInt = b.toInt) (by omega) (by omega) | skip
    exact hE _ _ _ _ _ _ hW.1 ⟨_, rfl, (by trivial), rfl⟩ dX12_worked_75
  · refine q_lookup (off := 79) (tgt := 80) hM dX12_worked_1 (by decide) (by rw [h1]; rfl) (by decide) ?_
    refine q_iload_n hM dX12_worked_80 (lv_at hl 2 rfl) ?_
    refine q_if_ne (tgt := 88) hM dX12_worked_81 (by decide) (rfl : b.toInt = b.toInt) (fun h81 => ?_) (fun h81 => ?_)
    · refine q_iload_n hM dX12_worked_88 (lv_at hl 1 rfl) ?_
      refine q_iload_n hM dX12_worked_89 (lv_at hl 2 rfl) ?_
      refine q_idiv hM (by intro e9; have e8 := congrArg Int32.toInt e9; have := kc_0; have e7 := kc_0; omega) dX12_worked_90 (fun z5746 hz5746 => ?_)
      first | have tz5746 := i_divT hz5746 (rfl : a.toInt = a.toInt) (rfl : b.toInt = b.toInt) (by omega) (by omega) | skip
      exact hE _ _ _ _ _ _ hW.1 ⟨_, rfl, (by trivial), rfl⟩ dX12_worked_91
    · refine q_iconst (v := (0 : Int32)) hM dX12_worked_84 (by decide) ?_
      refine q_goto (tgt := 91) hM dX12_worked_85 (by decide) ?_
      exact hE _ _ _ _ _ _ hW.1 ⟨_, rfl, (by have := kc_0; trivial), rfl⟩ dX12_worked_91
  · refine q_lookup (off := 103) (tgt := 104) hM dX12_worked_1 (by decide) (by rw [h1]; rfl) (by decide) ?_
    refine q_iload_n hM dX12_worked_104 (lv_at hl 1 rfl) ?_
    refine q_iload_n hM dX12_worked_105 (lv_at hl 2 rfl) ?_
    refine q_icmp_ge (tgt := 113) hM dX12_worked_106 (by decide) (rfl : a.toInt = a.toInt) (rfl : b.toInt = b.toInt) (fun h106 => ?_) (fun h106 => ?_)
    · refine q_iconst (v := (0 : Int32)) hM dX12_worked_113 (by decide) ?_
      exact hE _ _ _ _ _ _ hW.1 ⟨_, rfl, (by have := kc_0; trivial), rfl⟩ dX12_worked_114
    · refine q_iconst (v := (1 : Int32)) hM dX12_worked_109 (by decide) ?_
      refine q_goto (tgt := 114) hM dX12_worked_110 (by decide) ?_
      exact hE _ _ _ _ _ _ hW.1 ⟨_, rfl, (by have := kc_1; trivial), rfl⟩ dX12_worked_114
  · refine q_lookup (off := 114) (tgt := 115) hM dX12_worked_1 (by decide) (by rw [h1]; rfl) (by decide) ?_
    refine q_iload_n hM dX12_worked_115 (lv_at hl 1 rfl) ?_
    refine q_iload_n hM dX12_worked_116 (lv_at hl 2 rfl) ?_
    refine q_icmp_le (tgt := 124) hM dX12_worked_117 (by decide) (rfl : a.toInt = a.toInt) (rfl : b.toInt = b.toInt) (fun h117 => ?_) (fun h117 => ?_)
    · refine q_iconst (v := (0 : Int32)) hM dX12_worked_124 (by decide) ?_
      exact hE _ _ _ _ _ _ hW.1 ⟨_, rfl, (by have := kc_0; trivial), rfl⟩ dX12_worked_125
    · refine q_iconst (v := (1 : Int32)) hM dX12_worked_120 (by decide) ?_
      refine q_goto (tgt := 125) hM dX12_worked_121 (by decide) ?_
      exact hE _ _ _ _ _ _ hW.1 ⟨_, rfl, (by have := kc_1; trivial), rfl⟩ dX12_worked_125
  · refine q_lookup (off := 125) (tgt := 126) hM dX12_worked_1 (by decide) (by simp only [Op.lookupswitch.offset]; (repeat' split) <;> omega) (by decide) ?_
    refine q_iload_n hM dX12_worked_126 (lv_at hl 1 rfl) ?_
    refine q_iload_n hM dX12_worked_127 (lv_at hl 2 rfl) ?_
    refine q_icmp_ne (tgt := 135) hM dX12_worked_128 (by decide) (rfl : a.toInt = a.toInt) (rfl : b.toInt = b.toInt) (fun h128 => ?_) (fun h128 => ?_)
    · refine q_iconst (v := (0 : Int32)) hM dX12_worked_135 (by decide) ?_
      exact hE _ _ _ _ _ _ hW.1 ⟨_, rfl, (by have := kc_0; trivial), rfl⟩ dX12_worked_136
    · refine q_iconst (v := (1 : Int32)) hM dX12_worked_131 (by decide) ?_
      refine q_goto (tgt := 136) hM dX12_worked_132 (by decide) ?_
      exact hE _ _ _ _ _ _ hW.1 ⟨_, rfl, (by have := kc_1; trivial), rfl⟩ dX12_worked_136

theorem dX12_workAt_0 : decode cX12_workAt 0 = .ok (.iload_n 2, 1) := by decide +kernel
theorem dX12_workAt_1 : decode cX12_workAt 1 = .ok (.iconst 1, 1) := by decide +kernel
theorem dX12_workAt_2 : decode cX12_workAt 2 = .ok (.iadd, 1) := by decide +kernel
theorem dX12_workAt_3 : decode cX12_workAt 3 = .ok (.istore_n 3, 1) := by decide +kernel
theorem dX12_workAt_4 : decode cX12_workAt 4 = .ok (.iload_n 1, 1) := by decide +kernel
theorem dX12_workAt_5 : decode cX12_workAt 5 = .ok (.bipush 38, 2) := by decide +kernel
theorem dX12_workAt_7 : decode cX12_workAt 7 = .ok (.if_icmp .eq 9, 3) := by decide +kernel
theorem dX12_workAt_10 : decode cX12_workAt 10 = .ok (.iload_n 1, 1) := by decide +kernel
theorem dX12_workAt_11 : decode cX12_workAt 11 = .ok (.bipush 124, 2) := by decide +kernel
theorem dX12_workAt_13 : decode cX12_workAt 13 = .ok (.if_icmp .ne 58, 3) := by decide +kernel
theorem dX12_workAt_16 : decode cX12_workAt 16 = .ok (.aload_n 0, 1) := by decide +kernel
theorem dX12_workAt_17 : decode cX12_workAt 17 = .ok (.getfield 97, 3) := by decide +kernel
theorem dX12_workAt_20 : decode cX12_workAt 20 = .ok (.iload_n 2, 1) := by decide +kernel
theorem dX12_workAt_21 : decode cX12_workAt 21 = .ok (.baload, 1) := by decide +kernel
theorem dX12_workAt_22 : decode cX12_workAt 22 = .ok (.ifCond .ne 23, 3) := by decide +kernel
theorem dX12_workAt_25 : decode cX12_workAt 25 = .ok (.aload_n 0, 1) := by decide +kernel
theorem dX12_workAt_26 : decode cX12_workAt 26 = .ok (.getfield 94, 3) := by decide +kernel
theorem dX12_workAt_29 : decode cX12_workAt 29 = .ok (.iload_n 2, 1) := by decide +kernel
theorem dX12_workAt_30 : decode cX12_workAt 30 = .ok (.iaload, 1) := by decide +kernel
theorem dX12_workAt_31 : decode cX12_workAt 31 = .ok (.iload_n 1, 1) := by decide +kernel
theorem dX12_workAt_32 : decode cX12_workAt 32 = .ok (.bipush 38, 2) := by decide +kernel
theorem dX12_workAt_34 : decode cX12_workAt 34 = .ok (.if_icmp .ne 7, 3) := by decide +kernel
theorem dX12_workAt_37 : decode cX12_workAt 37 = .ok (.iconst 1, 1) := by decide +kernel
theorem dX12_workAt_38 : decode cX12_workAt 38 = .ok (.goto 4, 3) := by decide +kernel
theorem dX12_workAt_41 : decode cX12_workAt 41 = .ok (.iconst 0, 1) := by decide +kernel
theorem dX12_workAt_42 : decode cX12_workAt 42 = .ok (.if_icmp .eq 4, 3) := by decide +kernel
theorem dX12_workAt_45 : decode cX12_workAt 45 = .ok (.return_, 1) := by decide +kernel
theorem dX12_workAt_46 : decode cX12_workAt 46 = .ok (.aload_n 0, 1) := by decide +kernel
theorem dX12_workAt_47 : decode cX12_workAt 47 = .ok (.getfield 94, 3) := by decide +kernel
theorem dX12_workAt_50 : decode cX12_workAt 50 = .ok (.iload_n 2, 1) := by decide +kernel
theorem dX12_workAt_51 : decode cX12_workAt 51 = .ok (.aload_n 0, 1) := by decide +kernel
theorem dX12_workAt_52 : decode cX12_workAt 52 = .ok (.getfield 94, 3) := by decide +kernel
theorem dX12_workAt_55 : decode cX12_workAt 55 = .ok (.iload_n 3, 1) := by decide +kernel
theorem dX12_workAt_56 : decode cX12_workAt 56 = .ok (.iaload, 1) := by decide +kernel
theorem dX12_workAt_57 : decode cX12_workAt 57 = .ok (.iastore, 1) := by decide +kernel
theorem dX12_workAt_58 : decode cX12_workAt 58 = .ok (.aload_n 0, 1) := by decide +kernel
theorem dX12_workAt_59 : decode cX12_workAt 59 = .ok (.getfield 97, 3) := by decide +kernel
theorem dX12_workAt_62 : decode cX12_workAt 62 = .ok (.iload_n 2, 1) := by decide +kernel
theorem dX12_workAt_63 : decode cX12_workAt 63 = .ok (.aload_n 0, 1) := by decide +kernel
theorem dX12_workAt_64 : decode cX12_workAt 64 = .ok (.getfield 97, 3) := by decide +kernel
theorem dX12_workAt_67 : decode cX12_workAt 67 = .ok (.iload_n 3, 1) := by decide +kernel
theorem dX12_workAt_68 : decode cX12_workAt 68 = .ok (.baload, 1) := by decide +kernel
theorem dX12_workAt_69 : decode cX12_workAt 69 = .ok (.bastore, 1) := by decide +kernel
theorem dX12_workAt_70 : decode cX12_workAt 70 = .ok (.return_, 1) := by decide +kernel
theorem dX12_workAt_71 : decode cX12_workAt 71 = .ok (.aload_n 0, 1) := by decide +kernel
theorem dX12_workAt_72 : decode cX12_workAt 72 = .ok (.getfield 97, 3) := by decide +kernel
theorem dX12_workAt_75 : decode cX12_workAt 75 = .ok (.iload_n 2, 1) := by decide +kernel
theorem dX12_workAt_76 : decode cX12_workAt 76 = .ok (.aload_n 0, 1) := by decide +kernel
theorem dX12_workAt_77 : decode cX12_workAt 77 = .ok (.getfield 97, 3) := by decide +kernel
theorem dX12_workAt_80 : decode cX12_workAt 80 = .ok (.iload_n 2, 1) := by decide +kernel
theorem dX12_workAt_81 : decode cX12_workAt 81 = .ok (.baload, 1) := by decide +kernel
theorem dX12_workAt_82 : decode cX12_workAt 82 = .ok (.ifCond .ne 33, 3) := by decide +kernel
theorem dX12_workAt_85 : decode cX12_workAt 85 = .ok (.aload_n 0, 1) := by decide +kernel
theorem dX12_workAt_86 : decode cX12_workAt 86 = .ok (.getfield 97, 3) := by decide +kernel
theorem dX12_workAt_89 : decode cX12_workAt 89 = .ok (.iload_n 3, 1) := by decide +kernel
theorem dX12_workAt_90 : decode cX12_workAt 90 = .ok (.baload, 1) := by decide +kernel
theorem dX12_workAt_91 : decode cX12_workAt 91 = .ok (.ifCond .ne 24, 3) := by decide +kernel
theorem dX12_workAt_94 : decode cX12_workAt 94 = .ok (.iload_n 1, 1) := by decide +kernel
theorem dX12_workAt_95 : decode cX12_workAt 95 = .ok (.bipush 47, 2) := by decide +kernel
theorem dX12_workAt_97 : decode cX12_workAt 97 = .ok (.if_icmp .eq 9, 3) := by decide +kernel
theorem dX12_workAt_100 : decode cX12_workAt 100 = .ok (.iload_n 1, 1) := by decide +kernel
theorem dX12_workAt_101 : decode cX12_workAt 101 = .ok (.bipush 37, 2) := by decide +kernel
theorem dX12_workAt_103 : decode cX12_workAt 103 = .ok (.if_icmp .ne 16, 3) := by decide +kernel
theorem dX12_workAt_106 : decode cX12_workAt 106 = .ok (.aload_n 0, 1) := by decide +kernel
theorem dX12_workAt_107 : decode cX12_workAt 107 = .ok (.getfield 94, 3) := by decide +kernel
theorem dX12_workAt_110 : decode cX12_workAt 110 = .ok (.iload_n 3, 1) := by decide +kernel
theorem dX12_workAt_111 : decode cX12_workAt 111 = .ok (.iaload, 1) := by decide +kernel
theorem dX12_workAt_112 : decode cX12_workAt 112 = .ok (.ifCond .ne 7, 3) := by decide +kernel
theorem dX12_workAt_115 : decode cX12_workAt 115 = .ok (.iconst 1, 1) := by decide +kernel
theorem dX12_workAt_116 : decode cX12_workAt 116 = .ok (.goto 4, 3) := by decide +kernel
theorem dX12_workAt_119 : decode cX12_workAt 119 = .ok (.iconst 0, 1) := by decide +kernel
theorem dX12_workAt_120 : decode cX12_workAt 120 = .ok (.bastore, 1) := by decide +kernel
theorem dX12_workAt_121 : decode cX12_workAt 121 = .ok (.aload_n 0, 1) := by decide +kernel
theorem dX12_workAt_122 : decode cX12_workAt 122 = .ok (.getfield 94, 3) := by decide +kernel
theorem dX12_workAt_125 : decode cX12_workAt 125 = .ok (.iload_n 2, 1) := by decide +kernel
theorem dX12_workAt_126 : decode cX12_workAt 126 = .ok (.iload_n 1, 1) := by decide +kernel
theorem dX12_workAt_127 : decode cX12_workAt 127 = .ok (.aload_n 0, 1) := by decide +kernel
theorem dX12_workAt_128 : decode cX12_workAt 128 = .ok (.getfield 94, 3) := by decide +kernel
theorem dX12_workAt_131 : decode cX12_workAt 131 = .ok (.iload_n 2, 1) := by decide +kernel
theorem dX12_workAt_132 : decode cX12_workAt 132 = .ok (.iaload, 1) := by decide +kernel
theorem dX12_workAt_133 : decode cX12_workAt 133 = .ok (.aload_n 0, 1) := by decide +kernel
theorem dX12_workAt_134 : decode cX12_workAt 134 = .ok (.getfield 94, 3) := by decide +kernel
theorem dX12_workAt_137 : decode cX12_workAt 137 = .ok (.iload_n 3, 1) := by decide +kernel
theorem dX12_workAt_138 : decode cX12_workAt 138 = .ok (.iaload, 1) := by decide +kernel
theorem dX12_workAt_139 : decode cX12_workAt 139 = .ok (.invokestatic 389, 3) := by decide +kernel
theorem dX12_workAt_142 : decode cX12_workAt 142 = .ok (.iastore, 1) := by decide +kernel
theorem dX12_workAt_143 : decode cX12_workAt 143 = .ok (.return_, 1) := by decide +kernel
theorem FG_X12_97 : FG RX12 97 12 86 51 := ⟨RX12, TX12, rfl, wX12, by decide, kAW (v_4_6 (List.mem_of_getElem? (i := 0) rfl)) rfl, rfl⟩
theorem FG_X12_94 : FG RX12 94 12 86 50 := ⟨RX12, TX12, rfl, wX12, by decide, kAW (v_4_5 (List.mem_of_getElem? (i := 15) rfl)) rfl, rfl⟩
theorem myX12_worked : MS yX12_worked cX12_worked 3 (some FieldType.int) 3 := ⟨kAW (v_6_6 (List.mem_of_getElem? (i := 1) rfl)) rfl, kAW (v_0_0 (List.mem_of_getElem? (i := 13) rfl)) rfl, kAW (v_6_6 (List.mem_of_getElem? (i := 0) rfl)) rfl, by decide, by decide, by decide +kernel⟩
set_option maxRecDepth 100000 in
set_option maxHeartbeats 4000000 in
theorem a_X12_workAt (l : Launch) (D : va_G) (cA : Nat → ClassId) (ad : Nat → Nat) (g0 : Nat → va_E) (c : Int32) (a : Int32)   (hSh : Shp ad cA g0) (hG : Rng g0) (a0 : 0 ≤ a.toInt) (a1 : a.toInt ≤ 238) : CT l NN ad cA D yX12_workAt cX12_workAt 4 none (1, 22) [.ref (ad 129), .int c, .int a] g0 (fun v g' => v = none ∧ Shp ad cA g' ∧ Rng g' ∧ FR (fun i k => i = 156 ∨ i = 157) g0 g') := by
  refine q_enterV (by decide) (Nat.le_of_ble_eq_true rfl) (fun K H locs ls _ _ hM hW0 hR hC hE hl => ?_)
  have hl : lv_has ls 4 [(0, .ref (ad 129)), (1, .int c), (2, .int a)] := hl
  have hW : WS ad cA (fun i k => i = 156 ∨ i = 157) g0 K g0 H locs := ⟨hW0, hSh, FR.rf⟩
  refine q_iload_n hM dX12_workAt_0 (lv_at hl 2 rfl) ?_
  refine q_iconst (v := (1 : Int32)) hM dX12_workAt_1 (by decide) ?_
  refine q_iadd hM dX12_workAt_2 (fun z5757 hz5757 => ?_)
  first | have tz5757 := i_addT hz5757 (rfl : a.toInt = a.toInt) (kc_1 : (1 : Int32).toInt = 1) (by omega) (by omega) | skip
  refine q_istore_n (lv9 := [(3, .int z5757), (0, .ref (ad 129)), (1, .int c), (2, .int a)]) hM dX12_workAt_3 hl (by decide) rfl (fun ls hl => ?_)
  refine q_iload_n hM dX12_workAt_4 (lv_at hl 2 rfl) ?_
  refine q_bipush (v := (38 : Int32)) hM dX12_workAt_5 (by decide) ?_
  refine q_icmp_eq (tgt := 16) hM dX12_workAt_7 (by decide) (rfl : c.toInt = c.toInt) (kc_38 : (38 : Int32).toInt = 38) (fun h7 => ?_) (fun h7 => ?_)
  · refine q_aload_n hM dX12_workAt_16 (lv_at hl 1 rfl) ?_
    refine w_get (v := .ref (ad 157)) hM hW FG_X12_97 lb_129 (rf_129_51 hW.2.1) dX12_workAt_17 ?_
    refine q_iload_n hM dX12_workAt_20 (lv_at hl 3 rfl) ?_
    refine w_zald hM hW lb_157 (i_in (by omega) (by omega)) dX12_workAt_21 ?_
    refine q_top (fun y5759 hy5759 => ?_)
    refine q_if_ne (tgt := 45) hM dX12_workAt_22 (by decide) (rfl : y5759.toInt = y5759.toInt) (fun h22 => ?_) (fun h22 => ?_)
    · exact hE _ _ _ _ _ hW.1 ⟨rfl, hW.2.1, hG, hW.2.2⟩ dX12_workAt_45
    · refine q_aload_n hM dX12_workAt_25 (lv_at hl 1 rfl) ?_
      refine w_get (v := .ref (ad 156)) hM hW FG_X12_94 lb_129 (rf_129_50 hW.2.1) dX12_workAt_26 ?_
      refine q_iload_n hM dX12_workAt_29 (lv_at hl 3 rfl) ?_
      refine w_iald hM hW lb_156 (i_in (by omega) (by omega)) dX12_workAt_30 ?_
      refine q_top (fun y5762 hy5762 => ?_)
      refine q_iload_n hM dX12_workAt_31 (lv_at hl 2 rfl) ?_
      refine q_bipush (v := (38 : Int32)) hM dX12_workAt_32 (by decide) ?_
      refine q_icmp_ne (tgt := 41) hM dX12_workAt_34 (by decide) (rfl : c.toInt = c.toInt) (kc_38 : (38 : Int32).toInt = 38) (fun h34 => ?_) (fun h34 => ?_)
      · refine q_iconst (v := (0 : Int32)) hM dX12_workAt_41 (by decide) ?_
        refine q_icmp_eq (tgt := 46) hM dX12_workAt_42 (by decide) (rfl : y5762.toInt = y5762.toInt) (kc_0 : (0 : Int32).toInt = 0) (fun h42 => ?_) (fun h42 => ?_)
        · refine q_aload_n hM dX12_workAt_46 (lv_at hl 1 rfl) ?_
          refine w_get (v := .ref (ad 156)) hM hW FG_X12_94 lb_129 (rf_129_50 hW.2.1) dX12_workAt_47 ?_
          refine q_iload_n hM dX12_workAt_50 (lv_at hl 3 rfl) ?_
          refine q_aload_n hM dX12_workAt_51 (lv_at hl 1 rfl) ?_
          refine w_get (v := .ref (ad 156)) hM hW FG_X12_94 lb_129 (rf_129_50 hW.2.1) dX12_workAt_52 ?_
          refine q_iload_n hM dX12_workAt_55 (lv_at hl 0 rfl) ?_
          refine w_iald hM hW lb_156 (i_in (by omega) (by omega)) dX12_workAt_56 ?_
          refine q_top (fun y5765 hy5765 => ?_)
          refine w_iast hM hW lb_156 (by omega) (i_in (by omega) (by omega)) dX12_workAt_57 (fun g5766 H locs hW e1 e2 => ?_)
          have hG := hG.st e1 e2 (rfl : rA 156 = (-2147483648, 2147483647)) (by have := i_rng y5765; omega) (by have := i_rng y5765; omega)
          refine q_aload_n hM dX12_workAt_58 (lv_at hl 1 rfl) ?_
          refine w_get (v := .ref (ad 157)) hM hW FG_X12_97 lb_129 (rf_129_51 hW.2.1) dX12_workAt_59 ?_
          refine q_iload_n hM dX12_workAt_62 (lv_at hl 3 rfl) ?_
          refine q_aload_n hM dX12_workAt_63 (lv_at hl 1 rfl) ?_
          refine w_get (v := .ref (ad 157)) hM hW FG_X12_97 lb_129 (rf_129_51 hW.2.1) dX12_workAt_64 ?_
          refine q_iload_n hM dX12_workAt_67 (lv_at hl 0 rfl) ?_
          refine w_zald hM hW lb_157 (i_in (by omega) (by omega)) dX12_workAt_68 ?_
          refine q_top (fun y5767 hy5767 => ?_)
          refine w_zast hM hW lb_157 (by omega) (i_in (by omega) (by omega)) dX12_workAt_69 (fun g5768 H locs hW e1 e2 => ?_)
          have hG := hG.st e1 e2 (rfl : rA 157 = (-2147483648, 2147483647)) (by have := i_rng (vp_nar .boolean y5767); omega) (by have := i_rng (vp_nar .boolean y5767); omega)
          exact hE _ _ _ _ _ hW.1 ⟨rfl, hW.2.1, hG, hW.2.2⟩ dX12_workAt_70
        · exact hE _ _ _ _ _ hW.1 ⟨rfl, hW.2.1, hG, hW.2.2⟩ dX12_workAt_45
      · refine q_iconst (v := (1 : Int32)) hM dX12_workAt_37 (by decide) ?_
        refine q_goto (tgt := 42) hM dX12_workAt_38 (by decide) ?_
        refine q_icmp_eq (tgt := 46) hM dX12_workAt_42 (by decide) (rfl : y5762.toInt = y5762.toInt) (kc_1 : (1 : Int32).toInt = 1) (fun h42 => ?_) (fun h42 => ?_)
        · refine q_aload_n hM dX12_workAt_46 (lv_at hl 1 rfl) ?_
          refine w_get (v := .ref (ad 156)) hM hW FG_X12_94 lb_129 (rf_129_50 hW.2.1) dX12_workAt_47 ?_
          refine q_iload_n hM dX12_workAt_50 (lv_at hl 3 rfl) ?_
          refine q_aload_n hM dX12_workAt_51 (lv_at hl 1 rfl) ?_
          refine w_get (v := .ref (ad 156)) hM hW FG_X12_94 lb_129 (rf_129_50 hW.2.1) dX12_workAt_52 ?_
          refine q_iload_n hM dX12_workAt_55 (lv_at hl 0 rfl) ?_
          refine w_iald hM hW lb_156 (i_in (by omega) (by omega)) dX12_workAt_56 ?_
          refine q_top (fun y5772 hy5772 => ?_)
          refine w_iast hM hW lb_156 (by omega) (i_in (by omega) (by omega)) dX12_workAt_57 (fun g5773 H locs hW e1 e2 => ?_)
          have hG := hG.st e1 e2 (rfl : rA 156 = (-2147483648, 2147483647)) (by have := i_rng y5772; omega) (by have := i_rng y5772; omega)
          refine q_aload_n hM dX12_workAt_58 (lv_at hl 1 rfl) ?_
          refine w_get (v := .ref (ad 157)) hM hW FG_X12_97 lb_129 (rf_129_51 hW.2.1) dX12_workAt_59 ?_
          refine q_iload_n hM dX12_workAt_62 (lv_at hl 3 rfl) ?_
          refine q_aload_n hM dX12_workAt_63 (lv_at hl 1 rfl) ?_
          refine w_get (v := .ref (ad 157)) hM hW FG_X12_97 lb_129 (rf_129_51 hW.2.1) dX12_workAt_64 ?_
          refine q_iload_n hM dX12_workAt_67 (lv_at hl 0 rfl) ?_
          refine w_zald hM hW lb_157 (i_in (by omega) (by omega)) dX12_workAt_68 ?_
          refine q_top (fun y5774 hy5774 => ?_)
          refine w_zast hM hW lb_157 (by omega) (i_in (by omega) (by omega)) dX12_workAt_69 (fun g5775 H locs hW e1 e2 => ?_)
          have hG := hG.st e1 e2 (rfl : rA 157 = (-2147483648, 2147483647)) (by have := i_rng (vp_nar .boolean y5774); omega) (by have := i_rng (vp_nar .boolean y5774); omega)
          exact hE _ _ _ _ _ hW.1 ⟨rfl, hW.2.1, hG, hW.2.2⟩ dX12_workAt_70
        · exact hE _ _ _ _ _ hW.1 ⟨rfl, hW.2.1, hG, hW.2.2⟩ dX12_workAt_45
  · refine q_iload_n hM dX12_workAt_10 (lv_at hl 2 rfl) ?_
    refine q_bipush (v := (124 : Int32)) hM dX12_workAt_11 (by decide) ?_
    refine q_icmp_ne (tgt := 71) hM dX12_workAt_13 (by decide) (rfl : c.toInt = c.toInt) (kc_124 : (124 : Int32).toInt = 124) (fun h13 => ?_) (fun h13 => ?_)
    · refine q_aload_n hM dX12_workAt_71 (lv_at hl 1 rfl) ?_
      refine w_get (v := .ref (ad 157)) hM hW FG_X12_97 lb_129 (rf_129_51 hW.2.1) dX12_workAt_72 ?_
      refine q_iload_n hM dX12_workAt_75 (lv_at hl 3 rfl) ?_
      refine q_aload_n hM dX12_workAt_76 (lv_at hl 1 rfl) ?_
      refine w_get (v := .ref (ad 157)) hM hW FG_X12_97 lb_129 (rf_129_51 hW.2.1) dX12_workAt_77 ?_
      refine q_iload_n hM dX12_workAt_80 (lv_at hl 3 rfl) ?_
      refine w_zald hM hW lb_157 (i_in (by omega) (by omega)) dX12_workAt_81 ?_
      refine q_top (fun y5779 hy5779 => ?_)
      refine q_if_ne (tgt := 115) hM dX12_workAt_82 (by decide) (rfl : y5779.toInt = y5779.toInt) (fun h82 => ?_) (fun h82 => ?_)
      · refine q_iconst (v := (1 : Int32)) hM dX12_workAt_115 (by decide) ?_
        refine q_goto (tgt := 120) hM dX12_workAt_116 (by decide) ?_
        refine w_zast hM hW lb_157 (by omega) (i_in (by omega) (by omega)) dX12_workAt_120 (fun g5781 H locs hW e1 e2 => ?_)
        have hG := hG.st e1 e2 (rfl : rA 157 = (-2147483648, 2147483647)) (by have := i_rng (vp_nar .boolean (1 : Int32)); omega) (by have := i_rng (vp_nar .boolean (1 : Int32)); omega)
        refine q_aload_n hM dX12_workAt_121 (lv_at hl 1 rfl) ?_
        refine w_get (v := .ref (ad 156)) hM hW FG_X12_94 lb_129 (rf_129_50 hW.2.1) dX12_workAt_122 ?_
        refine q_iload_n hM dX12_workAt_125 (lv_at hl 3 rfl) ?_
        refine q_iload_n hM dX12_workAt_126 (lv_at hl 2 rfl) ?_
        refine q_aload_n hM dX12_workAt_127 (lv_at hl 1 rfl) ?_
        refine w_get (v := .ref (ad 156)) hM hW FG_X12_94 lb_129 (rf_129_50 hW.2.1) dX12_workAt_128 ?_
        refine q_iload_n hM dX12_workAt_131 (lv_at hl 3 rfl) ?_
        refine w_iald hM hW lb_156 (i_in (by omega) (by omega)) dX12_workAt_132 ?_
        refine q_top (fun y5782 hy5782 => ?_)
        refine q_aload_n hM dX12_workAt_133 (lv_at hl 1 rfl) ?_
        refine w_get (v := .ref (ad 156)) hM hW FG_X12_94 lb_129 (rf_129_50 hW.2.1) dX12_workAt_134 ?_
        refine q_iload_n hM dX12_workAt_137 (lv_at hl 0 rfl) ?_
        refine w_iald hM hW lb_156 (i_in (by omega) (by omega)) dX12_workAt_138 ?_
        refine q_top (fun y5783 hy5783 => ?_)
        refine q_callS (As := [.int c, .int y5782, .int y5783]) (rest := [.int a, .ref (ad 156)]) hM hW.1 hR hC myX12_worked (kAW (v_6_5 (List.mem_of_getElem? (i := 15) rfl)) rfl) (a_X12_worked _ _ cA ad g5781 c y5782 y5783 hW.2.1 hG) ⟨by decide, by decide⟩ rfl rfl hl.1 (Nat.le_of_ble_eq_true rfl) dX12_workAt_139 (fun v g5785 H locs hp hW1 => ?_)
        obtain ⟨r5784, rfl, hr5784, rfl⟩ := hp
        have hW : WS ad cA (fun i k => i = 156 ∨ i = 157) g0 K g5781 H locs := ⟨hW1, hW.2.1, hW.2.2⟩
        refine w_iast hM hW lb_156 (by omega) (i_in (by omega) (by omega)) dX12_workAt_142 (fun g5786 H locs hW e1 e2 => ?_)
        have hG := hG.st e1 e2 (rfl : rA 156 = (-2147483648, 2147483647)) (by have := i_rng r5784; omega) (by have := i_rng r5784; omega)
        exact hE _ _ _ _ _ hW.1 ⟨rfl, hW.2.1, hG, hW.2.2⟩ dX12_workAt_143
      · refine q_aload_n hM dX12_workAt_85 (lv_at hl 1 rfl) ?_
        refine w_get (v := .ref (ad 157)) hM hW FG_X12_97 lb_129 (rf_129_51 hW.2.1) dX12_workAt_86 ?_
        refine q_iload_n hM dX12_workAt_89 (lv_at hl 0 rfl) ?_
        refine w_zald hM hW lb_157 (i_in (by omega) (by omega)) dX12_workAt_90 ?_
        refine q_top (fun y5788 hy5788 => ?_)
        refine q_if_ne (tgt := 115) hM dX12_workAt_91 (by decide) (rfl : y5788.toInt = y5788.toInt) (fun h91 => ?_) (fun h91 => ?_)
        · refine q_iconst (v := (1 : Int32)) hM dX12_workAt_115 (by decide) ?_
          refine q_goto (tgt := 120) hM dX12_workAt_116 (by decide) ?_
          refine w_zast hM hW lb_157 (by omega) (i_in (by omega) (by omega)) dX12_workAt_120 (fun g5790 H locs hW e1 e2 => ?_)
          have hG := hG.st e1 e2 (rfl : rA 157 = (-2147483648, 2147483647)) (by have := i_rng (vp_nar .boolean (1 : Int32)); omega) (by have := i_rng (vp_nar .boolean (1 : Int32)); omega)
          refine q_aload_n hM dX12_workAt_121 (lv_at hl 1 rfl) ?_
          refine w_get (v := .ref (ad 156)) hM hW FG_X12_94 lb_129 (rf_129_50 hW.2.1) dX12_workAt_122 ?_
          refine q_iload_n hM dX12_workAt_125 (lv_at hl 3 rfl) ?_
          refine q_iload_n hM dX12_workAt_126 (lv_at hl 2 rfl) ?_
          refine q_aload_n hM dX12_workAt_127 (lv_at hl 1 rfl) ?_
          refine w_get (v := .ref (ad 156)) hM hW FG_X12_94 lb_129 (rf_129_50 hW.2.1) dX12_workAt_128 ?_
          refine q_iload_n hM dX12_workAt_131 (lv_at hl 3 rfl) ?_
          refine w_iald hM hW lb_156 (i_in (by omega) (by omega)) dX12_workAt_132 ?_
          refine q_top (fun y5791 hy5791 => ?_)
          refine q_aload_n hM dX12_workAt_133 (lv_at hl 1 rfl) ?_
          refine w_get (v := .ref (ad 156)) hM hW FG_X12_94 lb_129 (rf_129_50 hW.2.1) dX12_workAt_134 ?_
          refine q_iload_n hM dX12_workAt_137 (lv_at hl 0 rfl) ?_
          refine w_iald hM hW lb_156 (i_in (by omega) (by omega)) dX12_workAt_138 ?_
          refine q_top (fun y5792 hy5792 => ?_)
          refine q_callS (As := [.int c, .int y5791, .int y5792]) (rest := [.int a, .ref (ad 156)]) hM hW.1 hR hC myX12_worked (kAW (v_6_5 (List.mem_of_getElem? (i := 15) rfl)) rfl) (a_X12_worked _ _ cA ad g5790 c y5791 y5792 hW.2.1 hG) ⟨by decide, by decide⟩ rfl rfl hl.1 (Nat.le_of_ble_eq_true rfl) dX12_workAt_139 (fun v g5794 H locs hp hW1 => ?_)
          obtain ⟨r5793, rfl, hr5793, rfl⟩ := hp
          have hW : WS ad cA (fun i k => i = 156 ∨ i = 157) g0 K g5790 H locs := ⟨hW1, hW.2.1, hW.2.2⟩
          refine w_iast hM hW lb_156 (by omega) (i_in (by omega) (by omega)) dX12_workAt_142 (fun g5795 H locs hW e1 e2 => ?_)
          have hG := hG.st e1 e2 (rfl : rA 156 = (-2147483648, 2147483647)) (by have := i_rng r5793; omega) (by have := i_rng r5793; omega)
          exact hE _ _ _ _ _ hW.1 ⟨rfl, hW.2.1, hG, hW.2.2⟩ dX12_workAt_143
        · refine q_iload_n hM dX12_workAt_94 (lv_at hl 2 rfl) ?_
          refine q_bipush (v := (47 : Int32)) hM dX12_workAt_95 (by decide) ?_
          refine q_icmp_eq (tgt := 106) hM dX12_workAt_97 (by decide) (rfl : c.toInt = c.toInt) (kc_47 : (47 : Int32).toInt = 47) (fun h97 => ?_) (fun h97 => ?_)
          · refine q_aload_n hM dX12_workAt_106 (lv_at hl 1 rfl) ?_
            refine w_get (v := .ref (ad 156)) hM hW FG_X12_94 lb_129 (rf_129_50 hW.2.1) dX12_workAt_107 ?_
            refine q_iload_n hM dX12_workAt_110 (lv_at hl 0 rfl) ?_
            refine w_iald hM hW lb_156 (i_in (by omega) (by omega)) dX12_workAt_111 ?_
            refine q_top (fun y5798 hy5798 => ?_)
            refine q_if_ne (tgt := 119) hM dX12_workAt_112 (by decide) (rfl : y5798.toInt = y5798.toInt) (fun h112 => ?_) (fun h112 => ?_)
            · refine q_iconst (v := (0 : Int32)) hM dX12_workAt_119 (by decide) ?_
              refine w_zast hM hW lb_157 (by omega) (i_in (by omega) (by omega)) dX12_workAt_120 (fun g5800 H locs hW e1 e2 => ?_)
              have hG := hG.st e1 e2 (rfl : rA 157 = (-2147483648, 2147483647)) (by have := i_rng (vp_nar .boolean (0 : Int32)); omega) (by have := i_rng (vp_nar .boolean (0 : Int32)); omega)
              refine q_aload_n hM dX12_workAt_121 (lv_at hl 1 rfl) ?_
              refine w_get (v := .ref (ad 156)) hM hW FG_X12_94 lb_129 (rf_129_50 hW.2.1) dX12_workAt_122 ?_
              refine q_iload_n hM dX12_workAt_125 (lv_at hl 3 rfl) ?_
              refine q_iload_n hM dX12_workAt_126 (lv_at hl 2 rfl) ?_
              refine q_aload_n hM dX12_workAt_127 (lv_at hl 1 rfl) ?_
              refine w_get (v := .ref (ad 156)) hM hW FG_X12_94 lb_129 (rf_129_50 hW.2.1) dX12_workAt_128 ?_
              refine q_iload_n hM dX12_workAt_131 (lv_at hl 3 rfl) ?_
              refine w_iald hM hW lb_156 (i_in (by omega) (by omega)) dX12_workAt_132 ?_
              refine q_top (fun y5801 hy5801 => ?_)
              refine q_aload_n hM dX12_workAt_133 (lv_at hl 1 rfl) ?_
              refine w_get (v := .ref (ad 156)) hM hW FG_X12_94 lb_129 (rf_129_50 hW.2.1) dX12_workAt_134 ?_
              refine q_iload_n hM dX12_workAt_137 (lv_at hl 0 rfl) ?_
              refine w_iald hM hW lb_156 (i_in (by omega) (by omega)) dX12_workAt_138 ?_
              refine q_top (fun y5802 hy5802 => ?_)
              refine q_callS (As := [.int c, .int y5801, .int y5802]) (rest := [.int a, .ref (ad 156)]) hM hW.1 hR hC myX12_worked (kAW (v_6_5 (List.mem_of_getElem? (i := 15) rfl)) rfl) (a_X12_worked _ _ cA ad g5800 c y5801 y5802 hW.2.1 hG) ⟨by decide, by decide⟩ rfl rfl hl.1 (Nat.le_of_ble_eq_true rfl) dX12_workAt_139 (fun v g5804 H locs hp hW1 => ?_)
              obtain ⟨r5803, rfl, hr5803, rfl⟩ := hp
              have hW : WS ad cA (fun i k => i = 156 ∨ i = 157) g0 K g5800 H locs := ⟨hW1, hW.2.1, hW.2.2⟩
              refine w_iast hM hW lb_156 (by omega) (i_in (by omega) (by omega)) dX12_workAt_142 (fun g5805 H locs hW e1 e2 => ?_)
              have hG := hG.st e1 e2 (rfl : rA 156 = (-2147483648, 2147483647)) (by have := i_rng r5803; omega) (by have := i_rng r5803; omega)
              exact hE _ _ _ _ _ hW.1 ⟨rfl, hW.2.1, hG, hW.2.2⟩ dX12_workAt_143
            · refine q_iconst (v := (1 : Int32)) hM dX12_workAt_115 (by decide) ?_
              refine q_goto (tgt := 120) hM dX12_workAt_116 (by decide) ?_
              refine w_zast hM hW lb_157 (by omega) (i_in (by omega) (by omega)) dX12_workAt_120 (fun g5807 H locs hW e1 e2 => ?_)
              have hG := hG.st e1 e2 (rfl : rA 157 = (-2147483648, 2147483647)) (by have := i_rng (vp_nar .boolean (1 : Int32)); omega) (by have := i_rng (vp_nar .boolean (1 : Int32)); omega)
              refine q_aload_n hM dX12_workAt_121 (lv_at hl 1 rfl) ?_
              refine w_get (v := .ref (ad 156)) hM hW FG_X12_94 lb_129 (rf_129_50 hW.2.1) dX12_workAt_122 ?_
              refine q_iload_n hM dX12_workAt_125 (lv_at hl 3 rfl) ?_
              refine q_iload_n hM dX12_workAt_126 (lv_at hl 2 rfl) ?_
              refine q_aload_n hM dX12_workAt_127 (lv_at hl 1 rfl) ?_
              refine w_get (v := .ref (ad 156)) hM hW FG_X12_94 lb_129 (rf_129_50 hW.2.1) dX12_workAt_128 ?_
              refine q_iload_n hM dX12_workAt_131 (lv_at hl 3 rfl) ?_
              refine w_iald hM hW lb_156 (i_in (by omega) (by omega)) dX12_workAt_132 ?_
              refine q_top (fun y5808 hy5808 => ?_)
              refine q_aload_n hM dX12_workAt_133 (lv_at hl 1 rfl) ?_
              refine w_get (v := .ref (ad 156)) hM hW FG_X12_94 lb_129 (rf_129_50 hW.2.1) dX12_workAt_134 ?_
              refine q_iload_n hM dX12_workAt_137 (lv_at hl 0 rfl) ?_
              refine w_iald hM hW lb_156 (i_in (by omega) (by omega)) dX12_workAt_138 ?_
              refine q_top (fun y5809 hy5809 => ?_)
              refine q_callS (As := [.int c, .int y5808, .int y5809]) (rest := [.int a, .ref (ad 156)]) hM hW.1 hR hC myX12_worked (kAW (v_6_5 (List.mem_of_getElem? (i := 15) rfl)) rfl) (a_X12_worked _ _ cA ad g5807 c y5808 y5809 hW.2.1 hG) ⟨by decide, by decide⟩ rfl rfl hl.1 (Nat.le_of_ble_eq_true rfl) dX12_workAt_139 (fun v g5811 H locs hp hW1 => ?_)
              obtain ⟨r5810, rfl, hr5810, rfl⟩ := hp
              have hW : WS ad cA (fun i k => i = 156 ∨ i = 157) g0 K g5807 H locs := ⟨hW1, hW.2.1, hW.2.2⟩
              refine w_iast hM hW lb_156 (by omega) (i_in (by omega) (by omega)) dX12_workAt_142 (fun g5812 H locs hW e1 e2 => ?_)
              have hG := hG.st e1 e2 (rfl : rA 156 = (-2147483648, 2147483647)) (by have := i_rng r5810; omega) (by have := i_rng r5810; omega)
              exact hE _ _ _ _ _ hW.1 ⟨rfl, hW.2.1, hG, hW.2.2⟩ dX12_workAt_143
          · refine q_iload_n hM dX12_workAt_100 (lv_at hl 2 rfl) ?_
            refine q_bipush (v := (37 : Int32)) hM dX12_workAt_101 (by decide) ?_
            refine q_icmp_ne (tgt := 119) hM dX12_workAt_103 (by decide) (rfl : c.toInt = c.toInt) (kc_37 : (37 : Int32).toInt = 37) (fun h103 => ?_) (fun h103 => ?_)
            · refine q_iconst (v := (0 : Int32)) hM dX12_workAt_119 (by decide) ?_
              refine w_zast hM hW lb_157 (by omega) (i_in (by omega) (by omega)) dX12_workAt_120 (fun g5815 H locs hW e1 e2 => ?_)
              have hG := hG.st e1 e2 (rfl : rA 157 = (-2147483648, 2147483647)) (by have := i_rng (vp_nar .boolean (0 : Int32)); omega) (by have := i_rng (vp_nar .boolean (0 : Int32)); omega)
              refine q_aload_n hM dX12_workAt_121 (lv_at hl 1 rfl) ?_
              refine w_get (v := .ref (ad 156)) hM hW FG_X12_94 lb_129 (rf_129_50 hW.2.1) dX12_workAt_122 ?_
              refine q_iload_n hM dX12_workAt_125 (lv_at hl 3 rfl) ?_
              refine q_iload_n hM dX12_workAt_126 (lv_at hl 2 rfl) ?_
              refine q_aload_n hM dX12_workAt_127 (lv_at hl 1 rfl) ?_
              refine w_get (v := .ref (ad 156)) hM hW FG_X12_94 lb_129 (rf_129_50 hW.2.1) dX12_workAt_128 ?_
              refine q_iload_n hM dX12_workAt_131 (lv_at hl 3 rfl) ?_
              refine w_iald hM hW lb_156 (i_in (by omega) (by omega)) dX12_workAt_132 ?_
              refine q_top (fun y5816 hy5816 => ?_)
              refine q_aload_n hM dX12_workAt_133 (lv_at hl 1 rfl) ?_
              refine w_get (v := .ref (ad 156)) hM hW FG_X12_94 lb_129 (rf_129_50 hW.2.1) dX12_workAt_134 ?_
              refine q_iload_n hM dX12_workAt_137 (lv_at hl 0 rfl) ?_
              refine w_iald hM hW lb_156 (i_in (by omega) (by omega)) dX12_workAt_138 ?_
              refine q_top (fun y5817 hy5817 => ?_)
              refine q_callS (As := [.int c, .int y5816, .int y5817]) (rest := [.int a, .ref (ad 156)]) hM hW.1 hR hC myX12_worked (kAW (v_6_5 (List.mem_of_getElem? (i := 15) rfl)) rfl) (a_X12_worked _ _ cA ad g5815 c y5816 y5817 hW.2.1 hG) ⟨by decide, by decide⟩ rfl rfl hl.1 (Nat.le_of_ble_eq_true rfl) dX12_workAt_139 (fun v g5819 H locs hp hW1 => ?_)
              obtain ⟨r5818, rfl, hr5818, rfl⟩ := hp
              have hW : WS ad cA (fun i k => i = 156 ∨ i = 157) g0 K g5815 H locs := ⟨hW1, hW.2.1, hW.2.2⟩
              refine w_iast hM hW lb_156 (by omega) (i_in (by omega) (by omega)) dX12_workAt_142 (fun g5820 H locs hW e1 e2 => ?_)
              have hG := hG.st e1 e2 (rfl : rA 156 = (-2147483648, 2147483647)) (by have := i_rng r5818; omega) (by have := i_rng r5818; omega)
              exact hE _ _ _ _ _ hW.1 ⟨rfl, hW.2.1, hG, hW.2.2⟩ dX12_workAt_143
            · refine q_aload_n hM dX12_workAt_106 (lv_at hl 1 rfl) ?_
              refine w_get (v := .ref (ad 156)) hM hW FG_X12_94 lb_129 (rf_129_50 hW.2.1) dX12_workAt_107 ?_
              refine q_iload_n hM dX12_workAt_110 (lv_at hl 0 rfl) ?_
              refine w_iald hM hW lb_156 (i_in (by omega) (by omega)) dX12_workAt_111 ?_
              refine q_top (fun y5822 hy5822 => ?_)
              refine q_if_ne (tgt := 119) hM dX12_workAt_112 (by decide) (rfl : y5822.toInt = y5822.toInt) (fun h112 => ?_) (fun h112 => ?_)
              · refine q_iconst (v := (0 : Int32)) hM dX12_workAt_119 (by decide) ?_
                refine w_zast hM hW lb_157 (by omega) (i_in (by omega) (by omega)) dX12_workAt_120 (fun g5824 H locs hW e1 e2 => ?_)
                have hG := hG.st e1 e2 (rfl : rA 157 = (-2147483648, 2147483647)) (by have := i_rng (vp_nar .boolean (0 : Int32)); omega) (by have := i_rng (vp_nar .boolean (0 : Int32)); omega)
                refine q_aload_n hM dX12_workAt_121 (lv_at hl 1 rfl) ?_
                refine w_get (v := .ref (ad 156)) hM hW FG_X12_94 lb_129 (rf_129_50 hW.2.1) dX12_workAt_122 ?_
                refine q_iload_n hM dX12_workAt_125 (lv_at hl 3 rfl) ?_
                refine q_iload_n hM dX12_workAt_126 (lv_at hl 2 rfl) ?_
                refine q_aload_n hM dX12_workAt_127 (lv_at hl 1 rfl) ?_
                refine w_get (v := .ref (ad 156)) hM hW FG_X12_94 lb_129 (rf_129_50 hW.2.1) dX12_workAt_128 ?_
                refine q_iload_n hM dX12_workAt_131 (lv_at hl 3 rfl) ?_
                refine w_iald hM hW lb_156 (i_in (by omega) (by omega)) dX12_workAt_132 ?_
                refine q_top (fun y5825 hy5825 => ?_)
                refine q_aload_n hM dX12_workAt_133 (lv_at hl 1 rfl) ?_
                refine w_get (v := .ref (ad 156)) hM hW FG_X12_94 lb_129 (rf_129_50 hW.2.1) dX12_workAt_134 ?_
                refine q_iload_n hM dX12_workAt_137 (lv_at hl 0 rfl) ?_
                refine w_iald hM hW lb_156 (i_in (by omega) (by omega)) dX12_workAt_138 ?_
                refine q_top (fun y5826 hy5826 => ?_)
                refine q_callS (As := [.int c, .int y5825, .int y5826]) (rest := [.int a, .ref (ad 156)]) hM hW.1 hR hC myX12_worked (kAW (v_6_5 (List.mem_of_getElem? (i := 15) rfl)) rfl) (a_X12_worked _ _ cA ad g5824 c y5825 y5826 hW.2.1 hG) ⟨by decide, by decide⟩ rfl rfl hl.1 (Nat.le_of_ble_eq_true rfl) dX12_workAt_139 (fun v g5828 H locs hp hW1 => ?_)
                obtain ⟨r5827, rfl, hr5827, rfl⟩ := hp
                have hW : WS ad cA (fun i k => i = 156 ∨ i = 157) g0 K g5824 H locs := ⟨hW1, hW.2.1, hW.2.2⟩
                refine w_iast hM hW lb_156 (by omega) (i_in (by omega) (by omega)) dX12_workAt_142 (fun g5829 H locs hW e1 e2 => ?_)
                have hG := hG.st e1 e2 (rfl : rA 156 = (-2147483648, 2147483647)) (by have := i_rng r5827; omega) (by have := i_rng r5827; omega)
                exact hE _ _ _ _ _ hW.1 ⟨rfl, hW.2.1, hG, hW.2.2⟩ dX12_workAt_143
              · refine q_iconst (v := (1 : Int32)) hM dX12_workAt_115 (by decide) ?_
                refine q_goto (tgt := 120) hM dX12_workAt_116 (by decide) ?_
                refine w_zast hM hW lb_157 (by omega) (i_in (by omega) (by omega)) dX12_workAt_120 (fun g5831 H locs hW e1 e2 => ?_)
                have hG := hG.st e1 e2 (rfl : rA 157 = (-2147483648, 2147483647)) (by have := i_rng (vp_nar .boolean (1 : Int32)); omega) (by have := i_rng (vp_nar .boolean (1 : Int32)); omega)
                refine q_aload_n hM dX12_workAt_121 (lv_at hl 1 rfl) ?_
                refine w_get (v := .ref (ad 156)) hM hW FG_X12_94 lb_129 (rf_129_50 hW.2.1) dX12_workAt_122 ?_
                refine q_iload_n hM dX12_workAt_125 (lv_at hl 3 rfl) ?_
                refine q_iload_n hM dX12_workAt_126 (lv_at hl 2 rfl) ?_
                refine q_aload_n hM dX12_workAt_127 (lv_at hl 1 rfl) ?_
                refine w_get (v := .ref (ad 156)) hM hW FG_X12_94 lb_129 (rf_129_50 hW.2.1) dX12_workAt_128 ?_
                refine q_iload_n hM dX12_workAt_131 (lv_at hl 3 rfl) ?_
                refine w_iald hM hW lb_156 (i_in (by omega) (by omega)) dX12_workAt_132 ?_
                refine q_top (fun y5832 hy5832 => ?_)
                refine q_aload_n hM dX12_workAt_133 (lv_at hl 1 rfl) ?_
                refine w_get (v := .ref (ad 156)) hM hW FG_X12_94 lb_129 (rf_129_50 hW.2.1) dX12_workAt_134 ?_
                refine q_iload_n hM dX12_workAt_137 (lv_at hl 0 rfl) ?_
                refine w_iald hM hW lb_156 (i_in (by omega) (by omega)) dX12_workAt_138 ?_
                refine q_top (fun y5833 hy5833 => ?_)
                refine q_callS (As := [.int c, .int y5832, .int y5833]) (rest := [.int a, .ref (ad 156)]) hM hW.1 hR hC myX12_worked (kAW (v_6_5 (List.mem_of_getElem? (i := 15) rfl)) rfl) (a_X12_worked _ _ cA ad g5831 c y5832 y5833 hW.2.1 hG) ⟨by decide, by decide⟩ rfl rfl hl.1 (Nat.le_of_ble_eq_true rfl) dX12_workAt_139 (fun v g5835 H locs hp hW1 => ?_)
                obtain ⟨r5834, rfl, hr5834, rfl⟩ := hp
                have hW : WS ad cA (fun i k => i = 156 ∨ i = 157) g0 K g5831 H locs := ⟨hW1, hW.2.1, hW.2.2⟩
                refine w_iast hM hW lb_156 (by omega) (i_in (by omega) (by omega)) dX12_workAt_142 (fun g5836 H locs hW e1 e2 => ?_)
                have hG := hG.st e1 e2 (rfl : rA 156 = (-2147483648, 2147483647)) (by have := i_rng r5834; omega) (by have := i_rng r5834; omega)
                exact hE _ _ _ _ _ hW.1 ⟨rfl, hW.2.1, hG, hW.2.2⟩ dX12_workAt_143
    · refine q_aload_n hM dX12_workAt_16 (lv_at hl 1 rfl) ?_
      refine w_get (v := .ref (ad 157)) hM hW FG_X12_97 lb_129 (rf_129_51 hW.2.1) dX12_workAt_17 ?_
      refine q_iload_n hM dX12_workAt_20 (lv_at hl 3 rfl) ?_
      refine w_zald hM hW lb_157 (i_in (by omega) (by omega)) dX12_workAt_21 ?_
      refine q_top (fun y5838 hy5838 => ?_)
      refine q_if_ne (tgt := 45) hM dX12_workAt_22 (by decide) (rfl : y5838.toInt = y5838.toInt) (fun h22 => ?_) (fun h22 => ?_)
      · exact hE _ _ _ _ _ hW.1 ⟨rfl, hW.2.1, hG, hW.2.2⟩ dX12_workAt_45
      · refine q_aload_n hM dX12_workAt_25 (lv_at hl 1 rfl) ?_
        refine w_get (v := .ref (ad 156)) hM hW FG_X12_94 lb_129 (rf_129_50 hW.2.1) dX12_workAt_26 ?_
        refine q_iload_n hM dX12_workAt_29 (lv_at hl 3 rfl) ?_
        refine w_iald hM hW lb_156 (i_in (by omega) (by omega)) dX12_workAt_30 ?_
        refine q_top (fun y5841 hy5841 => ?_)
        refine q_iload_n hM dX12_workAt_31 (lv_at hl 2 rfl) ?_
        refine q_bipush (v := (38 : Int32)) hM dX12_workAt_32 (by decide) ?_
        refine q_icmp_ne (tgt := 41) hM dX12_workAt_34 (by decide) (rfl : c.toInt = c.toInt) (kc_38 : (38 : Int32).toInt = 38) (fun h34 => ?_) (fun h34 => ?_)
        · refine q_iconst (v := (0 : Int32)) hM dX12_workAt_41 (by decide) ?_
          refine q_icmp_eq (tgt := 46) hM dX12_workAt_42 (by decide) (rfl : y5841.toInt = y5841.toInt) (kc_0 : (0 : Int32).toInt = 0) (fun h42 => ?_) (fun h42 => ?_)
          · refine q_aload_n hM dX12_workAt_46 (lv_at hl 1 rfl) ?_
            refine w_get (v := .ref (ad 156)) hM hW FG_X12_94 lb_129 (rf_129_50 hW.2.1) dX12_workAt_47 ?_
            refine q_iload_n hM dX12_workAt_50 (lv_at hl 3 rfl) ?_
            refine q_aload_n hM dX12_workAt_51 (lv_at hl 1 rfl) ?_
            refine w_get (v := .ref (ad 156)) hM hW FG_X12_94 lb_129 (rf_129_50 hW.2.1) dX12_workAt_52 ?_
            refine q_iload_n hM dX12_workAt_55 (lv_at hl 0 rfl) ?_
            refine w_iald hM hW lb_156 (i_in (by omega) (by omega)) dX12_workAt_56 ?_
            refine q_top (fun y5844 hy5844 => ?_)
            refine w_iast hM hW lb_156 (by omega) (i_in (by omega) (by omega)) dX12_workAt_57 (fun g5845 H locs hW e1 e2 => ?_)
            have hG := hG.st e1 e2 (rfl : rA 156 = (-2147483648, 2147483647)) (by have := i_rng y5844; omega) (by have := i_rng y5844; omega)
            refine q_aload_n hM dX12_workAt_58 (lv_at hl 1 rfl) ?_
            refine w_get (v := .ref (ad 157)) hM hW FG_X12_97 lb_129 (rf_129_51 hW.2.1) dX12_workAt_59 ?_
            refine q_iload_n hM dX12_workAt_62 (lv_at hl 3 rfl) ?_
            refine q_aload_n hM dX12_workAt_63 (lv_at hl 1 rfl) ?_
            refine w_get (v := .ref (ad 157)) hM hW FG_X12_97 lb_129 (rf_129_51 hW.2.1) dX12_workAt_64 ?_
            refine q_iload_n hM dX12_workAt_67 (lv_at hl 0 rfl) ?_
            refine w_zald hM hW lb_157 (i_in (by omega) (by omega)) dX12_workAt_68 ?_
            refine q_top (fun y5846 hy5846 => ?_)
            refine w_zast hM hW lb_157 (by omega) (i_in (by omega) (by omega)) dX12_workAt_69 (fun g5847 H locs hW e1 e2 => ?_)
            have hG := hG.st e1 e2 (rfl : rA 157 = (-2147483648, 2147483647)) (by have := i_rng (vp_nar .boolean y5846); omega) (by have := i_rng (vp_nar .boolean y5846); omega)
            exact hE _ _ _ _ _ hW.1 ⟨rfl, hW.2.1, hG, hW.2.2⟩ dX12_workAt_70
          · exact hE _ _ _ _ _ hW.1 ⟨rfl, hW.2.1, hG, hW.2.2⟩ dX12_workAt_45
        · refine q_iconst (v := (1 : Int32)) hM dX12_workAt_37 (by decide) ?_
          refine q_goto (tgt := 42) hM dX12_workAt_38 (by decide) ?_
          refine q_icmp_eq (tgt := 46) hM dX12_workAt_42 (by decide) (rfl : y5841.toInt = y5841.toInt) (kc_1 : (1 : Int32).toInt = 1) (fun h42 => ?_) (fun h42 => ?_)
          · refine q_aload_n hM dX12_workAt_46 (lv_at hl 1 rfl) ?_
            refine w_get (v := .ref (ad 156)) hM hW FG_X12_94 lb_129 (rf_129_50 hW.2.1) dX12_workAt_47 ?_
            refine q_iload_n hM dX12_workAt_50 (lv_at hl 3 rfl) ?_
            refine q_aload_n hM dX12_workAt_51 (lv_at hl 1 rfl) ?_
            refine w_get (v := .ref (ad 156)) hM hW FG_X12_94 lb_129 (rf_129_50 hW.2.1) dX12_workAt_52 ?_
            refine q_iload_n hM dX12_workAt_55 (lv_at hl 0 rfl) ?_
            refine w_iald hM hW lb_156 (i_in (by omega) (by omega)) dX12_workAt_56 ?_
            refine q_top (fun y5851 hy5851 => ?_)
            refine w_iast hM hW lb_156 (by omega) (i_in (by omega) (by omega)) dX12_workAt_57 (fun g5852 H locs hW e1 e2 => ?_)
            have hG := hG.st e1 e2 (rfl : rA 156 = (-2147483648, 2147483647)) (by have := i_rng y5851; omega) (by have := i_rng y5851; omega)
            refine q_aload_n hM dX12_workAt_58 (lv_at hl 1 rfl) ?_
            refine w_get (v := .ref (ad 157)) hM hW FG_X12_97 lb_129 (rf_129_51 hW.2.1) dX12_workAt_59 ?_
            refine q_iload_n hM dX12_workAt_62 (lv_at hl 3 rfl) ?_
            refine q_aload_n hM dX12_workAt_63 (lv_at hl 1 rfl) ?_
            refine w_get (v := .ref (ad 157)) hM hW FG_X12_97 lb_129 (rf_129_51 hW.2.1) dX12_workAt_64 ?_
            refine q_iload_n hM dX12_workAt_67 (lv_at hl 0 rfl) ?_
            refine w_zald hM hW lb_157 (i_in (by omega) (by omega)) dX12_workAt_68 ?_
            refine q_top (fun y5853 hy5853 => ?_)
            refine w_zast hM hW lb_157 (by omega) (i_in (by omega) (by omega)) dX12_workAt_69 (fun g5854 H locs hW e1 e2 => ?_)
            have hG := hG.st e1 e2 (rfl : rA 157 = (-2147483648, 2147483647)) (by have := i_rng (vp_nar .boolean y5853); omega) (by have := i_rng (vp_nar .boolean y5853); omega)
            exact hE _ _ _ _ _ hW.1 ⟨rfl, hW.2.1, hG, hW.2.2⟩ dX12_workAt_70
          · exact hE _ _ _ _ _ hW.1 ⟨rfl, hW.2.1, hG, hW.2.2⟩ dX12_workAt_45

theorem dX12_works_0 : decode cX12_works 0 = .ok (.iconst 0, 1) := by decide +kernel
theorem dX12_works_1 : decode cX12_works 1 = .ok (.istore_n 3, 1) := by decide +kernel
theorem dX12_works_2 : decode cX12_works 2 = .ok (.iload_n 1, 1) := by decide +kernel
theorem dX12_works_3 : decode cX12_works 3 = .ok (.istore 4, 2) := by decide +kernel
theorem dX12_works_5 : decode cX12_works 5 = .ok (.iload 4, 2) := by decide +kernel
theorem dX12_works_7 : decode cX12_works 7 = .ok (.iload_n 2, 1) := by decide +kernel
theorem dX12_works_8 : decode cX12_works 8 = .ok (.if_icmp .ge 119, 3) := by decide +kernel
theorem dX12_works_11 : decode cX12_works 11 = .ok (.aload_n 0, 1) := by decide +kernel
theorem dX12_works_12 : decode cX12_works 12 = .ok (.getfield 64, 3) := by decide +kernel
theorem dX12_works_15 : decode cX12_works 15 = .ok (.iload 4, 2) := by decide +kernel
theorem dX12_works_17 : decode cX12_works 17 = .ok (.iaload, 1) := by decide +kernel
theorem dX12_works_18 : decode cX12_works 18 = .ok (.iconst 2, 1) := by decide +kernel
theorem dX12_works_19 : decode cX12_works 19 = .ok (.if_icmp .le 23, 3) := by decide +kernel
theorem dX12_works_22 : decode cX12_works 22 = .ok (.iinc 3 (-1), 3) := by decide +kernel
theorem dX12_works_25 : decode cX12_works 25 = .ok (.aload_n 0, 1) := by decide +kernel
theorem dX12_works_26 : decode cX12_works 26 = .ok (.aload_n 0, 1) := by decide +kernel
theorem dX12_works_27 : decode cX12_works 27 = .ok (.getfield 64, 3) := by decide +kernel
theorem dX12_works_30 : decode cX12_works 30 = .ok (.iload 4, 2) := by decide +kernel
theorem dX12_works_32 : decode cX12_works 32 = .ok (.iaload, 1) := by decide +kernel
theorem dX12_works_33 : decode cX12_works 33 = .ok (.iload_n 3, 1) := by decide +kernel
theorem dX12_works_34 : decode cX12_works 34 = .ok (.iconst 1, 1) := by decide +kernel
theorem dX12_works_35 : decode cX12_works 35 = .ok (.isub, 1) := by decide +kernel
theorem dX12_works_36 : decode cX12_works 36 = .ok (.invokevirtual 393, 3) := by decide +kernel
theorem dX12_works_39 : decode cX12_works 39 = .ok (.goto 82, 3) := by decide +kernel
theorem dX12_works_42 : decode cX12_works 42 = .ok (.aload_n 0, 1) := by decide +kernel
theorem dX12_works_43 : decode cX12_works 43 = .ok (.getfield 64, 3) := by decide +kernel
theorem dX12_works_46 : decode cX12_works 46 = .ok (.iload 4, 2) := by decide +kernel
theorem dX12_works_48 : decode cX12_works 48 = .ok (.iaload, 1) := by decide +kernel
theorem dX12_works_49 : decode cX12_works 49 = .ok (.iconst 2, 1) := by decide +kernel
theorem dX12_works_50 : decode cX12_works 50 = .ok (.if_icmp .ne 24, 3) := by decide +kernel
theorem dX12_works_53 : decode cX12_works 53 = .ok (.aload_n 0, 1) := by decide +kernel
theorem dX12_works_54 : decode cX12_works 54 = .ok (.getfield 94, 3) := by decide +kernel
theorem dX12_works_57 : decode cX12_works 57 = .ok (.iload_n 3, 1) := by decide +kernel
theorem dX12_works_58 : decode cX12_works 58 = .ok (.iconst 1, 1) := by decide +kernel
theorem dX12_works_59 : decode cX12_works 59 = .ok (.isub, 1) := by decide +kernel
theorem dX12_works_60 : decode cX12_works 60 = .ok (.iconst 1, 1) := by decide +kernel
theorem dX12_works_61 : decode cX12_works 61 = .ok (.aload_n 0, 1) := by decide +kernel
theorem dX12_works_62 : decode cX12_works 62 = .ok (.getfield 94, 3) := by decide +kernel
theorem dX12_works_65 : decode cX12_works 65 = .ok (.iload_n 3, 1) := by decide +kernel
theorem dX12_works_66 : decode cX12_works 66 = .ok (.iconst 1, 1) := by decide +kernel
theorem dX12_works_67 : decode cX12_works 67 = .ok (.isub, 1) := by decide +kernel
theorem dX12_works_68 : decode cX12_works 68 = .ok (.iaload, 1) := by decide +kernel
theorem dX12_works_69 : decode cX12_works 69 = .ok (.isub, 1) := by decide +kernel
theorem dX12_works_70 : decode cX12_works 70 = .ok (.iastore, 1) := by decide +kernel
theorem dX12_works_71 : decode cX12_works 71 = .ok (.goto 50, 3) := by decide +kernel
theorem dX12_works_74 : decode cX12_works 74 = .ok (.aload_n 0, 1) := by decide +kernel
theorem dX12_works_75 : decode cX12_works 75 = .ok (.getfield 97, 3) := by decide +kernel
theorem dX12_works_78 : decode cX12_works 78 = .ok (.iload_n 3, 1) := by decide +kernel
theorem dX12_works_79 : decode cX12_works 79 = .ok (.iconst 0, 1) := by decide +kernel
theorem dX12_works_80 : decode cX12_works 80 = .ok (.bastore, 1) := by decide +kernel
theorem dX12_works_81 : decode cX12_works 81 = .ok (.aload_n 0, 1) := by decide +kernel
theorem dX12_works_82 : decode cX12_works 82 = .ok (.getfield 94, 3) := by decide +kernel
theorem dX12_works_85 : decode cX12_works 85 = .ok (.iload_n 3, 1) := by decide +kernel
theorem dX12_works_86 : decode cX12_works 86 = .ok (.aload_n 0, 1) := by decide +kernel
theorem dX12_works_87 : decode cX12_works 87 = .ok (.getfield 64, 3) := by decide +kernel
theorem dX12_works_90 : decode cX12_works 90 = .ok (.iload 4, 2) := by decide +kernel
theorem dX12_works_92 : decode cX12_works 92 = .ok (.iaload, 1) := by decide +kernel
theorem dX12_works_93 : decode cX12_works 93 = .ok (.ifCond .ne 13, 3) := by decide +kernel
theorem dX12_works_96 : decode cX12_works 96 = .ok (.aload_n 0, 1) := by decide +kernel
theorem dX12_works_97 : decode cX12_works 97 = .ok (.getfield 67, 3) := by decide +kernel
theorem dX12_works_100 : decode cX12_works 100 = .ok (.iload 4, 2) := by decide +kernel
theorem dX12_works_102 : decode cX12_works 102 = .ok (.iaload, 1) := by decide +kernel
theorem dX12_works_103 : decode cX12_works 103 = .ok (.goto 14, 3) := by decide +kernel
theorem dX12_works_106 : decode cX12_works 106 = .ok (.aload_n 0, 1) := by decide +kernel
theorem dX12_works_107 : decode cX12_works 107 = .ok (.aload_n 0, 1) := by decide +kernel
theorem dX12_works_108 : decode cX12_works 108 = .ok (.getfield 67, 3) := by decide +kernel
theorem dX12_works_111 : decode cX12_works 111 = .ok (.iload 4, 2) := by decide +kernel
theorem dX12_works_113 : decode cX12_works 113 = .ok (.iaload, 1) := by decide +kernel
theorem dX12_works_114 : decode cX12_works 114 = .ok (.invokevirtual 396, 3) := by decide +kernel
theorem dX12_works_117 : decode cX12_works 117 = .ok (.iastore, 1) := by decide +kernel
theorem dX12_works_118 : decode cX12_works 118 = .ok (.iinc 3 1, 3) := by decide +kernel
theorem dX12_works_121 : decode cX12_works 121 = .ok (.iinc 4 1, 3) := by decide +kernel
theorem dX12_works_124 : decode cX12_works 124 = .ok (.goto (-119), 3) := by decide +kernel
theorem dX12_works_127 : decode cX12_works 127 = .ok (.return_, 1) := by decide +kernel
theorem FG_X12_64 : FG RX12 64 12 86 28 := ⟨RX12, TX12, rfl, wX12, by decide, kAW (v_4_4 (List.mem_of_getElem? (i := 9) rfl)) rfl, rfl⟩
theorem FG_X12_67 : FG RX12 67 12 86 29 := ⟨RX12, TX12, rfl, wX12, by decide, kAW (v_4_4 (List.mem_of_getElem? (i := 10) rfl)) rfl, rfl⟩
theorem myX12_valueOf : MI yX12_valueOf cX12_valueOf 2 (some FieldType.int) 1 := ⟨kAW (v_6_6 (List.mem_of_getElem? (i := 5) rfl)) rfl, kAW (v_0_0 (List.mem_of_getElem? (i := 13) rfl)) rfl, kAW (v_6_6 (List.mem_of_getElem? (i := 4) rfl)) rfl, kAW (tp_t4 (List.mem_of_getElem? (i := 10) rfl)) rfl, by decide, by decide, by decide +kernel⟩
theorem myX12_workAt : MI yX12_workAt cX12_workAt 4 none 2 := ⟨kAW (v_6_5 (List.mem_of_getElem? (i := 14) rfl)) rfl, kAW (v_0_0 (List.mem_of_getElem? (i := 13) rfl)) rfl, kAW (v_6_5 (List.mem_of_getElem? (i := 13) rfl)) rfl, kAW (tp_t4 (List.mem_of_getElem? (i := 9) rfl)) rfl, by decide, by decide, by decide +kernel⟩
set_option maxRecDepth 100000 in
set_option maxHeartbeats 4000000 in
theorem a_X12_works (l : Launch) (D : va_G) (cA : Nat → ClassId) (ad : Nat → Nat) (g0 : Nat → va_E) (fr : Int32) (to : Int32)   (hSh : Shp ad cA g0) (hG : Rng g0) (fr0 : 0 ≤ fr.toInt) (to1 : to.toInt ≤ 480) (to2 : to.toInt ≤ fr.toInt + 240) (hv : vok (arI g0 146) fr.toInt.toNat (to.toInt - fr.toInt).toNat) : CT l NN ad cA D yX12_works cX12_works 5 none (2, 45) [.ref (ad 129), .int fr, .int to] g0 (fun v g' => v = none ∧ Shp ad cA g' ∧ Rng g' ∧ FR (fun i k => i = 156 ∨ i = 157) g0 g') := by
  refine q_enterV (by decide) (Nat.le_of_ble_eq_true rfl) (fun K H locs ls _ _ hM hW0 hR hC hE hl => ?_)
  have hl : lv_has ls 5 [(0, .ref (ad 129)), (1, .int fr), (2, .int to)] := hl
  have hW : WS ad cA (fun i k => i = 156 ∨ i = 157) g0 K g0 H locs := ⟨hW0, hSh, FR.rf⟩
  have := i_rng to
  refine q_iconst (v := (0 : Int32)) hM dX12_works_0 (by decide) ?_
  refine q_istore_n (lv9 := [(3, .int (0 : Int32)), (0, .ref (ad 129)), (1, .int fr), (2, .int to)]) hM dX12_works_1 hl (by decide) rfl (fun ls hl => ?_)
  refine q_iload_n hM dX12_works_2 (lv_at hl 2 rfl) ?_
  refine q_istore (lv9 := [(4, .int fr), (3, .int (0 : Int32)), (0, .ref (ad 129)), (1, .int fr), (2, .int to)]) hM dX12_works_3 hl (by decide) rfl (fun ls hl => ?_)
  have L5 : ∀ (fu5 : Nat) (w5_3 : Int32) (w5_4 : Int32) (g9 : Nat → va_E) (H : Heap) (locs : List Loc) (ls : Array Slot), (to.toInt - w5_4.toInt + 1).toNat < fu5 → (Rng g9) → (fr.toInt ≤ w5_4.toInt) → (w5_3.toInt = dpt (arI g0 146) fr.toInt.toNat (w5_4.toInt - fr.toInt).toNat) → (0 ≤ w5_3.toInt) → (w5_3.toInt ≤ w5_4.toInt - fr.toInt) → lv_has ls 5 [(0, .ref (ad 129)), (1, .int fr), (2, .int to), (3, .int w5_3), (4, .int w5_4)] → WS ad cA (fun i k => i = 156 ∨ i = 157) g0 K g9 H locs → XX K 0 0 H locs 5 ls [] := by
    intro fu5
    induction fu5 with
    | zero => intro w5_3 w5_4 g9 H locs ls h0; omega
    | succ fu5 ih5 =>
      intro w5_3 w5_4 g9 H locs ls hm5 i5_0 i5_1 i5_2 i5_3 i5_4 hl hW
      have hG := i5_0
      have := i_rng to
      refine q_iload hM dX12_works_5 (lv_at hl 4 rfl) ?_
      refine q_iload_n hM dX12_works_7 (lv_at hl 2 rfl) ?_
      refine q_icmp_ge (tgt := 127) hM dX12_works_8 (by decide) (rfl : w5_4.toInt = w5_4.toInt) (rfl : to.toInt = to.toInt) (fun h8 => ?_) (fun h8 => ?_)
      · exact hE _ _ _ _ _ hW.1 ⟨rfl, hW.2.1, hG, hW.2.2⟩ dX12_works_127
      · refine q_aload_n hM dX12_works_11 (lv_at hl 0 rfl) ?_
        refine w_get (v := .ref (ad 146)) hM hW FG_X12_64 lb_129 (rf_129_28 hW.2.1) dX12_works_12 ?_
        refine q_iload hM dX12_works_15 (lv_at hl 4 rfl) ?_
        refine w_iald hM hW lb_146 (i_in (by omega) (by omega)) dX12_works_17 ?_
        refine q_top (fun y5859 hy5859 => ?_)
        rw [hW.2.2.2.1 146 (by omega)] at hy5859
        have cy5859 := congrArg Int32.toInt hy5859
        have vky5859 := vok_at hv (by omega) (by omega) (by omega) hy5859
        have efy5859 := eff_c y5859
        refine q_iconst (v := (2 : Int32)) hM dX12_works_18 (by decide) ?_
        refine q_icmp_le (tgt := 42) hM dX12_works_19 (by decide) (rfl : y5859.toInt = y5859.toInt) (kc_2 : (2 : Int32).toInt = 2) (fun h19 => ?_) (fun h19 => ?_)
        · refine q_aload_n hM dX12_works_42 (lv_at hl 0 rfl) ?_
          refine w_get (v := .ref (ad 146)) hM hW FG_X12_64 lb_129 (rf_129_28 hW.2.1) dX12_works_43 ?_
          refine q_iload hM dX12_works_46 (lv_at hl 4 rfl) ?_
          refine w_iald hM hW lb_146 (i_in (by omega) (by omega)) dX12_works_48 ?_
          refine q_top (fun y5861 hy5861 => ?_)
          rw [hW.2.2.2.1 146 (by omega)] at hy5861
          have cy5861 := congrArg Int32.toInt hy5861
          have vky5861 := vok_at hv (by omega) (by omega) (by omega) hy5861
          have efy5861 := eff_c y5861
          refine q_iconst (v := (2 : Int32)) hM dX12_works_49 (by decide) ?_
          refine q_icmp_ne (tgt := 74) hM dX12_works_50 (by decide) (rfl : y5861.toInt = y5861.toInt) (kc_2 : (2 : Int32).toInt = 2) (fun h50 => ?_) (fun h50 => ?_)
          · refine q_aload_n hM dX12_works_74 (lv_at hl 0 rfl) ?_
            refine w_get (v := .ref (ad 157)) hM hW FG_X12_97 lb_129 (rf_129_51 hW.2.1) dX12_works_75 ?_
            refine q_iload_n hM dX12_works_78 (lv_at hl 3 rfl) ?_
            refine q_iconst (v := (0 : Int32)) hM dX12_works_79 (by decide) ?_
            refine w_zast hM hW lb_157 (by omega) (i_in (by omega) (by omega)) dX12_works_80 (fun g5863 H locs hW e1 e2 => ?_)
            have hG := hG.st e1 e2 (rfl : rA 157 = (-2147483648, 2147483647)) (by have := i_rng (vp_nar .boolean (0 : Int32)); omega) (by have := i_rng (vp_nar .boolean (0 : Int32)); omega)
            refine q_aload_n hM dX12_works_81 (lv_at hl 0 rfl) ?_
            refine w_get (v := .ref (ad 156)) hM hW FG_X12_94 lb_129 (rf_129_50 hW.2.1) dX12_works_82 ?_
            refine q_iload_n hM dX12_works_85 (lv_at hl 3 rfl) ?_
            refine q_aload_n hM dX12_works_86 (lv_at hl 0 rfl) ?_
            refine w_get (v := .ref (ad 146)) hM hW FG_X12_64 lb_129 (rf_129_28 hW.2.1) dX12_works_87 ?_
            refine q_iload hM dX12_works_90 (lv_at hl 4 rfl) ?_
            refine w_iald hM hW lb_146 (i_in (by omega) (by omega)) dX12_works_92 ?_
            refine q_top (fun y5864 hy5864 => ?_)
            rw [hW.2.2.2.1 146 (by omega)] at hy5864
            have cy5864 := congrArg Int32.toInt hy5864
            have vky5864 := vok_at hv (by omega) (by omega) (by omega) hy5864
            have efy5864 := eff_c y5864
            refine q_if_ne (tgt := 106) hM dX12_works_93 (by decide) (rfl : y5864.toInt = y5864.toInt) (fun h93 => ?_) (fun h93 => ?_)
            · refine q_aload_n hM dX12_works_106 (lv_at hl 0 rfl) ?_
              refine q_aload_n hM dX12_works_107 (lv_at hl 0 rfl) ?_
              refine w_get (v := .ref (ad 147)) hM hW FG_X12_67 lb_129 (rf_129_29 hW.2.1) dX12_works_108 ?_
              refine q_iload hM dX12_works_111 (lv_at hl 4 rfl) ?_
              refine w_iald hM hW lb_147 (i_in (by omega) (by omega)) dX12_works_113 ?_
              refine q_top (fun y5866 hy5866 => ?_)
              refine q_callV (As := [.int y5866]) (rest := [.int w5_3, .ref (ad 156)]) hM hW.1 hR hC myX12_valueOf (kAW (v_6_6 (List.mem_of_getElem? (i := 2) rfl)) rfl) (rfl : vwCl[12]? = some (RX12, TX12, 86)) rfl lb_129.1 (shO hW.2.1 lb_129) (a_X12_valueOf _ _ cA ad g5863 y5866 hW.2.1 hG) ⟨by decide, by decide⟩ rfl rfl hl.1 (Nat.le_of_ble_eq_true rfl) dX12_works_114 (fun v g5868 H locs hp hW1 => ?_)
              obtain ⟨r5867, rfl, hr5867, rfl⟩ := hp
              have hW : WS ad cA (fun i k => i = 156 ∨ i = 157) g0 K g5863 H locs := ⟨hW1, hW.2.1, hW.2.2⟩
              refine w_iast hM hW lb_156 (by omega) (i_in (by omega) (by omega)) dX12_works_117 (fun g5869 H locs hW e1 e2 => ?_)
              have hG := hG.st e1 e2 (rfl : rA 156 = (-2147483648, 2147483647)) (by have := i_rng r5867; omega) (by have := i_rng r5867; omega)
              refine q_iinc (lv9 := fun z5870 => [(3, .int z5870), (0, .ref (ad 129)), (1, .int fr), (2, .int to), (4, .int w5_4)]) hM dX12_works_118 hl (kq := 3) rfl (by decide) (fun _ => rfl) (fun z5870 ls hz5870 hl => ?_)
              first | have tz5870 := i_addT hz5870 (rfl : w5_3.toInt = w5_3.toInt) (kc_1 : (Int32.ofInt 1).toInt = 1) (by omega) (by omega) | skip
              refine q_iinc (lv9 := fun z5871 => [(4, .int z5871), (3, .int z5870), (0, .ref (ad 129)), (1, .int fr), (2, .int to)]) hM dX12_works_121 hl (kq := 4) rfl (by decide) (fun _ => rfl) (fun z5871 ls hz5871 hl => ?_)
              first | have tz5871 := i_addT hz5871 (rfl : w5_4.toInt = w5_4.toInt) (kc_1 : (Int32.ofInt 1).toInt = 1) (by omega) (by omega) | skip
              refine q_goto (tgt := 5) hM dX12_works_124 (by decide) ?_
              exact ih5 z5870 z5871 _ _ _ _ (by omega) hG (by omega) (by rw [dpt_next (by omega) (by omega) (by omega : z5871.toInt = w5_4.toInt + 1) hy5859]; omega) (by omega) (by omega) (lv_sub hl [2, 3, 4, 1, 0] rfl) hW
            · refine q_aload_n hM dX12_works_96 (lv_at hl 0 rfl) ?_
              refine w_get (v := .ref (ad 147)) hM hW FG_X12_67 lb_129 (rf_129_29 hW.2.1) dX12_works_97 ?_
              refine q_iload hM dX12_works_100 (lv_at hl 4 rfl) ?_
              refine w_iald hM hW lb_147 (i_in (by omega) (by omega)) dX12_works_102 ?_
              refine q_top (fun y5873 hy5873 => ?_)
              refine q_goto (tgt := 117) hM dX12_works_103 (by decide) ?_
              refine w_iast hM hW lb_156 (by omega) (i_in (by omega) (by omega)) dX12_works_117 (fun g5874 H locs hW e1 e2 => ?_)
              have hG := hG.st e1 e2 (rfl : rA 156 = (-2147483648, 2147483647)) (by have := i_rng y5873; omega) (by have := i_rng y5873; omega)
              refine q_iinc (lv9 := fun z5875 => [(3, .int z5875), (0, .ref (ad 129)), (1, .int fr), (2, .int to), (4, .int w5_4)]) hM dX12_works_118 hl (kq := 3) rfl (by decide) (fun _ => rfl) (fun z5875 ls hz5875 hl => ?_)
              first | have tz5875 := i_addT hz5875 (rfl : w5_3.toInt = w5_3.toInt) (kc_1 : (Int32.ofInt 1).toInt = 1) (by omega) (by omega) | skip
              refine q_iinc (lv9 := fun z5876 => [(4, .int z5876), (3, .int z5875), (0, .ref (ad 129)), (1, .int fr), (2, .int to)]) hM dX12_works_121 hl (kq := 4) rfl (by decide) (fun _ => rfl) (fun z5876 ls hz5876 hl => ?_)
              first | have tz5876 := i_addT hz5876 (rfl : w5_4.toInt = w5_4.toInt) (kc_1 : (Int32.ofInt 1).toInt = 1) (by omega) (by omega) | skip
              refine q_goto (tgt := 5) hM dX12_works_124 (by decide) ?_
              exact ih5 z5875 z5876 _ _ _ _ (by omega) hG (by omega) (by rw [dpt_next (by omega) (by omega) (by omega : z5876.toInt = w5_4.toInt + 1) hy5859]; omega) (by omega) (by omega) (lv_sub hl [2, 3, 4, 1, 0] rfl) hW
          · refine q_aload_n hM dX12_works_53 (lv_at hl 0 rfl) ?_
            refine w_get (v := .ref (ad 156)) hM hW FG_X12_94 lb_129 (rf_129_50 hW.2.1) dX12_works_54 ?_
            refine q_iload_n hM dX12_works_57 (lv_at hl 3 rfl) ?_
            refine q_iconst (v := (1 : Int32)) hM dX12_works_58 (by decide) ?_
            refine q_isub hM dX12_works_59 (fun z5878 hz5878 => ?_)
            first | have tz5878 := i_subT hz5878 (rfl : w5_3.toInt = w5_3.toInt) (kc_1 : (1 : Int32).toInt = 1) (by omega) (by omega) | skip
            refine q_iconst (v := (1 : Int32)) hM dX12_works_60 (by decide) ?_
            refine q_aload_n hM dX12_works_61 (lv_at hl 0 rfl) ?_
            refine w_get (v := .ref (ad 156)) hM hW FG_X12_94 lb_129 (rf_129_50 hW.2.1) dX12_works_62 ?_
            refine q_iload_n hM dX12_works_65 (lv_at hl 3 rfl) ?_
            refine q_iconst (v := (1 : Int32)) hM dX12_works_66 (by decide) ?_
            refine q_isub hM dX12_works_67 (fun z5879 hz5879 => ?_)
            first | have tz5879 := i_subT hz5879 (rfl : w5_3.toInt = w5_3.toInt) (kc_1 : (1 : Int32).toInt = 1) (by omega) (by omega) | skip
            refine w_iald hM hW lb_156 (i_in (by omega) (by omega)) dX12_works_68 ?_
            refine q_top (fun y5880 hy5880 => ?_)
            refine q_isub hM dX12_works_69 (fun z5881 hz5881 => ?_)
            first | have tz5881 := i_subT hz5881 (kc_1 : (1 : Int32).toInt = 1) (rfl : y5880.toInt = y5880.toInt) (by omega) (by omega) | skip
            refine w_iast hM hW lb_156 (by omega) (i_in (by omega) (by omega)) dX12_works_70 (fun g5882 H locs hW e1 e2 => ?_)
            have hG := hG.st e1 e2 (rfl : rA 156 = (-2147483648, 2147483647)) (by have := i_rng z5881; omega) (by have := i_rng z5881; omega)
            refine q_goto (tgt := 121) hM dX12_works_71 (by decide) ?_
            refine q_iinc (lv9 := fun z5883 => [(4, .int z5883), (0, .ref (ad 129)), (1, .int fr), (2, .int to), (3, .int w5_3)]) hM dX12_works_121 hl (kq := 4) rfl (by decide) (fun _ => rfl) (fun z5883 ls hz5883 hl => ?_)
            first | have tz5883 := i_addT hz5883 (rfl : w5_4.toInt = w5_4.toInt) (kc_1 : (Int32.ofInt 1).toInt = 1) (by omega) (by omega) | skip
            refine q_goto (tgt := 5) hM dX12_works_124 (by decide) ?_
            exact ih5 w5_3 z5883 _ _ _ _ (by omega) hG (by omega) (by rw [dpt_next (by omega) (by omega) (by omega : z5883.toInt = w5_4.toInt + 1) hy5859]; omega) (by omega) (by omega) (lv_sub hl [1, 2, 3, 4, 0] rfl) hW
        · refine q_iinc (lv9 := fun z5885 => [(3, .int z5885), (0, .ref (ad 129)), (1, .int fr), (2, .int to), (4, .int w5_4)]) hM dX12_works_22 hl (kq := 3) rfl (by decide) (fun _ => rfl) (fun z5885 ls hz5885 hl => ?_)
          first | have tz5885 := i_addT hz5885 (rfl : w5_3.toInt = w5_3.toInt) (kc_m1 : (Int32.ofInt (-1)).toInt = (-1)) (by omega) (by omega) | skip
          refine q_aload_n hM dX12_works_25 (lv_at hl 1 rfl) ?_
          refine q_aload_n hM dX12_works_26 (lv_at hl 1 rfl) ?_
          refine w_get (v := .ref (ad 146)) hM hW FG_X12_64 lb_129 (rf_129_28 hW.2.1) dX12_works_27 ?_
          refine q_iload hM dX12_works_30 (lv_at hl 4 rfl) ?_
          refine w_iald hM hW lb_146 (i_in (by omega) (by omega)) dX12_works_32 ?_
          refine q_top (fun y5886 hy5886 => ?_)
          rw [hW.2.2.2.1 146 (by omega)] at hy5886
          have cy5886 := congrArg Int32.toInt hy5886
          have vky5886 := vok_at hv (by omega) (by omega) (by omega) hy5886
          have efy5886 := eff_c y5886
          refine q_iload_n hM dX12_works_33 (lv_at hl 0 rfl) ?_
          refine q_iconst (v := (1 : Int32)) hM dX12_works_34 (by decide) ?_
          refine q_isub hM dX12_works_35 (fun z5887 hz5887 => ?_)
          first | have tz5887 := i_subT hz5887 (rfl : z5885.toInt = z5885.toInt) (kc_1 : (1 : Int32).toInt = 1) (by omega) (by omega) | skip
          refine q_callV (As := [.int y5886, .int z5887]) (rest := []) hM hW.1 hR hC myX12_workAt (kAW (v_6_5 (List.mem_of_getElem? (i := 11) rfl)) rfl) (rfl : vwCl[12]? = some (RX12, TX12, 86)) rfl lb_129.1 (shO hW.2.1 lb_129) (a_X12_workAt _ _ cA ad g9 y5886 z5887 hW.2.1 hG (by  omega) (by  omega)) ⟨by decide, by decide⟩ rfl rfl hl.1 (Nat.le_of_ble_eq_true rfl) dX12_works_36 (fun v g5888 H locs hp hW1 => ?_)
          obtain ⟨rfl, hs1, hG, hf1⟩ := hp
          have hW : WS ad cA (fun i k => i = 156 ∨ i = 157) g0 K g5888 H locs := ⟨hW1, hs1, hW.2.2.tr hf1 (fun i k h => h.elim (fun h => (Or.inl h)) (fun h => (Or.inr h)))⟩
          refine q_goto (tgt := 121) hM dX12_works_39 (by decide) ?_
          refine q_iinc (lv9 := fun z5889 => [(4, .int z5889), (3, .int z5885), (0, .ref (ad 129)), (1, .int fr), (2, .int to)]) hM dX12_works_121 hl (kq := 4) rfl (by decide) (fun _ => rfl) (fun z5889 ls hz5889 hl => ?_)
          first | have tz5889 := i_addT hz5889 (rfl : w5_4.toInt = w5_4.toInt) (kc_1 : (Int32.ofInt 1).toInt = 1) (by omega) (by omega) | skip
          refine q_goto (tgt := 5) hM dX12_works_124 (by decide) ?_
          exact ih5 z5885 z5889 _ _ _ _ (by omega) hG (by omega) (by rw [dpt_next (by omega) (by omega) (by omega : z5889.toInt = w5_4.toInt + 1) hy5859]; omega) (by omega) (by omega) (lv_sub hl [2, 3, 4, 1, 0] rfl) hW
  have := kc_0
  exact L5 _ (0 : Int32) fr _ _ _ _ (Nat.lt_succ_self _) hG (by omega) (by rw [dpt_0]; exact kc_0) (by omega) (by omega) (lv_sub hl [2, 3, 4, 1, 0] rfl) hW

theorem dX12_isSo_0 : decode cX12_isSo 0 = .ok (.aload_n 0, 1) := by decide +kernel
theorem dX12_isSo_1 : decode cX12_isSo 1 = .ok (.aload_n 0, 1) := by decide +kernel
theorem dX12_isSo_2 : decode cX12_isSo 2 = .ok (.getfield 58, 3) := by decide +kernel
theorem dX12_isSo_5 : decode cX12_isSo 5 = .ok (.iload_n 1, 1) := by decide +kernel
theorem dX12_isSo_6 : decode cX12_isSo 6 = .ok (.iaload, 1) := by decide +kernel
theorem dX12_isSo_7 : decode cX12_isSo 7 = .ok (.aload_n 0, 1) := by decide +kernel
theorem dX12_isSo_8 : decode cX12_isSo 8 = .ok (.getfield 61, 3) := by decide +kernel
theorem dX12_isSo_11 : decode cX12_isSo 11 = .ok (.iload_n 1, 1) := by decide +kernel
theorem dX12_isSo_12 : decode cX12_isSo 12 = .ok (.iaload, 1) := by decide +kernel
theorem dX12_isSo_13 : decode cX12_isSo 13 = .ok (.invokevirtual 399, 3) := by decide +kernel
theorem dX12_isSo_16 : decode cX12_isSo 16 = .ok (.aload_n 0, 1) := by decide +kernel
theorem dX12_isSo_17 : decode cX12_isSo 17 = .ok (.getfield 97, 3) := by decide +kernel
theorem dX12_isSo_20 : decode cX12_isSo 20 = .ok (.iconst 0, 1) := by decide +kernel
theorem dX12_isSo_21 : decode cX12_isSo 21 = .ok (.baload, 1) := by decide +kernel
theorem dX12_isSo_22 : decode cX12_isSo 22 = .ok (.ifCond .ne 17, 3) := by decide +kernel
theorem dX12_isSo_25 : decode cX12_isSo 25 = .ok (.aload_n 0, 1) := by decide +kernel
theorem dX12_isSo_26 : decode cX12_isSo 26 = .ok (.getfield 94, 3) := by decide +kernel
theorem dX12_isSo_29 : decode cX12_isSo 29 = .ok (.iconst 0, 1) := by decide +kernel
theorem dX12_isSo_30 : decode cX12_isSo 30 = .ok (.iaload, 1) := by decide +kernel
theorem dX12_isSo_31 : decode cX12_isSo 31 = .ok (.iconst 1, 1) := by decide +kernel
theorem dX12_isSo_32 : decode cX12_isSo 32 = .ok (.if_icmp .ne 7, 3) := by decide +kernel
theorem dX12_isSo_35 : decode cX12_isSo 35 = .ok (.iconst 1, 1) := by decide +kernel
theorem dX12_isSo_36 : decode cX12_isSo 36 = .ok (.goto 4, 3) := by decide +kernel
theorem dX12_isSo_39 : decode cX12_isSo 39 = .ok (.iconst 0, 1) := by decide +kernel
theorem dX12_isSo_40 : decode cX12_isSo 40 = .ok (.ireturn, 1) := by decide +kernel
theorem FG_X12_58 : FG RX12 58 12 86 26 := ⟨RX12, TX12, rfl, wX12, by decide, kAW (v_4_4 (List.mem_of_getElem? (i := 7) rfl)) rfl, rfl⟩
theorem FG_X12_61 : FG RX12 61 12 86 27 := ⟨RX12, TX12, rfl, wX12, by decide, kAW (v_4_4 (List.mem_of_getElem? (i := 8) rfl)) rfl, rfl⟩
theorem myX12_works : MI yX12_works cX12_works 5 none 2 := ⟨kAW (v_6_5 (List.mem_of_getElem? (i := 10) rfl)) rfl, kAW (v_0_0 (List.mem_of_getElem? (i := 13) rfl)) rfl, kAW (v_6_5 (List.mem_of_getElem? (i := 9) rfl)) rfl, kAW (tp_t4 (List.mem_of_getElem? (i := 8) rfl)) rfl, by decide, by decide, by decide +kernel⟩
set_option maxRecDepth 100000 in
set_option maxHeartbeats 4000000 in
theorem a_X12_isSo (l : Launch) (D : va_G) (cA : Nat → ClassId) (ad : Nat → Nat) (g0 : Nat → va_E) (k : Int32)   (hSh : Shp ad cA g0) (hG : Rng g0) (k0 : 0 ≤ k.toInt) (k1 : k.toInt ≤ 31) (hq : LA1 g0 k.toNatClampNeg) : CT l NN ad cA D yX12_isSo cX12_isSo 2 (some FieldType.boolean) (3, 69) [.ref (ad 129), .int k] g0 (fun v g' => ∃ (r : Int32), v = some (.int r) ∧ Shp ad cA g' ∧ Rng g' ∧ FR (fun i k => i = 156 ∨ i = 157) g0 g' ∧ (r.toInt = 0 ∨ r.toInt = 1)) := by
  refine q_enterZ (by decide) (Nat.le_of_ble_eq_true rfl) (fun K H locs ls _ _ hM hW0 hR hC hE hl => ?_)
  have hl : lv_has ls 2 [(0, .ref (ad 129)), (1, .int k)] := hl
  have hW : WS ad cA (fun i k => i = 156 ∨ i = 157) g0 K g0 H locs := ⟨hW0, hSh, FR.rf⟩
  have hq9 := hq
  unfold LA1 at hq9
  refine q_aload_n hM dX12_isSo_0 (lv_at hl 0 rfl) ?_
  refine q_aload_n hM dX12_isSo_1 (lv_at hl 0 rfl) ?_
  refine w_get (v := .ref (ad 144)) hM hW FG_X12_58 lb_129 (rf_129_26 hW.2.1) dX12_isSo_2 ?_
  refine q_iload_n hM dX12_isSo_5 (lv_at hl 1 rfl) ?_
  refine w_iald hM hW lb_144 (i_in (by omega) (by omega)) dX12_isSo_6 ?_
  refine q_top (fun y5890 hy5890 => ?_)
  have cy5890 := congrArg Int32.toInt hy5890
  refine q_aload_n hM dX12_isSo_7 (lv_at hl 0 rfl) ?_
  refine w_get (v := .ref (ad 145)) hM hW FG_X12_61 lb_129 (rf_129_27 hW.2.1) dX12_isSo_8 ?_
  refine q_iload_n hM dX12_isSo_11 (lv_at hl 1 rfl) ?_
  refine w_iald hM hW lb_145 (i_in (by omega) (by omega)) dX12_isSo_12 ?_
  refine q_top (fun y5891 hy5891 => ?_)
  have cy5891 := congrArg Int32.toInt hy5891
  refine q_callV (As := [.int y5890, .int y5891]) (rest := []) hM hW.1 hR hC myX12_works (kAW (v_6_5 (List.mem_of_getElem? (i := 7) rfl)) rfl) (rfl : vwCl[12]? = some (RX12, TX12, 86)) rfl lb_129.1 (shO hW.2.1 lb_129) (a_X12_works _ _ cA ad g0 y5890 y5891 hW.2.1 hG (by  omega) (by  omega) (by  omega) (by have q := hq; unfold LA1 at q; rw [← hy5890, ← hy5891] at q; exact q.2.2.2.2.2.2)) ⟨by decide, by decide⟩ rfl rfl hl.1 (Nat.le_of_ble_eq_true rfl) dX12_isSo_13 (fun v g5892 H locs hp hW1 => ?_)
  obtain ⟨rfl, hs1, hG, hf1⟩ := hp
  have hW : WS ad cA (fun i k => i = 156 ∨ i = 157) g0 K g5892 H locs := ⟨hW1, hs1, hW.2.2.tr hf1 (fun i k h => h.elim (fun h => (Or.inl h)) (fun h => (Or.inr h)))⟩
  refine q_aload_n hM dX12_isSo_16 (lv_at hl 0 rfl) ?_
  refine w_get (v := .ref (ad 157)) hM hW FG_X12_97 lb_129 (rf_129_51 hW.2.1) dX12_isSo_17 ?_
  refine q_iconst (v := (0 : Int32)) hM dX12_isSo_20 (by decide) ?_
  refine w_zald hM hW lb_157 (i_in (by rw [kc_0]; decide) (by rw [kc_0]; decide)) dX12_isSo_21 ?_
  refine q_top (fun y5893 hy5893 => ?_)
  refine q_if_ne (tgt := 39) hM dX12_isSo_22 (by decide) (rfl : y5893.toInt = y5893.toInt) (fun h22 => ?_) (fun h22 => ?_)
  · refine q_iconst (v := (0 : Int32)) hM dX12_isSo_39 (by decide) ?_
    exact hE _ _ _ _ _ _ hW.1 nz_0 ⟨_, rfl, hW.2.1, hG, hW.2.2, (by have := kc_0; omega)⟩ dX12_isSo_40
  · refine q_aload_n hM dX12_isSo_25 (lv_at hl 0 rfl) ?_
    refine w_get (v := .ref (ad 156)) hM hW FG_X12_94 lb_129 (rf_129_50 hW.2.1) dX12_isSo_26 ?_
    refine q_iconst (v := (0 : Int32)) hM dX12_isSo_29 (by decide) ?_
    refine w_iald hM hW lb_156 (i_in (by rw [kc_0]; decide) (by rw [kc_0]; decide)) dX12_isSo_30 ?_
    refine q_top (fun y5896 hy5896 => ?_)
    refine q_iconst (v := (1 : Int32)) hM dX12_isSo_31 (by decide) ?_
    refine q_icmp_ne (tgt := 39) hM dX12_isSo_32 (by decide) (rfl : y5896.toInt = y5896.toInt) (kc_1 : (1 : Int32).toInt = 1) (fun h32 => ?_) (fun h32 => ?_)
    · refine q_iconst (v := (0 : Int32)) hM dX12_isSo_39 (by decide) ?_
      exact hE _ _ _ _ _ _ hW.1 nz_0 ⟨_, rfl, hW.2.1, hG, hW.2.2, (by have := kc_0; omega)⟩ dX12_isSo_40
    · refine q_iconst (v := (1 : Int32)) hM dX12_isSo_35 (by decide) ?_
      refine q_goto (tgt := 40) hM dX12_isSo_36 (by decide) ?_
      exact hE _ _ _ _ _ _ hW.1 nz_1 ⟨_, rfl, hW.2.1, hG, hW.2.2, (by have := kc_1; omega)⟩ dX12_isSo_40

theorem dX12_tells_0 : decode cX12_tells 0 = .ok (.bipush 16, 2) := by decide +kernel
theorem dX12_tells_2 : decode cX12_tells 2 = .ok (.aload_n 0, 1) := by decide +kernel
theorem dX12_tells_3 : decode cX12_tells 3 = .ok (.getfield 402, 3) := by decide +kernel
theorem dX12_tells_6 : decode cX12_tells 6 = .ok (.imul, 1) := by decide +kernel
theorem dX12_tells_7 : decode cX12_tells 7 = .ok (.istore_n 3, 1) := by decide +kernel
theorem dX12_tells_8 : decode cX12_tells 8 = .ok (.iload_n 3, 1) := by decide +kernel
theorem dX12_tells_9 : decode cX12_tells 9 = .ok (.istore 4, 2) := by decide +kernel
theorem dX12_tells_11 : decode cX12_tells 11 = .ok (.iload 4, 2) := by decide +kernel
theorem dX12_tells_13 : decode cX12_tells 13 = .ok (.iload_n 3, 1) := by decide +kernel
theorem dX12_tells_14 : decode cX12_tells 14 = .ok (.aload_n 0, 1) := by decide +kernel
theorem dX12_tells_15 : decode cX12_tells 15 = .ok (.getfield 70, 3) := by decide +kernel
theorem dX12_tells_18 : decode cX12_tells 18 = .ok (.aload_n 0, 1) := by decide +kernel
theorem dX12_tells_19 : decode cX12_tells 19 = .ok (.getfield 402, 3) := by decide +kernel
theorem dX12_tells_22 : decode cX12_tells 22 = .ok (.iaload, 1) := by decide +kernel
theorem dX12_tells_23 : decode cX12_tells 23 = .ok (.iadd, 1) := by decide +kernel
theorem dX12_tells_24 : decode cX12_tells 24 = .ok (.if_icmp .ge 74, 3) := by decide +kernel
theorem dX12_tells_27 : decode cX12_tells 27 = .ok (.aload_n 0, 1) := by decide +kernel
theorem dX12_tells_28 : decode cX12_tells 28 = .ok (.getfield 52, 3) := by decide +kernel
theorem dX12_tells_31 : decode cX12_tells 31 = .ok (.iload 4, 2) := by decide +kernel
theorem dX12_tells_33 : decode cX12_tells 33 = .ok (.iaload, 1) := by decide +kernel
theorem dX12_tells_34 : decode cX12_tells 34 = .ok (.iload_n 1, 1) := by decide +kernel
theorem dX12_tells_35 : decode cX12_tells 35 = .ok (.if_icmp .ne 57, 3) := by decide +kernel
theorem dX12_tells_38 : decode cX12_tells 38 = .ok (.aload_n 0, 1) := by decide +kernel
theorem dX12_tells_39 : decode cX12_tells 39 = .ok (.iload 4, 2) := by decide +kernel
theorem dX12_tells_41 : decode cX12_tells 41 = .ok (.invokevirtual 405, 3) := by decide +kernel
theorem dX12_tells_44 : decode cX12_tells 44 = .ok (.ifCond .ne 6, 3) := by decide +kernel
theorem dX12_tells_47 : decode cX12_tells 47 = .ok (.goto 45, 3) := by decide +kernel
theorem dX12_tells_50 : decode cX12_tells 50 = .ok (.aload_n 0, 1) := by decide +kernel
theorem dX12_tells_51 : decode cX12_tells 51 = .ok (.aload_n 0, 1) := by decide +kernel
theorem dX12_tells_52 : decode cX12_tells 52 = .ok (.getfield 55, 3) := by decide +kernel
theorem dX12_tells_55 : decode cX12_tells 55 = .ok (.iload 4, 2) := by decide +kernel
theorem dX12_tells_57 : decode cX12_tells 57 = .ok (.iaload, 1) := by decide +kernel
theorem dX12_tells_58 : decode cX12_tells 58 = .ok (.aload_n 0, 1) := by decide +kernel
theorem dX12_tells_59 : decode cX12_tells 59 = .ok (.getfield 58, 3) := by decide +kernel
theorem dX12_tells_62 : decode cX12_tells 62 = .ok (.iload 4, 2) := by decide +kernel
theorem dX12_tells_64 : decode cX12_tells 64 = .ok (.iaload, 1) := by decide +kernel
theorem dX12_tells_65 : decode cX12_tells 65 = .ok (.invokevirtual 399, 3) := by decide +kernel
theorem dX12_tells_68 : decode cX12_tells 68 = .ok (.aload_n 0, 1) := by decide +kernel
theorem dX12_tells_69 : decode cX12_tells 69 = .ok (.getfield 97, 3) := by decide +kernel
theorem dX12_tells_72 : decode cX12_tells 72 = .ok (.iconst 0, 1) := by decide +kernel
theorem dX12_tells_73 : decode cX12_tells 73 = .ok (.baload, 1) := by decide +kernel
theorem dX12_tells_74 : decode cX12_tells 74 = .ok (.ifCond .eq 7, 3) := by decide +kernel
theorem dX12_tells_77 : decode cX12_tells 77 = .ok (.iconst 0, 1) := by decide +kernel
theorem dX12_tells_78 : decode cX12_tells 78 = .ok (.goto 13, 3) := by decide +kernel
theorem dX12_tells_81 : decode cX12_tells 81 = .ok (.aload_n 0, 1) := by decide +kernel
theorem dX12_tells_82 : decode cX12_tells 82 = .ok (.getfield 94, 3) := by decide +kernel
theorem dX12_tells_85 : decode cX12_tells 85 = .ok (.iconst 0, 1) := by decide +kernel
theorem dX12_tells_86 : decode cX12_tells 86 = .ok (.iaload, 1) := by decide +kernel
theorem dX12_tells_87 : decode cX12_tells 87 = .ok (.iload_n 2, 1) := by decide +kernel
theorem dX12_tells_88 : decode cX12_tells 88 = .ok (.invokestatic 408, 3) := by decide +kernel
theorem dX12_tells_91 : decode cX12_tells 91 = .ok (.ireturn, 1) := by decide +kernel
theorem dX12_tells_92 : decode cX12_tells 92 = .ok (.iinc 4 1, 3) := by decide +kernel
theorem dX12_tells_95 : decode cX12_tells 95 = .ok (.goto (-84), 3) := by decide +kernel
theorem dX12_tells_98 : decode cX12_tells 98 = .ok (.iconst 0, 1) := by decide +kernel
theorem dX12_tells_99 : decode cX12_tells 99 = .ok (.ireturn, 1) := by decide +kernel
theorem FG_X12_402 : FG RX12 402 12 86 31 := ⟨RX12, TX12, rfl, wX12, by decide, kAW (v_4_4 (List.mem_of_getElem? (i := 12) rfl)) rfl, rfl⟩
theorem FG_X12_70 : FG RX12 70 12 86 30 := ⟨RX12, TX12, rfl, wX12, by decide, kAW (v_4_4 (List.mem_of_getElem? (i := 11) rfl)) rfl, rfl⟩
theorem FG_X12_52 : FG RX12 52 12 86 24 := ⟨RX12, TX12, rfl, wX12, by decide, kAW (v_4_4 (List.mem_of_getElem? (i := 5) rfl)) rfl, rfl⟩
theorem myX12_isSo : MI yX12_isSo cX12_isSo 2 (some FieldType.boolean) 1 := ⟨kAW (v_6_5 (List.mem_of_getElem? (i := 6) rfl)) rfl, kAW (v_0_0 (List.mem_of_getElem? (i := 13) rfl)) rfl, kAW (v_6_5 (List.mem_of_getElem? (i := 5) rfl)) rfl, kAW (tp_t4 (List.mem_of_getElem? (i := 7) rfl)) rfl, by decide, by decide, by decide +kernel⟩
theorem FG_X12_55 : FG RX12 55 12 86 25 := ⟨RX12, TX12, rfl, wX12, by decide, kAW (v_4_4 (List.mem_of_getElem? (i := 6) rfl)) rfl, rfl⟩
theorem myX12_held : MS yX12_held cX12_held 2 (some FieldType.int) 2 := ⟨kAW (v_6_6 (List.mem_of_getElem? (i := 12) rfl)) rfl, kAW (v_0_0 (List.mem_of_getElem? (i := 13) rfl)) rfl, kAW (v_6_6 (List.mem_of_getElem? (i := 11) rfl)) rfl, by decide, by decide, by decide +kernel⟩
set_option maxRecDepth 100000 in
set_option maxHeartbeats 4000000 in
theorem a_X12_tells (l : Launch) (D : va_G) (cA : Nat → ClassId) (ad : Nat → Nat) (g0 : Nat → va_E) (le : Int32) (mo : Int32) (ln : Int32)  (hSh : Shp ad cA g0) (hG : Rng g0) (h_ln : fld g0 129 31 = .int ln) (hL : LawOK g0) : CT l NN ad cA D yX12_tells cX12_tells 5 (some FieldType.int) (4, 90) [.ref (ad 129), .int le, .int mo] g0 (fun v g' => ∃ (r : Int32), v = some (.int r) ∧ Shp ad cA g' ∧ Rng g' ∧ FR (fun i k => i = 156 ∨ i = 157) g0 g') := by
  refine q_enterI (by decide) (Nat.le_of_ble_eq_true rfl) rfl (fun K H locs ls _ _ hM hW0 hR hC hE hl => ?_)
  have hl : lv_has ls 5 [(0, .ref (ad 129)), (1, .int le), (2, .int mo)] := hl
  have hW : WS ad cA (fun i k => i = 156 ∨ i = 157) g0 K g0 H locs := ⟨hW0, hSh, FR.rf⟩
  have b_ln := hG.f h_ln rF_129_31 (by decide)
  refine q_bipush (v := (16 : Int32)) hM dX12_tells_0 (by decide) ?_
  refine q_aload_n hM dX12_tells_2 (lv_at hl 0 rfl) ?_
  refine w_get (v := .int ln) hM hW FG_X12_402 lb_129 ((hW.2.2.1 129 31 (by omega)).trans h_ln) dX12_tells_3 ?_
  refine q_imul hM dX12_tells_6 (fun z5899 hz5899 => ?_)
  first | have tz5899 := i_mulT hz5899 (kc_16 : (16 : Int32).toInt = 16) (rfl : ln.toInt = ln.toInt) (by omega) (by omega) | skip
  refine q_istore_n (lv9 := [(3, .int z5899), (0, .ref (ad 129)), (1, .int le), (2, .int mo)]) hM dX12_tells_7 hl (by decide) rfl (fun ls hl => ?_)
  refine q_iload_n hM dX12_tells_8 (lv_at hl 0 rfl) ?_
  refine q_istore (lv9 := [(4, .int z5899), (3, .int z5899), (0, .ref (ad 129)), (1, .int le), (2, .int mo)]) hM dX12_tells_9 hl (by decide) rfl (fun ls hl => ?_)
  have L11 : ∀ (fu11 : Nat) (w11_4 : Int32) (g9 : Nat → va_E) (H : Heap) (locs : List Loc) (ls : Array Slot), (48 - w11_4.toInt).toNat < fu11 → (Rng g9) → (w11_4.toInt ≤ 48) → (16 * ln.toInt ≤ w11_4.toInt) → lv_has ls 5 [(0, .ref (ad 129)), (1, .int le), (2, .int mo), (3, .int z5899), (4, .int w11_4)] → WS ad cA (fun i k => i = 156 ∨ i = 157) g0 K g9 H locs → XX K 0 0 H locs 11 ls [] := by
    intro fu11
    induction fu11 with
    | zero => intro w11_4 g9 H locs ls h0; omega
    | succ fu11 ih11 =>
      intro w11_4 g9 H locs ls hm11 i11_0 i11_1 i11_2 hl hW
      have hG := i11_0
      refine q_iload hM dX12_tells_11 (lv_at hl 4 rfl) ?_
      refine q_iload_n hM dX12_tells_13 (lv_at hl 3 rfl) ?_
      refine q_aload_n hM dX12_tells_14 (lv_at hl 0 rfl) ?_
      refine w_get (v := .ref (ad 148)) hM hW FG_X12_70 lb_129 (rf_129_30 hW.2.1) dX12_tells_15 ?_
      refine q_aload_n hM dX12_tells_18 (lv_at hl 0 rfl) ?_
      refine w_get (v := .int ln) hM hW FG_X12_402 lb_129 ((hW.2.2.1 129 31 (by omega)).trans h_ln) dX12_tells_19 ?_
      refine w_iald hM hW lb_148 (i_in (by omega) (by omega)) dX12_tells_22 ?_
      refine q_top (fun y5901 hy5901 => ?_)
      have by5901 := hG.a hy5901 rA_148
      rw [hW.2.2.2.1 148 (by omega)] at hy5901
      refine q_iadd hM dX12_tells_23 (fun z5902 hz5902 => ?_)
      first | have tz5902 := i_addT hz5902 (rfl : z5899.toInt = z5899.toInt) (rfl : y5901.toInt = y5901.toInt) (by omega) (by omega) | skip
      refine q_icmp_ge (tgt := 98) hM dX12_tells_24 (by decide) (rfl : w11_4.toInt = w11_4.toInt) (rfl : z5902.toInt = z5902.toInt) (fun h24 => ?_) (fun h24 => ?_)
      · refine q_iconst (v := (0 : Int32)) hM dX12_tells_98 (by decide) ?_
        exact hE _ _ _ _ _ _ hW.1 ⟨_, rfl, hW.2.1, hG, hW.2.2⟩ dX12_tells_99
      · have la9 := LawOK_at (l := ln) (fr := z5899) (k := w11_4) (y := y5901) hL (by omega) (by omega) (by omega) (by omega) hy5901 (by omega)
        have la := LA1_eq la9 (hW.2.2.2.1 143 (by omega)) (hW.2.2.2.1 144 (by omega)) (hW.2.2.2.1 145 (by omega)) (hW.2.2.2.1 146 (by omega))
        refine q_aload_n hM dX12_tells_27 (lv_at hl 0 rfl) ?_
        refine w_get (v := .ref (ad 142)) hM hW FG_X12_52 lb_129 (rf_129_24 hW.2.1) dX12_tells_28 ?_
        refine q_iload hM dX12_tells_31 (lv_at hl 4 rfl) ?_
        refine w_iald hM hW lb_142 (i_in (by omega) (by omega)) dX12_tells_33 ?_
        refine q_top (fun y5905 hy5905 => ?_)
        refine q_iload_n hM dX12_tells_34 (lv_at hl 1 rfl) ?_
        refine q_icmp_ne (tgt := 92) hM dX12_tells_35 (by decide) (rfl : y5905.toInt = y5905.toInt) (rfl : le.toInt = le.toInt) (fun h35 => ?_) (fun h35 => ?_)
        · refine q_iinc (lv9 := fun z5907 => [(4, .int z5907), (0, .ref (ad 129)), (1, .int le), (2, .int mo), (3, .int z5899)]) hM dX12_tells_92 hl (kq := 4) rfl (by decide) (fun _ => rfl) (fun z5907 ls hz5907 hl => ?_)
          first | have tz5907 := i_addT hz5907 (rfl : w11_4.toInt = w11_4.toInt) (kc_1 : (Int32.ofInt 1).toInt = 1) (by omega) (by omega) | skip
          refine q_goto (tgt := 11) hM dX12_tells_95 (by decide) ?_
          exact ih11 z5907 _ _ _ _ (by omega) hG (by omega) (by omega) (lv_sub hl [1, 2, 3, 4, 0] rfl) hW
        · refine q_aload_n hM dX12_tells_38 (lv_at hl 0 rfl) ?_
          refine q_iload hM dX12_tells_39 (lv_at hl 4 rfl) ?_
          refine q_callV (As := [.int w11_4]) (rest := []) hM hW.1 hR hC myX12_isSo (kAW (v_6_5 (List.mem_of_getElem? (i := 3) rfl)) rfl) (rfl : vwCl[12]? = some (RX12, TX12, 86)) rfl lb_129.1 (shO hW.2.1 lb_129) (a_X12_isSo _ _ cA ad g9 w11_4 hW.2.1 hG (by  omega) (by  omega) la) ⟨by decide, by decide⟩ rfl rfl hl.1 (Nat.le_of_ble_eq_true rfl) dX12_tells_41 (fun v g5910 H locs hp hW1 => ?_)
          obtain ⟨r5909, rfl, hs1, hG, hf1, hr5909⟩ := hp
          have hW : WS ad cA (fun i k => i = 156 ∨ i = 157) g0 K g5910 H locs := ⟨hW1, hs1, hW.2.2.tr hf1 (fun i k h => h.elim (fun h => (Or.inl h)) (fun h => (Or.inr h)))⟩
          refine q_if_ne (tgt := 50) hM dX12_tells_44 (by decide) (rfl : r5909.toInt = r5909.toInt) (fun h44 => ?_) (fun h44 => ?_)
          · have la2 := LA1_eq la9 (hW.2.2.2.1 143 (by omega)) (hW.2.2.2.1 144 (by omega)) (hW.2.2.2.1 145 (by omega)) (hW.2.2.2.1 146 (by omega))
            have la3 := la2
            unfold LA1 at la3
            refine q_aload_n hM dX12_tells_50 (lv_at hl 0 rfl) ?_
            refine q_aload_n hM dX12_tells_51 (lv_at hl 0 rfl) ?_
            refine w_get (v := .ref (ad 143)) hM hW FG_X12_55 lb_129 (rf_129_25 hW.2.1) dX12_tells_52 ?_
            refine q_iload hM dX12_tells_55 (lv_at hl 4 rfl) ?_
            refine w_iald hM hW lb_143 (i_in (by omega) (by omega)) dX12_tells_57 ?_
            refine q_top (fun y5912 hy5912 => ?_)
            have cy5912 := congrArg Int32.toInt hy5912
            refine q_aload_n hM dX12_tells_58 (lv_at hl 0 rfl) ?_
            refine w_get (v := .ref (ad 144)) hM hW FG_X12_58 lb_129 (rf_129_26 hW.2.1) dX12_tells_59 ?_
            refine q_iload hM dX12_tells_62 (lv_at hl 4 rfl) ?_
            refine w_iald hM hW lb_144 (i_in (by omega) (by omega)) dX12_tells_64 ?_
            refine q_top (fun y5913 hy5913 => ?_)
            have cy5913 := congrArg Int32.toInt hy5913
            refine q_callV (As := [.int y5912, .int y5913]) (rest := []) hM hW.1 hR hC myX12_works (kAW (v_6_5 (List.mem_of_getElem? (i := 7) rfl)) rfl) (rfl : vwCl[12]? = some (RX12, TX12, 86)) rfl lb_129.1 (shO hW.2.1 lb_129) (a_X12_works _ _ cA ad g5910 y5912 y5913 hW.2.1 hG (by  omega) (by  omega) (by  omega) (by have q := la2; unfold LA1 at q; rw [← hy5912, ← hy5913] at q; exact q.2.2.2.2.2.1)) ⟨by decide, by decide⟩ rfl rfl hl.1 (Nat.le_of_ble_eq_true rfl) dX12_tells_65 (fun v g5914 H locs hp hW1 => ?_)
            obtain ⟨rfl, hs1, hG, hf1⟩ := hp
            have hW : WS ad cA (fun i k => i = 156 ∨ i = 157) g0 K g5914 H locs := ⟨hW1, hs1, hW.2.2.tr hf1 (fun i k h => h.elim (fun h => (Or.inl h)) (fun h => (Or.inr h)))⟩
            refine q_aload_n hM dX12_tells_68 (lv_at hl 0 rfl) ?_
            refine w_get (v := .ref (ad 157)) hM hW FG_X12_97 lb_129 (rf_129_51 hW.2.1) dX12_tells_69 ?_
            refine q_iconst (v := (0 : Int32)) hM dX12_tells_72 (by decide) ?_
            refine w_zald hM hW lb_157 (i_in (by rw [kc_0]; decide) (by rw [kc_0]; decide)) dX12_tells_73 ?_
            refine q_top (fun y5915 hy5915 => ?_)
            refine q_if_eq (tgt := 81) hM dX12_tells_74 (by decide) (rfl : y5915.toInt = y5915.toInt) (fun h74 => ?_) (fun h74 => ?_)
            · refine q_aload_n hM dX12_tells_81 (lv_at hl 0 rfl) ?_
              refine w_get (v := .ref (ad 156)) hM hW FG_X12_94 lb_129 (rf_129_50 hW.2.1) dX12_tells_82 ?_
              refine q_iconst (v := (0 : Int32)) hM dX12_tells_85 (by decide) ?_
              refine w_iald hM hW lb_156 (i_in (by rw [kc_0]; decide) (by rw [kc_0]; decide)) dX12_tells_86 ?_
              refine q_top (fun y5917 hy5917 => ?_)
              refine q_iload_n hM dX12_tells_87 (lv_at hl 2 rfl) ?_
              refine q_callS (As := [.int y5917, .int mo]) (rest := []) hM hW.1 hR hC myX12_held (kAW (v_6_6 (List.mem_of_getElem? (i := 10) rfl)) rfl) (a_X12_held _ _ cA ad g5914 y5917 mo hW.2.1 hG) ⟨by decide, by decide⟩ rfl rfl hl.1 (Nat.le_of_ble_eq_true rfl) dX12_tells_88 (fun v g5919 H locs hp hW1 => ?_)
              obtain ⟨r5918, rfl, hr5918, rfl⟩ := hp
              have hW : WS ad cA (fun i k => i = 156 ∨ i = 157) g0 K g5914 H locs := ⟨hW1, hW.2.1, hW.2.2⟩
              exact hE _ _ _ _ _ _ hW.1 ⟨_, rfl, hW.2.1, hG, hW.2.2⟩ dX12_tells_91
            · refine q_iconst (v := (0 : Int32)) hM dX12_tells_77 (by decide) ?_
              refine q_goto (tgt := 91) hM dX12_tells_78 (by decide) ?_
              exact hE _ _ _ _ _ _ hW.1 ⟨_, rfl, hW.2.1, hG, hW.2.2⟩ dX12_tells_91
          · refine q_goto (tgt := 92) hM dX12_tells_47 (by decide) ?_
            refine q_iinc (lv9 := fun z5922 => [(4, .int z5922), (0, .ref (ad 129)), (1, .int le), (2, .int mo), (3, .int z5899)]) hM dX12_tells_92 hl (kq := 4) rfl (by decide) (fun _ => rfl) (fun z5922 ls hz5922 hl => ?_)
            first | have tz5922 := i_addT hz5922 (rfl : w11_4.toInt = w11_4.toInt) (kc_1 : (Int32.ofInt 1).toInt = 1) (by omega) (by omega) | skip
            refine q_goto (tgt := 11) hM dX12_tells_95 (by decide) ?_
            exact ih11 z5922 _ _ _ _ (by omega) hG (by omega) (by omega) (lv_sub hl [1, 2, 3, 4, 0] rfl) hW
  exact L11 _ z5899 _ _ _ _ (Nat.lt_succ_self _) hG (by omega) (by omega) (lv_sub hl [2, 3, 4, 1, 0] rfl) hW

theorem dX12_says_0 : decode cX12_says 0 = .ok (.bipush 16, 2) := by decide +kernel
theorem dX12_says_2 : decode cX12_says 2 = .ok (.aload_n 0, 1) := by decide +kernel
theorem dX12_says_3 : decode cX12_says 3 = .ok (.getfield 402, 3) := by decide +kernel
theorem dX12_says_6 : decode cX12_says 6 = .ok (.imul, 1) := by decide +kernel
theorem dX12_says_7 : decode cX12_says 7 = .ok (.istore_n 1, 1) := by decide +kernel
theorem dX12_says_8 : decode cX12_says 8 = .ok (.iload_n 1, 1) := by decide +kernel
theorem dX12_says_9 : decode cX12_says 9 = .ok (.istore_n 2, 1) := by decide +kernel
theorem dX12_says_10 : decode cX12_says 10 = .ok (.iload_n 2, 1) := by decide +kernel
theorem dX12_says_11 : decode cX12_says 11 = .ok (.iload_n 1, 1) := by decide +kernel
theorem dX12_says_12 : decode cX12_says 12 = .ok (.aload_n 0, 1) := by decide +kernel
theorem dX12_says_13 : decode cX12_says 13 = .ok (.getfield 70, 3) := by decide +kernel
theorem dX12_says_16 : decode cX12_says 16 = .ok (.aload_n 0, 1) := by decide +kernel
theorem dX12_says_17 : decode cX12_says 17 = .ok (.getfield 402, 3) := by decide +kernel
theorem dX12_says_20 : decode cX12_says 20 = .ok (.iaload, 1) := by decide +kernel
theorem dX12_says_21 : decode cX12_says 21 = .ok (.iadd, 1) := by decide +kernel
theorem dX12_says_22 : decode cX12_says 22 = .ok (.if_icmp .ge 30, 3) := by decide +kernel
theorem dX12_says_25 : decode cX12_says 25 = .ok (.aload_n 0, 1) := by decide +kernel
theorem dX12_says_26 : decode cX12_says 26 = .ok (.getfield 52, 3) := by decide +kernel
theorem dX12_says_29 : decode cX12_says 29 = .ok (.iload_n 2, 1) := by decide +kernel
theorem dX12_says_30 : decode cX12_says 30 = .ok (.iaload, 1) := by decide +kernel
theorem dX12_says_31 : decode cX12_says 31 = .ok (.bipush 120, 2) := by decide +kernel
theorem dX12_says_33 : decode cX12_says 33 = .ok (.if_icmp .ne 13, 3) := by decide +kernel
theorem dX12_says_36 : decode cX12_says 36 = .ok (.aload_n 0, 1) := by decide +kernel
theorem dX12_says_37 : decode cX12_says 37 = .ok (.iload_n 2, 1) := by decide +kernel
theorem dX12_says_38 : decode cX12_says 38 = .ok (.invokevirtual 405, 3) := by decide +kernel
theorem dX12_says_41 : decode cX12_says 41 = .ok (.ifCond .eq 5, 3) := by decide +kernel
theorem dX12_says_44 : decode cX12_says 44 = .ok (.iconst 1, 1) := by decide +kernel
theorem dX12_says_45 : decode cX12_says 45 = .ok (.ireturn, 1) := by decide +kernel
theorem dX12_says_46 : decode cX12_says 46 = .ok (.iinc 2 1, 3) := by decide +kernel
theorem dX12_says_49 : decode cX12_says 49 = .ok (.goto (-39), 3) := by decide +kernel
theorem dX12_says_52 : decode cX12_says 52 = .ok (.iconst 0, 1) := by decide +kernel
theorem dX12_says_53 : decode cX12_says 53 = .ok (.ireturn, 1) := by decide +kernel
set_option maxRecDepth 100000 in
set_option maxHeartbeats 4000000 in
theorem a_X12_says (l : Launch) (D : va_G) (cA : Nat → ClassId) (ad : Nat → Nat) (g0 : Nat → va_E)  (ln : Int32)  (hSh : Shp ad cA g0) (hG : Rng g0) (h_ln : fld g0 129 31 = .int ln) (hL : LawOK g0) : CT l NN ad cA D yX12_says cX12_says 3 (some FieldType.boolean) (4, 90) [.ref (ad 129)] g0 (fun v g' => ∃ (r : Int32), v = some (.int r) ∧ Shp ad cA g' ∧ Rng g' ∧ FR (fun i k => i = 156 ∨ i = 157) g0 g' ∧ (r.toInt = 0 ∨ r.toInt = 1)) := by
  refine q_enterZ (by decide) (Nat.le_of_ble_eq_true rfl) (fun K H locs ls _ _ hM hW0 hR hC hE hl => ?_)
  have hl : lv_has ls 3 [(0, .ref (ad 129))] := hl
  have hW : WS ad cA (fun i k => i = 156 ∨ i = 157) g0 K g0 H locs := ⟨hW0, hSh, FR.rf⟩
  have b_ln := hG.f h_ln rF_129_31 (by decide)
  refine q_bipush (v := (16 : Int32)) hM dX12_says_0 (by decide) ?_
  refine q_aload_n hM dX12_says_2 (lv_at hl 0 rfl) ?_
  refine w_get (v := .int ln) hM hW FG_X12_402 lb_129 ((hW.2.2.1 129 31 (by omega)).trans h_ln) dX12_says_3 ?_
  refine q_imul hM dX12_says_6 (fun z5923 hz5923 => ?_)
  first | have tz5923 := i_mulT hz5923 (kc_16 : (16 : Int32).toInt = 16) (rfl : ln.toInt = ln.toInt) (by omega) (by omega) | skip
  refine q_istore_n (lv9 := [(1, .int z5923), (0, .ref (ad 129))]) hM dX12_says_7 hl (by decide) rfl (fun ls hl => ?_)
  refine q_iload_n hM dX12_says_8 (lv_at hl 0 rfl) ?_
  refine q_istore_n (lv9 := [(2, .int z5923), (1, .int z5923), (0, .ref (ad 129))]) hM dX12_says_9 hl (by decide) rfl (fun ls hl => ?_)
  have L10 : ∀ (fu10 : Nat) (w10_2 : Int32) (g9 : Nat → va_E) (H : Heap) (locs : List Loc) (ls : Array Slot), (48 - w10_2.toInt).toNat < fu10 → (Rng g9) → (w10_2.toInt ≤ 48) → (16 * ln.toInt ≤ w10_2.toInt) → lv_has ls 3 [(0, .ref (ad 129)), (1, .int z5923), (2, .int w10_2)] → WS ad cA (fun i k => i = 156 ∨ i = 157) g0 K g9 H locs → XX K 0 0 H locs 10 ls [] := by
    intro fu10
    induction fu10 with
    | zero => intro w10_2 g9 H locs ls h0; omega
    | succ fu10 ih10 =>
      intro w10_2 g9 H locs ls hm10 i10_0 i10_1 i10_2 hl hW
      have hG := i10_0
      refine q_iload_n hM dX12_says_10 (lv_at hl 2 rfl) ?_
      refine q_iload_n hM dX12_says_11 (lv_at hl 1 rfl) ?_
      refine q_aload_n hM dX12_says_12 (lv_at hl 0 rfl) ?_
      refine w_get (v := .ref (ad 148)) hM hW FG_X12_70 lb_129 (rf_129_30 hW.2.1) dX12_says_13 ?_
      refine q_aload_n hM dX12_says_16 (lv_at hl 0 rfl) ?_
      refine w_get (v := .int ln) hM hW FG_X12_402 lb_129 ((hW.2.2.1 129 31 (by omega)).trans h_ln) dX12_says_17 ?_
      refine w_iald hM hW lb_148 (i_in (by omega) (by omega)) dX12_says_20 ?_
      refine q_top (fun y5925 hy5925 => ?_)
      have by5925 := hG.a hy5925 rA_148
      rw [hW.2.2.2.1 148 (by omega)] at hy5925
      refine q_iadd hM dX12_says_21 (fun z5926 hz5926 => ?_)
      first | have tz5926 := i_addT hz5926 (rfl : z5923.toInt = z5923.toInt) (rfl : y5925.toInt = y5925.toInt) (by omega) (by omega) | skip
      refine q_icmp_ge (tgt := 52) hM dX12_says_22 (by decide) (rfl : w10_2.toInt = w10_2.toInt) (rfl : z5926.toInt = z5926.toInt) (fun h22 => ?_) (fun h22 => ?_)
      · refine q_iconst (v := (0 : Int32)) hM dX12_says_52 (by decide) ?_
        exact hE _ _ _ _ _ _ hW.1 nz_0 ⟨_, rfl, hW.2.1, hG, hW.2.2, (by have := kc_0; omega)⟩ dX12_says_53
      · have la9 := LawOK_at (l := ln) (fr := z5923) (k := w10_2) (y := y5925) hL (by omega) (by omega) (by omega) (by omega) hy5925 (by omega)
        have la := LA1_eq la9 (hW.2.2.2.1 143 (by omega)) (hW.2.2.2.1 144 (by omega)) (hW.2.2.2.1 145 (by omega)) (hW.2.2.2.1 146 (by omega))
        refine q_aload_n hM dX12_says_25 (lv_at hl 0 rfl) ?_
        refine w_get (v := .ref (ad 142)) hM hW FG_X12_52 lb_129 (rf_129_24 hW.2.1) dX12_says_26 ?_
        refine q_iload_n hM dX12_says_29 (lv_at hl 2 rfl) ?_
        refine w_iald hM hW lb_142 (i_in (by omega) (by omega)) dX12_says_30 ?_
        refine q_top (fun y5929 hy5929 => ?_)
        refine q_bipush (v := (120 : Int32)) hM dX12_says_31 (by decide) ?_
        refine q_icmp_ne (tgt := 46) hM dX12_says_33 (by decide) (rfl : y5929.toInt = y5929.toInt) (kc_120 : (120 : Int32).toInt = 120) (fun h33 => ?_) (fun h33 => ?_)
        · refine q_iinc (lv9 := fun z5931 => [(2, .int z5931), (0, .ref (ad 129)), (1, .int z5923)]) hM dX12_says_46 hl (kq := 2) rfl (by decide) (fun _ => rfl) (fun z5931 ls hz5931 hl => ?_)
          first | have tz5931 := i_addT hz5931 (rfl : w10_2.toInt = w10_2.toInt) (kc_1 : (Int32.ofInt 1).toInt = 1) (by omega) (by omega) | skip
          refine q_goto (tgt := 10) hM dX12_says_49 (by decide) ?_
          exact ih10 z5931 _ _ _ _ (by omega) hG (by omega) (by omega) (lv_sub hl [1, 2, 0] rfl) hW
        · refine q_aload_n hM dX12_says_36 (lv_at hl 0 rfl) ?_
          refine q_iload_n hM dX12_says_37 (lv_at hl 2 rfl) ?_
          refine q_callV (As := [.int w10_2]) (rest := []) hM hW.1 hR hC myX12_isSo (kAW (v_6_5 (List.mem_of_getElem? (i := 3) rfl)) rfl) (rfl : vwCl[12]? = some (RX12, TX12, 86)) rfl lb_129.1 (shO hW.2.1 lb_129) (a_X12_isSo _ _ cA ad g9 w10_2 hW.2.1 hG (by  omega) (by  omega) la) ⟨by decide, by decide⟩ rfl rfl hl.1 (Nat.le_of_ble_eq_true rfl) dX12_says_38 (fun v g5934 H locs hp hW1 => ?_)
          obtain ⟨r5933, rfl, hs1, hG, hf1, hr5933⟩ := hp
          have hW : WS ad cA (fun i k => i = 156 ∨ i = 157) g0 K g5934 H locs := ⟨hW1, hs1, hW.2.2.tr hf1 (fun i k h => h.elim (fun h => (Or.inl h)) (fun h => (Or.inr h)))⟩
          refine q_if_eq (tgt := 46) hM dX12_says_41 (by decide) (rfl : r5933.toInt = r5933.toInt) (fun h41 => ?_) (fun h41 => ?_)
          · refine q_iinc (lv9 := fun z5936 => [(2, .int z5936), (0, .ref (ad 129)), (1, .int z5923)]) hM dX12_says_46 hl (kq := 2) rfl (by decide) (fun _ => rfl) (fun z5936 ls hz5936 hl => ?_)
            first | have tz5936 := i_addT hz5936 (rfl : w10_2.toInt = w10_2.toInt) (kc_1 : (Int32.ofInt 1).toInt = 1) (by omega) (by omega) | skip
            refine q_goto (tgt := 10) hM dX12_says_49 (by decide) ?_
            exact ih10 z5936 _ _ _ _ (by omega) hG (by omega) (by omega) (lv_sub hl [1, 2, 0] rfl) hW
          · refine q_iconst (v := (1 : Int32)) hM dX12_says_44 (by decide) ?_
            exact hE _ _ _ _ _ _ hW.1 nz_1 ⟨_, rfl, hW.2.1, hG, hW.2.2, (by have := kc_1; omega)⟩ dX12_says_45
  exact L10 _ z5923 _ _ _ _ (Nat.lt_succ_self _) hG (by omega) (by omega) (lv_sub hl [2, 1, 0] rfl) hW

theorem dX12_standsReady_0 : decode cX12_standsReady 0 = .ok (.aload_n 0, 1) := by decide +kernel
theorem dX12_standsReady_1 : decode cX12_standsReady 1 = .ok (.iload_n 2, 1) := by decide +kernel
theorem dX12_standsReady_2 : decode cX12_standsReady 2 = .ok (.putfield 365, 3) := by decide +kernel
theorem dX12_standsReady_5 : decode cX12_standsReady 5 = .ok (.aload_n 0, 1) := by decide +kernel
theorem dX12_standsReady_6 : decode cX12_standsReady 6 = .ok (.aload_n 0, 1) := by decide +kernel
theorem dX12_standsReady_7 : decode cX12_standsReady 7 = .ok (.getfield 21, 3) := by decide +kernel
theorem dX12_standsReady_10 : decode cX12_standsReady 10 = .ok (.iload_n 2, 1) := by decide +kernel
theorem dX12_standsReady_11 : decode cX12_standsReady 11 = .ok (.iaload, 1) := by decide +kernel
theorem dX12_standsReady_12 : decode cX12_standsReady 12 = .ok (.putfield 368, 3) := by decide +kernel
theorem dX12_standsReady_15 : decode cX12_standsReady 15 = .ok (.aload_n 0, 1) := by decide +kernel
theorem dX12_standsReady_16 : decode cX12_standsReady 16 = .ok (.aload_n 0, 1) := by decide +kernel
theorem dX12_standsReady_17 : decode cX12_standsReady 17 = .ok (.getfield 109, 3) := by decide +kernel
theorem dX12_standsReady_20 : decode cX12_standsReady 20 = .ok (.bipush 12, 2) := by decide +kernel
theorem dX12_standsReady_22 : decode cX12_standsReady 22 = .ok (.iload_n 1, 1) := by decide +kernel
theorem dX12_standsReady_23 : decode cX12_standsReady 23 = .ok (.imul, 1) := by decide +kernel
theorem dX12_standsReady_24 : decode cX12_standsReady 24 = .ok (.iload_n 2, 1) := by decide +kernel
theorem dX12_standsReady_25 : decode cX12_standsReady 25 = .ok (.iadd, 1) := by decide +kernel
theorem dX12_standsReady_26 : decode cX12_standsReady 26 = .ok (.iaload, 1) := by decide +kernel
theorem dX12_standsReady_27 : decode cX12_standsReady 27 = .ok (.putfield 371, 3) := by decide +kernel
theorem dX12_standsReady_30 : decode cX12_standsReady 30 = .ok (.aload_n 0, 1) := by decide +kernel
theorem dX12_standsReady_31 : decode cX12_standsReady 31 = .ok (.iload_n 1, 1) := by decide +kernel
theorem dX12_standsReady_32 : decode cX12_standsReady 32 = .ok (.putfield 374, 3) := by decide +kernel
theorem dX12_standsReady_35 : decode cX12_standsReady 35 = .ok (.aload_n 0, 1) := by decide +kernel
theorem dX12_standsReady_36 : decode cX12_standsReady 36 = .ok (.aload_n 0, 1) := by decide +kernel
theorem dX12_standsReady_37 : decode cX12_standsReady 37 = .ok (.getfield 103, 3) := by decide +kernel
theorem dX12_standsReady_40 : decode cX12_standsReady 40 = .ok (.iload_n 1, 1) := by decide +kernel
theorem dX12_standsReady_41 : decode cX12_standsReady 41 = .ok (.iaload, 1) := by decide +kernel
theorem dX12_standsReady_42 : decode cX12_standsReady 42 = .ok (.putfield 377, 3) := by decide +kernel
theorem dX12_standsReady_45 : decode cX12_standsReady 45 = .ok (.aload_n 0, 1) := by decide +kernel
theorem dX12_standsReady_46 : decode cX12_standsReady 46 = .ok (.aload_n 0, 1) := by decide +kernel
theorem dX12_standsReady_47 : decode cX12_standsReady 47 = .ok (.getfield 106, 3) := by decide +kernel
theorem dX12_standsReady_50 : decode cX12_standsReady 50 = .ok (.iload_n 1, 1) := by decide +kernel
theorem dX12_standsReady_51 : decode cX12_standsReady 51 = .ok (.iaload, 1) := by decide +kernel
theorem dX12_standsReady_52 : decode cX12_standsReady 52 = .ok (.putfield 380, 3) := by decide +kernel
theorem dX12_standsReady_55 : decode cX12_standsReady 55 = .ok (.aload_n 0, 1) := by decide +kernel
theorem dX12_standsReady_56 : decode cX12_standsReady 56 = .ok (.aload_n 0, 1) := by decide +kernel
theorem dX12_standsReady_57 : decode cX12_standsReady 57 = .ok (.iload_n 1, 1) := by decide +kernel
theorem dX12_standsReady_58 : decode cX12_standsReady 58 = .ok (.invokevirtual 413, 3) := by decide +kernel
theorem dX12_standsReady_61 : decode cX12_standsReady 61 = .ok (.invokestatic 215, 3) := by decide +kernel
theorem dX12_standsReady_64 : decode cX12_standsReady 64 = .ok (.putfield 383, 3) := by decide +kernel
theorem dX12_standsReady_67 : decode cX12_standsReady 67 = .ok (.aload_n 0, 1) := by decide +kernel
theorem dX12_standsReady_68 : decode cX12_standsReady 68 = .ok (.aload_n 0, 1) := by decide +kernel
theorem dX12_standsReady_69 : decode cX12_standsReady 69 = .ok (.getfield 416, 3) := by decide +kernel
theorem dX12_standsReady_72 : decode cX12_standsReady 72 = .ok (.bipush 52, 2) := by decide +kernel
theorem dX12_standsReady_74 : decode cX12_standsReady 74 = .ok (.irem, 1) := by decide +kernel
theorem dX12_standsReady_75 : decode cX12_standsReady 75 = .ok (.putfield 386, 3) := by decide +kernel
theorem dX12_standsReady_78 : decode cX12_standsReady 78 = .ok (.return_, 1) := by decide +kernel
theorem FP_X12_365 : FPX RX12 365 12 86 42 .int := ⟨⟨RX12, TX12, tyX12, rfl, wX12, by decide, kAW (v_4_5 (List.mem_of_getElem? (i := 7) rfl)) rfl, rfl, tyX12_ok, nmX12, by decide +kernel, rfl⟩, by decide +kernel⟩
theorem FG_X12_21 : FG RX12 21 12 86 11 := ⟨RX12, TX12, rfl, wX12, by decide, kAW (v_4_3 (List.mem_of_getElem? (i := 8) rfl)) rfl, rfl⟩
theorem FP_X12_368 : FPX RX12 368 12 86 43 .int := ⟨⟨RX12, TX12, tyX12, rfl, wX12, by decide, kAW (v_4_5 (List.mem_of_getElem? (i := 8) rfl)) rfl, rfl, tyX12_ok, nmX12, by decide +kernel, rfl⟩, by decide +kernel⟩
theorem FP_X12_371 : FPX RX12 371 12 86 44 .int := ⟨⟨RX12, TX12, tyX12, rfl, wX12, by decide, kAW (v_4_5 (List.mem_of_getElem? (i := 9) rfl)) rfl, rfl, tyX12_ok, nmX12, by decide +kernel, rfl⟩, by decide +kernel⟩
theorem FP_X12_374 : FPX RX12 374 12 86 45 .int := ⟨⟨RX12, TX12, tyX12, rfl, wX12, by decide, kAW (v_4_5 (List.mem_of_getElem? (i := 10) rfl)) rfl, rfl, tyX12_ok, nmX12, by decide +kernel, rfl⟩, by decide +kernel⟩
theorem FG_X12_103 : FG RX12 103 12 86 53 := ⟨RX12, TX12, rfl, wX12, by decide, kAW (v_4_6 (List.mem_of_getElem? (i := 2) rfl)) rfl, rfl⟩
theorem FP_X12_377 : FPX RX12 377 12 86 46 .int := ⟨⟨RX12, TX12, tyX12, rfl, wX12, by decide, kAW (v_4_5 (List.mem_of_getElem? (i := 11) rfl)) rfl, rfl, tyX12_ok, nmX12, by decide +kernel, rfl⟩, by decide +kernel⟩
theorem FG_X12_106 : FG RX12 106 12 86 54 := ⟨RX12, TX12, rfl, wX12, by decide, kAW (v_4_6 (List.mem_of_getElem? (i := 3) rfl)) rfl, rfl⟩
theorem FP_X12_380 : FPX RX12 380 12 86 47 .int := ⟨⟨RX12, TX12, tyX12, rfl, wX12, by decide, kAW (v_4_5 (List.mem_of_getElem? (i := 12) rfl)) rfl, rfl, tyX12_ok, nmX12, by decide +kernel, rfl⟩, by decide +kernel⟩
theorem FP_X12_383 : FPX RX12 383 12 86 48 .int := ⟨⟨RX12, TX12, tyX12, rfl, wX12, by decide, kAW (v_4_5 (List.mem_of_getElem? (i := 13) rfl)) rfl, rfl, tyX12_ok, nmX12, by decide +kernel, rfl⟩, by decide +kernel⟩
theorem FG_X12_416 : FG RX12 416 12 86 56 := ⟨RX12, TX12, rfl, wX12, by decide, kAW (v_4_6 (List.mem_of_getElem? (i := 5) rfl)) rfl, rfl⟩
theorem FP_X12_386 : FPX RX12 386 12 86 49 .int := ⟨⟨RX12, TX12, tyX12, rfl, wX12, by decide, kAW (v_4_5 (List.mem_of_getElem? (i := 14) rfl)) rfl, rfl, tyX12_ok, nmX12, by decide +kernel, rfl⟩, by decide +kernel⟩
set_option maxRecDepth 100000 in
set_option maxHeartbeats 4000000 in
theorem a_X12_standsReady (l : Launch) (D : va_G) (cA : Nat → ClassId) (ad : Nat → Nat) (g0 : Nat → va_E) (p : Int32) (i : Int32)   (hSh : Shp ad cA g0) (hG : Rng g0) (p0 : 0 ≤ p.toInt) (p7 : p.toInt < 8) (i0 : 0 ≤ i.toInt) (i12 : i.toInt < 12) : CT l NN ad cA D yX12_standsReady cX12_standsReady 3 none (1, 23) [.ref (ad 129), .int p, .int i] g0 (fun v g' => v = none ∧ Shp ad cA g' ∧ Rng g' ∧ FR (fun i k => (i = 129 ∧ (k = 42 ∨ k = 43 ∨ k = 44 ∨ k = 45 ∨ k = 46 ∨ k = 47 ∨ k = 48 ∨ k = 49))) g0 g') := by
  refine q_enterV (by decide) (Nat.le_of_ble_eq_true rfl) (fun K H locs ls _ _ hM hW0 hR hC hE hl => ?_)
  have hl : lv_has ls 3 [(0, .ref (ad 129)), (1, .int p), (2, .int i)] := hl
  have hW : WS ad cA (fun i k => (i = 129 ∧ (k = 42 ∨ k = 43 ∨ k = 44 ∨ k = 45 ∨ k = 46 ∨ k = 47 ∨ k = 48 ∨ k = 49))) g0 K g0 H locs := ⟨hW0, hSh, FR.rf⟩
  refine q_aload_n hM dX12_standsReady_0 (lv_at hl 0 rfl) ?_
  refine q_iload_n hM dX12_standsReady_1 (lv_at hl 2 rfl) ?_
  refine w_put hM hW FP_X12_365 lb_129 (by omega) (Or.inl ⟨_, rfl⟩) rfl rfl dX12_standsReady_2 (fun g5938 H locs hW e1 e2 => ?_)
  have f5939 : fld g5938 129 42 = .int i := e1
  have hG := hG.put e1 e2 (rfl : rF 129 42 = (-2147483648, 2147483647)) (by decide) (by have := i_rng i; omega) (by have := i_rng i; omega)
  refine q_aload_n hM dX12_standsReady_5 (lv_at hl 0 rfl) ?_
  refine q_aload_n hM dX12_standsReady_6 (lv_at hl 0 rfl) ?_
  refine w_get (v := .ref (ad 132)) hM hW FG_X12_21 lb_129 (rf_129_11 hW.2.1) dX12_standsReady_7 ?_
  refine q_iload_n hM dX12_standsReady_10 (lv_at hl 2 rfl) ?_
  refine w_iald hM hW lb_132 (i_in (by omega) (by omega)) dX12_standsReady_11 ?_
  refine q_top (fun y5940 hy5940 => ?_)
  refine w_put hM hW FP_X12_368 lb_129 (by omega) (Or.inl ⟨_, rfl⟩) rfl rfl dX12_standsReady_12 (fun g5941 H locs hW e1 e2 => ?_)
  have f5942 : fld g5941 129 42 = .int i := (e2.1 129 42 (by unfold Only; omega)).trans f5939
  have f5943 : fld g5941 129 43 = .int y5940 := e1
  have hG := hG.put e1 e2 (rfl : rF 129 43 = (-2147483648, 2147483647)) (by decide) (by have := i_rng y5940; omega) (by have := i_rng y5940; omega)
  refine q_aload_n hM dX12_standsReady_15 (lv_at hl 0 rfl) ?_
  refine q_aload_n hM dX12_standsReady_16 (lv_at hl 0 rfl) ?_
  refine w_get (v := .ref (ad 161)) hM hW FG_X12_109 lb_129 (rf_129_55 hW.2.1) dX12_standsReady_17 ?_
  refine q_bipush (v := (12 : Int32)) hM dX12_standsReady_20 (by decide) ?_
  refine q_iload_n hM dX12_standsReady_22 (lv_at hl 1 rfl) ?_
  refine q_imul hM dX12_standsReady_23 (fun z5944 hz5944 => ?_)
  first | have tz5944 := i_mulT hz5944 (kc_12 : (12 : Int32).toInt = 12) (rfl : p.toInt = p.toInt) (by omega) (by omega) | skip
  refine q_iload_n hM dX12_standsReady_24 (lv_at hl 2 rfl) ?_
  refine q_iadd hM dX12_standsReady_25 (fun z5945 hz5945 => ?_)
  first | have tz5945 := i_addT hz5945 (rfl : z5944.toInt = z5944.toInt) (rfl : i.toInt = i.toInt) (by omega) (by omega) | skip
  refine w_iald hM hW lb_161 (i_in (by omega) (by omega)) dX12_standsReady_26 ?_
  refine q_top (fun y5946 hy5946 => ?_)
  refine w_put hM hW FP_X12_371 lb_129 (by omega) (Or.inl ⟨_, rfl⟩) rfl rfl dX12_standsReady_27 (fun g5947 H locs hW e1 e2 => ?_)
  have f5948 : fld g5947 129 42 = .int i := (e2.1 129 42 (by unfold Only; omega)).trans f5942
  have f5949 : fld g5947 129 43 = .int y5940 := (e2.1 129 43 (by unfold Only; omega)).trans f5943
  have f5950 : fld g5947 129 44 = .int y5946 := e1
  have hG := hG.put e1 e2 (rfl : rF 129 44 = (-2147483648, 2147483647)) (by decide) (by have := i_rng y5946; omega) (by have := i_rng y5946; omega)
  refine q_aload_n hM dX12_standsReady_30 (lv_at hl 0 rfl) ?_
  refine q_iload_n hM dX12_standsReady_31 (lv_at hl 1 rfl) ?_
  refine w_put hM hW FP_X12_374 lb_129 (by omega) (Or.inl ⟨_, rfl⟩) rfl rfl dX12_standsReady_32 (fun g5951 H locs hW e1 e2 => ?_)
  have f5952 : fld g5951 129 42 = .int i := (e2.1 129 42 (by unfold Only; omega)).trans f5948
  have f5953 : fld g5951 129 43 = .int y5940 := (e2.1 129 43 (by unfold Only; omega)).trans f5949
  have f5954 : fld g5951 129 44 = .int y5946 := (e2.1 129 44 (by unfold Only; omega)).trans f5950
  have f5955 : fld g5951 129 45 = .int p := e1
  have hG := hG.put e1 e2 (rfl : rF 129 45 = (-2147483648, 2147483647)) (by decide) (by have := i_rng p; omega) (by have := i_rng p; omega)
  refine q_aload_n hM dX12_standsReady_35 (lv_at hl 0 rfl) ?_
  refine q_aload_n hM dX12_standsReady_36 (lv_at hl 0 rfl) ?_
  refine w_get (v := .ref (ad 159)) hM hW FG_X12_103 lb_129 (rf_129_53 hW.2.1) dX12_standsReady_37 ?_
  refine q_iload_n hM dX12_standsReady_40 (lv_at hl 1 rfl) ?_
  refine w_iald hM hW lb_159 (i_in (by omega) (by omega)) dX12_standsReady_41 ?_
  refine q_top (fun y5956 hy5956 => ?_)
  have by5956 := hG.a hy5956 rA_159
  refine w_put hM hW FP_X12_377 lb_129 (by omega) (Or.inl ⟨_, rfl⟩) rfl rfl dX12_standsReady_42 (fun g5957 H locs hW e1 e2 => ?_)
  have f5958 : fld g5957 129 42 = .int i := (e2.1 129 42 (by unfold Only; omega)).trans f5952
  have f5959 : fld g5957 129 43 = .int y5940 := (e2.1 129 43 (by unfold Only; omega)).trans f5953
  have f5960 : fld g5957 129 44 = .int y5946 := (e2.1 129 44 (by unfold Only; omega)).trans f5954
  have f5961 : fld g5957 129 45 = .int p := (e2.1 129 45 (by unfold Only; omega)).trans f5955
  have f5962 : fld g5957 129 46 = .int y5956 := e1
  have hG := hG.put e1 e2 (rfl : rF 129 46 = (-2147483648, 2147483647)) (by decide) (by have := i_rng y5956; omega) (by have := i_rng y5956; omega)
  refine q_aload_n hM dX12_standsReady_45 (lv_at hl 0 rfl) ?_
  refine q_aload_n hM dX12_standsReady_46 (lv_at hl 0 rfl) ?_
  refine w_get (v := .ref (ad 160)) hM hW FG_X12_106 lb_129 (rf_129_54 hW.2.1) dX12_standsReady_47 ?_
  refine q_iload_n hM dX12_standsReady_50 (lv_at hl 1 rfl) ?_
  refine w_iald hM hW lb_160 (i_in (by omega) (by omega)) dX12_standsReady_51 ?_
  refine q_top (fun y5963 hy5963 => ?_)
  refine w_put hM hW FP_X12_380 lb_129 (by omega) (Or.inl ⟨_, rfl⟩) rfl rfl dX12_standsReady_52 (fun g5964 H locs hW e1 e2 => ?_)
  have f5965 : fld g5964 129 42 = .int i := (e2.1 129 42 (by unfold Only; omega)).trans f5958
  have f5966 : fld g5964 129 43 = .int y5940 := (e2.1 129 43 (by unfold Only; omega)).trans f5959
  have f5967 : fld g5964 129 44 = .int y5946 := (e2.1 129 44 (by unfold Only; omega)).trans f5960
  have f5968 : fld g5964 129 45 = .int p := (e2.1 129 45 (by unfold Only; omega)).trans f5961
  have f5969 : fld g5964 129 46 = .int y5956 := (e2.1 129 46 (by unfold Only; omega)).trans f5962
  have f5970 : fld g5964 129 47 = .int y5963 := e1
  have hG := hG.put e1 e2 (rfl : rF 129 47 = (-2147483648, 2147483647)) (by decide) (by have := i_rng y5963; omega) (by have := i_rng y5963; omega)
  refine q_aload_n hM dX12_standsReady_55 (lv_at hl 0 rfl) ?_
  refine q_aload_n hM dX12_standsReady_56 (lv_at hl 0 rfl) ?_
  refine q_iload_n hM dX12_standsReady_57 (lv_at hl 1 rfl) ?_
  refine q_callV (As := [.int p]) (rest := [.ref (ad 129)]) hM hW.1 hR hC myX12_knownBy (kAW (v_6_4 (List.mem_of_getElem? (i := 11) rfl)) rfl) (rfl : vwCl[12]? = some (RX12, TX12, 86)) rfl lb_129.1 (shO hW.2.1 lb_129) (a_X12_knownBy _ _ cA ad g5964 p hW.2.1 hG (by  omega) (by  omega)) ⟨by decide, by decide⟩ rfl rfl hl.1 (Nat.le_of_ble_eq_true rfl) dX12_standsReady_58 (fun v g5972 H locs hp hW1 => ?_)
  obtain ⟨r5971, rfl, hr5971, rfl⟩ := hp
  have hW : WS ad cA (fun i k => (i = 129 ∧ (k = 42 ∨ k = 43 ∨ k = 44 ∨ k = 45 ∨ k = 46 ∨ k = 47 ∨ k = 48 ∨ k = 49))) g0 K g5964 H locs := ⟨hW1, hW.2.1, hW.2.2⟩
  refine q_callS (As := [.int r5971]) (rest := [.ref (ad 129)]) hM hW.1 hR hC myX12_sizeOf (kAW (v_5_6 (List.mem_of_getElem? (i := 14) rfl)) rfl) (a_X12_sizeOf _ _ cA ad g5964 r5971 hW.2.1 hG (by  omega)) ⟨by decide, by decide⟩ rfl rfl hl.1 (Nat.le_of_ble_eq_true rfl) dX12_standsReady_61 (fun v g5974 H locs hp hW1 => ?_)
  obtain ⟨r5973, rfl, hr5973, rfl⟩ := hp
  have hW : WS ad cA (fun i k => (i = 129 ∧ (k = 42 ∨ k = 43 ∨ k = 44 ∨ k = 45 ∨ k = 46 ∨ k = 47 ∨ k = 48 ∨ k = 49))) g0 K g5964 H locs := ⟨hW1, hW.2.1, hW.2.2⟩
  refine w_put hM hW FP_X12_383 lb_129 (by omega) (Or.inl ⟨_, rfl⟩) rfl rfl dX12_standsReady_64 (fun g5975 H locs hW e1 e2 => ?_)
  have f5976 : fld g5975 129 42 = .int i := (e2.1 129 42 (by unfold Only; omega)).trans f5965
  have f5977 : fld g5975 129 43 = .int y5940 := (e2.1 129 43 (by unfold Only; omega)).trans f5966
  have f5978 : fld g5975 129 44 = .int y5946 := (e2.1 129 44 (by unfold Only; omega)).trans f5967
  have f5979 : fld g5975 129 45 = .int p := (e2.1 129 45 (by unfold Only; omega)).trans f5968
  have f5980 : fld g5975 129 46 = .int y5956 := (e2.1 129 46 (by unfold Only; omega)).trans f5969
  have f5981 : fld g5975 129 47 = .int y5963 := (e2.1 129 47 (by unfold Only; omega)).trans f5970
  have f5982 : fld g5975 129 48 = .int r5973 := e1
  have hG := hG.put e1 e2 (rfl : rF 129 48 = (-2147483648, 2147483647)) (by decide) (by have := i_rng r5973; omega) (by have := i_rng r5973; omega)
  refine q_aload_n hM dX12_standsReady_67 (lv_at hl 0 rfl) ?_
  refine q_aload_n hM dX12_standsReady_68 (lv_at hl 0 rfl) ?_
  refine w_getI hM hW FG_X12_416 lb_129 (by decide) (by decide) dX12_standsReady_69 (fun x5983 fx5983 => ?_)
  refine q_bipush (v := (52 : Int32)) hM dX12_standsReady_72 (by decide) ?_
  refine q_irem hM (by decide) dX12_standsReady_74 (fun z5984 hz5984 => ?_)
  first | have tz5984 := i_remT hz5984 (rfl : x5983.toInt = x5983.toInt) (kc_52 : (52 : Int32).toInt = 52) (by omega) (by omega) | skip
  refine w_put hM hW FP_X12_386 lb_129 (by omega) (Or.inl ⟨_, rfl⟩) rfl rfl dX12_standsReady_75 (fun g5985 H locs hW e1 e2 => ?_)
  have f5986 : fld g5985 129 42 = .int i := (e2.1 129 42 (by unfold Only; omega)).trans f5976
  have f5987 : fld g5985 129 43 = .int y5940 := (e2.1 129 43 (by unfold Only; omega)).trans f5977
  have f5988 : fld g5985 129 44 = .int y5946 := (e2.1 129 44 (by unfold Only; omega)).trans f5978
  have f5989 : fld g5985 129 45 = .int p := (e2.1 129 45 (by unfold Only; omega)).trans f5979
  have f5990 : fld g5985 129 46 = .int y5956 := (e2.1 129 46 (by unfold Only; omega)).trans f5980
  have f5991 : fld g5985 129 47 = .int y5963 := (e2.1 129 47 (by unfold Only; omega)).trans f5981
  have f5992 : fld g5985 129 48 = .int r5973 := (e2.1 129 48 (by unfold Only; omega)).trans f5982
  have f5993 : fld g5985 129 56 = .int x5983 := (e2.1 129 56 (by unfold Only; omega)).trans fx5983
  have f5994 : fld g5985 129 49 = .int z5984 := e1
  have hG := hG.put e1 e2 (rfl : rF 129 49 = (-2147483648, 2147483647)) (by decide) (by have := i_rng z5984; omega) (by have := i_rng z5984; omega)
  exact hE _ _ _ _ _ hW.1 ⟨rfl, hW.2.1, hG, hW.2.2⟩ dX12_standsReady_78

theorem dX12_weakens_0 : decode cX12_weakens 0 = .ok (.bipush 12, 2) := by decide +kernel
theorem dX12_weakens_2 : decode cX12_weakens 2 = .ok (.iload_n 1, 1) := by decide +kernel
theorem dX12_weakens_3 : decode cX12_weakens 3 = .ok (.imul, 1) := by decide +kernel
theorem dX12_weakens_4 : decode cX12_weakens 4 = .ok (.iload_n 2, 1) := by decide +kernel
theorem dX12_weakens_5 : decode cX12_weakens 5 = .ok (.iadd, 1) := by decide +kernel
theorem dX12_weakens_6 : decode cX12_weakens 6 = .ok (.istore 4, 2) := by decide +kernel
theorem dX12_weakens_8 : decode cX12_weakens 8 = .ok (.aload_n 0, 1) := by decide +kernel
theorem dX12_weakens_9 : decode cX12_weakens 9 = .ok (.getfield 17, 3) := by decide +kernel
theorem dX12_weakens_12 : decode cX12_weakens 12 = .ok (.iload_n 2, 1) := by decide +kernel
theorem dX12_weakens_13 : decode cX12_weakens 13 = .ok (.baload, 1) := by decide +kernel
theorem dX12_weakens_14 : decode cX12_weakens 14 = .ok (.ifCond .eq 13, 3) := by decide +kernel
theorem dX12_weakens_17 : decode cX12_weakens 17 = .ok (.aload_n 0, 1) := by decide +kernel
theorem dX12_weakens_18 : decode cX12_weakens 18 = .ok (.getfield 109, 3) := by decide +kernel
theorem dX12_weakens_21 : decode cX12_weakens 21 = .ok (.iload 4, 2) := by decide +kernel
theorem dX12_weakens_23 : decode cX12_weakens 23 = .ok (.iaload, 1) := by decide +kernel
theorem dX12_weakens_24 : decode cX12_weakens 24 = .ok (.ifCond .ne 4, 3) := by decide +kernel
theorem dX12_weakens_27 : decode cX12_weakens 27 = .ok (.return_, 1) := by decide +kernel
theorem dX12_weakens_28 : decode cX12_weakens 28 = .ok (.aload_n 0, 1) := by decide +kernel
theorem dX12_weakens_29 : decode cX12_weakens 29 = .ok (.iload_n 1, 1) := by decide +kernel
theorem dX12_weakens_30 : decode cX12_weakens 30 = .ok (.iload_n 2, 1) := by decide +kernel
theorem dX12_weakens_31 : decode cX12_weakens 31 = .ok (.invokevirtual 434, 3) := by decide +kernel
theorem dX12_weakens_34 : decode cX12_weakens 34 = .ok (.aload_n 0, 1) := by decide +kernel
theorem dX12_weakens_35 : decode cX12_weakens 35 = .ok (.invokevirtual 437, 3) := by decide +kernel
theorem dX12_weakens_38 : decode cX12_weakens 38 = .ok (.ifCond .eq 4, 3) := by decide +kernel
theorem dX12_weakens_41 : decode cX12_weakens 41 = .ok (.return_, 1) := by decide +kernel
theorem dX12_weakens_42 : decode cX12_weakens 42 = .ok (.aload_n 0, 1) := by decide +kernel
theorem dX12_weakens_43 : decode cX12_weakens 43 = .ok (.getfield 109, 3) := by decide +kernel
theorem dX12_weakens_46 : decode cX12_weakens 46 = .ok (.iload 4, 2) := by decide +kernel
theorem dX12_weakens_48 : decode cX12_weakens 48 = .ok (.iload_n 3, 1) := by decide +kernel
theorem dX12_weakens_49 : decode cX12_weakens 49 = .ok (.ifCond .ne 27, 3) := by decide +kernel
theorem dX12_weakens_52 : decode cX12_weakens 52 = .ok (.aload_n 0, 1) := by decide +kernel
theorem dX12_weakens_53 : decode cX12_weakens 53 = .ok (.getfield 109, 3) := by decide +kernel
theorem dX12_weakens_56 : decode cX12_weakens 56 = .ok (.iload 4, 2) := by decide +kernel
theorem dX12_weakens_58 : decode cX12_weakens 58 = .ok (.iaload, 1) := by decide +kernel
theorem dX12_weakens_59 : decode cX12_weakens 59 = .ok (.aload_n 0, 1) := by decide +kernel
theorem dX12_weakens_60 : decode cX12_weakens 60 = .ok (.bipush 119, 2) := by decide +kernel
theorem dX12_weakens_62 : decode cX12_weakens 62 = .ok (.bipush 99, 2) := by decide +kernel
theorem dX12_weakens_64 : decode cX12_weakens 64 = .ok (.invokevirtual 440, 3) := by decide +kernel
theorem dX12_weakens_67 : decode cX12_weakens 67 = .ok (.isub, 1) := by decide +kernel
theorem dX12_weakens_68 : decode cX12_weakens 68 = .ok (.bipush 99, 2) := by decide +kernel
theorem dX12_weakens_70 : decode cX12_weakens 70 = .ok (.invokestatic 408, 3) := by decide +kernel
theorem dX12_weakens_73 : decode cX12_weakens 73 = .ok (.goto 29, 3) := by decide +kernel
theorem dX12_weakens_76 : decode cX12_weakens 76 = .ok (.iload_n 3, 1) := by decide +kernel
theorem dX12_weakens_77 : decode cX12_weakens 77 = .ok (.iconst 1, 1) := by decide +kernel
theorem dX12_weakens_78 : decode cX12_weakens 78 = .ok (.if_icmp .ne 15, 3) := by decide +kernel
theorem dX12_weakens_81 : decode cX12_weakens 81 = .ok (.aload_n 0, 1) := by decide +kernel
theorem dX12_weakens_82 : decode cX12_weakens 82 = .ok (.getfield 109, 3) := by decide +kernel
theorem dX12_weakens_85 : decode cX12_weakens 85 = .ok (.iload 4, 2) := by decide +kernel
theorem dX12_weakens_87 : decode cX12_weakens 87 = .ok (.iaload, 1) := by decide +kernel
theorem dX12_weakens_88 : decode cX12_weakens 88 = .ok (.iconst 2, 1) := by decide +kernel
theorem dX12_weakens_89 : decode cX12_weakens 89 = .ok (.idiv, 1) := by decide +kernel
theorem dX12_weakens_90 : decode cX12_weakens 90 = .ok (.goto 12, 3) := by decide +kernel
theorem dX12_weakens_93 : decode cX12_weakens 93 = .ok (.aload_n 0, 1) := by decide +kernel
theorem dX12_weakens_94 : decode cX12_weakens 94 = .ok (.getfield 109, 3) := by decide +kernel
theorem dX12_weakens_97 : decode cX12_weakens 97 = .ok (.iload 4, 2) := by decide +kernel
theorem dX12_weakens_99 : decode cX12_weakens 99 = .ok (.iaload, 1) := by decide +kernel
theorem dX12_weakens_100 : decode cX12_weakens 100 = .ok (.iconst 1, 1) := by decide +kernel
theorem dX12_weakens_101 : decode cX12_weakens 101 = .ok (.isub, 1) := by decide +kernel
theorem dX12_weakens_102 : decode cX12_weakens 102 = .ok (.iastore, 1) := by decide +kernel
theorem dX12_weakens_103 : decode cX12_weakens 103 = .ok (.return_, 1) := by decide +kernel
theorem myX12_standsReady : MI yX12_standsReady cX12_standsReady 3 none 2 := ⟨kAW (v_6_4 (List.mem_of_getElem? (i := 10) rfl)) rfl, kAW (v_0_0 (List.mem_of_getElem? (i := 13) rfl)) rfl, kAW (v_6_4 (List.mem_of_getElem? (i := 9) rfl)) rfl, kAW (tp_t4 (List.mem_of_getElem? (i := 4) rfl)) rfl, by decide, by decide, by decide +kernel⟩
theorem myX12_says : MI yX12_says cX12_says 3 (some FieldType.boolean) 0 := ⟨kAW (v_6_5 (List.mem_of_getElem? (i := 2) rfl)) rfl, kAW (v_0_0 (List.mem_of_getElem? (i := 13) rfl)) rfl, kAW (v_6_5 (List.mem_of_getElem? (i := 1) rfl)) rfl, kAW (tp_t4 (List.mem_of_getElem? (i := 6) rfl)) rfl, by decide, by decide, by decide +kernel⟩
theorem myX12_tells : MI yX12_tells cX12_tells 5 (some FieldType.int) 2 := ⟨kAW (v_6_6 (List.mem_of_getElem? (i := 9) rfl)) rfl, kAW (v_0_0 (List.mem_of_getElem? (i := 13) rfl)) rfl, kAW (v_6_6 (List.mem_of_getElem? (i := 8) rfl)) rfl, kAW (tp_t4 (List.mem_of_getElem? (i := 11) rfl)) rfl, by decide, by decide, by decide +kernel⟩
set_option maxRecDepth 100000 in
set_option maxHeartbeats 4000000 in
theorem a_X12_weakens (l : Launch) (D : va_G) (cA : Nat → ClassId) (ad : Nat → Nat) (g0 : Nat → va_E) (p : Int32) (i : Int32) (ho : Int32)   (hSh : Shp ad cA g0) (hG : Rng g0) (p0 : 0 ≤ p.toInt) (p7 : p.toInt < 8) (i0 : 0 ≤ i.toInt) (i12 : i.toInt < 12) (hL : LawOK g0) : CT l NN ad cA D yX12_weakens cX12_weakens 5 none (5, 114) [.ref (ad 129), .int p, .int i, .int ho] g0 (fun v g' => v = none ∧ Shp ad cA g' ∧ Rng g' ∧ FR (fun i k => i = 161 ∨ i = 156 ∨ i = 157 ∨ (i = 129 ∧ (k = 42 ∨ k = 43 ∨ k = 44 ∨ k = 45 ∨ k = 46 ∨ k = 47 ∨ k = 48 ∨ k = 49))) g0 g') := by
  refine q_enterV (by decide) (Nat.le_of_ble_eq_true rfl) (fun K H locs ls _ _ hM hW0 hR hC hE hl => ?_)
  have hl : lv_has ls 5 [(0, .ref (ad 129)), (1, .int p), (2, .int i), (3, .int ho)] := hl
  have hW : WS ad cA (fun i k => i = 161 ∨ i = 156 ∨ i = 157 ∨ (i = 129 ∧ (k = 42 ∨ k = 43 ∨ k = 44 ∨ k = 45 ∨ k = 46 ∨ k = 47 ∨ k = 48 ∨ k = 49))) g0 K g0 H locs := ⟨hW0, hSh, FR.rf⟩
  refine q_bipush (v := (12 : Int32)) hM dX12_weakens_0 (by decide) ?_
  refine q_iload_n hM dX12_weakens_2 (lv_at hl 1 rfl) ?_
  refine q_imul hM dX12_weakens_3 (fun z5995 hz5995 => ?_)
  first | have tz5995 := i_mulT hz5995 (kc_12 : (12 : Int32).toInt = 12) (rfl : p.toInt = p.toInt) (by omega) (by omega) | skip
  refine q_iload_n hM dX12_weakens_4 (lv_at hl 2 rfl) ?_
  refine q_iadd hM dX12_weakens_5 (fun z5996 hz5996 => ?_)
  first | have tz5996 := i_addT hz5996 (rfl : z5995.toInt = z5995.toInt) (rfl : i.toInt = i.toInt) (by omega) (by omega) | skip
  refine q_istore (lv9 := [(4, .int z5996), (0, .ref (ad 129)), (1, .int p), (2, .int i), (3, .int ho)]) hM dX12_weakens_6 hl (by decide) rfl (fun ls hl => ?_)
  refine q_aload_n hM dX12_weakens_8 (lv_at hl 1 rfl) ?_
  refine w_get (v := .ref (ad 131)) hM hW FG_X12_17 lb_129 (rf_129_10 hW.2.1) dX12_weakens_9 ?_
  refine q_iload_n hM dX12_weakens_12 (lv_at hl 3 rfl) ?_
  refine w_zald hM hW lb_131 (i_in (by omega) (by omega)) dX12_weakens_13 ?_
  refine q_top (fun y5997 hy5997 => ?_)
  refine q_if_eq (tgt := 27) hM dX12_weakens_14 (by decide) (rfl : y5997.toInt = y5997.toInt) (fun h14 => ?_) (fun h14 => ?_)
  · exact hE _ _ _ _ _ hW.1 ⟨rfl, hW.2.1, hG, hW.2.2⟩ dX12_weakens_27
  · refine q_aload_n hM dX12_weakens_17 (lv_at hl 1 rfl) ?_
    refine w_get (v := .ref (ad 161)) hM hW FG_X12_109 lb_129 (rf_129_55 hW.2.1) dX12_weakens_18 ?_
    refine q_iload hM dX12_weakens_21 (lv_at hl 0 rfl) ?_
    refine w_iald hM hW lb_161 (i_in (by omega) (by omega)) dX12_weakens_23 ?_
    refine q_top (fun y6000 hy6000 => ?_)
    refine q_if_ne (tgt := 28) hM dX12_weakens_24 (by decide) (rfl : y6000.toInt = y6000.toInt) (fun h24 => ?_) (fun h24 => ?_)
    · refine q_aload_n hM dX12_weakens_28 (lv_at hl 1 rfl) ?_
      refine q_iload_n hM dX12_weakens_29 (lv_at hl 2 rfl) ?_
      refine q_iload_n hM dX12_weakens_30 (lv_at hl 3 rfl) ?_
      refine q_callV (As := [.int p, .int i]) (rest := []) hM hW.1 hR hC myX12_standsReady (kAW (v_6_4 (List.mem_of_getElem? (i := 7) rfl)) rfl) (rfl : vwCl[12]? = some (RX12, TX12, 86)) rfl lb_129.1 (shO hW.2.1 lb_129) (a_X12_standsReady _ _ cA ad g0 p i hW.2.1 hG (by  omega) (by  omega) (by  omega) (by  omega)) ⟨by decide, by decide⟩ rfl rfl hl.1 (Nat.le_of_ble_eq_true rfl) dX12_weakens_31 (fun v g6002 H locs hp hW1 => ?_)
      obtain ⟨rfl, hs1, hG, hf1⟩ := hp
      have hW : WS ad cA (fun i k => i = 161 ∨ i = 156 ∨ i = 157 ∨ (i = 129 ∧ (k = 42 ∨ k = 43 ∨ k = 44 ∨ k = 45 ∨ k = 46 ∨ k = 47 ∨ k = 48 ∨ k = 49))) g0 K g6002 H locs := ⟨hW1, hs1, hW.2.2.tr hf1 (fun i k h => (Or.inr (Or.inr (Or.inr h))))⟩
      refine q_aload_n hM dX12_weakens_34 (lv_at hl 1 rfl) ?_
      obtain ⟨x6003, fx6003⟩ : ∃ x : Int32, fld g6002 129 31 = .int x := ⟨_, shI hW.2.1 lb_129 (by decide) (by decide)⟩
      have bx6003 := hG.f fx6003 rF_129_31 (by decide)
      refine q_callV (As := []) (rest := []) hM hW.1 hR hC myX12_says (kAW (v_6_4 (List.mem_of_getElem? (i := 15) rfl)) rfl) (rfl : vwCl[12]? = some (RX12, TX12, 86)) rfl lb_129.1 (shO hW.2.1 lb_129) (a_X12_says _ _ cA ad g6002 x6003 hW.2.1 hG fx6003 (LawOK_fr hL hW.2.2 (by omega) (by omega) (by omega) (by omega) (by omega))) ⟨by decide, by decide⟩ rfl rfl hl.1 (Nat.le_of_ble_eq_true rfl) dX12_weakens_35 (fun v g6005 H locs hp hW1 => ?_)
      obtain ⟨r6004, rfl, hs1, hG, hf1, hr6004⟩ := hp
      have f6006 : fld g6005 129 31 = .int x6003 := (hf1.1 129 31 (by omega)).trans fx6003
      have hW : WS ad cA (fun i k => i = 161 ∨ i = 156 ∨ i = 157 ∨ (i = 129 ∧ (k = 42 ∨ k = 43 ∨ k = 44 ∨ k = 45 ∨ k = 46 ∨ k = 47 ∨ k = 48 ∨ k = 49))) g0 K g6005 H locs := ⟨hW1, hs1, hW.2.2.tr hf1 (fun i k h => h.elim (fun h => (Or.inr (Or.inl h))) (fun h => (Or.inr (Or.inr (Or.inl h)))))⟩
      refine q_if_eq (tgt := 42) hM dX12_weakens_38 (by decide) (rfl : r6004.toInt = r6004.toInt) (fun h38 => ?_) (fun h38 => ?_)
      · refine q_aload_n hM dX12_weakens_42 (lv_at hl 1 rfl) ?_
        refine w_get (v := .ref (ad 161)) hM hW FG_X12_109 lb_129 (rf_129_55 hW.2.1) dX12_weakens_43 ?_
        refine q_iload hM dX12_weakens_46 (lv_at hl 0 rfl) ?_
        refine q_iload_n hM dX12_weakens_48 (lv_at hl 4 rfl) ?_
        refine q_if_ne (tgt := 76) hM dX12_weakens_49 (by decide) (rfl : ho.toInt = ho.toInt) (fun h49 => ?_) (fun h49 => ?_)
        · refine q_iload_n hM dX12_weakens_76 (lv_at hl 4 rfl) ?_
          refine q_iconst (v := (1 : Int32)) hM dX12_weakens_77 (by decide) ?_
          refine q_icmp_ne (tgt := 93) hM dX12_weakens_78 (by decide) (rfl : ho.toInt = ho.toInt) (kc_1 : (1 : Int32).toInt = 1) (fun h78 => ?_) (fun h78 => ?_)
          · refine q_aload_n hM dX12_weakens_93 (lv_at hl 1 rfl) ?_
            refine w_get (v := .ref (ad 161)) hM hW FG_X12_109 lb_129 (rf_129_55 hW.2.1) dX12_weakens_94 ?_
            refine q_iload hM dX12_weakens_97 (lv_at hl 0 rfl) ?_
            refine w_iald hM hW lb_161 (i_in (by omega) (by omega)) dX12_weakens_99 ?_
            refine q_top (fun y6010 hy6010 => ?_)
            refine q_iconst (v := (1 : Int32)) hM dX12_weakens_100 (by decide) ?_
            refine q_isub hM dX12_weakens_101 (fun z6011 hz6011 => ?_)
            first | have tz6011 := i_subT hz6011 (rfl : y6010.toInt = y6010.toInt) (kc_1 : (1 : Int32).toInt = 1) (by omega) (by omega) | skip
            refine w_iast hM hW lb_161 (by omega) (i_in (by omega) (by omega)) dX12_weakens_102 (fun g6012 H locs hW e1 e2 => ?_)
            have f6013 : fld g6012 129 31 = .int x6003 := (e2.1 129 31 (by unfold Only; omega)).trans f6006
            have hG := hG.st e1 e2 (rfl : rA 161 = (-2147483648, 2147483647)) (by have := i_rng z6011; omega) (by have := i_rng z6011; omega)
            exact hE _ _ _ _ _ hW.1 ⟨rfl, hW.2.1, hG, hW.2.2⟩ dX12_weakens_103
          · refine q_aload_n hM dX12_weakens_81 (lv_at hl 1 rfl) ?_
            refine w_get (v := .ref (ad 161)) hM hW FG_X12_109 lb_129 (rf_129_55 hW.2.1) dX12_weakens_82 ?_
            refine q_iload hM dX12_weakens_85 (lv_at hl 0 rfl) ?_
            refine w_iald hM hW lb_161 (i_in (by omega) (by omega)) dX12_weakens_87 ?_
            refine q_top (fun y6015 hy6015 => ?_)
            refine q_iconst (v := (2 : Int32)) hM dX12_weakens_88 (by decide) ?_
            refine q_idiv hM (by decide) dX12_weakens_89 (fun z6016 hz6016 => ?_)
            first | have tz6016 := i_divT hz6016 (rfl : y6015.toInt = y6015.toInt) (kc_2 : (2 : Int32).toInt = 2) (by omega) (by omega) | skip
            refine q_goto (tgt := 102) hM dX12_weakens_90 (by decide) ?_
            refine w_iast hM hW lb_161 (by omega) (i_in (by omega) (by omega)) dX12_weakens_102 (fun g6017 H locs hW e1 e2 => ?_)
            have f6018 : fld g6017 129 31 = .int x6003 := (e2.1 129 31 (by unfold Only; omega)).trans f6006
            have hG := hG.st e1 e2 (rfl : rA 161 = (-2147483648, 2147483647)) (by have := i_rng z6016; omega) (by have := i_rng z6016; omega)
            exact hE _ _ _ _ _ hW.1 ⟨rfl, hW.2.1, hG, hW.2.2⟩ dX12_weakens_103
        · refine q_aload_n hM dX12_weakens_52 (lv_at hl 1 rfl) ?_
          refine w_get (v := .ref (ad 161)) hM hW FG_X12_109 lb_129 (rf_129_55 hW.2.1) dX12_weakens_53 ?_
          refine q_iload hM dX12_weakens_56 (lv_at hl 0 rfl) ?_
          refine w_iald hM hW lb_161 (i_in (by omega) (by omega)) dX12_weakens_58 ?_
          refine q_top (fun y6020 hy6020 => ?_)
          refine q_aload_n hM dX12_weakens_59 (lv_at hl 1 rfl) ?_
          refine q_bipush (v := (119 : Int32)) hM dX12_weakens_60 (by decide) ?_
          refine q_bipush (v := (99 : Int32)) hM dX12_weakens_62 (by decide) ?_
          refine q_callV (As := [.int (119 : Int32), .int (99 : Int32)]) (rest := [.int y6020, .int z5996, .ref (ad 161)]) hM hW.1 hR hC myX12_tells (kAW (v_6_6 (List.mem_of_getElem? (i := 6) rfl)) rfl) (rfl : vwCl[12]? = some (RX12, TX12, 86)) rfl lb_129.1 (shO hW.2.1 lb_129) (a_X12_tells _ _ cA ad g6005 (119 : Int32) (99 : Int32) x6003 hW.2.1 hG f6006 (LawOK_fr hL hW.2.2 (by omega) (by omega) (by omega) (by omega) (by omega))) ⟨by decide, by decide⟩ rfl rfl hl.1 (Nat.le_of_ble_eq_true rfl) dX12_weakens_64 (fun v g6022 H locs hp hW1 => ?_)
          obtain ⟨r6021, rfl, hs1, hG, hf1⟩ := hp
          have f6023 : fld g6022 129 31 = .int x6003 := (hf1.1 129 31 (by omega)).trans f6006
          have hW : WS ad cA (fun i k => i = 161 ∨ i = 156 ∨ i = 157 ∨ (i = 129 ∧ (k = 42 ∨ k = 43 ∨ k = 44 ∨ k = 45 ∨ k = 46 ∨ k = 47 ∨ k = 48 ∨ k = 49))) g0 K g6022 H locs := ⟨hW1, hs1, hW.2.2.tr hf1 (fun i k h => h.elim (fun h => (Or.inr (Or.inl h))) (fun h => (Or.inr (Or.inr (Or.inl h)))))⟩
          refine q_isub hM dX12_weakens_67 (fun z6024 hz6024 => ?_)
          first | have tz6024 := i_subT hz6024 (rfl : y6020.toInt = y6020.toInt) (rfl : r6021.toInt = r6021.toInt) (by omega) (by omega) | skip
          refine q_bipush (v := (99 : Int32)) hM dX12_weakens_68 (by decide) ?_
          refine q_callS (As := [.int z6024, .int (99 : Int32)]) (rest := [.int z5996, .ref (ad 161)]) hM hW.1 hR hC myX12_held (kAW (v_6_6 (List.mem_of_getElem? (i := 10) rfl)) rfl) (a_X12_held _ _ cA ad g6022 z6024 (99 : Int32) hW.2.1 hG) ⟨by decide, by decide⟩ rfl rfl hl.1 (Nat.le_of_ble_eq_true rfl) dX12_weakens_70 (fun v g6026 H locs hp hW1 => ?_)
          obtain ⟨r6025, rfl, hr6025, rfl⟩ := hp
          have hW : WS ad cA (fun i k => i = 161 ∨ i = 156 ∨ i = 157 ∨ (i = 129 ∧ (k = 42 ∨ k = 43 ∨ k = 44 ∨ k = 45 ∨ k = 46 ∨ k = 47 ∨ k = 48 ∨ k = 49))) g0 K g6022 H locs := ⟨hW1, hW.2.1, hW.2.2⟩
          refine q_goto (tgt := 102) hM dX12_weakens_73 (by decide) ?_
          refine w_iast hM hW lb_161 (by omega) (i_in (by omega) (by omega)) dX12_weakens_102 (fun g6027 H locs hW e1 e2 => ?_)
          have f6028 : fld g6027 129 31 = .int x6003 := (e2.1 129 31 (by unfold Only; omega)).trans f6023
          have hG := hG.st e1 e2 (rfl : rA 161 = (-2147483648, 2147483647)) (by have := i_rng r6025; omega) (by have := i_rng r6025; omega)
          exact hE _ _ _ _ _ hW.1 ⟨rfl, hW.2.1, hG, hW.2.2⟩ dX12_weakens_103
      · exact hE _ _ _ _ _ hW.1 ⟨rfl, hW.2.1, hG, hW.2.2⟩ dX12_weakens_41
    · exact hE _ _ _ _ _ hW.1 ⟨rfl, hW.2.1, hG, hW.2.2⟩ dX12_weakens_27

theorem dX12_strengthens_0 : decode cX12_strengthens 0 = .ok (.aload_n 0, 1) := by decide +kernel
theorem dX12_strengthens_1 : decode cX12_strengthens 1 = .ok (.getfield 17, 3) := by decide +kernel
theorem dX12_strengthens_4 : decode cX12_strengthens 4 = .ok (.iload_n 2, 1) := by decide +kernel
theorem dX12_strengthens_5 : decode cX12_strengthens 5 = .ok (.baload, 1) := by decide +kernel
theorem dX12_strengthens_6 : decode cX12_strengthens 6 = .ok (.ifCond .ne 4, 3) := by decide +kernel
theorem dX12_strengthens_9 : decode cX12_strengthens 9 = .ok (.return_, 1) := by decide +kernel
theorem dX12_strengthens_10 : decode cX12_strengthens 10 = .ok (.aload_n 0, 1) := by decide +kernel
theorem dX12_strengthens_11 : decode cX12_strengthens 11 = .ok (.iload_n 1, 1) := by decide +kernel
theorem dX12_strengthens_12 : decode cX12_strengthens 12 = .ok (.iload_n 2, 1) := by decide +kernel
theorem dX12_strengthens_13 : decode cX12_strengthens 13 = .ok (.invokevirtual 434, 3) := by decide +kernel
theorem dX12_strengthens_16 : decode cX12_strengthens 16 = .ok (.aload_n 0, 1) := by decide +kernel
theorem dX12_strengthens_17 : decode cX12_strengthens 17 = .ok (.getfield 109, 3) := by decide +kernel
theorem dX12_strengthens_20 : decode cX12_strengthens 20 = .ok (.bipush 12, 2) := by decide +kernel
theorem dX12_strengthens_22 : decode cX12_strengthens 22 = .ok (.iload_n 1, 1) := by decide +kernel
theorem dX12_strengthens_23 : decode cX12_strengthens 23 = .ok (.imul, 1) := by decide +kernel
theorem dX12_strengthens_24 : decode cX12_strengthens 24 = .ok (.iload_n 2, 1) := by decide +kernel
theorem dX12_strengthens_25 : decode cX12_strengthens 25 = .ok (.iadd, 1) := by decide +kernel
theorem dX12_strengthens_26 : decode cX12_strengthens 26 = .ok (.aload_n 0, 1) := by decide +kernel
theorem dX12_strengthens_27 : decode cX12_strengthens 27 = .ok (.getfield 109, 3) := by decide +kernel
theorem dX12_strengthens_30 : decode cX12_strengthens 30 = .ok (.bipush 12, 2) := by decide +kernel
theorem dX12_strengthens_32 : decode cX12_strengthens 32 = .ok (.iload_n 1, 1) := by decide +kernel
theorem dX12_strengthens_33 : decode cX12_strengthens 33 = .ok (.imul, 1) := by decide +kernel
theorem dX12_strengthens_34 : decode cX12_strengthens 34 = .ok (.iload_n 2, 1) := by decide +kernel
theorem dX12_strengthens_35 : decode cX12_strengthens 35 = .ok (.iadd, 1) := by decide +kernel
theorem dX12_strengthens_36 : decode cX12_strengthens 36 = .ok (.iaload, 1) := by decide +kernel
theorem dX12_strengthens_37 : decode cX12_strengthens 37 = .ok (.aload_n 0, 1) := by decide +kernel
theorem dX12_strengthens_38 : decode cX12_strengthens 38 = .ok (.bipush 115, 2) := by decide +kernel
theorem dX12_strengthens_40 : decode cX12_strengthens 40 = .ok (.bipush 99, 2) := by decide +kernel
theorem dX12_strengthens_42 : decode cX12_strengthens 42 = .ok (.invokevirtual 440, 3) := by decide +kernel
theorem dX12_strengthens_45 : decode cX12_strengthens 45 = .ok (.iadd, 1) := by decide +kernel
theorem dX12_strengthens_46 : decode cX12_strengthens 46 = .ok (.bipush 99, 2) := by decide +kernel
theorem dX12_strengthens_48 : decode cX12_strengthens 48 = .ok (.invokestatic 408, 3) := by decide +kernel
theorem dX12_strengthens_51 : decode cX12_strengthens 51 = .ok (.iastore, 1) := by decide +kernel
theorem dX12_strengthens_52 : decode cX12_strengthens 52 = .ok (.return_, 1) := by decide +kernel
set_option maxRecDepth 100000 in
set_option maxHeartbeats 4000000 in
theorem a_X12_strengthens (l : Launch) (D : va_G) (cA : Nat → ClassId) (ad : Nat → Nat) (g0 : Nat → va_E) (p : Int32) (i : Int32)   (hSh : Shp ad cA g0) (hG : Rng g0) (p0 : 0 ≤ p.toInt) (p7 : p.toInt < 8) (i0 : 0 ≤ i.toInt) (i12 : i.toInt < 12) (hL : LawOK g0) : CT l NN ad cA D yX12_strengthens cX12_strengthens 3 none (5, 114) [.ref (ad 129), .int p, .int i] g0 (fun v g' => v = none ∧ Shp ad cA g' ∧ Rng g' ∧ FR (fun i k => i = 161 ∨ i = 156 ∨ i = 157 ∨ (i = 129 ∧ (k = 42 ∨ k = 43 ∨ k = 44 ∨ k = 45 ∨ k = 46 ∨ k = 47 ∨ k = 48 ∨ k = 49))) g0 g') := by
  refine q_enterV (by decide) (Nat.le_of_ble_eq_true rfl) (fun K H locs ls _ _ hM hW0 hR hC hE hl => ?_)
  have hl : lv_has ls 3 [(0, .ref (ad 129)), (1, .int p), (2, .int i)] := hl
  have hW : WS ad cA (fun i k => i = 161 ∨ i = 156 ∨ i = 157 ∨ (i = 129 ∧ (k = 42 ∨ k = 43 ∨ k = 44 ∨ k = 45 ∨ k = 46 ∨ k = 47 ∨ k = 48 ∨ k = 49))) g0 K g0 H locs := ⟨hW0, hSh, FR.rf⟩
  refine q_aload_n hM dX12_strengthens_0 (lv_at hl 0 rfl) ?_
  refine w_get (v := .ref (ad 131)) hM hW FG_X12_17 lb_129 (rf_129_10 hW.2.1) dX12_strengthens_1 ?_
  refine q_iload_n hM dX12_strengthens_4 (lv_at hl 2 rfl) ?_
  refine w_zald hM hW lb_131 (i_in (by omega) (by omega)) dX12_strengthens_5 ?_
  refine q_top (fun y6031 hy6031 => ?_)
  refine q_if_ne (tgt := 10) hM dX12_strengthens_6 (by decide) (rfl : y6031.toInt = y6031.toInt) (fun h6 => ?_) (fun h6 => ?_)
  · refine q_aload_n hM dX12_strengthens_10 (lv_at hl 0 rfl) ?_
    refine q_iload_n hM dX12_strengthens_11 (lv_at hl 1 rfl) ?_
    refine q_iload_n hM dX12_strengthens_12 (lv_at hl 2 rfl) ?_
    refine q_callV (As := [.int p, .int i]) (rest := []) hM hW.1 hR hC myX12_standsReady (kAW (v_6_4 (List.mem_of_getElem? (i := 7) rfl)) rfl) (rfl : vwCl[12]? = some (RX12, TX12, 86)) rfl lb_129.1 (shO hW.2.1 lb_129) (a_X12_standsReady _ _ cA ad g0 p i hW.2.1 hG (by  omega) (by  omega) (by  omega) (by  omega)) ⟨by decide, by decide⟩ rfl rfl hl.1 (Nat.le_of_ble_eq_true rfl) dX12_strengthens_13 (fun v g6033 H locs hp hW1 => ?_)
    obtain ⟨rfl, hs1, hG, hf1⟩ := hp
    have hW : WS ad cA (fun i k => i = 161 ∨ i = 156 ∨ i = 157 ∨ (i = 129 ∧ (k = 42 ∨ k = 43 ∨ k = 44 ∨ k = 45 ∨ k = 46 ∨ k = 47 ∨ k = 48 ∨ k = 49))) g0 K g6033 H locs := ⟨hW1, hs1, hW.2.2.tr hf1 (fun i k h => (Or.inr (Or.inr (Or.inr h))))⟩
    refine q_aload_n hM dX12_strengthens_16 (lv_at hl 0 rfl) ?_
    refine w_get (v := .ref (ad 161)) hM hW FG_X12_109 lb_129 (rf_129_55 hW.2.1) dX12_strengthens_17 ?_
    refine q_bipush (v := (12 : Int32)) hM dX12_strengthens_20 (by decide) ?_
    refine q_iload_n hM dX12_strengthens_22 (lv_at hl 1 rfl) ?_
    refine q_imul hM dX12_strengthens_23 (fun z6034 hz6034 => ?_)
    first | have tz6034 := i_mulT hz6034 (kc_12 : (12 : Int32).toInt = 12) (rfl : p.toInt = p.toInt) (by omega) (by omega) | skip
    refine q_iload_n hM dX12_strengthens_24 (lv_at hl 2 rfl) ?_
    refine q_iadd hM dX12_strengthens_25 (fun z6035 hz6035 => ?_)
    first | have tz6035 := i_addT hz6035 (rfl : z6034.toInt = z6034.toInt) (rfl : i.toInt = i.toInt) (by omega) (by omega) | skip
    refine q_aload_n hM dX12_strengthens_26 (lv_at hl 0 rfl) ?_
    refine w_get (v := .ref (ad 161)) hM hW FG_X12_109 lb_129 (rf_129_55 hW.2.1) dX12_strengthens_27 ?_
    refine q_bipush (v := (12 : Int32)) hM dX12_strengthens_30 (by decide) ?_
    refine q_iload_n hM dX12_strengthens_32 (lv_at hl 1 rfl) ?_
    refine q_imul hM dX12_strengthens_33 (fun z6036 hz6036 => ?_)
    first | have tz6036 := i_mulT hz6036 (kc_12 : (12 : Int32).toInt = 12) (rfl : p.toInt = p.toInt) (by omega) (by omega) | skip
    refine q_iload_n hM dX12_strengthens_34 (lv_at hl 2 rfl) ?_
    refine q_iadd hM dX12_strengthens_35 (fun z6037 hz6037 => ?_)
    first | have tz6037 := i_addT hz6037 (rfl : z6036.toInt = z6036.toInt) (rfl : i.toInt = i.toInt) (by omega) (by omega) | skip
    refine w_iald hM hW lb_161 (i_in (by omega) (by omega)) dX12_strengthens_36 ?_
    refine q_top (fun y6038 hy6038 => ?_)
    refine q_aload_n hM dX12_strengthens_37 (lv_at hl 0 rfl) ?_
    refine q_bipush (v := (115 : Int32)) hM dX12_strengthens_38 (by decide) ?_
    refine q_bipush (v := (99 : Int32)) hM dX12_strengthens_40 (by decide) ?_
    obtain ⟨x6039, fx6039⟩ : ∃ x : Int32, fld g6033 129 31 = .int x := ⟨_, shI hW.2.1 lb_129 (by decide) (by decide)⟩
    have bx6039 := hG.f fx6039 rF_129_31 (by decide)
    refine q_callV (As := [.int (115 : Int32), .int (99 : Int32)]) (rest := [.int y6038, .int z6035, .ref (ad 161)]) hM hW.1 hR hC myX12_tells (kAW (v_6_6 (List.mem_of_getElem? (i := 6) rfl)) rfl) (rfl : vwCl[12]? = some (RX12, TX12, 86)) rfl lb_129.1 (shO hW.2.1 lb_129) (a_X12_tells _ _ cA ad g6033 (115 : Int32) (99 : Int32) x6039 hW.2.1 hG fx6039 (LawOK_fr hL hW.2.2 (by omega) (by omega) (by omega) (by omega) (by omega))) ⟨by decide, by decide⟩ rfl rfl hl.1 (Nat.le_of_ble_eq_true rfl) dX12_strengthens_42 (fun v g6041 H locs hp hW1 => ?_)
    obtain ⟨r6040, rfl, hs1, hG, hf1⟩ := hp
    have f6042 : fld g6041 129 31 = .int x6039 := (hf1.1 129 31 (by omega)).trans fx6039
    have hW : WS ad cA (fun i k => i = 161 ∨ i = 156 ∨ i = 157 ∨ (i = 129 ∧ (k = 42 ∨ k = 43 ∨ k = 44 ∨ k = 45 ∨ k = 46 ∨ k = 47 ∨ k = 48 ∨ k = 49))) g0 K g6041 H locs := ⟨hW1, hs1, hW.2.2.tr hf1 (fun i k h => h.elim (fun h => (Or.inr (Or.inl h))) (fun h => (Or.inr (Or.inr (Or.inl h)))))⟩
    refine q_iadd hM dX12_strengthens_45 (fun z6043 hz6043 => ?_)
    first | have tz6043 := i_addT hz6043 (rfl : y6038.toInt = y6038.toInt) (rfl : r6040.toInt = r6040.toInt) (by omega) (by omega) | skip
    refine q_bipush (v := (99 : Int32)) hM dX12_strengthens_46 (by decide) ?_
    refine q_callS (As := [.int z6043, .int (99 : Int32)]) (rest := [.int z6035, .ref (ad 161)]) hM hW.1 hR hC myX12_held (kAW (v_6_6 (List.mem_of_getElem? (i := 10) rfl)) rfl) (a_X12_held _ _ cA ad g6041 z6043 (99 : Int32) hW.2.1 hG) ⟨by decide, by decide⟩ rfl rfl hl.1 (Nat.le_of_ble_eq_true rfl) dX12_strengthens_48 (fun v g6045 H locs hp hW1 => ?_)
    obtain ⟨r6044, rfl, hr6044, rfl⟩ := hp
    have hW : WS ad cA (fun i k => i = 161 ∨ i = 156 ∨ i = 157 ∨ (i = 129 ∧ (k = 42 ∨ k = 43 ∨ k = 44 ∨ k = 45 ∨ k = 46 ∨ k = 47 ∨ k = 48 ∨ k = 49))) g0 K g6041 H locs := ⟨hW1, hW.2.1, hW.2.2⟩
    refine w_iast hM hW lb_161 (by omega) (i_in (by omega) (by omega)) dX12_strengthens_51 (fun g6046 H locs hW e1 e2 => ?_)
    have f6047 : fld g6046 129 31 = .int x6039 := (e2.1 129 31 (by unfold Only; omega)).trans f6042
    have hG := hG.st e1 e2 (rfl : rA 161 = (-2147483648, 2147483647)) (by have := i_rng r6044; omega) (by have := i_rng r6044; omega)
    exact hE _ _ _ _ _ hW.1 ⟨rfl, hW.2.1, hG, hW.2.2⟩ dX12_strengthens_52
  · exact hE _ _ _ _ _ hW.1 ⟨rfl, hW.2.1, hG, hW.2.2⟩ dX12_strengthens_9

theorem dX12_doesStep_0 : decode cX12_doesStep 0 = .ok (.iload_n 2, 1) := by decide +kernel
theorem dX12_doesStep_1 : decode cX12_doesStep 1 = .ok (.bipush 12, 2) := by decide +kernel
theorem dX12_doesStep_3 : decode cX12_doesStep 3 = .ok (.if_icmp .ge 13, 3) := by decide +kernel
theorem dX12_doesStep_6 : decode cX12_doesStep 6 = .ok (.aload_n 0, 1) := by decide +kernel
theorem dX12_doesStep_7 : decode cX12_doesStep 7 = .ok (.iload_n 1, 1) := by decide +kernel
theorem dX12_doesStep_8 : decode cX12_doesStep 8 = .ok (.iload_n 2, 1) := by decide +kernel
theorem dX12_doesStep_9 : decode cX12_doesStep 9 = .ok (.iconst 0, 1) := by decide +kernel
theorem dX12_doesStep_10 : decode cX12_doesStep 10 = .ok (.invokevirtual 443, 3) := by decide +kernel
theorem dX12_doesStep_13 : decode cX12_doesStep 13 = .ok (.goto 85, 3) := by decide +kernel
theorem dX12_doesStep_16 : decode cX12_doesStep 16 = .ok (.iload_n 2, 1) := by decide +kernel
theorem dX12_doesStep_17 : decode cX12_doesStep 17 = .ok (.bipush 21, 2) := by decide +kernel
theorem dX12_doesStep_19 : decode cX12_doesStep 19 = .ok (.if_icmp .ge 40, 3) := by decide +kernel
theorem dX12_doesStep_22 : decode cX12_doesStep 22 = .ok (.iconst 0, 1) := by decide +kernel
theorem dX12_doesStep_23 : decode cX12_doesStep 23 = .ok (.istore_n 3, 1) := by decide +kernel
theorem dX12_doesStep_24 : decode cX12_doesStep 24 = .ok (.iload_n 3, 1) := by decide +kernel
theorem dX12_doesStep_25 : decode cX12_doesStep 25 = .ok (.bipush 12, 2) := by decide +kernel
theorem dX12_doesStep_27 : decode cX12_doesStep 27 = .ok (.if_icmp .ge 29, 3) := by decide +kernel
theorem dX12_doesStep_30 : decode cX12_doesStep 30 = .ok (.aload_n 0, 1) := by decide +kernel
theorem dX12_doesStep_31 : decode cX12_doesStep 31 = .ok (.getfield 21, 3) := by decide +kernel
theorem dX12_doesStep_34 : decode cX12_doesStep 34 = .ok (.iload_n 3, 1) := by decide +kernel
theorem dX12_doesStep_35 : decode cX12_doesStep 35 = .ok (.iaload, 1) := by decide +kernel
theorem dX12_doesStep_36 : decode cX12_doesStep 36 = .ok (.iload_n 2, 1) := by decide +kernel
theorem dX12_doesStep_37 : decode cX12_doesStep 37 = .ok (.bipush 12, 2) := by decide +kernel
theorem dX12_doesStep_39 : decode cX12_doesStep 39 = .ok (.isub, 1) := by decide +kernel
theorem dX12_doesStep_40 : decode cX12_doesStep 40 = .ok (.if_icmp .ne 10, 3) := by decide +kernel
theorem dX12_doesStep_43 : decode cX12_doesStep 43 = .ok (.aload_n 0, 1) := by decide +kernel
theorem dX12_doesStep_44 : decode cX12_doesStep 44 = .ok (.iload_n 1, 1) := by decide +kernel
theorem dX12_doesStep_45 : decode cX12_doesStep 45 = .ok (.iload_n 3, 1) := by decide +kernel
theorem dX12_doesStep_46 : decode cX12_doesStep 46 = .ok (.iconst 1, 1) := by decide +kernel
theorem dX12_doesStep_47 : decode cX12_doesStep 47 = .ok (.invokevirtual 443, 3) := by decide +kernel
theorem dX12_doesStep_50 : decode cX12_doesStep 50 = .ok (.iinc 3 1, 3) := by decide +kernel
theorem dX12_doesStep_53 : decode cX12_doesStep 53 = .ok (.goto (-29), 3) := by decide +kernel
theorem dX12_doesStep_56 : decode cX12_doesStep 56 = .ok (.goto 42, 3) := by decide +kernel
theorem dX12_doesStep_59 : decode cX12_doesStep 59 = .ok (.iload_n 2, 1) := by decide +kernel
theorem dX12_doesStep_60 : decode cX12_doesStep 60 = .ok (.bipush 21, 2) := by decide +kernel
theorem dX12_doesStep_62 : decode cX12_doesStep 62 = .ok (.if_icmp .ne 27, 3) := by decide +kernel
theorem dX12_doesStep_65 : decode cX12_doesStep 65 = .ok (.iconst 0, 1) := by decide +kernel
theorem dX12_doesStep_66 : decode cX12_doesStep 66 = .ok (.istore_n 3, 1) := by decide +kernel
theorem dX12_doesStep_67 : decode cX12_doesStep 67 = .ok (.iload_n 3, 1) := by decide +kernel
theorem dX12_doesStep_68 : decode cX12_doesStep 68 = .ok (.bipush 12, 2) := by decide +kernel
theorem dX12_doesStep_70 : decode cX12_doesStep 70 = .ok (.if_icmp .ge 16, 3) := by decide +kernel
theorem dX12_doesStep_73 : decode cX12_doesStep 73 = .ok (.aload_n 0, 1) := by decide +kernel
theorem dX12_doesStep_74 : decode cX12_doesStep 74 = .ok (.iload_n 1, 1) := by decide +kernel
theorem dX12_doesStep_75 : decode cX12_doesStep 75 = .ok (.iload_n 3, 1) := by decide +kernel
theorem dX12_doesStep_76 : decode cX12_doesStep 76 = .ok (.iconst 2, 1) := by decide +kernel
theorem dX12_doesStep_77 : decode cX12_doesStep 77 = .ok (.invokevirtual 443, 3) := by decide +kernel
theorem dX12_doesStep_80 : decode cX12_doesStep 80 = .ok (.iinc 3 1, 3) := by decide +kernel
theorem dX12_doesStep_83 : decode cX12_doesStep 83 = .ok (.goto (-16), 3) := by decide +kernel
theorem dX12_doesStep_86 : decode cX12_doesStep 86 = .ok (.goto 12, 3) := by decide +kernel
theorem dX12_doesStep_89 : decode cX12_doesStep 89 = .ok (.aload_n 0, 1) := by decide +kernel
theorem dX12_doesStep_90 : decode cX12_doesStep 90 = .ok (.iload_n 1, 1) := by decide +kernel
theorem dX12_doesStep_91 : decode cX12_doesStep 91 = .ok (.iload_n 2, 1) := by decide +kernel
theorem dX12_doesStep_92 : decode cX12_doesStep 92 = .ok (.bipush 22, 2) := by decide +kernel
theorem dX12_doesStep_94 : decode cX12_doesStep 94 = .ok (.isub, 1) := by decide +kernel
theorem dX12_doesStep_95 : decode cX12_doesStep 95 = .ok (.invokevirtual 446, 3) := by decide +kernel
theorem dX12_doesStep_98 : decode cX12_doesStep 98 = .ok (.return_, 1) := by decide +kernel
theorem myX12_strengthens : MI yX12_strengthens cX12_strengthens 3 none 2 := ⟨kAW (v_6_7 (List.mem_of_getElem? (i := 0) rfl)) rfl, kAW (v_0_0 (List.mem_of_getElem? (i := 13) rfl)) rfl, kAW (v_6_6 (List.mem_of_getElem? (i := 15) rfl)) rfl, kAW (tp_t4 (List.mem_of_getElem? (i := 12) rfl)) rfl, by decide, by decide, by decide +kernel⟩
theorem myX12_weakens : MI yX12_weakens cX12_weakens 5 none 3 := ⟨kAW (v_6_4 (List.mem_of_getElem? (i := 6) rfl)) rfl, kAW (v_0_0 (List.mem_of_getElem? (i := 13) rfl)) rfl, kAW (v_6_4 (List.mem_of_getElem? (i := 5) rfl)) rfl, kAW (tp_t4 (List.mem_of_getElem? (i := 3) rfl)) rfl, by decide, by decide, by decide +kernel⟩
set_option maxRecDepth 100000 in
set_option maxHeartbeats 4000000 in
theorem a_X12_doesStep (l : Launch) (D : va_G) (cA : Nat → ClassId) (ad : Nat → Nat) (g0 : Nat → va_E) (p : Int32) (s : Int32)   (hSh : Shp ad cA g0) (hG : Rng g0) (p0 : 0 ≤ p.toInt) (p7 : p.toInt < 8) (s0 : 0 ≤ s.toInt) (s1 : s.toInt ≤ 33) (hL : LawOK g0) : CT l NN ad cA D yX12_doesStep cX12_doesStep 4 none (6, 138) [.ref (ad 129), .int p, .int s] g0 (fun v g' => v = none ∧ Shp ad cA g' ∧ Rng g' ∧ FR (fun i k => i = 161 ∨ i = 156 ∨ i = 157 ∨ (i = 129 ∧ (k = 42 ∨ k = 43 ∨ k = 44 ∨ k = 45 ∨ k = 46 ∨ k = 47 ∨ k = 48 ∨ k = 49))) g0 g') := by
  refine q_enterV (by decide) (Nat.le_of_ble_eq_true rfl) (fun K H locs ls _ _ hM hW0 hR hC hE hl => ?_)
  have hl : lv_has ls 4 [(0, .ref (ad 129)), (1, .int p), (2, .int s)] := hl
  have hW : WS ad cA (fun i k => i = 161 ∨ i = 156 ∨ i = 157 ∨ (i = 129 ∧ (k = 42 ∨ k = 43 ∨ k = 44 ∨ k = 45 ∨ k = 46 ∨ k = 47 ∨ k = 48 ∨ k = 49))) g0 K g0 H locs := ⟨hW0, hSh, FR.rf⟩
  refine q_iload_n hM dX12_doesStep_0 (lv_at hl 2 rfl) ?_
  refine q_bipush (v := (12 : Int32)) hM dX12_doesStep_1 (by decide) ?_
  refine q_icmp_ge (tgt := 16) hM dX12_doesStep_3 (by decide) (rfl : s.toInt = s.toInt) (kc_12 : (12 : Int32).toInt = 12) (fun h3 => ?_) (fun h3 => ?_)
  · refine q_iload_n hM dX12_doesStep_16 (lv_at hl 2 rfl) ?_
    refine q_bipush (v := (21 : Int32)) hM dX12_doesStep_17 (by decide) ?_
    refine q_icmp_ge (tgt := 59) hM dX12_doesStep_19 (by decide) (rfl : s.toInt = s.toInt) (kc_21 : (21 : Int32).toInt = 21) (fun h19 => ?_) (fun h19 => ?_)
    · refine q_iload_n hM dX12_doesStep_59 (lv_at hl 2 rfl) ?_
      refine q_bipush (v := (21 : Int32)) hM dX12_doesStep_60 (by decide) ?_
      refine q_icmp_ne (tgt := 89) hM dX12_doesStep_62 (by decide) (rfl : s.toInt = s.toInt) (kc_21 : (21 : Int32).toInt = 21) (fun h62 => ?_) (fun h62 => ?_)
      · refine q_aload_n hM dX12_doesStep_89 (lv_at hl 0 rfl) ?_
        refine q_iload_n hM dX12_doesStep_90 (lv_at hl 1 rfl) ?_
        refine q_iload_n hM dX12_doesStep_91 (lv_at hl 2 rfl) ?_
        refine q_bipush (v := (22 : Int32)) hM dX12_doesStep_92 (by decide) ?_
        refine q_isub hM dX12_doesStep_94 (fun z6052 hz6052 => ?_)
        first | have tz6052 := i_subT hz6052 (rfl : s.toInt = s.toInt) (kc_22 : (22 : Int32).toInt = 22) (by omega) (by omega) | skip
        refine q_callV (As := [.int p, .int z6052]) (rest := []) hM hW.1 hR hC myX12_strengthens (kAW (v_6_6 (List.mem_of_getElem? (i := 13) rfl)) rfl) (rfl : vwCl[12]? = some (RX12, TX12, 86)) rfl lb_129.1 (shO hW.2.1 lb_129) (a_X12_strengthens _ _ cA ad g0 p z6052 hW.2.1 hG (by  omega) (by  omega) (by  omega) (by  omega) (LawOK_fr hL hW.2.2 (by omega) (by omega) (by omega) (by omega) (by omega))) ⟨by decide, by decide⟩ rfl rfl hl.1 (Nat.le_of_ble_eq_true rfl) dX12_doesStep_95 (fun v g6053 H locs hp hW1 => ?_)
        obtain ⟨rfl, hs1, hG, hf1⟩ := hp
        have hW : WS ad cA (fun i k => i = 161 ∨ i = 156 ∨ i = 157 ∨ (i = 129 ∧ (k = 42 ∨ k = 43 ∨ k = 44 ∨ k = 45 ∨ k = 46 ∨ k = 47 ∨ k = 48 ∨ k = 49))) g0 K g6053 H locs := ⟨hW1, hs1, hW.2.2.tr hf1 (fun i k h => h.elim (fun h => (Or.inl h)) (fun h => h.elim (fun h => (Or.inr (Or.inl h))) (fun h => h.elim (fun h => (Or.inr (Or.inr (Or.inl h)))) (fun h => (Or.inr (Or.inr (Or.inr h)))))))⟩
        exact hE _ _ _ _ _ hW.1 ⟨rfl, hW.2.1, hG, hW.2.2⟩ dX12_doesStep_98
      · refine q_iconst (v := (0 : Int32)) hM dX12_doesStep_65 (by decide) ?_
        refine q_istore_n (lv9 := [(3, .int (0 : Int32)), (0, .ref (ad 129)), (1, .int p), (2, .int s)]) hM dX12_doesStep_66 hl (by decide) rfl (fun ls hl => ?_)
        have L67 : ∀ (fu67 : Nat) (w67_3 : Int32) (g9 : Nat → va_E) (H : Heap) (locs : List Loc) (ls : Array Slot), (12 - w67_3.toInt).toNat < fu67 → (Rng g9) → (0 ≤ w67_3.toInt) → (w67_3.toInt ≤ 12) → lv_has ls 4 [(0, .ref (ad 129)), (1, .int p), (2, .int s), (3, .int w67_3)] → WS ad cA (fun i k => i = 161 ∨ i = 156 ∨ i = 157 ∨ (i = 129 ∧ (k = 42 ∨ k = 43 ∨ k = 44 ∨ k = 45 ∨ k = 46 ∨ k = 47 ∨ k = 48 ∨ k = 49))) g0 K g9 H locs → XX K 0 0 H locs 67 ls [] := by
          intro fu67
          induction fu67 with
          | zero => intro w67_3 g9 H locs ls h0; omega
          | succ fu67 ih67 =>
            intro w67_3 g9 H locs ls hm67 i67_0 i67_1 i67_2 hl hW
            have hG := i67_0
            refine q_iload_n hM dX12_doesStep_67 (lv_at hl 3 rfl) ?_
            refine q_bipush (v := (12 : Int32)) hM dX12_doesStep_68 (by decide) ?_
            refine q_icmp_ge (tgt := 86) hM dX12_doesStep_70 (by decide) (rfl : w67_3.toInt = w67_3.toInt) (kc_12 : (12 : Int32).toInt = 12) (fun h70 => ?_) (fun h70 => ?_)
            · refine q_goto (tgt := 98) hM dX12_doesStep_86 (by decide) ?_
              exact hE _ _ _ _ _ hW.1 ⟨rfl, hW.2.1, hG, hW.2.2⟩ dX12_doesStep_98
            · refine q_aload_n hM dX12_doesStep_73 (lv_at hl 0 rfl) ?_
              refine q_iload_n hM dX12_doesStep_74 (lv_at hl 1 rfl) ?_
              refine q_iload_n hM dX12_doesStep_75 (lv_at hl 3 rfl) ?_
              refine q_iconst (v := (2 : Int32)) hM dX12_doesStep_76 (by decide) ?_
              refine q_callV (As := [.int p, .int w67_3, .int (2 : Int32)]) (rest := []) hM hW.1 hR hC myX12_weakens (kAW (v_6_4 (List.mem_of_getElem? (i := 3) rfl)) rfl) (rfl : vwCl[12]? = some (RX12, TX12, 86)) rfl lb_129.1 (shO hW.2.1 lb_129) (a_X12_weakens _ _ cA ad g9 p w67_3 (2 : Int32) hW.2.1 hG (by have := kc_2; omega) (by have := kc_2; omega) (by have := kc_2; omega) (by have := kc_2; omega) (LawOK_fr hL hW.2.2 (by omega) (by omega) (by omega) (by omega) (by omega))) ⟨by decide, by decide⟩ rfl rfl hl.1 (Nat.le_of_ble_eq_true rfl) dX12_doesStep_77 (fun v g6058 H locs hp hW1 => ?_)
              obtain ⟨rfl, hs1, hG, hf1⟩ := hp
              have hW : WS ad cA (fun i k => i = 161 ∨ i = 156 ∨ i = 157 ∨ (i = 129 ∧ (k = 42 ∨ k = 43 ∨ k = 44 ∨ k = 45 ∨ k = 46 ∨ k = 47 ∨ k = 48 ∨ k = 49))) g0 K g6058 H locs := ⟨hW1, hs1, hW.2.2.tr hf1 (fun i k h => h.elim (fun h => (Or.inl h)) (fun h => h.elim (fun h => (Or.inr (Or.inl h))) (fun h => h.elim (fun h => (Or.inr (Or.inr (Or.inl h)))) (fun h => (Or.inr (Or.inr (Or.inr h)))))))⟩
              refine q_iinc (lv9 := fun z6059 => [(3, .int z6059), (0, .ref (ad 129)), (1, .int p), (2, .int s)]) hM dX12_doesStep_80 hl (kq := 3) rfl (by decide) (fun _ => rfl) (fun z6059 ls hz6059 hl => ?_)
              first | have tz6059 := i_addT hz6059 (rfl : w67_3.toInt = w67_3.toInt) (kc_1 : (Int32.ofInt 1).toInt = 1) (by omega) (by omega) | skip
              refine q_goto (tgt := 67) hM dX12_doesStep_83 (by decide) ?_
              exact ih67 z6059 _ _ _ _ (by omega) hG (by omega) (by omega) (lv_sub hl [1, 2, 3, 0] rfl) hW
        have := kc_0
        exact L67 _ (0 : Int32) _ _ _ _ (Nat.lt_succ_self _) hG (by omega) (by omega) (lv_sub hl [1, 2, 3, 0] rfl) hW
    · refine q_iconst (v := (0 : Int32)) hM dX12_doesStep_22 (by decide) ?_
      refine q_istore_n (lv9 := [(3, .int (0 : Int32)), (0, .ref (ad 129)), (1, .int p), (2, .int s)]) hM dX12_doesStep_23 hl (by decide) rfl (fun ls hl => ?_)
      have L24 : ∀ (fu24 : Nat) (w24_3 : Int32) (g9 : Nat → va_E) (H : Heap) (locs : List Loc) (ls : Array Slot), (12 - w24_3.toInt).toNat < fu24 → (Rng g9) → (0 ≤ w24_3.toInt) → (w24_3.toInt ≤ 12) → lv_has ls 4 [(0, .ref (ad 129)), (1, .int p), (2, .int s), (3, .int w24_3)] → WS ad cA (fun i k => i = 161 ∨ i = 156 ∨ i = 157 ∨ (i = 129 ∧ (k = 42 ∨ k = 43 ∨ k = 44 ∨ k = 45 ∨ k = 46 ∨ k = 47 ∨ k = 48 ∨ k = 49))) g0 K g9 H locs → XX K 0 0 H locs 24 ls [] := by
        intro fu24
        induction fu24 with
        | zero => intro w24_3 g9 H locs ls h0; omega
        | succ fu24 ih24 =>
          intro w24_3 g9 H locs ls hm24 i24_0 i24_1 i24_2 hl hW
          have hG := i24_0
          refine q_iload_n hM dX12_doesStep_24 (lv_at hl 3 rfl) ?_
          refine q_bipush (v := (12 : Int32)) hM dX12_doesStep_25 (by decide) ?_
          refine q_icmp_ge (tgt := 56) hM dX12_doesStep_27 (by decide) (rfl : w24_3.toInt = w24_3.toInt) (kc_12 : (12 : Int32).toInt = 12) (fun h27 => ?_) (fun h27 => ?_)
          · refine q_goto (tgt := 98) hM dX12_doesStep_56 (by decide) ?_
            exact hE _ _ _ _ _ hW.1 ⟨rfl, hW.2.1, hG, hW.2.2⟩ dX12_doesStep_98
          · refine q_aload_n hM dX12_doesStep_30 (lv_at hl 0 rfl) ?_
            refine w_get (v := .ref (ad 132)) hM hW FG_X12_21 lb_129 (rf_129_11 hW.2.1) dX12_doesStep_31 ?_
            refine q_iload_n hM dX12_doesStep_34 (lv_at hl 3 rfl) ?_
            refine w_iald hM hW lb_132 (i_in (by omega) (by omega)) dX12_doesStep_35 ?_
            refine q_top (fun y6064 hy6064 => ?_)
            refine q_iload_n hM dX12_doesStep_36 (lv_at hl 2 rfl) ?_
            refine q_bipush (v := (12 : Int32)) hM dX12_doesStep_37 (by decide) ?_
            refine q_isub hM dX12_doesStep_39 (fun z6065 hz6065 => ?_)
            first | have tz6065 := i_subT hz6065 (rfl : s.toInt = s.toInt) (kc_12 : (12 : Int32).toInt = 12) (by omega) (by omega) | skip
            refine q_icmp_ne (tgt := 50) hM dX12_doesStep_40 (by decide) (rfl : y6064.toInt = y6064.toInt) (rfl : z6065.toInt = z6065.toInt) (fun h40 => ?_) (fun h40 => ?_)
            · refine q_iinc (lv9 := fun z6067 => [(3, .int z6067), (0, .ref (ad 129)), (1, .int p), (2, .int s)]) hM dX12_doesStep_50 hl (kq := 3) rfl (by decide) (fun _ => rfl) (fun z6067 ls hz6067 hl => ?_)
              first | have tz6067 := i_addT hz6067 (rfl : w24_3.toInt = w24_3.toInt) (kc_1 : (Int32.ofInt 1).toInt = 1) (by omega) (by omega) | skip
              refine q_goto (tgt := 24) hM dX12_doesStep_53 (by decide) ?_
              exact ih24 z6067 _ _ _ _ (by omega) hG (by omega) (by omega) (lv_sub hl [1, 2, 3, 0] rfl) hW
            · refine q_aload_n hM dX12_doesStep_43 (lv_at hl 0 rfl) ?_
              refine q_iload_n hM dX12_doesStep_44 (lv_at hl 1 rfl) ?_
              refine q_iload_n hM dX12_doesStep_45 (lv_at hl 3 rfl) ?_
              refine q_iconst (v := (1 : Int32)) hM dX12_doesStep_46 (by decide) ?_
              refine q_callV (As := [.int p, .int w24_3, .int (1 : Int32)]) (rest := []) hM hW.1 hR hC myX12_weakens (kAW (v_6_4 (List.mem_of_getElem? (i := 3) rfl)) rfl) (rfl : vwCl[12]? = some (RX12, TX12, 86)) rfl lb_129.1 (shO hW.2.1 lb_129) (a_X12_weakens _ _ cA ad g9 p w24_3 (1 : Int32) hW.2.1 hG (by have := kc_1; omega) (by have := kc_1; omega) (by have := kc_1; omega) (by have := kc_1; omega) (LawOK_fr hL hW.2.2 (by omega) (by omega) (by omega) (by omega) (by omega))) ⟨by decide, by decide⟩ rfl rfl hl.1 (Nat.le_of_ble_eq_true rfl) dX12_doesStep_47 (fun v g6069 H locs hp hW1 => ?_)
              obtain ⟨rfl, hs1, hG, hf1⟩ := hp
              have hW : WS ad cA (fun i k => i = 161 ∨ i = 156 ∨ i = 157 ∨ (i = 129 ∧ (k = 42 ∨ k = 43 ∨ k = 44 ∨ k = 45 ∨ k = 46 ∨ k = 47 ∨ k = 48 ∨ k = 49))) g0 K g6069 H locs := ⟨hW1, hs1, hW.2.2.tr hf1 (fun i k h => h.elim (fun h => (Or.inl h)) (fun h => h.elim (fun h => (Or.inr (Or.inl h))) (fun h => h.elim (fun h => (Or.inr (Or.inr (Or.inl h)))) (fun h => (Or.inr (Or.inr (Or.inr h)))))))⟩
              refine q_iinc (lv9 := fun z6070 => [(3, .int z6070), (0, .ref (ad 129)), (1, .int p), (2, .int s)]) hM dX12_doesStep_50 hl (kq := 3) rfl (by decide) (fun _ => rfl) (fun z6070 ls hz6070 hl => ?_)
              first | have tz6070 := i_addT hz6070 (rfl : w24_3.toInt = w24_3.toInt) (kc_1 : (Int32.ofInt 1).toInt = 1) (by omega) (by omega) | skip
              refine q_goto (tgt := 24) hM dX12_doesStep_53 (by decide) ?_
              exact ih24 z6070 _ _ _ _ (by omega) hG (by omega) (by omega) (lv_sub hl [1, 2, 3, 0] rfl) hW
      have := kc_0
      exact L24 _ (0 : Int32) _ _ _ _ (Nat.lt_succ_self _) hG (by omega) (by omega) (lv_sub hl [1, 2, 3, 0] rfl) hW
  · refine q_aload_n hM dX12_doesStep_6 (lv_at hl 0 rfl) ?_
    refine q_iload_n hM dX12_doesStep_7 (lv_at hl 1 rfl) ?_
    refine q_iload_n hM dX12_doesStep_8 (lv_at hl 2 rfl) ?_
    refine q_iconst (v := (0 : Int32)) hM dX12_doesStep_9 (by decide) ?_
    refine q_callV (As := [.int p, .int s, .int (0 : Int32)]) (rest := []) hM hW.1 hR hC myX12_weakens (kAW (v_6_4 (List.mem_of_getElem? (i := 3) rfl)) rfl) (rfl : vwCl[12]? = some (RX12, TX12, 86)) rfl lb_129.1 (shO hW.2.1 lb_129) (a_X12_weakens _ _ cA ad g0 p s (0 : Int32) hW.2.1 hG (by have := kc_0; omega) (by have := kc_0; omega) (by have := kc_0; omega) (by have := kc_0; omega) (LawOK_fr hL hW.2.2 (by omega) (by omega) (by omega) (by omega) (by omega))) ⟨by decide, by decide⟩ rfl rfl hl.1 (Nat.le_of_ble_eq_true rfl) dX12_doesStep_10 (fun v g6072 H locs hp hW1 => ?_)
    obtain ⟨rfl, hs1, hG, hf1⟩ := hp
    have hW : WS ad cA (fun i k => i = 161 ∨ i = 156 ∨ i = 157 ∨ (i = 129 ∧ (k = 42 ∨ k = 43 ∨ k = 44 ∨ k = 45 ∨ k = 46 ∨ k = 47 ∨ k = 48 ∨ k = 49))) g0 K g6072 H locs := ⟨hW1, hs1, hW.2.2.tr hf1 (fun i k h => h.elim (fun h => (Or.inl h)) (fun h => h.elim (fun h => (Or.inr (Or.inl h))) (fun h => h.elim (fun h => (Or.inr (Or.inr (Or.inl h)))) (fun h => (Or.inr (Or.inr (Or.inr h)))))))⟩
    refine q_goto (tgt := 98) hM dX12_doesStep_13 (by decide) ?_
    exact hE _ _ _ _ _ hW.1 ⟨rfl, hW.2.1, hG, hW.2.2⟩ dX12_doesStep_98

theorem dX12_doesArt_0 : decode cX12_doesArt 0 = .ok (.iconst 0, 1) := by decide +kernel
theorem dX12_doesArt_1 : decode cX12_doesArt 1 = .ok (.istore_n 3, 1) := by decide +kernel
theorem dX12_doesArt_2 : decode cX12_doesArt 2 = .ok (.iload_n 3, 1) := by decide +kernel
theorem dX12_doesArt_3 : decode cX12_doesArt 3 = .ok (.aload_n 0, 1) := by decide +kernel
theorem dX12_doesArt_4 : decode cX12_doesArt 4 = .ok (.getfield 31, 3) := by decide +kernel
theorem dX12_doesArt_7 : decode cX12_doesArt 7 = .ok (.iload_n 2, 1) := by decide +kernel
theorem dX12_doesArt_8 : decode cX12_doesArt 8 = .ok (.iaload, 1) := by decide +kernel
theorem dX12_doesArt_9 : decode cX12_doesArt 9 = .ok (.if_icmp .ge 25, 3) := by decide +kernel
theorem dX12_doesArt_12 : decode cX12_doesArt 12 = .ok (.aload_n 0, 1) := by decide +kernel
theorem dX12_doesArt_13 : decode cX12_doesArt 13 = .ok (.iload_n 1, 1) := by decide +kernel
theorem dX12_doesArt_14 : decode cX12_doesArt 14 = .ok (.aload_n 0, 1) := by decide +kernel
theorem dX12_doesArt_15 : decode cX12_doesArt 15 = .ok (.getfield 34, 3) := by decide +kernel
theorem dX12_doesArt_18 : decode cX12_doesArt 18 = .ok (.bipush 48, 2) := by decide +kernel
theorem dX12_doesArt_20 : decode cX12_doesArt 20 = .ok (.iload_n 2, 1) := by decide +kernel
theorem dX12_doesArt_21 : decode cX12_doesArt 21 = .ok (.imul, 1) := by decide +kernel
theorem dX12_doesArt_22 : decode cX12_doesArt 22 = .ok (.iload_n 3, 1) := by decide +kernel
theorem dX12_doesArt_23 : decode cX12_doesArt 23 = .ok (.iadd, 1) := by decide +kernel
theorem dX12_doesArt_24 : decode cX12_doesArt 24 = .ok (.iaload, 1) := by decide +kernel
theorem dX12_doesArt_25 : decode cX12_doesArt 25 = .ok (.invokevirtual 449, 3) := by decide +kernel
theorem dX12_doesArt_28 : decode cX12_doesArt 28 = .ok (.iinc 3 1, 3) := by decide +kernel
theorem dX12_doesArt_31 : decode cX12_doesArt 31 = .ok (.goto (-29), 3) := by decide +kernel
theorem dX12_doesArt_34 : decode cX12_doesArt 34 = .ok (.return_, 1) := by decide +kernel
theorem FG_X12_31 : FG RX12 31 12 86 14 := ⟨RX12, TX12, rfl, wX12, by decide, kAW (v_4_3 (List.mem_of_getElem? (i := 11) rfl)) rfl, rfl⟩
theorem FG_X12_34 : FG RX12 34 12 86 15 := ⟨RX12, TX12, rfl, wX12, by decide, kAW (v_4_3 (List.mem_of_getElem? (i := 12) rfl)) rfl, rfl⟩
theorem myX12_doesStep : MI yX12_doesStep cX12_doesStep 4 none 2 := ⟨kAW (v_6_4 (List.mem_of_getElem? (i := 2) rfl)) rfl, kAW (v_0_0 (List.mem_of_getElem? (i := 13) rfl)) rfl, kAW (v_6_4 (List.mem_of_getElem? (i := 1) rfl)) rfl, kAW (tp_t4 (List.mem_of_getElem? (i := 2) rfl)) rfl, by decide, by decide, by decide +kernel⟩
set_option maxRecDepth 100000 in
set_option maxHeartbeats 4000000 in
theorem a_X12_doesArt (l : Launch) (D : va_G) (cA : Nat → ClassId) (ad : Nat → Nat) (g0 : Nat → va_E) (p : Int32) (k : Int32)   (hSh : Shp ad cA g0) (hG : Rng g0) (p0 : 0 ≤ p.toInt) (p7 : p.toInt < 8) (k0 : 0 ≤ k.toInt) (k1 : k.toInt ≤ 5) (hL : LawOK g0) : CT l NN ad cA D yX12_doesArt cX12_doesArt 4 none (7, 161) [.ref (ad 129), .int p, .int k] g0 (fun v g' => v = none ∧ Shp ad cA g' ∧ Rng g' ∧ FR (fun i k => i = 161 ∨ i = 156 ∨ i = 157 ∨ (i = 129 ∧ (k = 42 ∨ k = 43 ∨ k = 44 ∨ k = 45 ∨ k = 46 ∨ k = 47 ∨ k = 48 ∨ k = 49))) g0 g') := by
  refine q_enterV (by decide) (Nat.le_of_ble_eq_true rfl) (fun K H locs ls _ _ hM hW0 hR hC hE hl => ?_)
  have hl : lv_has ls 4 [(0, .ref (ad 129)), (1, .int p), (2, .int k)] := hl
  have hW : WS ad cA (fun i k => i = 161 ∨ i = 156 ∨ i = 157 ∨ (i = 129 ∧ (k = 42 ∨ k = 43 ∨ k = 44 ∨ k = 45 ∨ k = 46 ∨ k = 47 ∨ k = 48 ∨ k = 49))) g0 K g0 H locs := ⟨hW0, hSh, FR.rf⟩
  refine q_iconst (v := (0 : Int32)) hM dX12_doesArt_0 (by decide) ?_
  refine q_istore_n (lv9 := [(3, .int (0 : Int32)), (0, .ref (ad 129)), (1, .int p), (2, .int k)]) hM dX12_doesArt_1 hl (by decide) rfl (fun ls hl => ?_)
  have L2 : ∀ (fu2 : Nat) (w2_3 : Int32) (g9 : Nat → va_E) (H : Heap) (locs : List Loc) (ls : Array Slot), (48 - w2_3.toInt).toNat < fu2 → (Rng g9) → (0 ≤ w2_3.toInt) → (w2_3.toInt ≤ 48) → lv_has ls 4 [(0, .ref (ad 129)), (1, .int p), (2, .int k), (3, .int w2_3)] → WS ad cA (fun i k => i = 161 ∨ i = 156 ∨ i = 157 ∨ (i = 129 ∧ (k = 42 ∨ k = 43 ∨ k = 44 ∨ k = 45 ∨ k = 46 ∨ k = 47 ∨ k = 48 ∨ k = 49))) g0 K g9 H locs → XX K 0 0 H locs 2 ls [] := by
    intro fu2
    induction fu2 with
    | zero => intro w2_3 g9 H locs ls h0; omega
    | succ fu2 ih2 =>
      intro w2_3 g9 H locs ls hm2 i2_0 i2_1 i2_2 hl hW
      have hG := i2_0
      refine q_iload_n hM dX12_doesArt_2 (lv_at hl 3 rfl) ?_
      refine q_aload_n hM dX12_doesArt_3 (lv_at hl 0 rfl) ?_
      refine w_get (v := .ref (ad 135)) hM hW FG_X12_31 lb_129 (rf_129_14 hW.2.1) dX12_doesArt_4 ?_
      refine q_iload_n hM dX12_doesArt_7 (lv_at hl 2 rfl) ?_
      refine w_iald hM hW lb_135 (i_in (by omega) (by omega)) dX12_doesArt_8 ?_
      refine q_top (fun y6074 hy6074 => ?_)
      have by6074 := hG.a hy6074 rA_135
      refine q_icmp_ge (tgt := 34) hM dX12_doesArt_9 (by decide) (rfl : w2_3.toInt = w2_3.toInt) (rfl : y6074.toInt = y6074.toInt) (fun h9 => ?_) (fun h9 => ?_)
      · exact hE _ _ _ _ _ hW.1 ⟨rfl, hW.2.1, hG, hW.2.2⟩ dX12_doesArt_34
      · refine q_aload_n hM dX12_doesArt_12 (lv_at hl 0 rfl) ?_
        refine q_iload_n hM dX12_doesArt_13 (lv_at hl 1 rfl) ?_
        refine q_aload_n hM dX12_doesArt_14 (lv_at hl 0 rfl) ?_
        refine w_get (v := .ref (ad 136)) hM hW FG_X12_34 lb_129 (rf_129_15 hW.2.1) dX12_doesArt_15 ?_
        refine q_bipush (v := (48 : Int32)) hM dX12_doesArt_18 (by decide) ?_
        refine q_iload_n hM dX12_doesArt_20 (lv_at hl 2 rfl) ?_
        refine q_imul hM dX12_doesArt_21 (fun z6077 hz6077 => ?_)
        first | have tz6077 := i_mulT hz6077 (kc_48 : (48 : Int32).toInt = 48) (rfl : k.toInt = k.toInt) (by omega) (by omega) | skip
        refine q_iload_n hM dX12_doesArt_22 (lv_at hl 3 rfl) ?_
        refine q_iadd hM dX12_doesArt_23 (fun z6078 hz6078 => ?_)
        first | have tz6078 := i_addT hz6078 (rfl : z6077.toInt = z6077.toInt) (rfl : w2_3.toInt = w2_3.toInt) (by omega) (by omega) | skip
        refine w_iald hM hW lb_136 (i_in (by omega) (by omega)) dX12_doesArt_24 ?_
        refine q_top (fun y6079 hy6079 => ?_)
        have by6079 := hG.a hy6079 rA_136
        refine q_callV (As := [.int p, .int y6079]) (rest := []) hM hW.1 hR hC myX12_doesStep (kAW (v_6_3 (List.mem_of_getElem? (i := 15) rfl)) rfl) (rfl : vwCl[12]? = some (RX12, TX12, 86)) rfl lb_129.1 (shO hW.2.1 lb_129) (a_X12_doesStep _ _ cA ad g9 p y6079 hW.2.1 hG (by  omega) (by  omega) (by  omega) (by  omega) (LawOK_fr hL hW.2.2 (by omega) (by omega) (by omega) (by omega) (by omega))) ⟨by decide, by decide⟩ rfl rfl hl.1 (Nat.le_of_ble_eq_true rfl) dX12_doesArt_25 (fun v g6080 H locs hp hW1 => ?_)
        obtain ⟨rfl, hs1, hG, hf1⟩ := hp
        have hW : WS ad cA (fun i k => i = 161 ∨ i = 156 ∨ i = 157 ∨ (i = 129 ∧ (k = 42 ∨ k = 43 ∨ k = 44 ∨ k = 45 ∨ k = 46 ∨ k = 47 ∨ k = 48 ∨ k = 49))) g0 K g6080 H locs := ⟨hW1, hs1, hW.2.2.tr hf1 (fun i k h => h.elim (fun h => (Or.inl h)) (fun h => h.elim (fun h => (Or.inr (Or.inl h))) (fun h => h.elim (fun h => (Or.inr (Or.inr (Or.inl h)))) (fun h => (Or.inr (Or.inr (Or.inr h)))))))⟩
        refine q_iinc (lv9 := fun z6081 => [(3, .int z6081), (0, .ref (ad 129)), (1, .int p), (2, .int k)]) hM dX12_doesArt_28 hl (kq := 3) rfl (by decide) (fun _ => rfl) (fun z6081 ls hz6081 hl => ?_)
        first | have tz6081 := i_addT hz6081 (rfl : w2_3.toInt = w2_3.toInt) (kc_1 : (Int32.ofInt 1).toInt = 1) (by omega) (by omega) | skip
        refine q_goto (tgt := 2) hM dX12_doesArt_31 (by decide) ?_
        exact ih2 z6081 _ _ _ _ (by omega) hG (by omega) (by omega) (lv_sub hl [1, 2, 3, 0] rfl) hW
  have := kc_0
  exact L2 _ (0 : Int32) _ _ _ _ (Nat.lt_succ_self _) hG (by omega) (by omega) (lv_sub hl [1, 2, 3, 0] rfl) hW

theorem dX12_recallsAll_0 : decode cX12_recallsAll 0 = .ok (.iconst 0, 1) := by decide +kernel
theorem dX12_recallsAll_1 : decode cX12_recallsAll 1 = .ok (.istore_n 2, 1) := by decide +kernel
theorem dX12_recallsAll_2 : decode cX12_recallsAll 2 = .ok (.iconst 0, 1) := by decide +kernel
theorem dX12_recallsAll_3 : decode cX12_recallsAll 3 = .ok (.istore_n 3, 1) := by decide +kernel
theorem dX12_recallsAll_4 : decode cX12_recallsAll 4 = .ok (.iload_n 3, 1) := by decide +kernel
theorem dX12_recallsAll_5 : decode cX12_recallsAll 5 = .ok (.bipush 12, 2) := by decide +kernel
theorem dX12_recallsAll_7 : decode cX12_recallsAll 7 = .ok (.if_icmp .ge 88, 3) := by decide +kernel
theorem dX12_recallsAll_10 : decode cX12_recallsAll 10 = .ok (.aload_n 0, 1) := by decide +kernel
theorem dX12_recallsAll_11 : decode cX12_recallsAll 11 = .ok (.getfield 17, 3) := by decide +kernel
theorem dX12_recallsAll_14 : decode cX12_recallsAll 14 = .ok (.iload_n 3, 1) := by decide +kernel
theorem dX12_recallsAll_15 : decode cX12_recallsAll 15 = .ok (.baload, 1) := by decide +kernel
theorem dX12_recallsAll_16 : decode cX12_recallsAll 16 = .ok (.ifCond .eq 73, 3) := by decide +kernel
theorem dX12_recallsAll_19 : decode cX12_recallsAll 19 = .ok (.aload_n 0, 1) := by decide +kernel
theorem dX12_recallsAll_20 : decode cX12_recallsAll 20 = .ok (.getfield 109, 3) := by decide +kernel
theorem dX12_recallsAll_23 : decode cX12_recallsAll 23 = .ok (.bipush 12, 2) := by decide +kernel
theorem dX12_recallsAll_25 : decode cX12_recallsAll 25 = .ok (.iload_n 1, 1) := by decide +kernel
theorem dX12_recallsAll_26 : decode cX12_recallsAll 26 = .ok (.imul, 1) := by decide +kernel
theorem dX12_recallsAll_27 : decode cX12_recallsAll 27 = .ok (.iload_n 3, 1) := by decide +kernel
theorem dX12_recallsAll_28 : decode cX12_recallsAll 28 = .ok (.iadd, 1) := by decide +kernel
theorem dX12_recallsAll_29 : decode cX12_recallsAll 29 = .ok (.iaload, 1) := by decide +kernel
theorem dX12_recallsAll_30 : decode cX12_recallsAll 30 = .ok (.ifCond .le 6, 3) := by decide +kernel
theorem dX12_recallsAll_33 : decode cX12_recallsAll 33 = .ok (.goto 56, 3) := by decide +kernel
theorem dX12_recallsAll_36 : decode cX12_recallsAll 36 = .ok (.aload_n 0, 1) := by decide +kernel
theorem dX12_recallsAll_37 : decode cX12_recallsAll 37 = .ok (.iload_n 1, 1) := by decide +kernel
theorem dX12_recallsAll_38 : decode cX12_recallsAll 38 = .ok (.iload_n 3, 1) := by decide +kernel
theorem dX12_recallsAll_39 : decode cX12_recallsAll 39 = .ok (.invokevirtual 434, 3) := by decide +kernel
theorem dX12_recallsAll_42 : decode cX12_recallsAll 42 = .ok (.aload_n 0, 1) := by decide +kernel
theorem dX12_recallsAll_43 : decode cX12_recallsAll 43 = .ok (.iload_n 1, 1) := by decide +kernel
theorem dX12_recallsAll_44 : decode cX12_recallsAll 44 = .ok (.iload_n 3, 1) := by decide +kernel
theorem dX12_recallsAll_45 : decode cX12_recallsAll 45 = .ok (.invokevirtual 458, 3) := by decide +kernel
theorem dX12_recallsAll_48 : decode cX12_recallsAll 48 = .ok (.aload_n 0, 1) := by decide +kernel
theorem dX12_recallsAll_49 : decode cX12_recallsAll 49 = .ok (.bipush 104, 2) := by decide +kernel
theorem dX12_recallsAll_51 : decode cX12_recallsAll 51 = .ok (.sipush 999, 3) := by decide +kernel
theorem dX12_recallsAll_54 : decode cX12_recallsAll 54 = .ok (.invokevirtual 440, 3) := by decide +kernel
theorem dX12_recallsAll_57 : decode cX12_recallsAll 57 = .ok (.isub, 1) := by decide +kernel
theorem dX12_recallsAll_58 : decode cX12_recallsAll 58 = .ok (.istore 4, 2) := by decide +kernel
theorem dX12_recallsAll_60 : decode cX12_recallsAll 60 = .ok (.iload 4, 2) := by decide +kernel
theorem dX12_recallsAll_62 : decode cX12_recallsAll 62 = .ok (.ifCond .gt 6, 3) := by decide +kernel
theorem dX12_recallsAll_65 : decode cX12_recallsAll 65 = .ok (.goto 24, 3) := by decide +kernel
theorem dX12_recallsAll_68 : decode cX12_recallsAll 68 = .ok (.aload_n 0, 1) := by decide +kernel
theorem dX12_recallsAll_69 : decode cX12_recallsAll 69 = .ok (.getfield 109, 3) := by decide +kernel
theorem dX12_recallsAll_72 : decode cX12_recallsAll 72 = .ok (.bipush 12, 2) := by decide +kernel
theorem dX12_recallsAll_74 : decode cX12_recallsAll 74 = .ok (.iload_n 1, 1) := by decide +kernel
theorem dX12_recallsAll_75 : decode cX12_recallsAll 75 = .ok (.imul, 1) := by decide +kernel
theorem dX12_recallsAll_76 : decode cX12_recallsAll 76 = .ok (.iload_n 3, 1) := by decide +kernel
theorem dX12_recallsAll_77 : decode cX12_recallsAll 77 = .ok (.iadd, 1) := by decide +kernel
theorem dX12_recallsAll_78 : decode cX12_recallsAll 78 = .ok (.iload 4, 2) := by decide +kernel
theorem dX12_recallsAll_80 : decode cX12_recallsAll 80 = .ok (.bipush 99, 2) := by decide +kernel
theorem dX12_recallsAll_82 : decode cX12_recallsAll 82 = .ok (.invokestatic 408, 3) := by decide +kernel
theorem dX12_recallsAll_85 : decode cX12_recallsAll 85 = .ok (.iastore, 1) := by decide +kernel
theorem dX12_recallsAll_86 : decode cX12_recallsAll 86 = .ok (.iinc 2 1, 3) := by decide +kernel
theorem dX12_recallsAll_89 : decode cX12_recallsAll 89 = .ok (.iinc 3 1, 3) := by decide +kernel
theorem dX12_recallsAll_92 : decode cX12_recallsAll 92 = .ok (.goto (-88), 3) := by decide +kernel
theorem dX12_recallsAll_95 : decode cX12_recallsAll 95 = .ok (.iload_n 2, 1) := by decide +kernel
theorem dX12_recallsAll_96 : decode cX12_recallsAll 96 = .ok (.ireturn, 1) := by decide +kernel
theorem myX12_heardOf : MI yX12_heardOf cX12_heardOf 5 (some FieldType.int) 2 := ⟨kAW (v_6_7 (List.mem_of_getElem? (i := 8) rfl)) rfl, kAW (v_0_0 (List.mem_of_getElem? (i := 13) rfl)) rfl, kAW (v_6_7 (List.mem_of_getElem? (i := 7) rfl)) rfl, kAW (tp_t4 (List.mem_of_getElem? (i := 13) rfl)) rfl, by decide, by decide, by decide +kernel⟩
set_option maxRecDepth 100000 in
set_option maxHeartbeats 4000000 in
theorem a_X12_recallsAll (l : Launch) (D : va_G) (cA : Nat → ClassId) (ad : Nat → Nat) (g0 : Nat → va_E) (p : Int32)   (hSh : Shp ad cA g0) (hG : Rng g0) (p0 : 0 ≤ p.toInt) (p7 : p.toInt < 8) (hL : LawOK g0) : CT l NN ad cA D yX12_recallsAll cX12_recallsAll 5 (some FieldType.int) (5, 114) [.ref (ad 129), .int p] g0 (fun v g' => ∃ (r : Int32), v = some (.int r) ∧ Shp ad cA g' ∧ Rng g' ∧ FR (fun i k => i = 161 ∨ i = 156 ∨ i = 157 ∨ (i = 129 ∧ (k = 42 ∨ k = 43 ∨ k = 44 ∨ k = 45 ∨ k = 46 ∨ k = 47 ∨ k = 48 ∨ k = 49))) g0 g') := by
  refine q_enterI (by decide) (Nat.le_of_ble_eq_true rfl) rfl (fun K H locs ls _ _ hM hW0 hR hC hE hl => ?_)
  have hl : lv_has ls 5 [(0, .ref (ad 129)), (1, .int p)] := hl
  have hW : WS ad cA (fun i k => i = 161 ∨ i = 156 ∨ i = 157 ∨ (i = 129 ∧ (k = 42 ∨ k = 43 ∨ k = 44 ∨ k = 45 ∨ k = 46 ∨ k = 47 ∨ k = 48 ∨ k = 49))) g0 K g0 H locs := ⟨hW0, hSh, FR.rf⟩
  refine q_iconst (v := (0 : Int32)) hM dX12_recallsAll_0 (by decide) ?_
  refine q_istore_n (lv9 := [(2, .int (0 : Int32)), (0, .ref (ad 129)), (1, .int p)]) hM dX12_recallsAll_1 hl (by decide) rfl (fun ls hl => ?_)
  refine q_iconst (v := (0 : Int32)) hM dX12_recallsAll_2 (by decide) ?_
  refine q_istore_n (lv9 := [(3, .int (0 : Int32)), (2, .int (0 : Int32)), (0, .ref (ad 129)), (1, .int p)]) hM dX12_recallsAll_3 hl (by decide) rfl (fun ls hl => ?_)
  have L4 : ∀ (fu4 : Nat) (w4_2 : Int32) (w4_3 : Int32) (g9 : Nat → va_E) (H : Heap) (locs : List Loc) (ls : Array Slot), (12 - w4_3.toInt).toNat < fu4 → (Rng g9) → (0 ≤ w4_3.toInt) → (w4_3.toInt ≤ 12) → lv_has ls 5 [(0, .ref (ad 129)), (1, .int p), (2, .int w4_2), (3, .int w4_3)] → WS ad cA (fun i k => i = 161 ∨ i = 156 ∨ i = 157 ∨ (i = 129 ∧ (k = 42 ∨ k = 43 ∨ k = 44 ∨ k = 45 ∨ k = 46 ∨ k = 47 ∨ k = 48 ∨ k = 49))) g0 K g9 H locs → XX K 0 0 H locs 4 ls [] := by
    intro fu4
    induction fu4 with
    | zero => intro w4_2 w4_3 g9 H locs ls h0; omega
    | succ fu4 ih4 =>
      intro w4_2 w4_3 g9 H locs ls hm4 i4_0 i4_1 i4_2 hl hW
      have hG := i4_0
      refine q_iload_n hM dX12_recallsAll_4 (lv_at hl 3 rfl) ?_
      refine q_bipush (v := (12 : Int32)) hM dX12_recallsAll_5 (by decide) ?_
      refine q_icmp_ge (tgt := 95) hM dX12_recallsAll_7 (by decide) (rfl : w4_3.toInt = w4_3.toInt) (kc_12 : (12 : Int32).toInt = 12) (fun h7 => ?_) (fun h7 => ?_)
      · refine q_iload_n hM dX12_recallsAll_95 (lv_at hl 2 rfl) ?_
        exact hE _ _ _ _ _ _ hW.1 ⟨_, rfl, hW.2.1, hG, hW.2.2⟩ dX12_recallsAll_96
      · refine q_aload_n hM dX12_recallsAll_10 (lv_at hl 0 rfl) ?_
        refine w_get (v := .ref (ad 131)) hM hW FG_X12_17 lb_129 (rf_129_10 hW.2.1) dX12_recallsAll_11 ?_
        refine q_iload_n hM dX12_recallsAll_14 (lv_at hl 3 rfl) ?_
        refine w_zald hM hW lb_131 (i_in (by omega) (by omega)) dX12_recallsAll_15 ?_
        refine q_top (fun y6085 hy6085 => ?_)
        refine q_if_eq (tgt := 89) hM dX12_recallsAll_16 (by decide) (rfl : y6085.toInt = y6085.toInt) (fun h16 => ?_) (fun h16 => ?_)
        · refine q_iinc (lv9 := fun z6087 => [(3, .int z6087), (0, .ref (ad 129)), (1, .int p), (2, .int w4_2)]) hM dX12_recallsAll_89 hl (kq := 3) rfl (by decide) (fun _ => rfl) (fun z6087 ls hz6087 hl => ?_)
          first | have tz6087 := i_addT hz6087 (rfl : w4_3.toInt = w4_3.toInt) (kc_1 : (Int32.ofInt 1).toInt = 1) (by omega) (by omega) | skip
          refine q_goto (tgt := 4) hM dX12_recallsAll_92 (by decide) ?_
          exact ih4 w4_2 z6087 _ _ _ _ (by omega) hG (by omega) (by omega) (lv_sub hl [1, 2, 3, 0] rfl) hW
        · refine q_aload_n hM dX12_recallsAll_19 (lv_at hl 0 rfl) ?_
          refine w_get (v := .ref (ad 161)) hM hW FG_X12_109 lb_129 (rf_129_55 hW.2.1) dX12_recallsAll_20 ?_
          refine q_bipush (v := (12 : Int32)) hM dX12_recallsAll_23 (by decide) ?_
          refine q_iload_n hM dX12_recallsAll_25 (lv_at hl 1 rfl) ?_
          refine q_imul hM dX12_recallsAll_26 (fun z6089 hz6089 => ?_)
          first | have tz6089 := i_mulT hz6089 (kc_12 : (12 : Int32).toInt = 12) (rfl : p.toInt = p.toInt) (by omega) (by omega) | skip
          refine q_iload_n hM dX12_recallsAll_27 (lv_at hl 3 rfl) ?_
          refine q_iadd hM dX12_recallsAll_28 (fun z6090 hz6090 => ?_)
          first | have tz6090 := i_addT hz6090 (rfl : z6089.toInt = z6089.toInt) (rfl : w4_3.toInt = w4_3.toInt) (by omega) (by omega) | skip
          refine w_iald hM hW lb_161 (i_in (by omega) (by omega)) dX12_recallsAll_29 ?_
          refine q_top (fun y6091 hy6091 => ?_)
          refine q_if_le (tgt := 36) hM dX12_recallsAll_30 (by decide) (rfl : y6091.toInt = y6091.toInt) (fun h30 => ?_) (fun h30 => ?_)
          · refine q_aload_n hM dX12_recallsAll_36 (lv_at hl 0 rfl) ?_
            refine q_iload_n hM dX12_recallsAll_37 (lv_at hl 1 rfl) ?_
            refine q_iload_n hM dX12_recallsAll_38 (lv_at hl 3 rfl) ?_
            refine q_callV (As := [.int p, .int w4_3]) (rest := []) hM hW.1 hR hC myX12_standsReady (kAW (v_6_4 (List.mem_of_getElem? (i := 7) rfl)) rfl) (rfl : vwCl[12]? = some (RX12, TX12, 86)) rfl lb_129.1 (shO hW.2.1 lb_129) (a_X12_standsReady _ _ cA ad g9 p w4_3 hW.2.1 hG (by  omega) (by  omega) (by  omega) (by  omega)) ⟨by decide, by decide⟩ rfl rfl hl.1 (Nat.le_of_ble_eq_true rfl) dX12_recallsAll_39 (fun v g6093 H locs hp hW1 => ?_)
            obtain ⟨rfl, hs1, hG, hf1⟩ := hp
            have hW : WS ad cA (fun i k => i = 161 ∨ i = 156 ∨ i = 157 ∨ (i = 129 ∧ (k = 42 ∨ k = 43 ∨ k = 44 ∨ k = 45 ∨ k = 46 ∨ k = 47 ∨ k = 48 ∨ k = 49))) g0 K g6093 H locs := ⟨hW1, hs1, hW.2.2.tr hf1 (fun i k h => (Or.inr (Or.inr (Or.inr h))))⟩
            refine q_aload_n hM dX12_recallsAll_42 (lv_at hl 0 rfl) ?_
            refine q_iload_n hM dX12_recallsAll_43 (lv_at hl 1 rfl) ?_
            refine q_iload_n hM dX12_recallsAll_44 (lv_at hl 3 rfl) ?_
            refine q_callV (As := [.int p, .int w4_3]) (rest := []) hM hW.1 hR hC myX12_heardOf (kAW (v_6_7 (List.mem_of_getElem? (i := 5) rfl)) rfl) (rfl : vwCl[12]? = some (RX12, TX12, 86)) rfl lb_129.1 (shO hW.2.1 lb_129) (a_X12_heardOf _ _ cA ad g6093 p w4_3 hW.2.1 hG (by  omega) (by  omega) (by  omega) (by  omega)) ⟨by decide, by decide⟩ rfl rfl hl.1 (Nat.le_of_ble_eq_true rfl) dX12_recallsAll_45 (fun v g6095 H locs hp hW1 => ?_)
            obtain ⟨r6094, rfl, hr6094, rfl⟩ := hp
            have hW : WS ad cA (fun i k => i = 161 ∨ i = 156 ∨ i = 157 ∨ (i = 129 ∧ (k = 42 ∨ k = 43 ∨ k = 44 ∨ k = 45 ∨ k = 46 ∨ k = 47 ∨ k = 48 ∨ k = 49))) g0 K g6093 H locs := ⟨hW1, hW.2.1, hW.2.2⟩
            refine q_aload_n hM dX12_recallsAll_48 (lv_at hl 0 rfl) ?_
            refine q_bipush (v := (104 : Int32)) hM dX12_recallsAll_49 (by decide) ?_
            refine q_sipush (v := (999 : Int32)) hM dX12_recallsAll_51 (by decide) ?_
            obtain ⟨x6096, fx6096⟩ : ∃ x : Int32, fld g6093 129 31 = .int x := ⟨_, shI hW.2.1 lb_129 (by decide) (by decide)⟩
            have bx6096 := hG.f fx6096 rF_129_31 (by decide)
            refine q_callV (As := [.int (104 : Int32), .int (999 : Int32)]) (rest := [.int r6094]) hM hW.1 hR hC myX12_tells (kAW (v_6_6 (List.mem_of_getElem? (i := 6) rfl)) rfl) (rfl : vwCl[12]? = some (RX12, TX12, 86)) rfl lb_129.1 (shO hW.2.1 lb_129) (a_X12_tells _ _ cA ad g6093 (104 : Int32) (999 : Int32) x6096 hW.2.1 hG fx6096 (LawOK_fr hL hW.2.2 (by omega) (by omega) (by omega) (by omega) (by omega))) ⟨by decide, by decide⟩ rfl rfl hl.1 (Nat.le_of_ble_eq_true rfl) dX12_recallsAll_54 (fun v g6098 H locs hp hW1 => ?_)
            obtain ⟨r6097, rfl, hs1, hG, hf1⟩ := hp
            have f6099 : fld g6098 129 31 = .int x6096 := (hf1.1 129 31 (by omega)).trans fx6096
            have hW : WS ad cA (fun i k => i = 161 ∨ i = 156 ∨ i = 157 ∨ (i = 129 ∧ (k = 42 ∨ k = 43 ∨ k = 44 ∨ k = 45 ∨ k = 46 ∨ k = 47 ∨ k = 48 ∨ k = 49))) g0 K g6098 H locs := ⟨hW1, hs1, hW.2.2.tr hf1 (fun i k h => h.elim (fun h => (Or.inr (Or.inl h))) (fun h => (Or.inr (Or.inr (Or.inl h)))))⟩
            refine q_isub hM dX12_recallsAll_57 (fun z6100 hz6100 => ?_)
            first | have tz6100 := i_subT hz6100 (rfl : r6094.toInt = r6094.toInt) (rfl : r6097.toInt = r6097.toInt) (by omega) (by omega) | skip
            refine q_istore (lv9 := [(4, .int z6100), (0, .ref (ad 129)), (1, .int p), (2, .int w4_2), (3, .int w4_3)]) hM dX12_recallsAll_58 hl (by decide) rfl (fun ls hl => ?_)
            refine q_iload hM dX12_recallsAll_60 (lv_at hl 0 rfl) ?_
            refine q_if_gt (tgt := 68) hM dX12_recallsAll_62 (by decide) (rfl : z6100.toInt = z6100.toInt) (fun h62 => ?_) (fun h62 => ?_)
            · refine q_aload_n hM dX12_recallsAll_68 (lv_at hl 1 rfl) ?_
              refine w_get (v := .ref (ad 161)) hM hW FG_X12_109 lb_129 (rf_129_55 hW.2.1) dX12_recallsAll_69 ?_
              refine q_bipush (v := (12 : Int32)) hM dX12_recallsAll_72 (by decide) ?_
              refine q_iload_n hM dX12_recallsAll_74 (lv_at hl 2 rfl) ?_
              refine q_imul hM dX12_recallsAll_75 (fun z6102 hz6102 => ?_)
              first | have tz6102 := i_mulT hz6102 (kc_12 : (12 : Int32).toInt = 12) (rfl : p.toInt = p.toInt) (by omega) (by omega) | skip
              refine q_iload_n hM dX12_recallsAll_76 (lv_at hl 4 rfl) ?_
              refine q_iadd hM dX12_recallsAll_77 (fun z6103 hz6103 => ?_)
              first | have tz6103 := i_addT hz6103 (rfl : z6102.toInt = z6102.toInt) (rfl : w4_3.toInt = w4_3.toInt) (by omega) (by omega) | skip
              refine q_iload hM dX12_recallsAll_78 (lv_at hl 0 rfl) ?_
              refine q_bipush (v := (99 : Int32)) hM dX12_recallsAll_80 (by decide) ?_
              refine q_callS (As := [.int z6100, .int (99 : Int32)]) (rest := [.int z6103, .ref (ad 161)]) hM hW.1 hR hC myX12_held (kAW (v_6_6 (List.mem_of_getElem? (i := 10) rfl)) rfl) (a_X12_held _ _ cA ad g6098 z6100 (99 : Int32) hW.2.1 hG) ⟨by decide, by decide⟩ rfl rfl hl.1 (Nat.le_of_ble_eq_true rfl) dX12_recallsAll_82 (fun v g6105 H locs hp hW1 => ?_)
              obtain ⟨r6104, rfl, hr6104, rfl⟩ := hp
              have hW : WS ad cA (fun i k => i = 161 ∨ i = 156 ∨ i = 157 ∨ (i = 129 ∧ (k = 42 ∨ k = 43 ∨ k = 44 ∨ k = 45 ∨ k = 46 ∨ k = 47 ∨ k = 48 ∨ k = 49))) g0 K g6098 H locs := ⟨hW1, hW.2.1, hW.2.2⟩
              refine w_iast hM hW lb_161 (by omega) (i_in (by omega) (by omega)) dX12_recallsAll_85 (fun g6106 H locs hW e1 e2 => ?_)
              have f6107 : fld g6106 129 31 = .int x6096 := (e2.1 129 31 (by unfold Only; omega)).trans f6099
              have hG := hG.st e1 e2 (rfl : rA 161 = (-2147483648, 2147483647)) (by have := i_rng r6104; omega) (by have := i_rng r6104; omega)
              refine q_iinc (lv9 := fun z6108 => [(2, .int z6108), (4, .int z6100), (0, .ref (ad 129)), (1, .int p), (3, .int w4_3)]) hM dX12_recallsAll_86 hl (kq := 3) rfl (by decide) (fun _ => rfl) (fun z6108 ls hz6108 hl => ?_)
              first | have tz6108 := i_addT hz6108 (rfl : w4_2.toInt = w4_2.toInt) (kc_1 : (Int32.ofInt 1).toInt = 1) (by omega) (by omega) | skip
              refine q_iinc (lv9 := fun z6109 => [(3, .int z6109), (2, .int z6108), (4, .int z6100), (0, .ref (ad 129)), (1, .int p)]) hM dX12_recallsAll_89 hl (kq := 4) rfl (by decide) (fun _ => rfl) (fun z6109 ls hz6109 hl => ?_)
              first | have tz6109 := i_addT hz6109 (rfl : w4_3.toInt = w4_3.toInt) (kc_1 : (Int32.ofInt 1).toInt = 1) (by omega) (by omega) | skip
              refine q_goto (tgt := 4) hM dX12_recallsAll_92 (by decide) ?_
              exact ih4 z6108 z6109 _ _ _ _ (by omega) hG (by omega) (by omega) (lv_sub hl [3, 4, 1, 0] rfl) hW
            · refine q_goto (tgt := 89) hM dX12_recallsAll_65 (by decide) ?_
              refine q_iinc (lv9 := fun z6111 => [(3, .int z6111), (4, .int z6100), (0, .ref (ad 129)), (1, .int p), (2, .int w4_2)]) hM dX12_recallsAll_89 hl (kq := 4) rfl (by decide) (fun _ => rfl) (fun z6111 ls hz6111 hl => ?_)
              first | have tz6111 := i_addT hz6111 (rfl : w4_3.toInt = w4_3.toInt) (kc_1 : (Int32.ofInt 1).toInt = 1) (by omega) (by omega) | skip
              refine q_goto (tgt := 4) hM dX12_recallsAll_92 (by decide) ?_
              exact ih4 w4_2 z6111 _ _ _ _ (by omega) hG (by omega) (by omega) (lv_sub hl [2, 3, 4, 0] rfl) hW
          · refine q_goto (tgt := 89) hM dX12_recallsAll_33 (by decide) ?_
            refine q_iinc (lv9 := fun z6113 => [(3, .int z6113), (0, .ref (ad 129)), (1, .int p), (2, .int w4_2)]) hM dX12_recallsAll_89 hl (kq := 3) rfl (by decide) (fun _ => rfl) (fun z6113 ls hz6113 hl => ?_)
            first | have tz6113 := i_addT hz6113 (rfl : w4_3.toInt = w4_3.toInt) (kc_1 : (Int32.ofInt 1).toInt = 1) (by omega) (by omega) | skip
            refine q_goto (tgt := 4) hM dX12_recallsAll_92 (by decide) ?_
            exact ih4 w4_2 z6113 _ _ _ _ (by omega) hG (by omega) (by omega) (lv_sub hl [1, 2, 3, 0] rfl) hW
  have := kc_0
  have := kc_0
  exact L4 _ (0 : Int32) (0 : Int32) _ _ _ _ (Nat.lt_succ_self _) hG (by omega) (by omega) (lv_sub hl [2, 3, 1, 0] rfl) hW

theorem dX12_rests_0 : decode cX12_rests 0 = .ok (.iconst 0, 1) := by decide +kernel
theorem dX12_rests_1 : decode cX12_rests 1 = .ok (.istore_n 2, 1) := by decide +kernel
theorem dX12_rests_2 : decode cX12_rests 2 = .ok (.iload_n 2, 1) := by decide +kernel
theorem dX12_rests_3 : decode cX12_rests 3 = .ok (.bipush 12, 2) := by decide +kernel
theorem dX12_rests_5 : decode cX12_rests 5 = .ok (.if_icmp .ge 77, 3) := by decide +kernel
theorem dX12_rests_8 : decode cX12_rests 8 = .ok (.aload_n 0, 1) := by decide +kernel
theorem dX12_rests_9 : decode cX12_rests 9 = .ok (.getfield 17, 3) := by decide +kernel
theorem dX12_rests_12 : decode cX12_rests 12 = .ok (.iload_n 2, 1) := by decide +kernel
theorem dX12_rests_13 : decode cX12_rests 13 = .ok (.baload, 1) := by decide +kernel
theorem dX12_rests_14 : decode cX12_rests 14 = .ok (.ifCond .eq 62, 3) := by decide +kernel
theorem dX12_rests_17 : decode cX12_rests 17 = .ok (.aload_n 0, 1) := by decide +kernel
theorem dX12_rests_18 : decode cX12_rests 18 = .ok (.getfield 109, 3) := by decide +kernel
theorem dX12_rests_21 : decode cX12_rests 21 = .ok (.bipush 12, 2) := by decide +kernel
theorem dX12_rests_23 : decode cX12_rests 23 = .ok (.iload_n 1, 1) := by decide +kernel
theorem dX12_rests_24 : decode cX12_rests 24 = .ok (.imul, 1) := by decide +kernel
theorem dX12_rests_25 : decode cX12_rests 25 = .ok (.iload_n 2, 1) := by decide +kernel
theorem dX12_rests_26 : decode cX12_rests 26 = .ok (.iadd, 1) := by decide +kernel
theorem dX12_rests_27 : decode cX12_rests 27 = .ok (.iaload, 1) := by decide +kernel
theorem dX12_rests_28 : decode cX12_rests 28 = .ok (.ifCond .ne 6, 3) := by decide +kernel
theorem dX12_rests_31 : decode cX12_rests 31 = .ok (.goto 45, 3) := by decide +kernel
theorem dX12_rests_34 : decode cX12_rests 34 = .ok (.aload_n 0, 1) := by decide +kernel
theorem dX12_rests_35 : decode cX12_rests 35 = .ok (.iload_n 1, 1) := by decide +kernel
theorem dX12_rests_36 : decode cX12_rests 36 = .ok (.iload_n 2, 1) := by decide +kernel
theorem dX12_rests_37 : decode cX12_rests 37 = .ok (.invokevirtual 434, 3) := by decide +kernel
theorem dX12_rests_40 : decode cX12_rests 40 = .ok (.aload_n 0, 1) := by decide +kernel
theorem dX12_rests_41 : decode cX12_rests 41 = .ok (.getfield 109, 3) := by decide +kernel
theorem dX12_rests_44 : decode cX12_rests 44 = .ok (.bipush 12, 2) := by decide +kernel
theorem dX12_rests_46 : decode cX12_rests 46 = .ok (.iload_n 1, 1) := by decide +kernel
theorem dX12_rests_47 : decode cX12_rests 47 = .ok (.imul, 1) := by decide +kernel
theorem dX12_rests_48 : decode cX12_rests 48 = .ok (.iload_n 2, 1) := by decide +kernel
theorem dX12_rests_49 : decode cX12_rests 49 = .ok (.iadd, 1) := by decide +kernel
theorem dX12_rests_50 : decode cX12_rests 50 = .ok (.aload_n 0, 1) := by decide +kernel
theorem dX12_rests_51 : decode cX12_rests 51 = .ok (.getfield 109, 3) := by decide +kernel
theorem dX12_rests_54 : decode cX12_rests 54 = .ok (.bipush 12, 2) := by decide +kernel
theorem dX12_rests_56 : decode cX12_rests 56 = .ok (.iload_n 1, 1) := by decide +kernel
theorem dX12_rests_57 : decode cX12_rests 57 = .ok (.imul, 1) := by decide +kernel
theorem dX12_rests_58 : decode cX12_rests 58 = .ok (.iload_n 2, 1) := by decide +kernel
theorem dX12_rests_59 : decode cX12_rests 59 = .ok (.iadd, 1) := by decide +kernel
theorem dX12_rests_60 : decode cX12_rests 60 = .ok (.iaload, 1) := by decide +kernel
theorem dX12_rests_61 : decode cX12_rests 61 = .ok (.aload_n 0, 1) := by decide +kernel
theorem dX12_rests_62 : decode cX12_rests 62 = .ok (.bipush 114, 2) := by decide +kernel
theorem dX12_rests_64 : decode cX12_rests 64 = .ok (.bipush 20, 2) := by decide +kernel
theorem dX12_rests_66 : decode cX12_rests 66 = .ok (.invokevirtual 440, 3) := by decide +kernel
theorem dX12_rests_69 : decode cX12_rests 69 = .ok (.iadd, 1) := by decide +kernel
theorem dX12_rests_70 : decode cX12_rests 70 = .ok (.bipush 99, 2) := by decide +kernel
theorem dX12_rests_72 : decode cX12_rests 72 = .ok (.invokestatic 408, 3) := by decide +kernel
theorem dX12_rests_75 : decode cX12_rests 75 = .ok (.iastore, 1) := by decide +kernel
theorem dX12_rests_76 : decode cX12_rests 76 = .ok (.iinc 2 1, 3) := by decide +kernel
theorem dX12_rests_79 : decode cX12_rests 79 = .ok (.goto (-77), 3) := by decide +kernel
theorem dX12_rests_82 : decode cX12_rests 82 = .ok (.return_, 1) := by decide +kernel
set_option maxRecDepth 100000 in
set_option maxHeartbeats 4000000 in
theorem a_X12_rests (l : Launch) (D : va_G) (cA : Nat → ClassId) (ad : Nat → Nat) (g0 : Nat → va_E) (p : Int32)   (hSh : Shp ad cA g0) (hG : Rng g0) (p0 : 0 ≤ p.toInt) (p7 : p.toInt < 8) (hL : LawOK g0) : CT l NN ad cA D yX12_rests cX12_rests 3 none (5, 114) [.ref (ad 129), .int p] g0 (fun v g' => v = none ∧ Shp ad cA g' ∧ Rng g' ∧ FR (fun i k => i = 161 ∨ i = 156 ∨ i = 157 ∨ (i = 129 ∧ (k = 42 ∨ k = 43 ∨ k = 44 ∨ k = 45 ∨ k = 46 ∨ k = 47 ∨ k = 48 ∨ k = 49))) g0 g') := by
  refine q_enterV (by decide) (Nat.le_of_ble_eq_true rfl) (fun K H locs ls _ _ hM hW0 hR hC hE hl => ?_)
  have hl : lv_has ls 3 [(0, .ref (ad 129)), (1, .int p)] := hl
  have hW : WS ad cA (fun i k => i = 161 ∨ i = 156 ∨ i = 157 ∨ (i = 129 ∧ (k = 42 ∨ k = 43 ∨ k = 44 ∨ k = 45 ∨ k = 46 ∨ k = 47 ∨ k = 48 ∨ k = 49))) g0 K g0 H locs := ⟨hW0, hSh, FR.rf⟩
  refine q_iconst (v := (0 : Int32)) hM dX12_rests_0 (by decide) ?_
  refine q_istore_n (lv9 := [(2, .int (0 : Int32)), (0, .ref (ad 129)), (1, .int p)]) hM dX12_rests_1 hl (by decide) rfl (fun ls hl => ?_)
  have L2 : ∀ (fu2 : Nat) (w2_2 : Int32) (g9 : Nat → va_E) (H : Heap) (locs : List Loc) (ls : Array Slot), (12 - w2_2.toInt).toNat < fu2 → (Rng g9) → (0 ≤ w2_2.toInt) → (w2_2.toInt ≤ 12) → lv_has ls 3 [(0, .ref (ad 129)), (1, .int p), (2, .int w2_2)] → WS ad cA (fun i k => i = 161 ∨ i = 156 ∨ i = 157 ∨ (i = 129 ∧ (k = 42 ∨ k = 43 ∨ k = 44 ∨ k = 45 ∨ k = 46 ∨ k = 47 ∨ k = 48 ∨ k = 49))) g0 K g9 H locs → XX K 0 0 H locs 2 ls [] := by
    intro fu2
    induction fu2 with
    | zero => intro w2_2 g9 H locs ls h0; omega
    | succ fu2 ih2 =>
      intro w2_2 g9 H locs ls hm2 i2_0 i2_1 i2_2 hl hW
      have hG := i2_0
      refine q_iload_n hM dX12_rests_2 (lv_at hl 2 rfl) ?_
      refine q_bipush (v := (12 : Int32)) hM dX12_rests_3 (by decide) ?_
      refine q_icmp_ge (tgt := 82) hM dX12_rests_5 (by decide) (rfl : w2_2.toInt = w2_2.toInt) (kc_12 : (12 : Int32).toInt = 12) (fun h5 => ?_) (fun h5 => ?_)
      · exact hE _ _ _ _ _ hW.1 ⟨rfl, hW.2.1, hG, hW.2.2⟩ dX12_rests_82
      · refine q_aload_n hM dX12_rests_8 (lv_at hl 0 rfl) ?_
        refine w_get (v := .ref (ad 131)) hM hW FG_X12_17 lb_129 (rf_129_10 hW.2.1) dX12_rests_9 ?_
        refine q_iload_n hM dX12_rests_12 (lv_at hl 2 rfl) ?_
        refine w_zald hM hW lb_131 (i_in (by omega) (by omega)) dX12_rests_13 ?_
        refine q_top (fun y6117 hy6117 => ?_)
        refine q_if_eq (tgt := 76) hM dX12_rests_14 (by decide) (rfl : y6117.toInt = y6117.toInt) (fun h14 => ?_) (fun h14 => ?_)
        · refine q_iinc (lv9 := fun z6119 => [(2, .int z6119), (0, .ref (ad 129)), (1, .int p)]) hM dX12_rests_76 hl (kq := 2) rfl (by decide) (fun _ => rfl) (fun z6119 ls hz6119 hl => ?_)
          first | have tz6119 := i_addT hz6119 (rfl : w2_2.toInt = w2_2.toInt) (kc_1 : (Int32.ofInt 1).toInt = 1) (by omega) (by omega) | skip
          refine q_goto (tgt := 2) hM dX12_rests_79 (by decide) ?_
          exact ih2 z6119 _ _ _ _ (by omega) hG (by omega) (by omega) (lv_sub hl [1, 2, 0] rfl) hW
        · refine q_aload_n hM dX12_rests_17 (lv_at hl 0 rfl) ?_
          refine w_get (v := .ref (ad 161)) hM hW FG_X12_109 lb_129 (rf_129_55 hW.2.1) dX12_rests_18 ?_
          refine q_bipush (v := (12 : Int32)) hM dX12_rests_21 (by decide) ?_
          refine q_iload_n hM dX12_rests_23 (lv_at hl 1 rfl) ?_
          refine q_imul hM dX12_rests_24 (fun z6121 hz6121 => ?_)
          first | have tz6121 := i_mulT hz6121 (kc_12 : (12 : Int32).toInt = 12) (rfl : p.toInt = p.toInt) (by omega) (by omega) | skip
          refine q_iload_n hM dX12_rests_25 (lv_at hl 2 rfl) ?_
          refine q_iadd hM dX12_rests_26 (fun z6122 hz6122 => ?_)
          first | have tz6122 := i_addT hz6122 (rfl : z6121.toInt = z6121.toInt) (rfl : w2_2.toInt = w2_2.toInt) (by omega) (by omega) | skip
          refine w_iald hM hW lb_161 (i_in (by omega) (by omega)) dX12_rests_27 ?_
          refine q_top (fun y6123 hy6123 => ?_)
          refine q_if_ne (tgt := 34) hM dX12_rests_28 (by decide) (rfl : y6123.toInt = y6123.toInt) (fun h28 => ?_) (fun h28 => ?_)
          · refine q_aload_n hM dX12_rests_34 (lv_at hl 0 rfl) ?_
            refine q_iload_n hM dX12_rests_35 (lv_at hl 1 rfl) ?_
            refine q_iload_n hM dX12_rests_36 (lv_at hl 2 rfl) ?_
            refine q_callV (As := [.int p, .int w2_2]) (rest := []) hM hW.1 hR hC myX12_standsReady (kAW (v_6_4 (List.mem_of_getElem? (i := 7) rfl)) rfl) (rfl : vwCl[12]? = some (RX12, TX12, 86)) rfl lb_129.1 (shO hW.2.1 lb_129) (a_X12_standsReady _ _ cA ad g9 p w2_2 hW.2.1 hG (by  omega) (by  omega) (by  omega) (by  omega)) ⟨by decide, by decide⟩ rfl rfl hl.1 (Nat.le_of_ble_eq_true rfl) dX12_rests_37 (fun v g6125 H locs hp hW1 => ?_)
            obtain ⟨rfl, hs1, hG, hf1⟩ := hp
            have hW : WS ad cA (fun i k => i = 161 ∨ i = 156 ∨ i = 157 ∨ (i = 129 ∧ (k = 42 ∨ k = 43 ∨ k = 44 ∨ k = 45 ∨ k = 46 ∨ k = 47 ∨ k = 48 ∨ k = 49))) g0 K g6125 H locs := ⟨hW1, hs1, hW.2.2.tr hf1 (fun i k h => (Or.inr (Or.inr (Or.inr h))))⟩
            refine q_aload_n hM dX12_rests_40 (lv_at hl 0 rfl) ?_
            refine w_get (v := .ref (ad 161)) hM hW FG_X12_109 lb_129 (rf_129_55 hW.2.1) dX12_rests_41 ?_
            refine q_bipush (v := (12 : Int32)) hM dX12_rests_44 (by decide) ?_
            refine q_iload_n hM dX12_rests_46 (lv_at hl 1 rfl) ?_
            refine q_imul hM dX12_rests_47 (fun z6126 hz6126 => ?_)
            first | have tz6126 := i_mulT hz6126 (kc_12 : (12 : Int32).toInt = 12) (rfl : p.toInt = p.toInt) (by omega) (by omega) | skip
            refine q_iload_n hM dX12_rests_48 (lv_at hl 2 rfl) ?_
            refine q_iadd hM dX12_rests_49 (fun z6127 hz6127 => ?_)
            first | have tz6127 := i_addT hz6127 (rfl : z6126.toInt = z6126.toInt) (rfl : w2_2.toInt = w2_2.toInt) (by omega) (by omega) | skip
            refine q_aload_n hM dX12_rests_50 (lv_at hl 0 rfl) ?_
            refine w_get (v := .ref (ad 161)) hM hW FG_X12_109 lb_129 (rf_129_55 hW.2.1) dX12_rests_51 ?_
            refine q_bipush (v := (12 : Int32)) hM dX12_rests_54 (by decide) ?_
            refine q_iload_n hM dX12_rests_56 (lv_at hl 1 rfl) ?_
            refine q_imul hM dX12_rests_57 (fun z6128 hz6128 => ?_)
            first | have tz6128 := i_mulT hz6128 (kc_12 : (12 : Int32).toInt = 12) (rfl : p.toInt = p.toInt) (by omega) (by omega) | skip
            refine q_iload_n hM dX12_rests_58 (lv_at hl 2 rfl) ?_
            refine q_iadd hM dX12_rests_59 (fun z6129 hz6129 => ?_)
            first | have tz6129 := i_addT hz6129 (rfl : z6128.toInt = z6128.toInt) (rfl : w2_2.toInt = w2_2.toInt) (by omega) (by omega) | skip
            refine w_iald hM hW lb_161 (i_in (by omega) (by omega)) dX12_rests_60 ?_
            refine q_top (fun y6130 hy6130 => ?_)
            refine q_aload_n hM dX12_rests_61 (lv_at hl 0 rfl) ?_
            refine q_bipush (v := (114 : Int32)) hM dX12_rests_62 (by decide) ?_
            refine q_bipush (v := (20 : Int32)) hM dX12_rests_64 (by decide) ?_
            obtain ⟨x6131, fx6131⟩ : ∃ x : Int32, fld g6125 129 31 = .int x := ⟨_, shI hW.2.1 lb_129 (by decide) (by decide)⟩
            have bx6131 := hG.f fx6131 rF_129_31 (by decide)
            refine q_callV (As := [.int (114 : Int32), .int (20 : Int32)]) (rest := [.int y6130, .int z6127, .ref (ad 161)]) hM hW.1 hR hC myX12_tells (kAW (v_6_6 (List.mem_of_getElem? (i := 6) rfl)) rfl) (rfl : vwCl[12]? = some (RX12, TX12, 86)) rfl lb_129.1 (shO hW.2.1 lb_129) (a_X12_tells _ _ cA ad g6125 (114 : Int32) (20 : Int32) x6131 hW.2.1 hG fx6131 (LawOK_fr hL hW.2.2 (by omega) (by omega) (by omega) (by omega) (by omega))) ⟨by decide, by decide⟩ rfl rfl hl.1 (Nat.le_of_ble_eq_true rfl) dX12_rests_66 (fun v g6133 H locs hp hW1 => ?_)
            obtain ⟨r6132, rfl, hs1, hG, hf1⟩ := hp
            have f6134 : fld g6133 129 31 = .int x6131 := (hf1.1 129 31 (by omega)).trans fx6131
            have hW : WS ad cA (fun i k => i = 161 ∨ i = 156 ∨ i = 157 ∨ (i = 129 ∧ (k = 42 ∨ k = 43 ∨ k = 44 ∨ k = 45 ∨ k = 46 ∨ k = 47 ∨ k = 48 ∨ k = 49))) g0 K g6133 H locs := ⟨hW1, hs1, hW.2.2.tr hf1 (fun i k h => h.elim (fun h => (Or.inr (Or.inl h))) (fun h => (Or.inr (Or.inr (Or.inl h)))))⟩
            refine q_iadd hM dX12_rests_69 (fun z6135 hz6135 => ?_)
            first | have tz6135 := i_addT hz6135 (rfl : y6130.toInt = y6130.toInt) (rfl : r6132.toInt = r6132.toInt) (by omega) (by omega) | skip
            refine q_bipush (v := (99 : Int32)) hM dX12_rests_70 (by decide) ?_
            refine q_callS (As := [.int z6135, .int (99 : Int32)]) (rest := [.int z6127, .ref (ad 161)]) hM hW.1 hR hC myX12_held (kAW (v_6_6 (List.mem_of_getElem? (i := 10) rfl)) rfl) (a_X12_held _ _ cA ad g6133 z6135 (99 : Int32) hW.2.1 hG) ⟨by decide, by decide⟩ rfl rfl hl.1 (Nat.le_of_ble_eq_true rfl) dX12_rests_72 (fun v g6137 H locs hp hW1 => ?_)
            obtain ⟨r6136, rfl, hr6136, rfl⟩ := hp
            have hW : WS ad cA (fun i k => i = 161 ∨ i = 156 ∨ i = 157 ∨ (i = 129 ∧ (k = 42 ∨ k = 43 ∨ k = 44 ∨ k = 45 ∨ k = 46 ∨ k = 47 ∨ k = 48 ∨ k = 49))) g0 K g6133 H locs := ⟨hW1, hW.2.1, hW.2.2⟩
            refine w_iast hM hW lb_161 (by omega) (i_in (by omega) (by omega)) dX12_rests_75 (fun g6138 H locs hW e1 e2 => ?_)
            have f6139 : fld g6138 129 31 = .int x6131 := (e2.1 129 31 (by unfold Only; omega)).trans f6134
            have hG := hG.st e1 e2 (rfl : rA 161 = (-2147483648, 2147483647)) (by have := i_rng r6136; omega) (by have := i_rng r6136; omega)
            refine q_iinc (lv9 := fun z6140 => [(2, .int z6140), (0, .ref (ad 129)), (1, .int p)]) hM dX12_rests_76 hl (kq := 2) rfl (by decide) (fun _ => rfl) (fun z6140 ls hz6140 hl => ?_)
            first | have tz6140 := i_addT hz6140 (rfl : w2_2.toInt = w2_2.toInt) (kc_1 : (Int32.ofInt 1).toInt = 1) (by omega) (by omega) | skip
            refine q_goto (tgt := 2) hM dX12_rests_79 (by decide) ?_
            exact ih2 z6140 _ _ _ _ (by omega) hG (by omega) (by omega) (lv_sub hl [1, 2, 0] rfl) hW
          · refine q_goto (tgt := 76) hM dX12_rests_31 (by decide) ?_
            refine q_iinc (lv9 := fun z6142 => [(2, .int z6142), (0, .ref (ad 129)), (1, .int p)]) hM dX12_rests_76 hl (kq := 2) rfl (by decide) (fun _ => rfl) (fun z6142 ls hz6142 hl => ?_)
            first | have tz6142 := i_addT hz6142 (rfl : w2_2.toInt = w2_2.toInt) (kc_1 : (Int32.ofInt 1).toInt = 1) (by omega) (by omega) | skip
            refine q_goto (tgt := 2) hM dX12_rests_79 (by decide) ?_
            exact ih2 z6142 _ _ _ _ (by omega) hG (by omega) (by omega) (lv_sub hl [1, 2, 0] rfl) hW
  have := kc_0
  exact L2 _ (0 : Int32) _ _ _ _ (Nat.lt_succ_self _) hG (by omega) (by omega) (lv_sub hl [1, 2, 0] rfl) hW

theorem dX12_draw_0 : decode cX12_draw 0 = .ok (.aload_n 0, 1) := by decide +kernel
theorem dX12_draw_1 : decode cX12_draw 1 = .ok (.sipush 25173, 3) := by decide +kernel
theorem dX12_draw_4 : decode cX12_draw 4 = .ok (.aload_n 0, 1) := by decide +kernel
theorem dX12_draw_5 : decode cX12_draw 5 = .ok (.getfield 13, 3) := by decide +kernel
theorem dX12_draw_8 : decode cX12_draw 8 = .ok (.imul, 1) := by decide +kernel
theorem dX12_draw_9 : decode cX12_draw 9 = .ok (.sipush 13849, 3) := by decide +kernel
theorem dX12_draw_12 : decode cX12_draw 12 = .ok (.iadd, 1) := by decide +kernel
theorem dX12_draw_13 : decode cX12_draw 13 = .ok (.ldc_w 461, 3) := by decide +kernel
theorem dX12_draw_16 : decode cX12_draw 16 = .ok (.irem, 1) := by decide +kernel
theorem dX12_draw_17 : decode cX12_draw 17 = .ok (.putfield 13, 3) := by decide +kernel
theorem dX12_draw_20 : decode cX12_draw 20 = .ok (.aload_n 0, 1) := by decide +kernel
theorem dX12_draw_21 : decode cX12_draw 21 = .ok (.getfield 13, 3) := by decide +kernel
theorem dX12_draw_24 : decode cX12_draw 24 = .ok (.bipush 10, 2) := by decide +kernel
theorem dX12_draw_26 : decode cX12_draw 26 = .ok (.irem, 1) := by decide +kernel
theorem dX12_draw_27 : decode cX12_draw 27 = .ok (.ireturn, 1) := by decide +kernel
theorem FG_X12_13 : FG RX12 13 12 86 2 := ⟨RX12, TX12, rfl, wX12, by decide, kAW (v_4_2 (List.mem_of_getElem? (i := 15) rfl)) rfl, rfl⟩
theorem FP_X12_13 : FPX RX12 13 12 86 2 .int := ⟨⟨RX12, TX12, tyX12, rfl, wX12, by decide, kAW (v_4_2 (List.mem_of_getElem? (i := 15) rfl)) rfl, rfl, tyX12_ok, nmX12, by decide +kernel, rfl⟩, by decide +kernel⟩
set_option maxRecDepth 100000 in
set_option maxHeartbeats 4000000 in
theorem a_X12_draw (l : Launch) (D : va_G) (cA : Nat → ClassId) (ad : Nat → Nat) (g0 : Nat → va_E)    (hSh : Shp ad cA g0) (hG : Rng g0) : CT l NN ad cA D yX12_draw cX12_draw 1 (some FieldType.int) (0, 0) [.ref (ad 129)] g0 (fun v g' => ∃ (r : Int32), v = some (.int r) ∧ Shp ad cA g' ∧ Rng g' ∧ FR (fun i k => (i = 129 ∧ (k = 2))) g0 g') := by
  refine q_enterI (by decide) (Nat.le_of_ble_eq_true rfl) rfl (fun K H locs ls _ _ hM hW0 hR hC hE hl => ?_)
  have hl : lv_has ls 1 [(0, .ref (ad 129))] := hl
  have hW : WS ad cA (fun i k => (i = 129 ∧ (k = 2))) g0 K g0 H locs := ⟨hW0, hSh, FR.rf⟩
  refine q_aload_n hM dX12_draw_0 (lv_at hl 0 rfl) ?_
  refine q_sipush (v := (25173 : Int32)) hM dX12_draw_1 (by decide) ?_
  refine q_aload_n hM dX12_draw_4 (lv_at hl 0 rfl) ?_
  refine w_getI hM hW FG_X12_13 lb_129 (by decide) (by decide) dX12_draw_5 (fun x6143 fx6143 => ?_)
  refine q_imul hM dX12_draw_8 (fun z6144 hz6144 => ?_)
  first | have tz6144 := i_mulT hz6144 (kc_25173 : (25173 : Int32).toInt = 25173) (rfl : x6143.toInt = x6143.toInt) (by omega) (by omega) | skip
  refine q_sipush (v := (13849 : Int32)) hM dX12_draw_9 (by decide) ?_
  refine q_iadd hM dX12_draw_12 (fun z6145 hz6145 => ?_)
  first | have tz6145 := i_addT hz6145 (rfl : z6144.toInt = z6144.toInt) (kc_13849 : (13849 : Int32).toInt = 13849) (by omega) (by omega) | skip
  refine q_ldcw (v := (65536 : Int32)) hM (kAW (v_6_9 (List.mem_of_getElem? (i := 5) rfl)) rfl) dX12_draw_13 ?_
  refine q_irem hM (by decide) dX12_draw_16 (fun z6146 hz6146 => ?_)
  first | have tz6146 := i_remT hz6146 (rfl : z6145.toInt = z6145.toInt) (kc_65536 : (65536 : Int32).toInt = 65536) (by omega) (by omega) | skip
  refine w_put hM hW FP_X12_13 lb_129 (by omega) (Or.inl ⟨_, rfl⟩) rfl rfl dX12_draw_17 (fun g6147 H locs hW e1 e2 => ?_)
  have f6148 : fld g6147 129 2 = .int z6146 := e1
  have hG := hG.put e1 e2 (rfl : rF 129 2 = (-2147483648, 2147483647)) (by decide) (by have := i_rng z6146; omega) (by have := i_rng z6146; omega)
  refine q_aload_n hM dX12_draw_20 (lv_at hl 0 rfl) ?_
  refine w_get (v := .int z6146) hM hW FG_X12_13 lb_129 f6148 dX12_draw_21 ?_
  refine q_bipush (v := (10 : Int32)) hM dX12_draw_24 (by decide) ?_
  refine q_irem hM (by decide) dX12_draw_26 (fun z6149 hz6149 => ?_)
  first | have tz6149 := i_remT hz6149 (rfl : z6146.toInt = z6146.toInt) (kc_10 : (10 : Int32).toInt = 10) (by omega) (by omega) | skip
  exact hE _ _ _ _ _ _ hW.1 ⟨_, rfl, hW.2.1, hG, hW.2.2⟩ dX12_draw_27

theorem dX12_isExamined_0 : decode cX12_isExamined 0 = .ok (.iconst 0, 1) := by decide +kernel
theorem dX12_isExamined_1 : decode cX12_isExamined 1 = .ok (.istore_n 2, 1) := by decide +kernel
theorem dX12_isExamined_2 : decode cX12_isExamined 2 = .ok (.iconst 0, 1) := by decide +kernel
theorem dX12_isExamined_3 : decode cX12_isExamined 3 = .ok (.istore_n 3, 1) := by decide +kernel
theorem dX12_isExamined_4 : decode cX12_isExamined 4 = .ok (.iload_n 3, 1) := by decide +kernel
theorem dX12_isExamined_5 : decode cX12_isExamined 5 = .ok (.bipush 12, 2) := by decide +kernel
theorem dX12_isExamined_7 : decode cX12_isExamined 7 = .ok (.if_icmp .ge 53, 3) := by decide +kernel
theorem dX12_isExamined_10 : decode cX12_isExamined 10 = .ok (.aload_n 0, 1) := by decide +kernel
theorem dX12_isExamined_11 : decode cX12_isExamined 11 = .ok (.getfield 17, 3) := by decide +kernel
theorem dX12_isExamined_14 : decode cX12_isExamined 14 = .ok (.iload_n 3, 1) := by decide +kernel
theorem dX12_isExamined_15 : decode cX12_isExamined 15 = .ok (.baload, 1) := by decide +kernel
theorem dX12_isExamined_16 : decode cX12_isExamined 16 = .ok (.ifCond .eq 38, 3) := by decide +kernel
theorem dX12_isExamined_19 : decode cX12_isExamined 19 = .ok (.aload_n 0, 1) := by decide +kernel
theorem dX12_isExamined_20 : decode cX12_isExamined 20 = .ok (.getfield 428, 3) := by decide +kernel
theorem dX12_isExamined_23 : decode cX12_isExamined 23 = .ok (.iload_n 3, 1) := by decide +kernel
theorem dX12_isExamined_24 : decode cX12_isExamined 24 = .ok (.invokestatic 204, 3) := by decide +kernel
theorem dX12_isExamined_27 : decode cX12_isExamined 27 = .ok (.ifCond .eq 27, 3) := by decide +kernel
theorem dX12_isExamined_30 : decode cX12_isExamined 30 = .ok (.aload_n 0, 1) := by decide +kernel
theorem dX12_isExamined_31 : decode cX12_isExamined 31 = .ok (.invokevirtual 462, 3) := by decide +kernel
theorem dX12_isExamined_34 : decode cX12_isExamined 34 = .ok (.aload_n 0, 1) := by decide +kernel
theorem dX12_isExamined_35 : decode cX12_isExamined 35 = .ok (.getfield 109, 3) := by decide +kernel
theorem dX12_isExamined_38 : decode cX12_isExamined 38 = .ok (.bipush 12, 2) := by decide +kernel
theorem dX12_isExamined_40 : decode cX12_isExamined 40 = .ok (.iload_n 1, 1) := by decide +kernel
theorem dX12_isExamined_41 : decode cX12_isExamined 41 = .ok (.imul, 1) := by decide +kernel
theorem dX12_isExamined_42 : decode cX12_isExamined 42 = .ok (.iload_n 3, 1) := by decide +kernel
theorem dX12_isExamined_43 : decode cX12_isExamined 43 = .ok (.iadd, 1) := by decide +kernel
theorem dX12_isExamined_44 : decode cX12_isExamined 44 = .ok (.iaload, 1) := by decide +kernel
theorem dX12_isExamined_45 : decode cX12_isExamined 45 = .ok (.invokestatic 465, 3) := by decide +kernel
theorem dX12_isExamined_48 : decode cX12_isExamined 48 = .ok (.if_icmp .ge 6, 3) := by decide +kernel
theorem dX12_isExamined_51 : decode cX12_isExamined 51 = .ok (.iinc 2 1, 3) := by decide +kernel
theorem dX12_isExamined_54 : decode cX12_isExamined 54 = .ok (.iinc 3 1, 3) := by decide +kernel
theorem dX12_isExamined_57 : decode cX12_isExamined 57 = .ok (.goto (-53), 3) := by decide +kernel
theorem dX12_isExamined_60 : decode cX12_isExamined 60 = .ok (.aload_n 0, 1) := by decide +kernel
theorem dX12_isExamined_61 : decode cX12_isExamined 61 = .ok (.dup, 1) := by decide +kernel
theorem dX12_isExamined_62 : decode cX12_isExamined 62 = .ok (.getfield 468, 3) := by decide +kernel
theorem dX12_isExamined_65 : decode cX12_isExamined 65 = .ok (.iload_n 2, 1) := by decide +kernel
theorem dX12_isExamined_66 : decode cX12_isExamined 66 = .ok (.iadd, 1) := by decide +kernel
theorem dX12_isExamined_67 : decode cX12_isExamined 67 = .ok (.putfield 468, 3) := by decide +kernel
theorem dX12_isExamined_70 : decode cX12_isExamined 70 = .ok (.iload_n 2, 1) := by decide +kernel
theorem dX12_isExamined_71 : decode cX12_isExamined 71 = .ok (.aload_n 0, 1) := by decide +kernel
theorem dX12_isExamined_72 : decode cX12_isExamined 72 = .ok (.getfield 431, 3) := by decide +kernel
theorem dX12_isExamined_75 : decode cX12_isExamined 75 = .ok (.if_icmp .le 4, 3) := by decide +kernel
theorem dX12_isExamined_78 : decode cX12_isExamined 78 = .ok (.return_, 1) := by decide +kernel
theorem dX12_isExamined_79 : decode cX12_isExamined 79 = .ok (.aload_n 0, 1) := by decide +kernel
theorem dX12_isExamined_80 : decode cX12_isExamined 80 = .ok (.dup, 1) := by decide +kernel
theorem dX12_isExamined_81 : decode cX12_isExamined 81 = .ok (.getfield 471, 3) := by decide +kernel
theorem dX12_isExamined_84 : decode cX12_isExamined 84 = .ok (.iconst 1, 1) := by decide +kernel
theorem dX12_isExamined_85 : decode cX12_isExamined 85 = .ok (.iadd, 1) := by decide +kernel
theorem dX12_isExamined_86 : decode cX12_isExamined 86 = .ok (.putfield 471, 3) := by decide +kernel
theorem dX12_isExamined_89 : decode cX12_isExamined 89 = .ok (.aload_n 0, 1) := by decide +kernel
theorem dX12_isExamined_90 : decode cX12_isExamined 90 = .ok (.dup, 1) := by decide +kernel
theorem dX12_isExamined_91 : decode cX12_isExamined 91 = .ok (.getfield 474, 3) := by decide +kernel
theorem dX12_isExamined_94 : decode cX12_isExamined 94 = .ok (.iconst 1, 1) := by decide +kernel
theorem dX12_isExamined_95 : decode cX12_isExamined 95 = .ok (.iadd, 1) := by decide +kernel
theorem dX12_isExamined_96 : decode cX12_isExamined 96 = .ok (.putfield 474, 3) := by decide +kernel
theorem dX12_isExamined_99 : decode cX12_isExamined 99 = .ok (.aload_n 0, 1) := by decide +kernel
theorem dX12_isExamined_100 : decode cX12_isExamined 100 = .ok (.getfield 103, 3) := by decide +kernel
theorem dX12_isExamined_103 : decode cX12_isExamined 103 = .ok (.iload_n 1, 1) := by decide +kernel
theorem dX12_isExamined_104 : decode cX12_isExamined 104 = .ok (.dup2, 1) := by decide +kernel
theorem dX12_isExamined_105 : decode cX12_isExamined 105 = .ok (.iaload, 1) := by decide +kernel
theorem dX12_isExamined_106 : decode cX12_isExamined 106 = .ok (.iconst 1, 1) := by decide +kernel
theorem dX12_isExamined_107 : decode cX12_isExamined 107 = .ok (.iadd, 1) := by decide +kernel
theorem dX12_isExamined_108 : decode cX12_isExamined 108 = .ok (.iastore, 1) := by decide +kernel
theorem dX12_isExamined_109 : decode cX12_isExamined 109 = .ok (.aload_n 0, 1) := by decide +kernel
theorem dX12_isExamined_110 : decode cX12_isExamined 110 = .ok (.dup, 1) := by decide +kernel
theorem dX12_isExamined_111 : decode cX12_isExamined 111 = .ok (.getfield 477, 3) := by decide +kernel
theorem dX12_isExamined_114 : decode cX12_isExamined 114 = .ok (.aload_n 0, 1) := by decide +kernel
theorem dX12_isExamined_115 : decode cX12_isExamined 115 = .ok (.getfield 103, 3) := by decide +kernel
theorem dX12_isExamined_118 : decode cX12_isExamined 118 = .ok (.iload_n 1, 1) := by decide +kernel
theorem dX12_isExamined_119 : decode cX12_isExamined 119 = .ok (.iaload, 1) := by decide +kernel
theorem dX12_isExamined_120 : decode cX12_isExamined 120 = .ok (.bipush 10, 2) := by decide +kernel
theorem dX12_isExamined_122 : decode cX12_isExamined 122 = .ok (.if_icmp .ne 7, 3) := by decide +kernel
theorem dX12_isExamined_125 : decode cX12_isExamined 125 = .ok (.iconst 1, 1) := by decide +kernel
theorem dX12_isExamined_126 : decode cX12_isExamined 126 = .ok (.goto 4, 3) := by decide +kernel
theorem dX12_isExamined_129 : decode cX12_isExamined 129 = .ok (.iconst 0, 1) := by decide +kernel
theorem dX12_isExamined_130 : decode cX12_isExamined 130 = .ok (.iadd, 1) := by decide +kernel
theorem dX12_isExamined_131 : decode cX12_isExamined 131 = .ok (.putfield 477, 3) := by decide +kernel
theorem dX12_isExamined_134 : decode cX12_isExamined 134 = .ok (.return_, 1) := by decide +kernel
theorem FG_X12_468 : FG RX12 468 12 86 64 := ⟨RX12, TX12, rfl, wX12, by decide, kAW (v_4_6 (List.mem_of_getElem? (i := 13) rfl)) rfl, rfl⟩
theorem FP_X12_468 : FPX RX12 468 12 86 64 .int := ⟨⟨RX12, TX12, tyX12, rfl, wX12, by decide, kAW (v_4_6 (List.mem_of_getElem? (i := 13) rfl)) rfl, rfl, tyX12_ok, nmX12, by decide +kernel, rfl⟩, by decide +kernel⟩
theorem FG_X12_431 : FG RX12 431 12 86 60 := ⟨RX12, TX12, rfl, wX12, by decide, kAW (v_4_6 (List.mem_of_getElem? (i := 9) rfl)) rfl, rfl⟩
theorem FG_X12_471 : FG RX12 471 12 86 57 := ⟨RX12, TX12, rfl, wX12, by decide, kAW (v_4_6 (List.mem_of_getElem? (i := 6) rfl)) rfl, rfl⟩
theorem FP_X12_471 : FPX RX12 471 12 86 57 .int := ⟨⟨RX12, TX12, tyX12, rfl, wX12, by decide, kAW (v_4_6 (List.mem_of_getElem? (i := 6) rfl)) rfl, rfl, tyX12_ok, nmX12, by decide +kernel, rfl⟩, by decide +kernel⟩
theorem FG_X12_474 : FG RX12 474 12 86 61 := ⟨RX12, TX12, rfl, wX12, by decide, kAW (v_4_6 (List.mem_of_getElem? (i := 10) rfl)) rfl, rfl⟩
theorem FP_X12_474 : FPX RX12 474 12 86 61 .int := ⟨⟨RX12, TX12, tyX12, rfl, wX12, by decide, kAW (v_4_6 (List.mem_of_getElem? (i := 10) rfl)) rfl, rfl, tyX12_ok, nmX12, by decide +kernel, rfl⟩, by decide +kernel⟩
theorem FG_X12_477 : FG RX12 477 12 86 62 := ⟨RX12, TX12, rfl, wX12, by decide, kAW (v_4_6 (List.mem_of_getElem? (i := 11) rfl)) rfl, rfl⟩
theorem FP_X12_477 : FPX RX12 477 12 86 62 .int := ⟨⟨RX12, TX12, tyX12, rfl, wX12, by decide, kAW (v_4_6 (List.mem_of_getElem? (i := 11) rfl)) rfl, rfl, tyX12_ok, nmX12, by decide +kernel, rfl⟩, by decide +kernel⟩
theorem FG_X12_428 : FG RX12 428 12 86 59 := ⟨RX12, TX12, rfl, wX12, by decide, kAW (v_4_6 (List.mem_of_getElem? (i := 8) rfl)) rfl, rfl⟩
theorem myX12_draw : MI yX12_draw cX12_draw 1 (some FieldType.int) 0 := ⟨kAW (v_6_9 (List.mem_of_getElem? (i := 4) rfl)) rfl, kAW (v_0_0 (List.mem_of_getElem? (i := 13) rfl)) rfl, kAW (v_6_9 (List.mem_of_getElem? (i := 3) rfl)) rfl, kAW (tp_t5 (List.mem_of_getElem? (i := 3) rfl)) rfl, by decide, by decide, by decide +kernel⟩
theorem myX12_tenthsOf : MS yX12_tenthsOf cX12_tenthsOf 1 (some FieldType.int) 1 := ⟨kAW (v_6_9 (List.mem_of_getElem? (i := 8) rfl)) rfl, kAW (v_0_0 (List.mem_of_getElem? (i := 13) rfl)) rfl, kAW (v_6_9 (List.mem_of_getElem? (i := 7) rfl)) rfl, by decide, by decide, by decide +kernel⟩
set_option maxRecDepth 100000 in
set_option maxHeartbeats 4000000 in
theorem a_X12_isExamined (l : Launch) (D : va_G) (cA : Nat → ClassId) (ad : Nat → Nat) (g0 : Nat → va_E) (p : Int32)   (hSh : Shp ad cA g0) (hG : Rng g0) (p0 : 0 ≤ p.toInt) (p7 : p.toInt < 8) (gr9 : (arI g0 159 p.toNatClampNeg).toInt ≤ 9) : CT l NN ad cA D yX12_isExamined cX12_isExamined 4 none (1, 21) [.ref (ad 129), .int p] g0 (fun v g' => v = none ∧ Shp ad cA g' ∧ Rng g' ∧ FR (fun i k => (i = 129 ∧ (k = 2 ∨ k = 57 ∨ k = 61 ∨ k = 62 ∨ k = 64)) ∨ i = 159) g0 g') := by
  refine q_enterV (by decide) (Nat.le_of_ble_eq_true rfl) (fun K H locs ls _ _ hM hW0 hR hC hE hl => ?_)
  have hl : lv_has ls 4 [(0, .ref (ad 129)), (1, .int p)] := hl
  have hW : WS ad cA (fun i k => (i = 129 ∧ (k = 2 ∨ k = 57 ∨ k = 61 ∨ k = 62 ∨ k = 64)) ∨ i = 159) g0 K g0 H locs := ⟨hW0, hSh, FR.rf⟩
  refine q_iconst (v := (0 : Int32)) hM dX12_isExamined_0 (by decide) ?_
  refine q_istore_n (lv9 := [(2, .int (0 : Int32)), (0, .ref (ad 129)), (1, .int p)]) hM dX12_isExamined_1 hl (by decide) rfl (fun ls hl => ?_)
  refine q_iconst (v := (0 : Int32)) hM dX12_isExamined_2 (by decide) ?_
  refine q_istore_n (lv9 := [(3, .int (0 : Int32)), (2, .int (0 : Int32)), (0, .ref (ad 129)), (1, .int p)]) hM dX12_isExamined_3 hl (by decide) rfl (fun ls hl => ?_)
  have L4 : ∀ (fu4 : Nat) (w4_2 : Int32) (w4_3 : Int32) (g9 : Nat → va_E) (H : Heap) (locs : List Loc) (ls : Array Slot), (12 - w4_3.toInt).toNat < fu4 → (Rng g9) → (0 ≤ w4_3.toInt) → (w4_3.toInt ≤ 12) → (arI g9 159 = arI g0 159) → lv_has ls 4 [(0, .ref (ad 129)), (1, .int p), (2, .int w4_2), (3, .int w4_3)] → WS ad cA (fun i k => (i = 129 ∧ (k = 2 ∨ k = 57 ∨ k = 61 ∨ k = 62 ∨ k = 64)) ∨ i = 159) g0 K g9 H locs → XX K 0 0 H locs 4 ls [] := by
    intro fu4
    induction fu4 with
    | zero => intro w4_2 w4_3 g9 H locs ls h0; omega
    | succ fu4 ih4 =>
      intro w4_2 w4_3 g9 H locs ls hm4 i4_0 i4_1 i4_2 d4_159 hl hW
      have hG := i4_0
      refine q_iload_n hM dX12_isExamined_4 (lv_at hl 3 rfl) ?_
      refine q_bipush (v := (12 : Int32)) hM dX12_isExamined_5 (by decide) ?_
      refine q_icmp_ge (tgt := 60) hM dX12_isExamined_7 (by decide) (rfl : w4_3.toInt = w4_3.toInt) (kc_12 : (12 : Int32).toInt = 12) (fun h7 => ?_) (fun h7 => ?_)
      · refine q_aload_n hM dX12_isExamined_60 (lv_at hl 0 rfl) ?_
        refine q_dup hM dX12_isExamined_61 rfl ?_
        refine w_getI hM hW FG_X12_468 lb_129 (by decide) (by decide) dX12_isExamined_62 (fun x6152 fx6152 => ?_)
        refine q_iload_n hM dX12_isExamined_65 (lv_at hl 2 rfl) ?_
        refine q_iadd hM dX12_isExamined_66 (fun z6153 hz6153 => ?_)
        first | have tz6153 := i_addT hz6153 (rfl : x6152.toInt = x6152.toInt) (rfl : w4_2.toInt = w4_2.toInt) (by omega) (by omega) | skip
        refine w_put hM hW FP_X12_468 lb_129 (by omega) (Or.inl ⟨_, rfl⟩) rfl rfl dX12_isExamined_67 (fun g6154 H locs hW e1 e2 => ?_)
        have f6155 : arI g6154 159 = arI g0 159 := (e2.2.1 159 (by unfold Only; omega)).trans d4_159
        have f6156 : fld g6154 129 64 = .int z6153 := e1
        have hG := hG.put e1 e2 (rfl : rF 129 64 = (-2147483648, 2147483647)) (by decide) (by have := i_rng z6153; omega) (by have := i_rng z6153; omega)
        refine q_iload_n hM dX12_isExamined_70 (lv_at hl 2 rfl) ?_
        refine q_aload_n hM dX12_isExamined_71 (lv_at hl 0 rfl) ?_
        refine w_getI hM hW FG_X12_431 lb_129 (by decide) (by decide) dX12_isExamined_72 (fun x6157 fx6157 => ?_)
        refine q_icmp_le (tgt := 79) hM dX12_isExamined_75 (by decide) (rfl : w4_2.toInt = w4_2.toInt) (rfl : x6157.toInt = x6157.toInt) (fun h75 => ?_) (fun h75 => ?_)
        · refine q_aload_n hM dX12_isExamined_79 (lv_at hl 0 rfl) ?_
          refine q_dup hM dX12_isExamined_80 rfl ?_
          refine w_getI hM hW FG_X12_471 lb_129 (by decide) (by decide) dX12_isExamined_81 (fun x6159 fx6159 => ?_)
          refine q_iconst (v := (1 : Int32)) hM dX12_isExamined_84 (by decide) ?_
          refine q_iadd hM dX12_isExamined_85 (fun z6160 hz6160 => ?_)
          first | have tz6160 := i_addT hz6160 (rfl : x6159.toInt = x6159.toInt) (kc_1 : (1 : Int32).toInt = 1) (by omega) (by omega) | skip
          refine w_put hM hW FP_X12_471 lb_129 (by omega) (Or.inl ⟨_, rfl⟩) rfl rfl dX12_isExamined_86 (fun g6161 H locs hW e1 e2 => ?_)
          have f6162 : arI g6161 159 = arI g0 159 := (e2.2.1 159 (by unfold Only; omega)).trans f6155
          have f6163 : fld g6161 129 64 = .int z6153 := (e2.1 129 64 (by unfold Only; omega)).trans f6156
          have f6164 : fld g6161 129 60 = .int x6157 := (e2.1 129 60 (by unfold Only; omega)).trans fx6157
          have f6165 : fld g6161 129 57 = .int z6160 := e1
          have hG := hG.put e1 e2 (rfl : rF 129 57 = (-2147483648, 2147483647)) (by decide) (by have := i_rng z6160; omega) (by have := i_rng z6160; omega)
          refine q_aload_n hM dX12_isExamined_89 (lv_at hl 0 rfl) ?_
          refine q_dup hM dX12_isExamined_90 rfl ?_
          refine w_getI hM hW FG_X12_474 lb_129 (by decide) (by decide) dX12_isExamined_91 (fun x6166 fx6166 => ?_)
          refine q_iconst (v := (1 : Int32)) hM dX12_isExamined_94 (by decide) ?_
          refine q_iadd hM dX12_isExamined_95 (fun z6167 hz6167 => ?_)
          first | have tz6167 := i_addT hz6167 (rfl : x6166.toInt = x6166.toInt) (kc_1 : (1 : Int32).toInt = 1) (by omega) (by omega) | skip
          refine w_put hM hW FP_X12_474 lb_129 (by omega) (Or.inl ⟨_, rfl⟩) rfl rfl dX12_isExamined_96 (fun g6168 H locs hW e1 e2 => ?_)
          have f6169 : arI g6168 159 = arI g0 159 := (e2.2.1 159 (by unfold Only; omega)).trans f6162
          have f6170 : fld g6168 129 64 = .int z6153 := (e2.1 129 64 (by unfold Only; omega)).trans f6163
          have f6171 : fld g6168 129 60 = .int x6157 := (e2.1 129 60 (by unfold Only; omega)).trans f6164
          have f6172 : fld g6168 129 57 = .int z6160 := (e2.1 129 57 (by unfold Only; omega)).trans f6165
          have f6173 : fld g6168 129 61 = .int z6167 := e1
          have hG := hG.put e1 e2 (rfl : rF 129 61 = (-2147483648, 2147483647)) (by decide) (by have := i_rng z6167; omega) (by have := i_rng z6167; omega)
          refine q_aload_n hM dX12_isExamined_99 (lv_at hl 0 rfl) ?_
          refine w_get (v := .ref (ad 159)) hM hW FG_X12_103 lb_129 (rf_129_53 hW.2.1) dX12_isExamined_100 ?_
          refine q_iload_n hM dX12_isExamined_103 (lv_at hl 1 rfl) ?_
          refine q_dup2 hM dX12_isExamined_104 rfl rfl ?_
          refine w_iald hM hW lb_159 (i_in (by omega) (by omega)) dX12_isExamined_105 ?_
          refine q_top (fun y6174 hy6174 => ?_)
          have ky6174 : y6174.toInt ≤ 9 := by rw [hy6174, f6169]; exact gr9
          have by6174 := hG.a hy6174 rA_159
          refine q_iconst (v := (1 : Int32)) hM dX12_isExamined_106 (by decide) ?_
          refine q_iadd hM dX12_isExamined_107 (fun z6175 hz6175 => ?_)
          first | have tz6175 := i_addT hz6175 (rfl : y6174.toInt = y6174.toInt) (kc_1 : (1 : Int32).toInt = 1) (by omega) (by omega) | skip
          refine w_iast hM hW lb_159 (by omega) (i_in (by omega) (by omega)) dX12_isExamined_108 (fun g6176 H locs hW e1 e2 => ?_)
          have f6177 : fld g6176 129 64 = .int z6153 := (e2.1 129 64 (by unfold Only; omega)).trans f6170
          have f6178 : fld g6176 129 60 = .int x6157 := (e2.1 129 60 (by unfold Only; omega)).trans f6171
          have f6179 : fld g6176 129 57 = .int z6160 := (e2.1 129 57 (by unfold Only; omega)).trans f6172
          have f6180 : fld g6176 129 61 = .int z6167 := (e2.1 129 61 (by unfold Only; omega)).trans f6173
          have hG := hG.st e1 e2 rA_159 (by have := i_rng z6175; omega) (by have := i_rng z6175; omega)
          refine q_aload_n hM dX12_isExamined_109 (lv_at hl 0 rfl) ?_
          refine q_dup hM dX12_isExamined_110 rfl ?_
          refine w_getI hM hW FG_X12_477 lb_129 (by decide) (by decide) dX12_isExamined_111 (fun x6181 fx6181 => ?_)
          refine q_aload_n hM dX12_isExamined_114 (lv_at hl 0 rfl) ?_
          refine w_get (v := .ref (ad 159)) hM hW FG_X12_103 lb_129 (rf_129_53 hW.2.1) dX12_isExamined_115 ?_
          refine q_iload_n hM dX12_isExamined_118 (lv_at hl 1 rfl) ?_
          refine w_iald hM hW lb_159 (i_in (by omega) (by omega)) dX12_isExamined_119 ?_
          refine q_top (fun y6182 hy6182 => ?_)
          have by6182 := hG.a hy6182 rA_159
          refine q_bipush (v := (10 : Int32)) hM dX12_isExamined_120 (by decide) ?_
          refine q_icmp_ne (tgt := 129) hM dX12_isExamined_122 (by decide) (rfl : y6182.toInt = y6182.toInt) (kc_10 : (10 : Int32).toInt = 10) (fun h122 => ?_) (fun h122 => ?_)
          · refine q_iconst (v := (0 : Int32)) hM dX12_isExamined_129 (by decide) ?_
            refine q_iadd hM dX12_isExamined_130 (fun z6184 hz6184 => ?_)
            first | have tz6184 := i_addT hz6184 (rfl : x6181.toInt = x6181.toInt) (kc_0 : (0 : Int32).toInt = 0) (by omega) (by omega) | skip
            refine w_put hM hW FP_X12_477 lb_129 (by omega) (Or.inl ⟨_, rfl⟩) rfl rfl dX12_isExamined_131 (fun g6185 H locs hW e1 e2 => ?_)
            have f6186 : fld g6185 129 64 = .int z6153 := (e2.1 129 64 (by unfold Only; omega)).trans f6177
            have f6187 : fld g6185 129 60 = .int x6157 := (e2.1 129 60 (by unfold Only; omega)).trans f6178
            have f6188 : fld g6185 129 57 = .int z6160 := (e2.1 129 57 (by unfold Only; omega)).trans f6179
            have f6189 : fld g6185 129 61 = .int z6167 := (e2.1 129 61 (by unfold Only; omega)).trans f6180
            have f6190 : fld g6185 129 62 = .int z6184 := e1
            have hG := hG.put e1 e2 (rfl : rF 129 62 = (-2147483648, 2147483647)) (by decide) (by have := i_rng z6184; omega) (by have := i_rng z6184; omega)
            exact hE _ _ _ _ _ hW.1 ⟨rfl, hW.2.1, hG, hW.2.2⟩ dX12_isExamined_134
          · refine q_iconst (v := (1 : Int32)) hM dX12_isExamined_125 (by decide) ?_
            refine q_goto (tgt := 130) hM dX12_isExamined_126 (by decide) ?_
            refine q_iadd hM dX12_isExamined_130 (fun z6192 hz6192 => ?_)
            first | have tz6192 := i_addT hz6192 (rfl : x6181.toInt = x6181.toInt) (kc_1 : (1 : Int32).toInt = 1) (by omega) (by omega) | skip
            refine w_put hM hW FP_X12_477 lb_129 (by omega) (Or.inl ⟨_, rfl⟩) rfl rfl dX12_isExamined_131 (fun g6193 H locs hW e1 e2 => ?_)
            have f6194 : fld g6193 129 64 = .int z6153 := (e2.1 129 64 (by unfold Only; omega)).trans f6177
            have f6195 : fld g6193 129 60 = .int x6157 := (e2.1 129 60 (by unfold Only; omega)).trans f6178
            have f6196 : fld g6193 129 57 = .int z6160 := (e2.1 129 57 (by unfold Only; omega)).trans f6179
            have f6197 : fld g6193 129 61 = .int z6167 := (e2.1 129 61 (by unfold Only; omega)).trans f6180
            have f6198 : fld g6193 129 62 = .int z6192 := e1
            have hG := hG.put e1 e2 (rfl : rF 129 62 = (-2147483648, 2147483647)) (by decide) (by have := i_rng z6192; omega) (by have := i_rng z6192; omega)
            exact hE _ _ _ _ _ hW.1 ⟨rfl, hW.2.1, hG, hW.2.2⟩ dX12_isExamined_134
        · exact hE _ _ _ _ _ hW.1 ⟨rfl, hW.2.1, hG, hW.2.2⟩ dX12_isExamined_78
      · refine q_aload_n hM dX12_isExamined_10 (lv_at hl 0 rfl) ?_
        refine w_get (v := .ref (ad 131)) hM hW FG_X12_17 lb_129 (rf_129_10 hW.2.1) dX12_isExamined_11 ?_
        refine q_iload_n hM dX12_isExamined_14 (lv_at hl 3 rfl) ?_
        refine w_zald hM hW lb_131 (i_in (by omega) (by omega)) dX12_isExamined_15 ?_
        refine q_top (fun y6201 hy6201 => ?_)
        refine q_if_eq (tgt := 54) hM dX12_isExamined_16 (by decide) (rfl : y6201.toInt = y6201.toInt) (fun h16 => ?_) (fun h16 => ?_)
        · refine q_iinc (lv9 := fun z6203 => [(3, .int z6203), (0, .ref (ad 129)), (1, .int p), (2, .int w4_2)]) hM dX12_isExamined_54 hl (kq := 3) rfl (by decide) (fun _ => rfl) (fun z6203 ls hz6203 hl => ?_)
          first | have tz6203 := i_addT hz6203 (rfl : w4_3.toInt = w4_3.toInt) (kc_1 : (Int32.ofInt 1).toInt = 1) (by omega) (by omega) | skip
          refine q_goto (tgt := 4) hM dX12_isExamined_57 (by decide) ?_
          exact ih4 w4_2 z6203 _ _ _ _ (by omega) hG (by omega) (by omega) d4_159 (lv_sub hl [1, 2, 3, 0] rfl) hW
        · refine q_aload_n hM dX12_isExamined_19 (lv_at hl 0 rfl) ?_
          refine w_getI hM hW FG_X12_428 lb_129 (by decide) (by decide) dX12_isExamined_20 (fun x6205 fx6205 => ?_)
          refine q_iload_n hM dX12_isExamined_23 (lv_at hl 3 rfl) ?_
          refine q_callS (As := [.int x6205, .int w4_3]) (rest := []) hM hW.1 hR hC myX12_has (kAW (v_5_6 (List.mem_of_getElem? (i := 7) rfl)) rfl) (c_X12_has _ _ cA ad g9 x6205 w4_3 hW.2.1 (by omega) (by omega)) ⟨by decide, by decide⟩ rfl rfl hl.1 (Nat.le_of_ble_eq_true rfl) dX12_isExamined_24 (fun v g6207 H locs hp hW1 => ?_)
          obtain ⟨r6206, rfl, hr6206, rfl⟩ := hp
          have hW : WS ad cA (fun i k => (i = 129 ∧ (k = 2 ∨ k = 57 ∨ k = 61 ∨ k = 62 ∨ k = 64)) ∨ i = 159) g0 K g9 H locs := ⟨hW1, hW.2.1, hW.2.2⟩
          refine q_if_eq (tgt := 54) hM dX12_isExamined_27 (by decide) (rfl : r6206.toInt = r6206.toInt) (fun h27 => ?_) (fun h27 => ?_)
          · refine q_iinc (lv9 := fun z6209 => [(3, .int z6209), (0, .ref (ad 129)), (1, .int p), (2, .int w4_2)]) hM dX12_isExamined_54 hl (kq := 3) rfl (by decide) (fun _ => rfl) (fun z6209 ls hz6209 hl => ?_)
            first | have tz6209 := i_addT hz6209 (rfl : w4_3.toInt = w4_3.toInt) (kc_1 : (Int32.ofInt 1).toInt = 1) (by omega) (by omega) | skip
            refine q_goto (tgt := 4) hM dX12_isExamined_57 (by decide) ?_
            exact ih4 w4_2 z6209 _ _ _ _ (by omega) hG (by omega) (by omega) d4_159 (lv_sub hl [1, 2, 3, 0] rfl) hW
          · refine q_aload_n hM dX12_isExamined_30 (lv_at hl 0 rfl) ?_
            refine q_callV (As := []) (rest := []) hM hW.1 hR hC myX12_draw (kAW (v_6_9 (List.mem_of_getElem? (i := 1) rfl)) rfl) (rfl : vwCl[12]? = some (RX12, TX12, 86)) rfl lb_129.1 (shO hW.2.1 lb_129) (a_X12_draw _ _ cA ad g9  hW.2.1 hG) ⟨by decide, by decide⟩ rfl rfl hl.1 (Nat.le_of_ble_eq_true rfl) dX12_isExamined_31 (fun v g6212 H locs hp hW1 => ?_)
            obtain ⟨r6211, rfl, hs1, hG, hf1⟩ := hp
            have f6213 : arI g6212 159 = arI g0 159 := (hf1.2.1 159 (by omega)).trans d4_159
            have f6214 : fld g6212 129 59 = .int x6205 := (hf1.1 129 59 (by omega)).trans fx6205
            have hW : WS ad cA (fun i k => (i = 129 ∧ (k = 2 ∨ k = 57 ∨ k = 61 ∨ k = 62 ∨ k = 64)) ∨ i = 159) g0 K g6212 H locs := ⟨hW1, hs1, hW.2.2.tr hf1 (fun i k h => (Or.inl (by omega)))⟩
            refine q_aload_n hM dX12_isExamined_34 (lv_at hl 0 rfl) ?_
            refine w_get (v := .ref (ad 161)) hM hW FG_X12_109 lb_129 (rf_129_55 hW.2.1) dX12_isExamined_35 ?_
            refine q_bipush (v := (12 : Int32)) hM dX12_isExamined_38 (by decide) ?_
            refine q_iload_n hM dX12_isExamined_40 (lv_at hl 1 rfl) ?_
            refine q_imul hM dX12_isExamined_41 (fun z6215 hz6215 => ?_)
            first | have tz6215 := i_mulT hz6215 (kc_12 : (12 : Int32).toInt = 12) (rfl : p.toInt = p.toInt) (by omega) (by omega) | skip
            refine q_iload_n hM dX12_isExamined_42 (lv_at hl 3 rfl) ?_
            refine q_iadd hM dX12_isExamined_43 (fun z6216 hz6216 => ?_)
            first | have tz6216 := i_addT hz6216 (rfl : z6215.toInt = z6215.toInt) (rfl : w4_3.toInt = w4_3.toInt) (by omega) (by omega) | skip
            refine w_iald hM hW lb_161 (i_in (by omega) (by omega)) dX12_isExamined_44 ?_
            refine q_top (fun y6217 hy6217 => ?_)
            refine q_callS (As := [.int y6217]) (rest := [.int r6211]) hM hW.1 hR hC myX12_tenthsOf (kAW (v_6_9 (List.mem_of_getElem? (i := 6) rfl)) rfl) (a_X12_tenthsOf _ _ cA ad g6212 y6217 hW.2.1 hG) ⟨by decide, by decide⟩ rfl rfl hl.1 (Nat.le_of_ble_eq_true rfl) dX12_isExamined_45 (fun v g6219 H locs hp hW1 => ?_)
            obtain ⟨r6218, rfl, hr6218, rfl⟩ := hp
            have hW : WS ad cA (fun i k => (i = 129 ∧ (k = 2 ∨ k = 57 ∨ k = 61 ∨ k = 62 ∨ k = 64)) ∨ i = 159) g0 K g6212 H locs := ⟨hW1, hW.2.1, hW.2.2⟩
            refine q_icmp_ge (tgt := 54) hM dX12_isExamined_48 (by decide) (rfl : r6211.toInt = r6211.toInt) (rfl : r6218.toInt = r6218.toInt) (fun h48 => ?_) (fun h48 => ?_)
            · refine q_iinc (lv9 := fun z6221 => [(3, .int z6221), (0, .ref (ad 129)), (1, .int p), (2, .int w4_2)]) hM dX12_isExamined_54 hl (kq := 3) rfl (by decide) (fun _ => rfl) (fun z6221 ls hz6221 hl => ?_)
              first | have tz6221 := i_addT hz6221 (rfl : w4_3.toInt = w4_3.toInt) (kc_1 : (Int32.ofInt 1).toInt = 1) (by omega) (by omega) | skip
              refine q_goto (tgt := 4) hM dX12_isExamined_57 (by decide) ?_
              exact ih4 w4_2 z6221 _ _ _ _ (by omega) hG (by omega) (by omega) f6213 (lv_sub hl [1, 2, 3, 0] rfl) hW
            · refine q_iinc (lv9 := fun z6223 => [(2, .int z6223), (0, .ref (ad 129)), (1, .int p), (3, .int w4_3)]) hM dX12_isExamined_51 hl (kq := 2) rfl (by decide) (fun _ => rfl) (fun z6223 ls hz6223 hl => ?_)
              first | have tz6223 := i_addT hz6223 (rfl : w4_2.toInt = w4_2.toInt) (kc_1 : (Int32.ofInt 1).toInt = 1) (by omega) (by omega) | skip
              refine q_iinc (lv9 := fun z6224 => [(3, .int z6224), (2, .int z6223), (0, .ref (ad 129)), (1, .int p)]) hM dX12_isExamined_54 hl (kq := 3) rfl (by decide) (fun _ => rfl) (fun z6224 ls hz6224 hl => ?_)
              first | have tz6224 := i_addT hz6224 (rfl : w4_3.toInt = w4_3.toInt) (kc_1 : (Int32.ofInt 1).toInt = 1) (by omega) (by omega) | skip
              refine q_goto (tgt := 4) hM dX12_isExamined_57 (by decide) ?_
              exact ih4 z6223 z6224 _ _ _ _ (by omega) hG (by omega) (by omega) f6213 (lv_sub hl [2, 3, 1, 0] rfl) hW
  have := kc_0
  have := kc_0
  exact L4 _ (0 : Int32) (0 : Int32) _ _ _ _ (Nat.lt_succ_self _) hG (by omega) (by omega) (rfl : arI g0 159 = arI g0 159) (lv_sub hl [2, 3, 1, 0] rfl) hW

theorem dX12_weekOf_0 : decode cX12_weekOf 0 = .ok (.aload_n 0, 1) := by decide +kernel
theorem dX12_weekOf_1 : decode cX12_weekOf 1 = .ok (.getfield 416, 3) := by decide +kernel
theorem dX12_weekOf_4 : decode cX12_weekOf 4 = .ok (.bipush 12, 2) := by decide +kernel
theorem dX12_weekOf_6 : decode cX12_weekOf 6 = .ok (.irem, 1) := by decide +kernel
theorem dX12_weekOf_7 : decode cX12_weekOf 7 = .ok (.istore_n 2, 1) := by decide +kernel
theorem dX12_weekOf_8 : decode cX12_weekOf 8 = .ok (.iload_n 2, 1) := by decide +kernel
theorem dX12_weekOf_9 : decode cX12_weekOf 9 = .ok (.bipush 10, 2) := by decide +kernel
theorem dX12_weekOf_11 : decode cX12_weekOf 11 = .ok (.if_icmp .eq 9, 3) := by decide +kernel
theorem dX12_weekOf_14 : decode cX12_weekOf 14 = .ok (.iload_n 2, 1) := by decide +kernel
theorem dX12_weekOf_15 : decode cX12_weekOf 15 = .ok (.bipush 11, 2) := by decide +kernel
theorem dX12_weekOf_17 : decode cX12_weekOf 17 = .ok (.if_icmp .ne 11, 3) := by decide +kernel
theorem dX12_weekOf_20 : decode cX12_weekOf 20 = .ok (.aload_n 0, 1) := by decide +kernel
theorem dX12_weekOf_21 : decode cX12_weekOf 21 = .ok (.iload_n 1, 1) := by decide +kernel
theorem dX12_weekOf_22 : decode cX12_weekOf 22 = .ok (.invokevirtual 480, 3) := by decide +kernel
theorem dX12_weekOf_25 : decode cX12_weekOf 25 = .ok (.goto 37, 3) := by decide +kernel
theorem dX12_weekOf_28 : decode cX12_weekOf 28 = .ok (.aload_n 0, 1) := by decide +kernel
theorem dX12_weekOf_29 : decode cX12_weekOf 29 = .ok (.aload_n 0, 1) := by decide +kernel
theorem dX12_weekOf_30 : decode cX12_weekOf 30 = .ok (.getfield 40, 3) := by decide +kernel
theorem dX12_weekOf_33 : decode cX12_weekOf 33 = .ok (.aload_n 0, 1) := by decide +kernel
theorem dX12_weekOf_34 : decode cX12_weekOf 34 = .ok (.getfield 103, 3) := by decide +kernel
theorem dX12_weekOf_37 : decode cX12_weekOf 37 = .ok (.iload_n 1, 1) := by decide +kernel
theorem dX12_weekOf_38 : decode cX12_weekOf 38 = .ok (.iaload, 1) := by decide +kernel
theorem dX12_weekOf_39 : decode cX12_weekOf 39 = .ok (.iaload, 1) := by decide +kernel
theorem dX12_weekOf_40 : decode cX12_weekOf 40 = .ok (.invokevirtual 452, 3) := by decide +kernel
theorem dX12_weekOf_43 : decode cX12_weekOf 43 = .ok (.ifCond .eq 19, 3) := by decide +kernel
theorem dX12_weekOf_46 : decode cX12_weekOf 46 = .ok (.aload_n 0, 1) := by decide +kernel
theorem dX12_weekOf_47 : decode cX12_weekOf 47 = .ok (.iload_n 1, 1) := by decide +kernel
theorem dX12_weekOf_48 : decode cX12_weekOf 48 = .ok (.aload_n 0, 1) := by decide +kernel
theorem dX12_weekOf_49 : decode cX12_weekOf 49 = .ok (.getfield 40, 3) := by decide +kernel
theorem dX12_weekOf_52 : decode cX12_weekOf 52 = .ok (.aload_n 0, 1) := by decide +kernel
theorem dX12_weekOf_53 : decode cX12_weekOf 53 = .ok (.getfield 103, 3) := by decide +kernel
theorem dX12_weekOf_56 : decode cX12_weekOf 56 = .ok (.iload_n 1, 1) := by decide +kernel
theorem dX12_weekOf_57 : decode cX12_weekOf 57 = .ok (.iaload, 1) := by decide +kernel
theorem dX12_weekOf_58 : decode cX12_weekOf 58 = .ok (.iaload, 1) := by decide +kernel
theorem dX12_weekOf_59 : decode cX12_weekOf 59 = .ok (.invokevirtual 455, 3) := by decide +kernel
theorem dX12_weekOf_62 : decode cX12_weekOf 62 = .ok (.aload_n 0, 1) := by decide +kernel
theorem dX12_weekOf_63 : decode cX12_weekOf 63 = .ok (.iload_n 1, 1) := by decide +kernel
theorem dX12_weekOf_64 : decode cX12_weekOf 64 = .ok (.invokevirtual 483, 3) := by decide +kernel
theorem dX12_weekOf_67 : decode cX12_weekOf 67 = .ok (.istore_n 3, 1) := by decide +kernel
theorem dX12_weekOf_68 : decode cX12_weekOf 68 = .ok (.aload_n 0, 1) := by decide +kernel
theorem dX12_weekOf_69 : decode cX12_weekOf 69 = .ok (.dup, 1) := by decide +kernel
theorem dX12_weekOf_70 : decode cX12_weekOf 70 = .ok (.getfield 486, 3) := by decide +kernel
theorem dX12_weekOf_73 : decode cX12_weekOf 73 = .ok (.iload_n 3, 1) := by decide +kernel
theorem dX12_weekOf_74 : decode cX12_weekOf 74 = .ok (.iadd, 1) := by decide +kernel
theorem dX12_weekOf_75 : decode cX12_weekOf 75 = .ok (.putfield 486, 3) := by decide +kernel
theorem dX12_weekOf_78 : decode cX12_weekOf 78 = .ok (.aload_n 0, 1) := by decide +kernel
theorem dX12_weekOf_79 : decode cX12_weekOf 79 = .ok (.dup, 1) := by decide +kernel
theorem dX12_weekOf_80 : decode cX12_weekOf 80 = .ok (.getfield 489, 3) := by decide +kernel
theorem dX12_weekOf_83 : decode cX12_weekOf 83 = .ok (.iload_n 3, 1) := by decide +kernel
theorem dX12_weekOf_84 : decode cX12_weekOf 84 = .ok (.iadd, 1) := by decide +kernel
theorem dX12_weekOf_85 : decode cX12_weekOf 85 = .ok (.putfield 489, 3) := by decide +kernel
theorem dX12_weekOf_88 : decode cX12_weekOf 88 = .ok (.iload_n 2, 1) := by decide +kernel
theorem dX12_weekOf_89 : decode cX12_weekOf 89 = .ok (.iconst 4, 1) := by decide +kernel
theorem dX12_weekOf_90 : decode cX12_weekOf 90 = .ok (.irem, 1) := by decide +kernel
theorem dX12_weekOf_91 : decode cX12_weekOf 91 = .ok (.iconst 3, 1) := by decide +kernel
theorem dX12_weekOf_92 : decode cX12_weekOf 92 = .ok (.if_icmp .ne 15, 3) := by decide +kernel
theorem dX12_weekOf_95 : decode cX12_weekOf 95 = .ok (.aload_n 0, 1) := by decide +kernel
theorem dX12_weekOf_96 : decode cX12_weekOf 96 = .ok (.getfield 428, 3) := by decide +kernel
theorem dX12_weekOf_99 : decode cX12_weekOf 99 = .ok (.ifCond .eq 8, 3) := by decide +kernel
theorem dX12_weekOf_102 : decode cX12_weekOf 102 = .ok (.aload_n 0, 1) := by decide +kernel
theorem dX12_weekOf_103 : decode cX12_weekOf 103 = .ok (.iload_n 1, 1) := by decide +kernel
theorem dX12_weekOf_104 : decode cX12_weekOf 104 = .ok (.invokevirtual 492, 3) := by decide +kernel
theorem dX12_weekOf_107 : decode cX12_weekOf 107 = .ok (.return_, 1) := by decide +kernel
theorem myX12_rests : MI yX12_rests cX12_rests 3 none 1 := ⟨kAW (v_6_8 (List.mem_of_getElem? (i := 8) rfl)) rfl, kAW (v_0_0 (List.mem_of_getElem? (i := 13) rfl)) rfl, kAW (v_6_8 (List.mem_of_getElem? (i := 7) rfl)) rfl, kAW (tp_t5 (List.mem_of_getElem? (i := 0) rfl)) rfl, by decide, by decide, by decide +kernel⟩
theorem myX12_recallsAll : MI yX12_recallsAll cX12_recallsAll 5 (some FieldType.int) 1 := ⟨kAW (v_6_8 (List.mem_of_getElem? (i := 12) rfl)) rfl, kAW (v_0_0 (List.mem_of_getElem? (i := 13) rfl)) rfl, kAW (v_6_8 (List.mem_of_getElem? (i := 11) rfl)) rfl, kAW (tp_t5 (List.mem_of_getElem? (i := 1) rfl)) rfl, by decide, by decide, by decide +kernel⟩
theorem FG_X12_486 : FG RX12 486 12 86 58 := ⟨RX12, TX12, rfl, wX12, by decide, kAW (v_4_6 (List.mem_of_getElem? (i := 7) rfl)) rfl, rfl⟩
theorem FP_X12_486 : FPX RX12 486 12 86 58 .int := ⟨⟨RX12, TX12, tyX12, rfl, wX12, by decide, kAW (v_4_6 (List.mem_of_getElem? (i := 7) rfl)) rfl, rfl, tyX12_ok, nmX12, by decide +kernel, rfl⟩, by decide +kernel⟩
theorem FG_X12_489 : FG RX12 489 12 86 63 := ⟨RX12, TX12, rfl, wX12, by decide, kAW (v_4_6 (List.mem_of_getElem? (i := 12) rfl)) rfl, rfl⟩
theorem FP_X12_489 : FPX RX12 489 12 86 63 .int := ⟨⟨RX12, TX12, tyX12, rfl, wX12, by decide, kAW (v_4_6 (List.mem_of_getElem? (i := 12) rfl)) rfl, rfl, tyX12_ok, nmX12, by decide +kernel, rfl⟩, by decide +kernel⟩
theorem myX12_isExamined : MI yX12_isExamined cX12_isExamined 4 none 1 := ⟨kAW (v_6_9 (List.mem_of_getElem? (i := 0) rfl)) rfl, kAW (v_0_0 (List.mem_of_getElem? (i := 13) rfl)) rfl, kAW (v_6_8 (List.mem_of_getElem? (i := 15) rfl)) rfl, kAW (tp_t5 (List.mem_of_getElem? (i := 2) rfl)) rfl, by decide, by decide, by decide +kernel⟩
theorem FG_X12_40 : FG RX12 40 12 86 17 := ⟨RX12, TX12, rfl, wX12, by decide, kAW (v_4_3 (List.mem_of_getElem? (i := 14) rfl)) rfl, rfl⟩
theorem myX12_isThere : MI yX12_isThere cX12_isThere 2 (some FieldType.boolean) 1 := ⟨kAW (v_6_3 (List.mem_of_getElem? (i := 10) rfl)) rfl, kAW (v_0_0 (List.mem_of_getElem? (i := 13) rfl)) rfl, kAW (v_6_3 (List.mem_of_getElem? (i := 9) rfl)) rfl, kAW (tp_t4 (List.mem_of_getElem? (i := 0) rfl)) rfl, by decide, by decide, by decide +kernel⟩
theorem myX12_doesArt : MI yX12_doesArt cX12_doesArt 4 none 2 := ⟨kAW (v_6_3 (List.mem_of_getElem? (i := 14) rfl)) rfl, kAW (v_0_0 (List.mem_of_getElem? (i := 13) rfl)) rfl, kAW (v_6_3 (List.mem_of_getElem? (i := 13) rfl)) rfl, kAW (tp_t4 (List.mem_of_getElem? (i := 1) rfl)) rfl, by decide, by decide, by decide +kernel⟩
set_option maxRecDepth 100000 in
set_option maxHeartbeats 4000000 in
theorem a_X12_weekOf (l : Launch) (D : va_G) (cA : Nat → ClassId) (ad : Nat → Nat) (g0 : Nat → va_E) (p : Int32)   (hSh : Shp ad cA g0) (hG : Rng g0) (p0 : 0 ≤ p.toInt) (p7 : p.toInt < 8) (hL : LawOK g0) (gr9 : (arI g0 159 p.toNatClampNeg).toInt ≤ 9) : CT l NN ad cA D yX12_weekOf cX12_weekOf 4 none (8, 184) [.ref (ad 129), .int p] g0 (fun v g' => v = none ∧ Shp ad cA g' ∧ Rng g' ∧ FR (fun i k => i = 161 ∨ i = 156 ∨ i = 157 ∨ (i = 129 ∧ (k = 42 ∨ k = 43 ∨ k = 44 ∨ k = 45 ∨ k = 46 ∨ k = 47 ∨ k = 48 ∨ k = 49)) ∨ (i = 129 ∧ (k = 2 ∨ k = 57 ∨ k = 58 ∨ k = 61 ∨ k = 62 ∨ k = 63 ∨ k = 64)) ∨ i = 159) g0 g') := by
  refine q_enterV (by decide) (Nat.le_of_ble_eq_true rfl) (fun K H locs ls _ _ hM hW0 hR hC hE hl => ?_)
  have hl : lv_has ls 4 [(0, .ref (ad 129)), (1, .int p)] := hl
  have hW : WS ad cA (fun i k => i = 161 ∨ i = 156 ∨ i = 157 ∨ (i = 129 ∧ (k = 42 ∨ k = 43 ∨ k = 44 ∨ k = 45 ∨ k = 46 ∨ k = 47 ∨ k = 48 ∨ k = 49)) ∨ (i = 129 ∧ (k = 2 ∨ k = 57 ∨ k = 58 ∨ k = 61 ∨ k = 62 ∨ k = 63 ∨ k = 64)) ∨ i = 159) g0 K g0 H locs := ⟨hW0, hSh, FR.rf⟩
  refine q_aload_n hM dX12_weekOf_0 (lv_at hl 0 rfl) ?_
  refine w_getI hM hW FG_X12_416 lb_129 (by decide) (by decide) dX12_weekOf_1 (fun x6225 fx6225 => ?_)
  refine q_bipush (v := (12 : Int32)) hM dX12_weekOf_4 (by decide) ?_
  refine q_irem hM (by decide) dX12_weekOf_6 (fun z6226 hz6226 => ?_)
  first | have tz6226 := i_remT hz6226 (rfl : x6225.toInt = x6225.toInt) (kc_12 : (12 : Int32).toInt = 12) (by omega) (by omega) | skip
  refine q_istore_n (lv9 := [(2, .int z6226), (0, .ref (ad 129)), (1, .int p)]) hM dX12_weekOf_7 hl (by decide) rfl (fun ls hl => ?_)
  refine q_iload_n hM dX12_weekOf_8 (lv_at hl 0 rfl) ?_
  refine q_bipush (v := (10 : Int32)) hM dX12_weekOf_9 (by decide) ?_
  refine q_icmp_eq (tgt := 20) hM dX12_weekOf_11 (by decide) (rfl : z6226.toInt = z6226.toInt) (kc_10 : (10 : Int32).toInt = 10) (fun h11 => ?_) (fun h11 => ?_)
  · refine q_aload_n hM dX12_weekOf_20 (lv_at hl 1 rfl) ?_
    refine q_iload_n hM dX12_weekOf_21 (lv_at hl 2 rfl) ?_
    refine q_callV (As := [.int p]) (rest := []) hM hW.1 hR hC myX12_rests (kAW (v_6_8 (List.mem_of_getElem? (i := 5) rfl)) rfl) (rfl : vwCl[12]? = some (RX12, TX12, 86)) rfl lb_129.1 (shO hW.2.1 lb_129) (a_X12_rests _ _ cA ad g0 p hW.2.1 hG (by  omega) (by  omega) (LawOK_fr hL hW.2.2 (by omega) (by omega) (by omega) (by omega) (by omega))) ⟨by decide, by decide⟩ rfl rfl hl.1 (Nat.le_of_ble_eq_true rfl) dX12_weekOf_22 (fun v g6228 H locs hp hW1 => ?_)
    obtain ⟨rfl, hs1, hG, hf1⟩ := hp
    have f6229 : arI g6228 159 = arI g0 159 := (hf1.2.1 159 (by omega)).trans (rfl : arI g0 159 = arI g0 159)
    have f6230 : fld g6228 129 56 = .int x6225 := (hf1.1 129 56 (by omega)).trans fx6225
    have hW : WS ad cA (fun i k => i = 161 ∨ i = 156 ∨ i = 157 ∨ (i = 129 ∧ (k = 42 ∨ k = 43 ∨ k = 44 ∨ k = 45 ∨ k = 46 ∨ k = 47 ∨ k = 48 ∨ k = 49)) ∨ (i = 129 ∧ (k = 2 ∨ k = 57 ∨ k = 58 ∨ k = 61 ∨ k = 62 ∨ k = 63 ∨ k = 64)) ∨ i = 159) g0 K g6228 H locs := ⟨hW1, hs1, hW.2.2.tr hf1 (fun i k h => h.elim (fun h => (Or.inl h)) (fun h => h.elim (fun h => (Or.inr (Or.inl h))) (fun h => h.elim (fun h => (Or.inr (Or.inr (Or.inl h)))) (fun h => (Or.inr (Or.inr (Or.inr (Or.inl h))))))))⟩
    refine q_goto (tgt := 62) hM dX12_weekOf_25 (by decide) ?_
    refine q_aload_n hM dX12_weekOf_62 (lv_at hl 1 rfl) ?_
    refine q_iload_n hM dX12_weekOf_63 (lv_at hl 2 rfl) ?_
    refine q_callV (As := [.int p]) (rest := []) hM hW.1 hR hC myX12_recallsAll (kAW (v_6_8 (List.mem_of_getElem? (i := 9) rfl)) rfl) (rfl : vwCl[12]? = some (RX12, TX12, 86)) rfl lb_129.1 (shO hW.2.1 lb_129) (a_X12_recallsAll _ _ cA ad g6228 p hW.2.1 hG (by  omega) (by  omega) (LawOK_fr hL hW.2.2 (by omega) (by omega) (by omega) (by omega) (by omega))) ⟨by decide, by decide⟩ rfl rfl hl.1 (Nat.le_of_ble_eq_true rfl) dX12_weekOf_64 (fun v g6232 H locs hp hW1 => ?_)
    obtain ⟨r6231, rfl, hs1, hG, hf1⟩ := hp
    have f6233 : arI g6232 159 = arI g0 159 := (hf1.2.1 159 (by omega)).trans f6229
    have f6234 : fld g6232 129 56 = .int x6225 := (hf1.1 129 56 (by omega)).trans f6230
    have hW : WS ad cA (fun i k => i = 161 ∨ i = 156 ∨ i = 157 ∨ (i = 129 ∧ (k = 42 ∨ k = 43 ∨ k = 44 ∨ k = 45 ∨ k = 46 ∨ k = 47 ∨ k = 48 ∨ k = 49)) ∨ (i = 129 ∧ (k = 2 ∨ k = 57 ∨ k = 58 ∨ k = 61 ∨ k = 62 ∨ k = 63 ∨ k = 64)) ∨ i = 159) g0 K g6232 H locs := ⟨hW1, hs1, hW.2.2.tr hf1 (fun i k h => h.elim (fun h => (Or.inl h)) (fun h => h.elim (fun h => (Or.inr (Or.inl h))) (fun h => h.elim (fun h => (Or.inr (Or.inr (Or.inl h)))) (fun h => (Or.inr (Or.inr (Or.inr (Or.inl h))))))))⟩
    refine q_istore_n (lv9 := [(3, .int r6231), (2, .int z6226), (0, .ref (ad 129)), (1, .int p)]) hM dX12_weekOf_67 hl (by decide) rfl (fun ls hl => ?_)
    refine q_aload_n hM dX12_weekOf_68 (lv_at hl 2 rfl) ?_
    refine q_dup hM dX12_weekOf_69 rfl ?_
    refine w_getI hM hW FG_X12_486 lb_129 (by decide) (by decide) dX12_weekOf_70 (fun x6235 fx6235 => ?_)
    refine q_iload_n hM dX12_weekOf_73 (lv_at hl 0 rfl) ?_
    refine q_iadd hM dX12_weekOf_74 (fun z6236 hz6236 => ?_)
    first | have tz6236 := i_addT hz6236 (rfl : x6235.toInt = x6235.toInt) (rfl : r6231.toInt = r6231.toInt) (by omega) (by omega) | skip
    refine w_put hM hW FP_X12_486 lb_129 (by omega) (Or.inl ⟨_, rfl⟩) rfl rfl dX12_weekOf_75 (fun g6237 H locs hW e1 e2 => ?_)
    have f6238 : arI g6237 159 = arI g0 159 := (e2.2.1 159 (by unfold Only; omega)).trans f6233
    have f6239 : fld g6237 129 56 = .int x6225 := (e2.1 129 56 (by unfold Only; omega)).trans f6234
    have f6240 : fld g6237 129 58 = .int z6236 := e1
    have hG := hG.put e1 e2 (rfl : rF 129 58 = (-2147483648, 2147483647)) (by decide) (by have := i_rng z6236; omega) (by have := i_rng z6236; omega)
    refine q_aload_n hM dX12_weekOf_78 (lv_at hl 2 rfl) ?_
    refine q_dup hM dX12_weekOf_79 rfl ?_
    refine w_getI hM hW FG_X12_489 lb_129 (by decide) (by decide) dX12_weekOf_80 (fun x6241 fx6241 => ?_)
    refine q_iload_n hM dX12_weekOf_83 (lv_at hl 0 rfl) ?_
    refine q_iadd hM dX12_weekOf_84 (fun z6242 hz6242 => ?_)
    first | have tz6242 := i_addT hz6242 (rfl : x6241.toInt = x6241.toInt) (rfl : r6231.toInt = r6231.toInt) (by omega) (by omega) | skip
    refine w_put hM hW FP_X12_489 lb_129 (by omega) (Or.inl ⟨_, rfl⟩) rfl rfl dX12_weekOf_85 (fun g6243 H locs hW e1 e2 => ?_)
    have f6244 : arI g6243 159 = arI g0 159 := (e2.2.1 159 (by unfold Only; omega)).trans f6238
    have f6245 : fld g6243 129 56 = .int x6225 := (e2.1 129 56 (by unfold Only; omega)).trans f6239
    have f6246 : fld g6243 129 58 = .int z6236 := (e2.1 129 58 (by unfold Only; omega)).trans f6240
    have f6247 : fld g6243 129 63 = .int z6242 := e1
    have hG := hG.put e1 e2 (rfl : rF 129 63 = (-2147483648, 2147483647)) (by decide) (by have := i_rng z6242; omega) (by have := i_rng z6242; omega)
    refine q_iload_n hM dX12_weekOf_88 (lv_at hl 1 rfl) ?_
    refine q_iconst (v := (4 : Int32)) hM dX12_weekOf_89 (by decide) ?_
    refine q_irem hM (by decide) dX12_weekOf_90 (fun z6248 hz6248 => ?_)
    first | have tz6248 := i_remT hz6248 (rfl : z6226.toInt = z6226.toInt) (kc_4 : (4 : Int32).toInt = 4) (by omega) (by omega) | skip
    refine q_iconst (v := (3 : Int32)) hM dX12_weekOf_91 (by decide) ?_
    refine q_icmp_ne (tgt := 107) hM dX12_weekOf_92 (by decide) (rfl : z6248.toInt = z6248.toInt) (kc_3 : (3 : Int32).toInt = 3) (fun h92 => ?_) (fun h92 => ?_)
    · exact hE _ _ _ _ _ hW.1 ⟨rfl, hW.2.1, hG, hW.2.2⟩ dX12_weekOf_107
    · refine q_aload_n hM dX12_weekOf_95 (lv_at hl 2 rfl) ?_
      refine w_getI hM hW FG_X12_428 lb_129 (by decide) (by decide) dX12_weekOf_96 (fun x6251 fx6251 => ?_)
      refine q_if_eq (tgt := 107) hM dX12_weekOf_99 (by decide) (rfl : x6251.toInt = x6251.toInt) (fun h99 => ?_) (fun h99 => ?_)
      · exact hE _ _ _ _ _ hW.1 ⟨rfl, hW.2.1, hG, hW.2.2⟩ dX12_weekOf_107
      · refine q_aload_n hM dX12_weekOf_102 (lv_at hl 2 rfl) ?_
        refine q_iload_n hM dX12_weekOf_103 (lv_at hl 3 rfl) ?_
        refine q_callV (As := [.int p]) (rest := []) hM hW.1 hR hC myX12_isExamined (kAW (v_6_8 (List.mem_of_getElem? (i := 13) rfl)) rfl) (rfl : vwCl[12]? = some (RX12, TX12, 86)) rfl lb_129.1 (shO hW.2.1 lb_129) (a_X12_isExamined _ _ cA ad g6243 p hW.2.1 hG (by  omega) (by  omega) (by rw [f6244]; exact gr9)) ⟨by decide, by decide⟩ rfl rfl hl.1 (Nat.le_of_ble_eq_true rfl) dX12_weekOf_104 (fun v g6254 H locs hp hW1 => ?_)
        obtain ⟨rfl, hs1, hG, hf1⟩ := hp
        have f6255 : fld g6254 129 56 = .int x6225 := (hf1.1 129 56 (by omega)).trans f6245
        have f6256 : fld g6254 129 58 = .int z6236 := (hf1.1 129 58 (by omega)).trans f6246
        have f6257 : fld g6254 129 63 = .int z6242 := (hf1.1 129 63 (by omega)).trans f6247
        have f6258 : fld g6254 129 59 = .int x6251 := (hf1.1 129 59 (by omega)).trans fx6251
        have hW : WS ad cA (fun i k => i = 161 ∨ i = 156 ∨ i = 157 ∨ (i = 129 ∧ (k = 42 ∨ k = 43 ∨ k = 44 ∨ k = 45 ∨ k = 46 ∨ k = 47 ∨ k = 48 ∨ k = 49)) ∨ (i = 129 ∧ (k = 2 ∨ k = 57 ∨ k = 58 ∨ k = 61 ∨ k = 62 ∨ k = 63 ∨ k = 64)) ∨ i = 159) g0 K g6254 H locs := ⟨hW1, hs1, hW.2.2.tr hf1 (fun i k h => h.elim (fun h => (Or.inr (Or.inr (Or.inr (Or.inr (Or.inl (by omega))))))) (fun h => (Or.inr (Or.inr (Or.inr (Or.inr (Or.inr h)))))))⟩
        exact hE _ _ _ _ _ hW.1 ⟨rfl, hW.2.1, hG, hW.2.2⟩ dX12_weekOf_107
  · refine q_iload_n hM dX12_weekOf_14 (lv_at hl 0 rfl) ?_
    refine q_bipush (v := (11 : Int32)) hM dX12_weekOf_15 (by decide) ?_
    refine q_icmp_ne (tgt := 28) hM dX12_weekOf_17 (by decide) (rfl : z6226.toInt = z6226.toInt) (kc_11 : (11 : Int32).toInt = 11) (fun h17 => ?_) (fun h17 => ?_)
    · refine q_aload_n hM dX12_weekOf_28 (lv_at hl 1 rfl) ?_
      refine q_aload_n hM dX12_weekOf_29 (lv_at hl 1 rfl) ?_
      refine w_get (v := .ref (ad 138)) hM hW FG_X12_40 lb_129 (rf_129_17 hW.2.1) dX12_weekOf_30 ?_
      refine q_aload_n hM dX12_weekOf_33 (lv_at hl 1 rfl) ?_
      refine w_get (v := .ref (ad 159)) hM hW FG_X12_103 lb_129 (rf_129_53 hW.2.1) dX12_weekOf_34 ?_
      refine q_iload_n hM dX12_weekOf_37 (lv_at hl 2 rfl) ?_
      refine w_iald hM hW lb_159 (i_in (by omega) (by omega)) dX12_weekOf_38 ?_
      refine q_top (fun y6261 hy6261 => ?_)
      have ky6261 : y6261.toInt ≤ 9 := by rw [hy6261, (rfl : arI g0 159 = arI g0 159)]; exact gr9
      have by6261 := hG.a hy6261 rA_159
      refine w_iald hM hW lb_138 (i_in (by omega) (by omega)) dX12_weekOf_39 ?_
      refine q_top (fun y6262 hy6262 => ?_)
      refine q_callV (As := [.int y6262]) (rest := []) hM hW.1 hR hC myX12_isThere (kAW (v_6_3 (List.mem_of_getElem? (i := 7) rfl)) rfl) (rfl : vwCl[12]? = some (RX12, TX12, 86)) rfl lb_129.1 (shO hW.2.1 lb_129) (a_X12_isThere _ _ cA ad g0 y6262 hW.2.1 hG) ⟨by decide, by decide⟩ rfl rfl hl.1 (Nat.le_of_ble_eq_true rfl) dX12_weekOf_40 (fun v g6264 H locs hp hW1 => ?_)
      obtain ⟨r6263, rfl, hr6263, rfl⟩ := hp
      have hW : WS ad cA (fun i k => i = 161 ∨ i = 156 ∨ i = 157 ∨ (i = 129 ∧ (k = 42 ∨ k = 43 ∨ k = 44 ∨ k = 45 ∨ k = 46 ∨ k = 47 ∨ k = 48 ∨ k = 49)) ∨ (i = 129 ∧ (k = 2 ∨ k = 57 ∨ k = 58 ∨ k = 61 ∨ k = 62 ∨ k = 63 ∨ k = 64)) ∨ i = 159) g0 K g0 H locs := ⟨hW1, hW.2.1, hW.2.2⟩
      refine q_if_eq (tgt := 62) hM dX12_weekOf_43 (by decide) (rfl : r6263.toInt = r6263.toInt) (fun h43 => ?_) (fun h43 => ?_)
      · refine q_aload_n hM dX12_weekOf_62 (lv_at hl 1 rfl) ?_
        refine q_iload_n hM dX12_weekOf_63 (lv_at hl 2 rfl) ?_
        refine q_callV (As := [.int p]) (rest := []) hM hW.1 hR hC myX12_recallsAll (kAW (v_6_8 (List.mem_of_getElem? (i := 9) rfl)) rfl) (rfl : vwCl[12]? = some (RX12, TX12, 86)) rfl lb_129.1 (shO hW.2.1 lb_129) (a_X12_recallsAll _ _ cA ad g0 p hW.2.1 hG (by  omega) (by  omega) (LawOK_fr hL hW.2.2 (by omega) (by omega) (by omega) (by omega) (by omega))) ⟨by decide, by decide⟩ rfl rfl hl.1 (Nat.le_of_ble_eq_true rfl) dX12_weekOf_64 (fun v g6267 H locs hp hW1 => ?_)
        obtain ⟨r6266, rfl, hs1, hG, hf1⟩ := hp
        have f6268 : arI g6267 159 = arI g0 159 := (hf1.2.1 159 (by omega)).trans (rfl : arI g0 159 = arI g0 159)
        have f6269 : fld g6267 129 56 = .int x6225 := (hf1.1 129 56 (by omega)).trans fx6225
        have hW : WS ad cA (fun i k => i = 161 ∨ i = 156 ∨ i = 157 ∨ (i = 129 ∧ (k = 42 ∨ k = 43 ∨ k = 44 ∨ k = 45 ∨ k = 46 ∨ k = 47 ∨ k = 48 ∨ k = 49)) ∨ (i = 129 ∧ (k = 2 ∨ k = 57 ∨ k = 58 ∨ k = 61 ∨ k = 62 ∨ k = 63 ∨ k = 64)) ∨ i = 159) g0 K g6267 H locs := ⟨hW1, hs1, hW.2.2.tr hf1 (fun i k h => h.elim (fun h => (Or.inl h)) (fun h => h.elim (fun h => (Or.inr (Or.inl h))) (fun h => h.elim (fun h => (Or.inr (Or.inr (Or.inl h)))) (fun h => (Or.inr (Or.inr (Or.inr (Or.inl h))))))))⟩
        refine q_istore_n (lv9 := [(3, .int r6266), (2, .int z6226), (0, .ref (ad 129)), (1, .int p)]) hM dX12_weekOf_67 hl (by decide) rfl (fun ls hl => ?_)
        refine q_aload_n hM dX12_weekOf_68 (lv_at hl 2 rfl) ?_
        refine q_dup hM dX12_weekOf_69 rfl ?_
        refine w_getI hM hW FG_X12_486 lb_129 (by decide) (by decide) dX12_weekOf_70 (fun x6270 fx6270 => ?_)
        refine q_iload_n hM dX12_weekOf_73 (lv_at hl 0 rfl) ?_
        refine q_iadd hM dX12_weekOf_74 (fun z6271 hz6271 => ?_)
        first | have tz6271 := i_addT hz6271 (rfl : x6270.toInt = x6270.toInt) (rfl : r6266.toInt = r6266.toInt) (by omega) (by omega) | skip
        refine w_put hM hW FP_X12_486 lb_129 (by omega) (Or.inl ⟨_, rfl⟩) rfl rfl dX12_weekOf_75 (fun g6272 H locs hW e1 e2 => ?_)
        have f6273 : arI g6272 159 = arI g0 159 := (e2.2.1 159 (by unfold Only; omega)).trans f6268
        have f6274 : fld g6272 129 56 = .int x6225 := (e2.1 129 56 (by unfold Only; omega)).trans f6269
        have f6275 : fld g6272 129 58 = .int z6271 := e1
        have hG := hG.put e1 e2 (rfl : rF 129 58 = (-2147483648, 2147483647)) (by decide) (by have := i_rng z6271; omega) (by have := i_rng z6271; omega)
        refine q_aload_n hM dX12_weekOf_78 (lv_at hl 2 rfl) ?_
        refine q_dup hM dX12_weekOf_79 rfl ?_
        refine w_getI hM hW FG_X12_489 lb_129 (by decide) (by decide) dX12_weekOf_80 (fun x6276 fx6276 => ?_)
        refine q_iload_n hM dX12_weekOf_83 (lv_at hl 0 rfl) ?_
        refine q_iadd hM dX12_weekOf_84 (fun z6277 hz6277 => ?_)
        first | have tz6277 := i_addT hz6277 (rfl : x6276.toInt = x6276.toInt) (rfl : r6266.toInt = r6266.toInt) (by omega) (by omega) | skip
        refine w_put hM hW FP_X12_489 lb_129 (by omega) (Or.inl ⟨_, rfl⟩) rfl rfl dX12_weekOf_85 (fun g6278 H locs hW e1 e2 => ?_)
        have f6279 : arI g6278 159 = arI g0 159 := (e2.2.1 159 (by unfold Only; omega)).trans f6273
        have f6280 : fld g6278 129 56 = .int x6225 := (e2.1 129 56 (by unfold Only; omega)).trans f6274
        have f6281 : fld g6278 129 58 = .int z6271 := (e2.1 129 58 (by unfold Only; omega)).trans f6275
        have f6282 : fld g6278 129 63 = .int z6277 := e1
        have hG := hG.put e1 e2 (rfl : rF 129 63 = (-2147483648, 2147483647)) (by decide) (by have := i_rng z6277; omega) (by have := i_rng z6277; omega)
        refine q_iload_n hM dX12_weekOf_88 (lv_at hl 1 rfl) ?_
        refine q_iconst (v := (4 : Int32)) hM dX12_weekOf_89 (by decide) ?_
        refine q_irem hM (by decide) dX12_weekOf_90 (fun z6283 hz6283 => ?_)
        first | have tz6283 := i_remT hz6283 (rfl : z6226.toInt = z6226.toInt) (kc_4 : (4 : Int32).toInt = 4) (by omega) (by omega) | skip
        refine q_iconst (v := (3 : Int32)) hM dX12_weekOf_91 (by decide) ?_
        refine q_icmp_ne (tgt := 107) hM dX12_weekOf_92 (by decide) (rfl : z6283.toInt = z6283.toInt) (kc_3 : (3 : Int32).toInt = 3) (fun h92 => ?_) (fun h92 => ?_)
        · exact hE _ _ _ _ _ hW.1 ⟨rfl, hW.2.1, hG, hW.2.2⟩ dX12_weekOf_107
        · refine q_aload_n hM dX12_weekOf_95 (lv_at hl 2 rfl) ?_
          refine w_getI hM hW FG_X12_428 lb_129 (by decide) (by decide) dX12_weekOf_96 (fun x6286 fx6286 => ?_)
          refine q_if_eq (tgt := 107) hM dX12_weekOf_99 (by decide) (rfl : x6286.toInt = x6286.toInt) (fun h99 => ?_) (fun h99 => ?_)
          · exact hE _ _ _ _ _ hW.1 ⟨rfl, hW.2.1, hG, hW.2.2⟩ dX12_weekOf_107
          · refine q_aload_n hM dX12_weekOf_102 (lv_at hl 2 rfl) ?_
            refine q_iload_n hM dX12_weekOf_103 (lv_at hl 3 rfl) ?_
            refine q_callV (As := [.int p]) (rest := []) hM hW.1 hR hC myX12_isExamined (kAW (v_6_8 (List.mem_of_getElem? (i := 13) rfl)) rfl) (rfl : vwCl[12]? = some (RX12, TX12, 86)) rfl lb_129.1 (shO hW.2.1 lb_129) (a_X12_isExamined _ _ cA ad g6278 p hW.2.1 hG (by  omega) (by  omega) (by rw [f6279]; exact gr9)) ⟨by decide, by decide⟩ rfl rfl hl.1 (Nat.le_of_ble_eq_true rfl) dX12_weekOf_104 (fun v g6289 H locs hp hW1 => ?_)
            obtain ⟨rfl, hs1, hG, hf1⟩ := hp
            have f6290 : fld g6289 129 56 = .int x6225 := (hf1.1 129 56 (by omega)).trans f6280
            have f6291 : fld g6289 129 58 = .int z6271 := (hf1.1 129 58 (by omega)).trans f6281
            have f6292 : fld g6289 129 63 = .int z6277 := (hf1.1 129 63 (by omega)).trans f6282
            have f6293 : fld g6289 129 59 = .int x6286 := (hf1.1 129 59 (by omega)).trans fx6286
            have hW : WS ad cA (fun i k => i = 161 ∨ i = 156 ∨ i = 157 ∨ (i = 129 ∧ (k = 42 ∨ k = 43 ∨ k = 44 ∨ k = 45 ∨ k = 46 ∨ k = 47 ∨ k = 48 ∨ k = 49)) ∨ (i = 129 ∧ (k = 2 ∨ k = 57 ∨ k = 58 ∨ k = 61 ∨ k = 62 ∨ k = 63 ∨ k = 64)) ∨ i = 159) g0 K g6289 H locs := ⟨hW1, hs1, hW.2.2.tr hf1 (fun i k h => h.elim (fun h => (Or.inr (Or.inr (Or.inr (Or.inr (Or.inl (by omega))))))) (fun h => (Or.inr (Or.inr (Or.inr (Or.inr (Or.inr h)))))))⟩
            exact hE _ _ _ _ _ hW.1 ⟨rfl, hW.2.1, hG, hW.2.2⟩ dX12_weekOf_107
      · refine q_aload_n hM dX12_weekOf_46 (lv_at hl 1 rfl) ?_
        refine q_iload_n hM dX12_weekOf_47 (lv_at hl 2 rfl) ?_
        refine q_aload_n hM dX12_weekOf_48 (lv_at hl 1 rfl) ?_
        refine w_get (v := .ref (ad 138)) hM hW FG_X12_40 lb_129 (rf_129_17 hW.2.1) dX12_weekOf_49 ?_
        refine q_aload_n hM dX12_weekOf_52 (lv_at hl 1 rfl) ?_
        refine w_get (v := .ref (ad 159)) hM hW FG_X12_103 lb_129 (rf_129_53 hW.2.1) dX12_weekOf_53 ?_
        refine q_iload_n hM dX12_weekOf_56 (lv_at hl 2 rfl) ?_
        refine w_iald hM hW lb_159 (i_in (by omega) (by omega)) dX12_weekOf_57 ?_
        refine q_top (fun y6295 hy6295 => ?_)
        have ky6295 : y6295.toInt ≤ 9 := by rw [hy6295, (rfl : arI g0 159 = arI g0 159)]; exact gr9
        have by6295 := hG.a hy6295 rA_159
        refine w_iald hM hW lb_138 (i_in (by omega) (by omega)) dX12_weekOf_58 ?_
        refine q_top (fun y6296 hy6296 => ?_)
        have e4 : y6296 = y6262 := by rw [hy6296, hy6262, hy6295, hy6261]
        have e5 := congrArg Int32.toInt e4
        refine q_callV (As := [.int p, .int y6296]) (rest := []) hM hW.1 hR hC myX12_doesArt (kAW (v_6_3 (List.mem_of_getElem? (i := 11) rfl)) rfl) (rfl : vwCl[12]? = some (RX12, TX12, 86)) rfl lb_129.1 (shO hW.2.1 lb_129) (a_X12_doesArt _ _ cA ad g0 p y6296 hW.2.1 hG (by  omega) (by  omega) (by  omega) (by  omega) (LawOK_fr hL hW.2.2 (by omega) (by omega) (by omega) (by omega) (by omega))) ⟨by decide, by decide⟩ rfl rfl hl.1 (Nat.le_of_ble_eq_true rfl) dX12_weekOf_59 (fun v g6297 H locs hp hW1 => ?_)
        obtain ⟨rfl, hs1, hG, hf1⟩ := hp
        have f6298 : arI g6297 159 = arI g0 159 := (hf1.2.1 159 (by omega)).trans (rfl : arI g0 159 = arI g0 159)
        have f6299 : fld g6297 129 56 = .int x6225 := (hf1.1 129 56 (by omega)).trans fx6225
        have hW : WS ad cA (fun i k => i = 161 ∨ i = 156 ∨ i = 157 ∨ (i = 129 ∧ (k = 42 ∨ k = 43 ∨ k = 44 ∨ k = 45 ∨ k = 46 ∨ k = 47 ∨ k = 48 ∨ k = 49)) ∨ (i = 129 ∧ (k = 2 ∨ k = 57 ∨ k = 58 ∨ k = 61 ∨ k = 62 ∨ k = 63 ∨ k = 64)) ∨ i = 159) g0 K g6297 H locs := ⟨hW1, hs1, hW.2.2.tr hf1 (fun i k h => h.elim (fun h => (Or.inl h)) (fun h => h.elim (fun h => (Or.inr (Or.inl h))) (fun h => h.elim (fun h => (Or.inr (Or.inr (Or.inl h)))) (fun h => (Or.inr (Or.inr (Or.inr (Or.inl h))))))))⟩
        refine q_aload_n hM dX12_weekOf_62 (lv_at hl 1 rfl) ?_
        refine q_iload_n hM dX12_weekOf_63 (lv_at hl 2 rfl) ?_
        refine q_callV (As := [.int p]) (rest := []) hM hW.1 hR hC myX12_recallsAll (kAW (v_6_8 (List.mem_of_getElem? (i := 9) rfl)) rfl) (rfl : vwCl[12]? = some (RX12, TX12, 86)) rfl lb_129.1 (shO hW.2.1 lb_129) (a_X12_recallsAll _ _ cA ad g6297 p hW.2.1 hG (by  omega) (by  omega) (LawOK_fr hL hW.2.2 (by omega) (by omega) (by omega) (by omega) (by omega))) ⟨by decide, by decide⟩ rfl rfl hl.1 (Nat.le_of_ble_eq_true rfl) dX12_weekOf_64 (fun v g6301 H locs hp hW1 => ?_)
        obtain ⟨r6300, rfl, hs1, hG, hf1⟩ := hp
        have f6302 : arI g6301 159 = arI g0 159 := (hf1.2.1 159 (by omega)).trans f6298
        have f6303 : fld g6301 129 56 = .int x6225 := (hf1.1 129 56 (by omega)).trans f6299
        have hW : WS ad cA (fun i k => i = 161 ∨ i = 156 ∨ i = 157 ∨ (i = 129 ∧ (k = 42 ∨ k = 43 ∨ k = 44 ∨ k = 45 ∨ k = 46 ∨ k = 47 ∨ k = 48 ∨ k = 49)) ∨ (i = 129 ∧ (k = 2 ∨ k = 57 ∨ k = 58 ∨ k = 61 ∨ k = 62 ∨ k = 63 ∨ k = 64)) ∨ i = 159) g0 K g6301 H locs := ⟨hW1, hs1, hW.2.2.tr hf1 (fun i k h => h.elim (fun h => (Or.inl h)) (fun h => h.elim (fun h => (Or.inr (Or.inl h))) (fun h => h.elim (fun h => (Or.inr (Or.inr (Or.inl h)))) (fun h => (Or.inr (Or.inr (Or.inr (Or.inl h))))))))⟩
        refine q_istore_n (lv9 := [(3, .int r6300), (2, .int z6226), (0, .ref (ad 129)), (1, .int p)]) hM dX12_weekOf_67 hl (by decide) rfl (fun ls hl => ?_)
        refine q_aload_n hM dX12_weekOf_68 (lv_at hl 2 rfl) ?_
        refine q_dup hM dX12_weekOf_69 rfl ?_
        refine w_getI hM hW FG_X12_486 lb_129 (by decide) (by decide) dX12_weekOf_70 (fun x6304 fx6304 => ?_)
        refine q_iload_n hM dX12_weekOf_73 (lv_at hl 0 rfl) ?_
        refine q_iadd hM dX12_weekOf_74 (fun z6305 hz6305 => ?_)
        first | have tz6305 := i_addT hz6305 (rfl : x6304.toInt = x6304.toInt) (rfl : r6300.toInt = r6300.toInt) (by omega) (by omega) | skip
        refine w_put hM hW FP_X12_486 lb_129 (by omega) (Or.inl ⟨_, rfl⟩) rfl rfl dX12_weekOf_75 (fun g6306 H locs hW e1 e2 => ?_)
        have f6307 : arI g6306 159 = arI g0 159 := (e2.2.1 159 (by unfold Only; omega)).trans f6302
        have f6308 : fld g6306 129 56 = .int x6225 := (e2.1 129 56 (by unfold Only; omega)).trans f6303
        have f6309 : fld g6306 129 58 = .int z6305 := e1
        have hG := hG.put e1 e2 (rfl : rF 129 58 = (-2147483648, 2147483647)) (by decide) (by have := i_rng z6305; omega) (by have := i_rng z6305; omega)
        refine q_aload_n hM dX12_weekOf_78 (lv_at hl 2 rfl) ?_
        refine q_dup hM dX12_weekOf_79 rfl ?_
        refine w_getI hM hW FG_X12_489 lb_129 (by decide) (by decide) dX12_weekOf_80 (fun x6310 fx6310 => ?_)
        refine q_iload_n hM dX12_weekOf_83 (lv_at hl 0 rfl) ?_
        refine q_iadd hM dX12_weekOf_84 (fun z6311 hz6311 => ?_)
        first | have tz6311 := i_addT hz6311 (rfl : x6310.toInt = x6310.toInt) (rfl : r6300.toInt = r6300.toInt) (by omega) (by omega) | skip
        refine w_put hM hW FP_X12_489 lb_129 (by omega) (Or.inl ⟨_, rfl⟩) rfl rfl dX12_weekOf_85 (fun g6312 H locs hW e1 e2 => ?_)
        have f6313 : arI g6312 159 = arI g0 159 := (e2.2.1 159 (by unfold Only; omega)).trans f6307
        have f6314 : fld g6312 129 56 = .int x6225 := (e2.1 129 56 (by unfold Only; omega)).trans f6308
        have f6315 : fld g6312 129 58 = .int z6305 := (e2.1 129 58 (by unfold Only; omega)).trans f6309
        have f6316 : fld g6312 129 63 = .int z6311 := e1
        have hG := hG.put e1 e2 (rfl : rF 129 63 = (-2147483648, 2147483647)) (by decide) (by have := i_rng z6311; omega) (by have := i_rng z6311; omega)
        refine q_iload_n hM dX12_weekOf_88 (lv_at hl 1 rfl) ?_
        refine q_iconst (v := (4 : Int32)) hM dX12_weekOf_89 (by decide) ?_
        refine q_irem hM (by decide) dX12_weekOf_90 (fun z6317 hz6317 => ?_)
        first | have tz6317 := i_remT hz6317 (rfl : z6226.toInt = z6226.toInt) (kc_4 : (4 : Int32).toInt = 4) (by omega) (by omega) | skip
        refine q_iconst (v := (3 : Int32)) hM dX12_weekOf_91 (by decide) ?_
        refine q_icmp_ne (tgt := 107) hM dX12_weekOf_92 (by decide) (rfl : z6317.toInt = z6317.toInt) (kc_3 : (3 : Int32).toInt = 3) (fun h92 => ?_) (fun h92 => ?_)
        · exact hE _ _ _ _ _ hW.1 ⟨rfl, hW.2.1, hG, hW.2.2⟩ dX12_weekOf_107
        · refine q_aload_n hM dX12_weekOf_95 (lv_at hl 2 rfl) ?_
          refine w_getI hM hW FG_X12_428 lb_129 (by decide) (by decide) dX12_weekOf_96 (fun x6320 fx6320 => ?_)
          refine q_if_eq (tgt := 107) hM dX12_weekOf_99 (by decide) (rfl : x6320.toInt = x6320.toInt) (fun h99 => ?_) (fun h99 => ?_)
          · exact hE _ _ _ _ _ hW.1 ⟨rfl, hW.2.1, hG, hW.2.2⟩ dX12_weekOf_107
          · refine q_aload_n hM dX12_weekOf_102 (lv_at hl 2 rfl) ?_
            refine q_iload_n hM dX12_weekOf_103 (lv_at hl 3 rfl) ?_
            refine q_callV (As := [.int p]) (rest := []) hM hW.1 hR hC myX12_isExamined (kAW (v_6_8 (List.mem_of_getElem? (i := 13) rfl)) rfl) (rfl : vwCl[12]? = some (RX12, TX12, 86)) rfl lb_129.1 (shO hW.2.1 lb_129) (a_X12_isExamined _ _ cA ad g6312 p hW.2.1 hG (by  omega) (by  omega) (by rw [f6313]; exact gr9)) ⟨by decide, by decide⟩ rfl rfl hl.1 (Nat.le_of_ble_eq_true rfl) dX12_weekOf_104 (fun v g6323 H locs hp hW1 => ?_)
            obtain ⟨rfl, hs1, hG, hf1⟩ := hp
            have f6324 : fld g6323 129 56 = .int x6225 := (hf1.1 129 56 (by omega)).trans f6314
            have f6325 : fld g6323 129 58 = .int z6305 := (hf1.1 129 58 (by omega)).trans f6315
            have f6326 : fld g6323 129 63 = .int z6311 := (hf1.1 129 63 (by omega)).trans f6316
            have f6327 : fld g6323 129 59 = .int x6320 := (hf1.1 129 59 (by omega)).trans fx6320
            have hW : WS ad cA (fun i k => i = 161 ∨ i = 156 ∨ i = 157 ∨ (i = 129 ∧ (k = 42 ∨ k = 43 ∨ k = 44 ∨ k = 45 ∨ k = 46 ∨ k = 47 ∨ k = 48 ∨ k = 49)) ∨ (i = 129 ∧ (k = 2 ∨ k = 57 ∨ k = 58 ∨ k = 61 ∨ k = 62 ∨ k = 63 ∨ k = 64)) ∨ i = 159) g0 K g6323 H locs := ⟨hW1, hs1, hW.2.2.tr hf1 (fun i k h => h.elim (fun h => (Or.inr (Or.inr (Or.inr (Or.inr (Or.inl (by omega))))))) (fun h => (Or.inr (Or.inr (Or.inr (Or.inr (Or.inr h)))))))⟩
            exact hE _ _ _ _ _ hW.1 ⟨rfl, hW.2.1, hG, hW.2.2⟩ dX12_weekOf_107
    · refine q_aload_n hM dX12_weekOf_20 (lv_at hl 1 rfl) ?_
      refine q_iload_n hM dX12_weekOf_21 (lv_at hl 2 rfl) ?_
      refine q_callV (As := [.int p]) (rest := []) hM hW.1 hR hC myX12_rests (kAW (v_6_8 (List.mem_of_getElem? (i := 5) rfl)) rfl) (rfl : vwCl[12]? = some (RX12, TX12, 86)) rfl lb_129.1 (shO hW.2.1 lb_129) (a_X12_rests _ _ cA ad g0 p hW.2.1 hG (by  omega) (by  omega) (LawOK_fr hL hW.2.2 (by omega) (by omega) (by omega) (by omega) (by omega))) ⟨by decide, by decide⟩ rfl rfl hl.1 (Nat.le_of_ble_eq_true rfl) dX12_weekOf_22 (fun v g6329 H locs hp hW1 => ?_)
      obtain ⟨rfl, hs1, hG, hf1⟩ := hp
      have f6330 : arI g6329 159 = arI g0 159 := (hf1.2.1 159 (by omega)).trans (rfl : arI g0 159 = arI g0 159)
      have f6331 : fld g6329 129 56 = .int x6225 := (hf1.1 129 56 (by omega)).trans fx6225
      have hW : WS ad cA (fun i k => i = 161 ∨ i = 156 ∨ i = 157 ∨ (i = 129 ∧ (k = 42 ∨ k = 43 ∨ k = 44 ∨ k = 45 ∨ k = 46 ∨ k = 47 ∨ k = 48 ∨ k = 49)) ∨ (i = 129 ∧ (k = 2 ∨ k = 57 ∨ k = 58 ∨ k = 61 ∨ k = 62 ∨ k = 63 ∨ k = 64)) ∨ i = 159) g0 K g6329 H locs := ⟨hW1, hs1, hW.2.2.tr hf1 (fun i k h => h.elim (fun h => (Or.inl h)) (fun h => h.elim (fun h => (Or.inr (Or.inl h))) (fun h => h.elim (fun h => (Or.inr (Or.inr (Or.inl h)))) (fun h => (Or.inr (Or.inr (Or.inr (Or.inl h))))))))⟩
      refine q_goto (tgt := 62) hM dX12_weekOf_25 (by decide) ?_
      refine q_aload_n hM dX12_weekOf_62 (lv_at hl 1 rfl) ?_
      refine q_iload_n hM dX12_weekOf_63 (lv_at hl 2 rfl) ?_
      refine q_callV (As := [.int p]) (rest := []) hM hW.1 hR hC myX12_recallsAll (kAW (v_6_8 (List.mem_of_getElem? (i := 9) rfl)) rfl) (rfl : vwCl[12]? = some (RX12, TX12, 86)) rfl lb_129.1 (shO hW.2.1 lb_129) (a_X12_recallsAll _ _ cA ad g6329 p hW.2.1 hG (by  omega) (by  omega) (LawOK_fr hL hW.2.2 (by omega) (by omega) (by omega) (by omega) (by omega))) ⟨by decide, by decide⟩ rfl rfl hl.1 (Nat.le_of_ble_eq_true rfl) dX12_weekOf_64 (fun v g6333 H locs hp hW1 => ?_)
      obtain ⟨r6332, rfl, hs1, hG, hf1⟩ := hp
      have f6334 : arI g6333 159 = arI g0 159 := (hf1.2.1 159 (by omega)).trans f6330
      have f6335 : fld g6333 129 56 = .int x6225 := (hf1.1 129 56 (by omega)).trans f6331
      have hW : WS ad cA (fun i k => i = 161 ∨ i = 156 ∨ i = 157 ∨ (i = 129 ∧ (k = 42 ∨ k = 43 ∨ k = 44 ∨ k = 45 ∨ k = 46 ∨ k = 47 ∨ k = 48 ∨ k = 49)) ∨ (i = 129 ∧ (k = 2 ∨ k = 57 ∨ k = 58 ∨ k = 61 ∨ k = 62 ∨ k = 63 ∨ k = 64)) ∨ i = 159) g0 K g6333 H locs := ⟨hW1, hs1, hW.2.2.tr hf1 (fun i k h => h.elim (fun h => (Or.inl h)) (fun h => h.elim (fun h => (Or.inr (Or.inl h))) (fun h => h.elim (fun h => (Or.inr (Or.inr (Or.inl h)))) (fun h => (Or.inr (Or.inr (Or.inr (Or.inl h))))))))⟩
      refine q_istore_n (lv9 := [(3, .int r6332), (2, .int z6226), (0, .ref (ad 129)), (1, .int p)]) hM dX12_weekOf_67 hl (by decide) rfl (fun ls hl => ?_)
      refine q_aload_n hM dX12_weekOf_68 (lv_at hl 2 rfl) ?_
      refine q_dup hM dX12_weekOf_69 rfl ?_
      refine w_getI hM hW FG_X12_486 lb_129 (by decide) (by decide) dX12_weekOf_70 (fun x6336 fx6336 => ?_)
      refine q_iload_n hM dX12_weekOf_73 (lv_at hl 0 rfl) ?_
      refine q_iadd hM dX12_weekOf_74 (fun z6337 hz6337 => ?_)
      first | have tz6337 := i_addT hz6337 (rfl : x6336.toInt = x6336.toInt) (rfl : r6332.toInt = r6332.toInt) (by omega) (by omega) | skip
      refine w_put hM hW FP_X12_486 lb_129 (by omega) (Or.inl ⟨_, rfl⟩) rfl rfl dX12_weekOf_75 (fun g6338 H locs hW e1 e2 => ?_)
      have f6339 : arI g6338 159 = arI g0 159 := (e2.2.1 159 (by unfold Only; omega)).trans f6334
      have f6340 : fld g6338 129 56 = .int x6225 := (e2.1 129 56 (by unfold Only; omega)).trans f6335
      have f6341 : fld g6338 129 58 = .int z6337 := e1
      have hG := hG.put e1 e2 (rfl : rF 129 58 = (-2147483648, 2147483647)) (by decide) (by have := i_rng z6337; omega) (by have := i_rng z6337; omega)
      refine q_aload_n hM dX12_weekOf_78 (lv_at hl 2 rfl) ?_
      refine q_dup hM dX12_weekOf_79 rfl ?_
      refine w_getI hM hW FG_X12_489 lb_129 (by decide) (by decide) dX12_weekOf_80 (fun x6342 fx6342 => ?_)
      refine q_iload_n hM dX12_weekOf_83 (lv_at hl 0 rfl) ?_
      refine q_iadd hM dX12_weekOf_84 (fun z6343 hz6343 => ?_)
      first | have tz6343 := i_addT hz6343 (rfl : x6342.toInt = x6342.toInt) (rfl : r6332.toInt = r6332.toInt) (by omega) (by omega) | skip
      refine w_put hM hW FP_X12_489 lb_129 (by omega) (Or.inl ⟨_, rfl⟩) rfl rfl dX12_weekOf_85 (fun g6344 H locs hW e1 e2 => ?_)
      have f6345 : arI g6344 159 = arI g0 159 := (e2.2.1 159 (by unfold Only; omega)).trans f6339
      have f6346 : fld g6344 129 56 = .int x6225 := (e2.1 129 56 (by unfold Only; omega)).trans f6340
      have f6347 : fld g6344 129 58 = .int z6337 := (e2.1 129 58 (by unfold Only; omega)).trans f6341
      have f6348 : fld g6344 129 63 = .int z6343 := e1
      have hG := hG.put e1 e2 (rfl : rF 129 63 = (-2147483648, 2147483647)) (by decide) (by have := i_rng z6343; omega) (by have := i_rng z6343; omega)
      refine q_iload_n hM dX12_weekOf_88 (lv_at hl 1 rfl) ?_
      refine q_iconst (v := (4 : Int32)) hM dX12_weekOf_89 (by decide) ?_
      refine q_irem hM (by decide) dX12_weekOf_90 (fun z6349 hz6349 => ?_)
      first | have tz6349 := i_remT hz6349 (rfl : z6226.toInt = z6226.toInt) (kc_4 : (4 : Int32).toInt = 4) (by omega) (by omega) | skip
      refine q_iconst (v := (3 : Int32)) hM dX12_weekOf_91 (by decide) ?_
      refine q_icmp_ne (tgt := 107) hM dX12_weekOf_92 (by decide) (rfl : z6349.toInt = z6349.toInt) (kc_3 : (3 : Int32).toInt = 3) (fun h92 => ?_) (fun h92 => ?_)
      · exact hE _ _ _ _ _ hW.1 ⟨rfl, hW.2.1, hG, hW.2.2⟩ dX12_weekOf_107
      · refine q_aload_n hM dX12_weekOf_95 (lv_at hl 2 rfl) ?_
        refine w_getI hM hW FG_X12_428 lb_129 (by decide) (by decide) dX12_weekOf_96 (fun x6352 fx6352 => ?_)
        refine q_if_eq (tgt := 107) hM dX12_weekOf_99 (by decide) (rfl : x6352.toInt = x6352.toInt) (fun h99 => ?_) (fun h99 => ?_)
        · exact hE _ _ _ _ _ hW.1 ⟨rfl, hW.2.1, hG, hW.2.2⟩ dX12_weekOf_107
        · refine q_aload_n hM dX12_weekOf_102 (lv_at hl 2 rfl) ?_
          refine q_iload_n hM dX12_weekOf_103 (lv_at hl 3 rfl) ?_
          refine q_callV (As := [.int p]) (rest := []) hM hW.1 hR hC myX12_isExamined (kAW (v_6_8 (List.mem_of_getElem? (i := 13) rfl)) rfl) (rfl : vwCl[12]? = some (RX12, TX12, 86)) rfl lb_129.1 (shO hW.2.1 lb_129) (a_X12_isExamined _ _ cA ad g6344 p hW.2.1 hG (by  omega) (by  omega) (by rw [f6345]; exact gr9)) ⟨by decide, by decide⟩ rfl rfl hl.1 (Nat.le_of_ble_eq_true rfl) dX12_weekOf_104 (fun v g6355 H locs hp hW1 => ?_)
          obtain ⟨rfl, hs1, hG, hf1⟩ := hp
          have f6356 : fld g6355 129 56 = .int x6225 := (hf1.1 129 56 (by omega)).trans f6346
          have f6357 : fld g6355 129 58 = .int z6337 := (hf1.1 129 58 (by omega)).trans f6347
          have f6358 : fld g6355 129 63 = .int z6343 := (hf1.1 129 63 (by omega)).trans f6348
          have f6359 : fld g6355 129 59 = .int x6352 := (hf1.1 129 59 (by omega)).trans fx6352
          have hW : WS ad cA (fun i k => i = 161 ∨ i = 156 ∨ i = 157 ∨ (i = 129 ∧ (k = 42 ∨ k = 43 ∨ k = 44 ∨ k = 45 ∨ k = 46 ∨ k = 47 ∨ k = 48 ∨ k = 49)) ∨ (i = 129 ∧ (k = 2 ∨ k = 57 ∨ k = 58 ∨ k = 61 ∨ k = 62 ∨ k = 63 ∨ k = 64)) ∨ i = 159) g0 K g6355 H locs := ⟨hW1, hs1, hW.2.2.tr hf1 (fun i k h => h.elim (fun h => (Or.inr (Or.inr (Or.inr (Or.inr (Or.inl (by omega))))))) (fun h => (Or.inr (Or.inr (Or.inr (Or.inr (Or.inr h)))))))⟩
          exact hE _ _ _ _ _ hW.1 ⟨rfl, hW.2.1, hG, hW.2.2⟩ dX12_weekOf_107
