/-! bounds: of the fields that hold ints (by label and field), of the elements of arrays (by label) -/
def rFl : List ((Nat × Nat) × (Int × Int)) := [((0, 15), (0, 1)), ((1, 1), (0, 260)), ((3, 2), (0, 4095)), ((18, 3), (0, 255)), ((30, 3), (0, 255)), ((42, 3), (0, 255)), ((54, 6), (0, 16)), ((54, 7), (0, 256)), ((61, 6), (0, 16)), ((61, 7), (0, 256)), ((68, 6), (0, 16)), ((68, 7), (0, 256)), ((75, 2), (0, 48)), ((78, 1), (0, 60)), ((78, 2), (0, 60)), ((79, 1), (0, 240)), ((79, 2), (0, 240)), ((80, 4), (0, 63)), ((84, 2), (0, 48)), ((87, 2), (0, 48)), ((90, 2), (0, 48)), ((93, 2), (0, 48)), ((96, 2), (0, 48)), ((99, 2), (0, 48)), ((102, 4), (0, 31)), ((120, 6), (0, 341)), ((127, 1), (0, 8)), ((129, 1), (0, 260)), ((129, 3), (0, 241)), ((129, 4), (0, 240)), ((129, 5), ((-2147483648), 0)), ((129, 6), (0, 16)), ((129, 7), (0, 240)), ((129, 8), ((-240), 240)), ((129, 9), (0, 240)), ((129, 18), (0, 48)), ((129, 19), (0, 2)), ((129, 31), (0, 1)), ((129, 32), (0, 240))]
def rAl : List (Nat × (Int × Int)) := [(2, (0, 255)), (19, (0, 2147483647)), (31, (0, 2147483647)), (43, (0, 2147483647)), (59, ((-1), 99999)), (66, ((-1), 99999)), (73, ((-1), 99999)), (124, ((-1), 340)), (126, (0, 4)), (135, (0, 48)), (136, (0, 33)), (137, (0, 33)), (139, (0, 48)), (140, (0, 9)), (148, (0, 16)), (159, (0, 2147483647)), (163, (0, 2147483647)), (171, (0, 11)), (172, (0, 11)), (173, (0, 11)), (178, (0, 11))]
def rF (i k : Nat) : Int × Int := ((rFl.find? (fun q => q.1.1 == i && q.1.2 == k)).map (fun q => q.2)).getD (-2147483648, 2147483647)
def rA (i : Nat) : Int × Int := ((rAl.find? (fun q => q.1 == i)).map (fun q => q.2)).getD (-2147483648, 2147483647)
def Rng (g : Nat → va_E) : Prop := (∀ i k, k ≠ 0 → (rF i k).1 ≤ (fI g i k).toInt ∧ (fI g i k).toInt ≤ (rF i k).2) ∧ ∀ i j, (rA i).1 ≤ (arI g i j).toInt ∧ (arI g i j).toInt ≤ (rA i).2
theorem fI_of {g : Nat → va_E} {i k : Nat} {x : Int32} (h : fld g i k = .int x) : fI g i k = x := by unfold fI; rw [h]
theorem Rng.f {g : Nat → va_E} (h : Rng g) {i k : Nat} {a b : Int} {x : Int32} (hx : fld g i k = .int x) (e : rF i k = (a, b)) (hk : k ≠ 0) : a ≤ x.toInt ∧ x.toInt ≤ b := by
  have := h.1 i k hk
  rw [fI_of hx, e] at this
  exact this
theorem Rng.a {g : Nat → va_E} (h : Rng g) {i j : Nat} {a b : Int} {y : Int32} (hy : y = arI g i j) (e : rA i = (a, b)) : a ≤ y.toInt ∧ y.toInt ≤ b := by
  have := h.2 i j
  rw [e, ← hy] at this
  exact this
theorem Rng.put {g g1 : Nat → va_E} (h : Rng g) {i k : Nat} {a b : Int} {x : Int32} (e1 : fld g1 i k = .int x) (e2 : FR (Only i k) g g1) (e : rF i k = (a, b)) (hk : k ≠ 0) (ha : a ≤ x.toInt) (hb : x.toInt ≤ b) : Rng g1 := by
  refine ⟨fun i' k' hk' => ?_, fun i' j => ?_⟩
  · by_cases hc : i' = i ∧ k' = k
    · rw [hc.1, hc.2, fI_of e1, e]; exact ⟨ha, hb⟩
    · rw [show fI g1 i' k' = fI g i' k' by unfold fI; rw [e2.1 i' k' hc]]; exact h.1 i' k' hk'
  · rw [e2.2.1 i' (fun q => hk q.2.symm)]; exact h.2 i' j
theorem Rng.putR {g g1 : Nat → va_E} (h : Rng g) {i k q : Nat} (e1 : fld g1 i k = .ref q) (e2 : FR (Only i k) g g1) (e : rF i k = (-2147483648, 2147483647)) (hk : k ≠ 0) : Rng g1 := by
  refine ⟨fun i' k' hk' => ?_, fun i' j => ?_⟩
  · by_cases hc : i' = i ∧ k' = k
    · rw [hc.1, hc.2, show fI g1 i k = 0 by unfold fI; rw [e1], e]; exact ⟨by decide, by decide⟩
    · rw [show fI g1 i' k' = fI g i' k' by unfold fI; rw [e2.1 i' k' hc]]; exact h.1 i' k' hk'
  · rw [e2.2.1 i' (fun q => hk q.2.symm)]; exact h.2 i' j
theorem Rng.st {g g1 : Nat → va_E} (h : Rng g) {i j : Nat} {a b : Int} {x : Int32} (e1 : arI g1 i = upd (arI g i) j x) (e2 : FR (Only i 0) g g1) (e : rA i = (a, b)) (ha : a ≤ x.toInt) (hb : x.toInt ≤ b) : Rng g1 := by
  refine ⟨fun i' k' hk' => ?_, fun i' j' => ?_⟩
  · rw [show fI g1 i' k' = fI g i' k' by unfold fI; rw [e2.1 i' k' (fun q => hk' q.2)]]; exact h.1 i' k' hk'
  · by_cases hc : i' = i
    · subst hc
      rw [e1]
      unfold upd
      split
      · rw [e]; exact ⟨ha, hb⟩
      · exact h.2 i' j'
    · rw [e2.2.1 i' (fun q => hc q.1)]; exact h.2 i' j'
theorem Rng.stJ {g g1 : Nat → va_E} (h : Rng g) {i : Nat} (e2 : FR (Only i 0) g g1) (hi : arI g1 i = arI g i) : Rng g1 := by
  refine ⟨fun i' k' hk' => ?_, fun i' j' => ?_⟩
  · rw [show fI g1 i' k' = fI g i' k' by unfold fI; rw [e2.1 i' k' (fun q => hk' q.2)]]; exact h.1 i' k' hk'
  · by_cases hc : i' = i
    · rw [hc, hi]; exact h.2 i j'
    · rw [e2.2.1 i' (fun q => hc q.1)]; exact h.2 i' j'
/-- the labels of a kind: laws, arts; pupils -/
def isLw (i : Nat) : Prop := i = 54 ∨ i = 61 ∨ i = 68
def isPb (i : Nat) : Prop := i = 18 ∨ i = 42
def isAt (i : Nat) : Prop := i = 75 ∨ i = 84 ∨ i = 87 ∨ i = 90 ∨ i = 93 ∨ i = 96 ∨ i = 99
theorem rF_0_15 : rF 0 15 = (0, 1) := rfl
theorem rF_1_1 : rF 1 1 = (0, 260) := rfl
theorem rF_3_2 : rF 3 2 = (0, 4095) := rfl
theorem rF_18_3 : rF 18 3 = (0, 255) := rfl
theorem rF_30_3 : rF 30 3 = (0, 255) := rfl
theorem rF_42_3 : rF 42 3 = (0, 255) := rfl
theorem rF_54_6 : rF 54 6 = (0, 16) := rfl
theorem rF_54_7 : rF 54 7 = (0, 256) := rfl
theorem rF_61_6 : rF 61 6 = (0, 16) := rfl
theorem rF_61_7 : rF 61 7 = (0, 256) := rfl
theorem rF_68_6 : rF 68 6 = (0, 16) := rfl
theorem rF_68_7 : rF 68 7 = (0, 256) := rfl
theorem rF_75_2 : rF 75 2 = (0, 48) := rfl
theorem rF_78_1 : rF 78 1 = (0, 60) := rfl
theorem rF_78_2 : rF 78 2 = (0, 60) := rfl
theorem rF_79_1 : rF 79 1 = (0, 240) := rfl
theorem rF_79_2 : rF 79 2 = (0, 240) := rfl
theorem rF_80_4 : rF 80 4 = (0, 63) := rfl
theorem rF_84_2 : rF 84 2 = (0, 48) := rfl
theorem rF_87_2 : rF 87 2 = (0, 48) := rfl
theorem rF_90_2 : rF 90 2 = (0, 48) := rfl
theorem rF_93_2 : rF 93 2 = (0, 48) := rfl
theorem rF_96_2 : rF 96 2 = (0, 48) := rfl
theorem rF_99_2 : rF 99 2 = (0, 48) := rfl
theorem rF_102_4 : rF 102 4 = (0, 31) := rfl
theorem rF_120_6 : rF 120 6 = (0, 341) := rfl
theorem rF_127_1 : rF 127 1 = (0, 8) := rfl
theorem rF_129_1 : rF 129 1 = (0, 260) := rfl
theorem rF_129_3 : rF 129 3 = (0, 241) := rfl
theorem rF_129_4 : rF 129 4 = (0, 240) := rfl
theorem rF_129_5 : rF 129 5 = ((-2147483648), 0) := rfl
theorem rF_129_6 : rF 129 6 = (0, 16) := rfl
theorem rF_129_7 : rF 129 7 = (0, 240) := rfl
theorem rF_129_8 : rF 129 8 = ((-240), 240) := rfl
theorem rF_129_9 : rF 129 9 = (0, 240) := rfl
theorem rF_129_18 : rF 129 18 = (0, 48) := rfl
theorem rF_129_19 : rF 129 19 = (0, 2) := rfl
theorem rF_129_31 : rF 129 31 = (0, 1) := rfl
theorem rF_129_32 : rF 129 32 = (0, 240) := rfl
theorem rA_2 : rA 2 = (0, 255) := rfl
theorem rA_19 : rA 19 = (0, 2147483647) := rfl
theorem rA_31 : rA 31 = (0, 2147483647) := rfl
theorem rA_43 : rA 43 = (0, 2147483647) := rfl
theorem rA_59 : rA 59 = ((-1), 99999) := rfl
theorem rA_66 : rA 66 = ((-1), 99999) := rfl
theorem rA_73 : rA 73 = ((-1), 99999) := rfl
theorem rA_124 : rA 124 = ((-1), 340) := rfl
theorem rA_126 : rA 126 = (0, 4) := rfl
theorem rA_135 : rA 135 = (0, 48) := rfl
theorem rA_136 : rA 136 = (0, 33) := rfl
theorem rA_137 : rA 137 = (0, 33) := rfl
theorem rA_139 : rA 139 = (0, 48) := rfl
theorem rA_140 : rA 140 = (0, 9) := rfl
theorem rA_148 : rA 148 = (0, 16) := rfl
theorem rA_159 : rA 159 = (0, 2147483647) := rfl
theorem rA_163 : rA 163 = (0, 2147483647) := rfl
theorem rA_171 : rA 171 = (0, 11) := rfl
theorem rA_172 : rA 172 = (0, 11) := rfl
theorem rA_173 : rA 173 = (0, 11) := rfl
theorem rA_178 : rA 178 = (0, 11) := rfl
theorem lo_Lw {i : Nat} (h : isLw i) : LO i 3 8 := by rcases h with rfl | rfl | rfl <;> exact ⟨by decide, rfl⟩
theorem rf_Lw_0 {ad : Nat → Nat} {cA : Nat → ClassId} {g : Nat → va_E} {i : Nat} (h : isLw i) (hs : Shp ad cA g) : fld g i 0 = .ref (ad (i + 1)) := by
  rcases h with rfl | rfl | rfl
  · exact rf_54_0 hs
  · exact rf_61_0 hs
  · exact rf_68_0 hs
theorem la_Lw_0 {i : Nat} (h : isLw i) : LA (i + 1) 0 16 := by rcases h with rfl | rfl | rfl <;> exact ⟨by decide, rfl⟩
theorem rA_Lw_0 {i : Nat} (h : isLw i) : rA (i + 1) = (-2147483648, 2147483647) := by rcases h with rfl | rfl | rfl <;> rfl
theorem rf_Lw_1 {ad : Nat → Nat} {cA : Nat → ClassId} {g : Nat → va_E} {i : Nat} (h : isLw i) (hs : Shp ad cA g) : fld g i 1 = .ref (ad (i + 2)) := by
  rcases h with rfl | rfl | rfl
  · exact rf_54_1 hs
  · exact rf_61_1 hs
  · exact rf_68_1 hs
theorem la_Lw_1 {i : Nat} (h : isLw i) : LA (i + 2) 0 16 := by rcases h with rfl | rfl | rfl <;> exact ⟨by decide, rfl⟩
theorem rA_Lw_1 {i : Nat} (h : isLw i) : rA (i + 2) = (-2147483648, 2147483647) := by rcases h with rfl | rfl | rfl <;> rfl
theorem rf_Lw_2 {ad : Nat → Nat} {cA : Nat → ClassId} {g : Nat → va_E} {i : Nat} (h : isLw i) (hs : Shp ad cA g) : fld g i 2 = .ref (ad (i + 3)) := by
  rcases h with rfl | rfl | rfl
  · exact rf_54_2 hs
  · exact rf_61_2 hs
  · exact rf_68_2 hs
theorem la_Lw_2 {i : Nat} (h : isLw i) : LA (i + 3) 0 16 := by rcases h with rfl | rfl | rfl <;> exact ⟨by decide, rfl⟩
theorem rA_Lw_2 {i : Nat} (h : isLw i) : rA (i + 3) = (-2147483648, 2147483647) := by rcases h with rfl | rfl | rfl <;> rfl
theorem rf_Lw_3 {ad : Nat → Nat} {cA : Nat → ClassId} {g : Nat → va_E} {i : Nat} (h : isLw i) (hs : Shp ad cA g) : fld g i 3 = .ref (ad (i + 4)) := by
  rcases h with rfl | rfl | rfl
  · exact rf_54_3 hs
  · exact rf_61_3 hs
  · exact rf_68_3 hs
theorem la_Lw_3 {i : Nat} (h : isLw i) : LA (i + 4) 0 256 := by rcases h with rfl | rfl | rfl <;> exact ⟨by decide, rfl⟩
theorem rA_Lw_3 {i : Nat} (h : isLw i) : rA (i + 4) = (-2147483648, 2147483647) := by rcases h with rfl | rfl | rfl <;> rfl
theorem rf_Lw_4 {ad : Nat → Nat} {cA : Nat → ClassId} {g : Nat → va_E} {i : Nat} (h : isLw i) (hs : Shp ad cA g) : fld g i 4 = .ref (ad (i + 5)) := by
  rcases h with rfl | rfl | rfl
  · exact rf_54_4 hs
  · exact rf_61_4 hs
  · exact rf_68_4 hs
theorem la_Lw_4 {i : Nat} (h : isLw i) : LA (i + 5) 0 256 := by rcases h with rfl | rfl | rfl <;> exact ⟨by decide, rfl⟩
theorem rA_Lw_4 {i : Nat} (h : isLw i) : rA (i + 5) = ((-1), 99999) := by rcases h with rfl | rfl | rfl <;> rfl
theorem rf_Lw_5 {ad : Nat → Nat} {cA : Nat → ClassId} {g : Nat → va_E} {i : Nat} (h : isLw i) (hs : Shp ad cA g) : fld g i 5 = .ref (ad (i + 6)) := by
  rcases h with rfl | rfl | rfl
  · exact rf_54_5 hs
  · exact rf_61_5 hs
  · exact rf_68_5 hs
theorem la_Lw_5 {i : Nat} (h : isLw i) : LA (i + 6) 0 64 := by rcases h with rfl | rfl | rfl <;> exact ⟨by decide, rfl⟩
theorem rA_Lw_5 {i : Nat} (h : isLw i) : rA (i + 6) = (-2147483648, 2147483647) := by rcases h with rfl | rfl | rfl <;> rfl
theorem rF_Lw_6 {i : Nat} (h : isLw i) : rF i 6 = (0, 16) := by rcases h with rfl | rfl | rfl <;> rfl
theorem rF_Lw_7 {i : Nat} (h : isLw i) : rF i 7 = (0, 256) := by rcases h with rfl | rfl | rfl <;> rfl
theorem lo_Pb {i : Nat} (h : isPb i) : LO i 7 8 := by rcases h with rfl | rfl <;> exact ⟨by decide, rfl⟩
theorem rf_Pb_0 {ad : Nat → Nat} {cA : Nat → ClassId} {g : Nat → va_E} {i : Nat} (h : isPb i) (hs : Shp ad cA g) : fld g i 0 = .ref (ad (i + 1)) := by
  rcases h with rfl | rfl
  · exact rf_18_0 hs
  · exact rf_42_0 hs
theorem la_Pb_0 {i : Nat} (h : isPb i) : LA (i + 1) 0 8 := by rcases h with rfl | rfl <;> exact ⟨by decide, rfl⟩
theorem rA_Pb_0 {i : Nat} (h : isPb i) : rA (i + 1) = (0, 2147483647) := by rcases h with rfl | rfl <;> rfl
theorem rf_Pb_1 {ad : Nat → Nat} {cA : Nat → ClassId} {g : Nat → va_E} {i : Nat} (h : isPb i) (hs : Shp ad cA g) : fld g i 1 = .ref (ad (i + 2)) := by
  rcases h with rfl | rfl
  · exact rf_18_1 hs
  · exact rf_42_1 hs
theorem la_Pb_1 {i : Nat} (h : isPb i) : LA (i + 2) 0 8 := by rcases h with rfl | rfl <;> exact ⟨by decide, rfl⟩
theorem rA_Pb_1 {i : Nat} (h : isPb i) : rA (i + 2) = (-2147483648, 2147483647) := by rcases h with rfl | rfl <;> rfl
theorem rf_Pb_2 {ad : Nat → Nat} {cA : Nat → ClassId} {g : Nat → va_E} {i : Nat} (h : isPb i) (hs : Shp ad cA g) : fld g i 2 = .ref (ad (i + 3)) := by
  rcases h with rfl | rfl
  · exact rf_18_2 hs
  · exact rf_42_2 hs
theorem la_Pb_2 {i : Nat} (h : isPb i) : LQ (i + 3) 1 8 := by rcases h with rfl | rfl <;> exact ⟨by decide, rfl⟩
theorem rF_Pb_3 {i : Nat} (h : isPb i) : rF i 3 = (0, 255) := by rcases h with rfl | rfl <;> rfl
theorem rF_Pb_4 {i : Nat} (h : isPb i) : rF i 4 = ((-2147483648), 2147483647) := by rcases h with rfl | rfl <;> rfl
theorem rF_Pb_5 {i : Nat} (h : isPb i) : rF i 5 = ((-2147483648), 2147483647) := by rcases h with rfl | rfl <;> rfl
theorem rF_Pb_6 {i : Nat} (h : isPb i) : rF i 6 = ((-2147483648), 2147483647) := by rcases h with rfl | rfl <;> rfl
theorem rF_Pb_7 {i : Nat} (h : isPb i) : rF i 7 = ((-2147483648), 2147483647) := by rcases h with rfl | rfl <;> rfl
theorem lo_At {i : Nat} (h : isAt i) : LO i 0 3 := by rcases h with rfl | rfl | rfl | rfl | rfl | rfl | rfl <;> exact ⟨by decide, rfl⟩
theorem rf_At_0 {ad : Nat → Nat} {cA : Nat → ClassId} {g : Nat → va_E} {i : Nat} (h : isAt i) (hs : Shp ad cA g) : fld g i 0 = .ref (ad (i + 1)) := by
  rcases h with rfl | rfl | rfl | rfl | rfl | rfl | rfl
  · exact rf_75_0 hs
  · exact rf_84_0 hs
  · exact rf_87_0 hs
  · exact rf_90_0 hs
  · exact rf_93_0 hs
  · exact rf_96_0 hs
  · exact rf_99_0 hs
theorem la_At_0 {i : Nat} (h : isAt i) : LA (i + 1) 0 48 := by rcases h with rfl | rfl | rfl | rfl | rfl | rfl | rfl <;> exact ⟨by decide, rfl⟩
theorem rA_At_0 {i : Nat} (h : isAt i) : rA (i + 1) = (-2147483648, 2147483647) := by rcases h with rfl | rfl | rfl | rfl | rfl | rfl | rfl <;> rfl
theorem rf_At_1 {ad : Nat → Nat} {cA : Nat → ClassId} {g : Nat → va_E} {i : Nat} (h : isAt i) (hs : Shp ad cA g) : fld g i 1 = .ref (ad (i + 2)) := by
  rcases h with rfl | rfl | rfl | rfl | rfl | rfl | rfl
  · exact rf_75_1 hs
  · exact rf_84_1 hs
  · exact rf_87_1 hs
  · exact rf_90_1 hs
  · exact rf_93_1 hs
  · exact rf_96_1 hs
  · exact rf_99_1 hs
theorem la_At_1 {i : Nat} (h : isAt i) : LA (i + 2) 0 48 := by rcases h with rfl | rfl | rfl | rfl | rfl | rfl | rfl <;> exact ⟨by decide, rfl⟩
theorem rA_At_1 {i : Nat} (h : isAt i) : rA (i + 2) = (-2147483648, 2147483647) := by rcases h with rfl | rfl | rfl | rfl | rfl | rfl | rfl <;> rfl
theorem rF_At_2 {i : Nat} (h : isAt i) : rF i 2 = (0, 48) := by rcases h with rfl | rfl | rfl | rfl | rfl | rfl | rfl <;> rfl
theorem lr_Pb {i p : Nat} (h : isPb i) (hp : p < 8) : LA (i + 4 + p) 0 12 := by
  rcases h with rfl | rfl
  · have := lr_22 hp
    rw [show 18 + 4 + p = 22 + 1 * p by omega]; exact this
  · have := lr_46 hp
    rw [show 42 + 4 + p = 46 + 1 * p by omega]; exact this
theorem arI_ja {ad : Nat → Nat} {cA : Nat → ClassId} {g : Nat → va_E} {i t n : Nat} (h : Shp ad cA g) (L : LJ i t n) : arI g i = fun _ => 0 := by
  have e := shJ h L
  unfold arI
  rw [e]
  rfl
theorem rF_art {q : Nat} (h : q < 6) : rF (84 + 3 * q) 2 = (0, 48) := by
  revert q
  decide
theorem rA_row_Pb {i p : Nat} (h : isPb i) (hp : p < 8) : rA (i + 4 + p) = (-2147483648, 2147483647) := by
  rcases h with rfl | rfl <;> revert p <;> decide
theorem aq_Pb {ad : Nat → Nat} {cA : Nat → ClassId} {g : Nat → va_E} {i : Nat} {j : Int32} (h : isPb i) (hs : Shp ad cA g) (h0 : 0 ≤ j.toInt) (h1 : j.toInt < 8) : arQ g (i + 3) j.toNatClampNeg = some (ad (i + 4 + j.toInt.toNat)) := by
  rcases h with rfl | rfl
  · rw [aq (aq_21 hs) h0 h1, show 22 + 1 * j.toInt.toNat = 18 + 4 + j.toInt.toNat by omega]
  · rw [aq (aq_45 hs) h0 h1, show 46 + 1 * j.toInt.toNat = 42 + 4 + j.toInt.toNat by omega]
theorem rA_row_6 {q : Nat} (h : q < 12) : rA (6 + 1 * q) = (-2147483648, 2147483647) := by
  revert q
  decide
theorem rA_row_22 {q : Nat} (h : q < 8) : rA (22 + 1 * q) = (-2147483648, 2147483647) := by
  revert q
  decide
theorem rA_row_34 {q : Nat} (h : q < 8) : rA (34 + 1 * q) = (-2147483648, 2147483647) := by
  revert q
  decide
theorem rA_row_46 {q : Nat} (h : q < 8) : rA (46 + 1 * q) = (-2147483648, 2147483647) := by
  revert q
  decide
theorem rA_row_104 {q : Nat} (h : q < 8) : rA (104 + 1 * q) = (-2147483648, 2147483647) := by
  revert q
  decide
theorem rA_row_113 {q : Nat} (h : q < 5) : rA (113 + 1 * q) = (-2147483648, 2147483647) := by
  revert q
  decide
