/-! the world: labels 0 .. 128 of the class, 129 .. 179 of the reference -/
def NN : Nat := 180
/-- shapes: kind (0 object, 1 ints, 2 references, 3 longs), class, size -/
def shL : List (Nat × Nat × Nat) := [(0, 11, 16), (0, 10, 2), (1, 0, 260), (0, 5, 3), (1, 0, 12), (2, 1, 12), (1, 0, 12), (1, 0, 12), (1, 0, 12), (1, 0, 12), (1, 0, 12), (1, 0, 12), (1, 0, 12), (1, 0, 12), (1, 0, 12), (1, 0, 12), (1, 0, 12), (1, 0, 12), (0, 7, 8), (1, 0, 8), (1, 0, 8), (2, 1, 8), (1, 0, 12), (1, 0, 12), (1, 0, 12), (1, 0, 12), (1, 0, 12), (1, 0, 12), (1, 0, 12), (1, 0, 12), (0, 7, 8), (1, 0, 8), (1, 0, 8), (2, 1, 8), (1, 0, 12), (1, 0, 12), (1, 0, 12), (1, 0, 12), (1, 0, 12), (1, 0, 12), (1, 0, 12), (1, 0, 12), (0, 7, 8), (1, 0, 8), (1, 0, 8), (2, 1, 8), (1, 0, 12), (1, 0, 12), (1, 0, 12), (1, 0, 12), (1, 0, 12), (1, 0, 12), (1, 0, 12), (1, 0, 12), (0, 3, 8), (1, 0, 16), (1, 0, 16), (1, 0, 16), (1, 0, 256), (1, 0, 256), (1, 0, 64), (0, 3, 8), (1, 0, 16), (1, 0, 16), (1, 0, 16), (1, 0, 256), (1, 0, 256), (1, 0, 64), (0, 3, 8), (1, 0, 16), (1, 0, 16), (1, 0, 16), (1, 0, 256), (1, 0, 256), (1, 0, 64), (0, 0, 3), (1, 0, 48), (1, 0, 48), (0, 1, 5), (0, 4, 5), (0, 2, 11), (2, 2, 6), (1, 0, 10), (1, 0, 8), (0, 0, 3), (1, 0, 48), (1, 0, 48), (0, 0, 3), (1, 0, 48), (1, 0, 48), (0, 0, 3), (1, 0, 48), (1, 0, 48), (0, 0, 3), (1, 0, 48), (1, 0, 48), (0, 0, 3), (1, 0, 48), (1, 0, 48), (0, 0, 3), (1, 0, 48), (1, 0, 48), (0, 9, 5), (2, 1, 8), (1, 0, 8), (1, 0, 8), (1, 0, 8), (1, 0, 8), (1, 0, 8), (1, 0, 8), (1, 0, 8), (1, 0, 8), (2, 1, 5), (1, 0, 6), (1, 0, 6), (1, 0, 6), (1, 0, 6), (1, 0, 6), (1, 0, 6), (1, 0, 6), (0, 8, 7), (1, 0, 5), (3, 5, 341), (3, 5, 341), (1, 0, 341), (1, 0, 341), (1, 0, 341), (0, 6, 4), (1, 0, 9), (0, 12, 86), (1, 3, 260), (1, 4, 12), (1, 0, 12), (1, 0, 144), (1, 4, 6), (1, 0, 6), (1, 0, 288), (1, 0, 48), (1, 0, 10), (1, 0, 2), (1, 0, 2), (1, 0, 2), (1, 0, 32), (1, 0, 32), (1, 0, 32), (1, 0, 32), (1, 0, 480), (1, 0, 480), (1, 0, 2), (1, 0, 16), (1, 0, 16), (1, 0, 16), (1, 0, 16), (1, 0, 240), (1, 0, 240), (1, 0, 240), (1, 0, 240), (1, 4, 240), (1, 4, 8), (1, 0, 8), (1, 0, 8), (1, 0, 96), (1, 4, 16), (1, 0, 16), (1, 0, 16), (1, 0, 192), (1, 0, 2), (1, 0, 2), (1, 0, 2), (1, 0, 2), (1, 0, 12), (1, 0, 12), (1, 0, 8), (1, 0, 8), (1, 0, 12), (1, 0, 64), (1, 4, 5), (1, 0, 30), (1, 0, 6), (1, 0, 9)]
def shk (i : Nat) : Nat × Nat × Nat := shL.getD i (9, 0, 0)
/-- which fields of a kind of object hold ints -/
def iFs (ci : Nat) : List Nat := match ci with
  | 0 => [2]
  | 1 => [1, 2, 3]
  | 2 => [4, 5, 6, 7, 8]
  | 3 => [6, 7]
  | 4 => [1, 2, 3]
  | 5 => [2]
  | 6 => [1, 2, 3]
  | 7 => [3, 4, 5, 6, 7]
  | 8 => [6]
  | 9 => [4]
  | 10 => [1]
  | 11 => [15]
  | 12 => [1, 2, 3, 4, 5, 6, 7, 8, 9, 18, 19, 20, 31, 32, 39, 40, 42, 43, 44, 45, 46, 47, 48, 49, 56, 57, 58, 59, 60, 61, 62, 63, 64, 65, 66, 75]
  | _ => []
def shOK (cA : Nat → ClassId) (t : Nat × Nat × Nat) (e : va_E) : Prop := match t.1 with
  | 0 => ∃ fv : Nat → Value, e = ob t.2.1 t.2.2 fv ∧ ∀ k ∈ iFs t.2.1, ∃ x : Int32, fv k = .int x
  | 1 => ∃ f, e = ia (cA t.2.1) t.2.2 f
  | 2 => ∃ f, e = qa (cA t.2.1) t.2.2 f
  | _ => ∃ f, e = ja (cA t.2.1) t.2.2 f
def Shp0 (cA : Nat → ClassId) (g : Nat → va_E) : Prop := ∀ i, i < NN → shOK cA (shk i) (g i)
/-- the references that never change: label, field, label -/
def rfL : List (Nat × Nat × Nat) := [(0, 0, 1), (0, 1, 3), (0, 2, 80), (0, 3, 102), (0, 4, 120), (0, 5, 127), (0, 6, 78), (0, 7, 79), (0, 8, 75), (0, 9, 61), (0, 10, 18), (0, 11, 30), (0, 12, 42), (1, 0, 2), (3, 0, 4), (3, 1, 5), (18, 0, 19), (18, 1, 20), (18, 2, 21), (30, 0, 31), (30, 1, 32), (30, 2, 33), (42, 0, 43), (42, 1, 44), (42, 2, 45), (54, 0, 55), (54, 1, 56), (54, 2, 57), (54, 3, 58), (54, 4, 59), (54, 5, 60), (61, 0, 62), (61, 1, 63), (61, 2, 64), (61, 3, 65), (61, 4, 66), (61, 5, 67), (68, 0, 69), (68, 1, 70), (68, 2, 71), (68, 3, 72), (68, 4, 73), (68, 5, 74), (75, 0, 76), (75, 1, 77), (78, 0, 2), (79, 0, 2), (80, 0, 3), (80, 1, 81), (80, 2, 82), (80, 3, 83), (84, 0, 85), (84, 1, 86), (87, 0, 88), (87, 1, 89), (90, 0, 91), (90, 1, 92), (93, 0, 94), (93, 1, 95), (96, 0, 97), (96, 1, 98), (99, 0, 100), (99, 1, 101), (102, 0, 103), (102, 1, 112), (102, 2, 118), (102, 3, 119), (120, 0, 121), (120, 1, 122), (120, 2, 123), (120, 3, 124), (120, 4, 125), (120, 5, 126), (127, 0, 128), (129, 0, 130), (129, 10, 131), (129, 11, 132), (129, 12, 133), (129, 13, 134), (129, 14, 135), (129, 15, 136), (129, 16, 137), (129, 17, 138), (129, 21, 139), (129, 22, 140), (129, 23, 141), (129, 24, 142), (129, 25, 143), (129, 26, 144), (129, 27, 145), (129, 28, 146), (129, 29, 147), (129, 30, 148), (129, 33, 149), (129, 34, 150), (129, 35, 151), (129, 36, 152), (129, 37, 153), (129, 38, 154), (129, 41, 155), (129, 50, 156), (129, 51, 157), (129, 52, 158), (129, 53, 159), (129, 54, 160), (129, 55, 161), (129, 67, 162), (129, 68, 163), (129, 69, 164), (129, 70, 165), (129, 71, 166), (129, 72, 167), (129, 73, 168), (129, 74, 169), (129, 76, 170), (129, 77, 171), (129, 78, 172), (129, 79, 173), (129, 80, 174), (129, 81, 175), (129, 82, 176), (129, 83, 177), (129, 84, 178), (129, 85, 179)]
/-- .. and the rows of references -/
def aqL : List (Nat × Nat × Nat × Nat) := [(5, 12, 6, 1), (21, 8, 22, 1), (33, 8, 34, 1), (45, 8, 46, 1), (81, 6, 84, 3), (103, 8, 104, 1), (112, 5, 113, 1)]
def Shp (ad : Nat → Nat) (cA : Nat → ClassId) (g : Nat → va_E) : Prop := Shp0 cA g ∧ (∀ q ∈ rfL, fld g q.1 q.2.1 = .ref (ad q.2.2)) ∧ ∀ q ∈ aqL, arQ g q.1 = fun j => if j < q.2.1 then some (ad (q.2.2.1 + q.2.2.2 * j)) else none
def FPX (own : String) (index ci n k : Nat) (ty : FieldType) : Prop := FP own index ci n k ty ∧ ∀ q ∈ rfL, shk q.1 = (0, ci, n) → q.2.1 ≠ k
/-- a label of an object, of ints, of references, of longs -/
def LO (i ci nf : Nat) : Prop := i < NN ∧ shk i = (0, ci, nf)
def LA (i t n : Nat) : Prop := i < NN ∧ shk i = (1, t, n)
def LQ (i t n : Nat) : Prop := i < NN ∧ shk i = (2, t, n)
def LJ (i t n : Nat) : Prop := i < NN ∧ shk i = (3, t, n)
theorem iFs_lt : ∀ ci, ci < 13 → ∀ k ∈ iFs ci, k < ((vwCl[ci]?).map (fun q => q.2.2)).getD 0 := by decide +kernel
theorem fld_ob {g : Nat → va_E} {i ci nf k : Nat} {fv : Nat → Value} (h : g i = ob ci nf fv) (hk : k < nf) : fld g i k = fv k := by
  unfold fld
  rw [h]
  simp [ob, List.getD, hk]
theorem arQ_stF {g : Nat → va_E} {i k i' : Nat} {v : Value} : arQ (stF g i k v) i' = arQ g i' := by
  unfold arQ stF
  by_cases e : i' = i
  · subst e
    rw [va_up_self]
    cases g i' with
    | inr a => rfl
    | inl a => rfl
  · rw [va_up_ne _ _ e]
theorem arQ_stA {g : Nat → va_E} {i j i' : Nat} {x : Int32} : arQ (stA g i j x) i' = arQ g i' := by
  unfold arQ stA
  by_cases e : i' = i
  · subst e
    rw [va_up_self]
    cases g i' with
    | inr a => rfl
    | inl a => obtain ⟨c, n, f | f⟩ := a <;> rfl
  · rw [va_up_ne _ _ e]
theorem arQ_stJ {g : Nat → va_E} {i j i' : Nat} {x : Int64} : arQ (stJ g i j x) i' = arQ g i' := by
  unfold arQ stJ
  by_cases e : i' = i
  · subst e
    rw [va_up_self]
    cases g i' with
    | inr a => rfl
    | inl a => obtain ⟨c, n, f | f | f⟩ := a <;> rfl
  · rw [va_up_ne _ _ e]
theorem shO {ad : Nat → Nat} {cA : Nat → ClassId} {g : Nat → va_E} {i ci nf : Nat} (h : Shp ad cA g) (L : LO i ci nf) : g i = ob ci nf (fld g i) := by
  have := h.1 i L.1
  rw [L.2] at this
  obtain ⟨fv, h1, -⟩ := this
  exact ob_fld h1
theorem shA {ad : Nat → Nat} {cA : Nat → ClassId} {g : Nat → va_E} {i t n : Nat} (h : Shp ad cA g) (L : LA i t n) : g i = ia (cA t) n (arI g i) := by
  have := h.1 i L.1
  rw [L.2] at this
  obtain ⟨fv, h1⟩ := this
  exact ia_arI h1
theorem shQ {ad : Nat → Nat} {cA : Nat → ClassId} {g : Nat → va_E} {i t n : Nat} (h : Shp ad cA g) (L : LQ i t n) : g i = qa (cA t) n (arQ g i) := by
  have := h.1 i L.1
  rw [L.2] at this
  obtain ⟨fv, h1⟩ := this
  exact qa_arQ h1
theorem shJ {ad : Nat → Nat} {cA : Nat → ClassId} {g : Nat → va_E} {i t n : Nat} (h : Shp ad cA g) (L : LJ i t n) : g i = ja (cA t) n (arJ g i) := by
  have := h.1 i L.1
  rw [L.2] at this
  obtain ⟨fv, h1⟩ := this
  exact ja_arJ h1
theorem shI {ad : Nat → Nat} {cA : Nat → ClassId} {g : Nat → va_E} {i ci nf k : Nat} (h : Shp ad cA g) (L : LO i ci nf) (hk : k ∈ iFs ci) (hn : k < nf) : fld g i k = .int (fI g i k) := by
  have := h.1 i L.1
  rw [L.2] at this
  obtain ⟨fv, h1, h2⟩ := this
  obtain ⟨x, hx⟩ := h2 k hk
  have e := (fld_ob h1 hn).trans hx
  unfold fI
  rw [e]
theorem Shp_stF {ad : Nat → Nat} {cA : Nat → ClassId} {g : Nat → va_E} {i ci nf k : Nat} {v : Value} (h : Shp ad cA g) (L : LO i ci nf) (hv : (∃ x : Int32, v = .int x) ∨ k ∉ iFs ci) (hr : ∀ q ∈ rfL, shk q.1 = (0, ci, nf) → q.2.1 ≠ k) : Shp ad cA (stF g i k v) := by
  refine ⟨?_, fun q hq => ?_, fun q hq => (arQ_stF).trans (h.2.2 q hq)⟩
  case refine_2 =>
    rw [← h.2.1 q hq]
    by_cases e : q.1 = i
    · rw [e]
      exact fld_stk (hr q hq (by rw [e]; exact L.2))
    · exact fld_eq (stF_ne e) _
  intro j hj
  by_cases e : j = i
  · subst e
    have := h.1 j hj
    rw [L.2] at this ⊢
    obtain ⟨fv, h1, h2⟩ := this
    refine ⟨fun q => if q = k then v else fv q, ?_, fun q hq => ?_⟩
    · unfold stF
      rw [va_up_self, h1]
      show (Sum.inr (ci, ((List.range nf).map fv).set k v) : va_E) = ob ci nf _
      rw [map_set]
      rfl
    · by_cases e2 : q = k
      · subst e2
        rcases hv with ⟨x, hx⟩ | hv
        · exact ⟨x, by simp [hx]⟩
        · exact absurd hq hv
      · obtain ⟨x, hx⟩ := h2 q hq
        exact ⟨x, by simp [e2, hx]⟩
  · rw [stF_ne e]
    exact h.1 j hj
theorem Shp_stA {ad : Nat → Nat} {cA : Nat → ClassId} {g : Nat → va_E} {i t n j : Nat} {x : Int32} (h : Shp ad cA g) (L : LA i t n) : Shp ad cA (stA g i j x) := by
  refine ⟨?_, fun q hq => (fld_stA).trans (h.2.1 q hq), fun q hq => (arQ_stA).trans (h.2.2 q hq)⟩
  intro q hq
  by_cases e : q = i
  · subst e
    rw [L.2]
    exact ⟨upd (arI g q) j x, by unfold stA; rw [va_up_self, shA h L]; rfl⟩
  · rw [stA_ne e]
    exact h.1 q hq
theorem Shp_stJ {ad : Nat → Nat} {cA : Nat → ClassId} {g : Nat → va_E} {i t n j : Nat} {x : Int64} (h : Shp ad cA g) (L : LJ i t n) : Shp ad cA (stJ g i j x) := by
  refine ⟨?_, fun q hq => (fld_stJ).trans (h.2.1 q hq), fun q hq => (arQ_stJ).trans (h.2.2 q hq)⟩
  intro q hq
  by_cases e : q = i
  · subst e
    rw [L.2]
    exact ⟨vp_updL (arJ g q) j x, by unfold stJ; rw [va_up_self, shJ h L]; rfl⟩
  · rw [stJ_ne e]
    exact h.1 q hq
/-- what stands in g1 as in g, but for what T names: (label, field), and (label, 0) for a row of ints -/
def FR (T : Nat → Nat → Prop) (g g1 : Nat → va_E) : Prop := (∀ i k, ¬ T i k → fld g1 i k = fld g i k) ∧ (∀ i, ¬ T i 0 → arI g1 i = arI g i) ∧ ∀ i, arQ g1 i = arQ g i
theorem FR.rf {T : Nat → Nat → Prop} {g : Nat → va_E} : FR T g g := ⟨fun _ _ _ => rfl, fun _ _ => rfl, fun _ => rfl⟩
theorem FR.tr {T T1 : Nat → Nat → Prop} {g g1 g2 : Nat → va_E} (h : FR T g g1) (h1 : FR T1 g1 g2) (hs : ∀ i k, T1 i k → T i k) : FR T g g2 :=
  ⟨fun i k hn => (h1.1 i k (fun q => hn (hs i k q))).trans (h.1 i k hn), fun i hn => (h1.2.1 i (fun q => hn (hs i 0 q))).trans (h.2.1 i hn), fun i => (h1.2.2 i).trans (h.2.2 i)⟩
/-- the state of a walk: the world, its shapes, and what stands as it stood at the method's start -/
def WS (ad : Nat → Nat) (cA : Nat → ClassId) (T : Nat → Nat → Prop) (g0 : Nat → va_E) (K : KT) (g : Nat → va_E) (H : Heap) (locs : List Loc) : Prop := WB NN ad K g H locs ∧ Shp ad cA g ∧ FR T g0 g
theorem arI_stJ {g : Nat → va_E} {i j i' : Nat} {x : Int64} : arI (stJ g i j x) i' = arI g i' := by
  unfold arI stJ
  by_cases e : i' = i
  · subst e
    rw [va_up_self]
    cases g i' with
    | inr a => rfl
    | inl a => obtain ⟨c, n, f | f | f⟩ := a <;> rfl
  · rw [va_up_ne _ _ e]
/-- one write's frame -/
def Only (i k : Nat) : Nat → Nat → Prop := fun a b => a = i ∧ b = k
theorem FR_stF {g : Nat → va_E} {i k : Nat} {v : Value} : FR (Only i k) g (stF g i k v) := by
  refine ⟨fun a b h => ?_, fun _ _ => arI_stF, fun _ => arQ_stF⟩
  by_cases e : a = i
  · subst e
    exact fld_stk (fun q => h ⟨rfl, q⟩)
  · exact fld_eq (stF_ne e) b
theorem FR_stA {g : Nat → va_E} {i j : Nat} {x : Int32} : FR (Only i 0) g (stA g i j x) :=
  ⟨fun _ _ _ => fld_stA, fun a h => arI_eq (stA_ne (fun e => h ⟨e, rfl⟩)), fun _ => arQ_stA⟩
theorem FR_stJ {g : Nat → va_E} {i j : Nat} {x : Int64} : FR (Only i 0) g (stJ g i j x) := ⟨fun _ _ _ => fld_stJ, fun _ _ => arI_stJ, fun _ => arQ_stJ⟩
section WR
variable {K : KT} {cA : Nat → ClassId} {cc : ByteArray} {nL : Nat} {own : String} {k n : Nat} {H : Heap} {locs : List Loc} {pc : Nat} {ls : Array Slot} {rest : List Value} {ad : Nat → Nat} {g g0 : Nat → va_E} {T : Nat → Nat → Prop}
theorem w_get {i ci nf kf index : Nat} {v : Value} (hM : MB K cA cc nL own) (hW : WS ad cA T g0 K g H locs) (F : FG own index ci nf kf) (L : LO i ci nf) (hv : fld g i kf = v) (hd : decode cc pc = .ok (.getfield index, 3))
    (kk : XX K k n H locs (pc + 3) ls (v :: rest)) : XX K k n H locs pc ls (.ref (ad i) :: rest) := q_getF hM hW.1 F L.1 (shO hW.2.1 L) hv hd kk
/-- an int field: its value gets a name -/
theorem w_getI {i ci nf kf index : Nat} (hM : MB K cA cc nL own) (hW : WS ad cA T g0 K g H locs) (F : FG own index ci nf kf) (L : LO i ci nf) (hk : kf ∈ iFs ci) (hn : kf < nf) (hd : decode cc pc = .ok (.getfield index, 3))
    (kk : ∀ x : Int32, fld g i kf = .int x → XX K k n H locs (pc + 3) ls (.int x :: rest)) : XX K k n H locs pc ls (.ref (ad i) :: rest) := q_getF hM hW.1 F L.1 (shO hW.2.1 L) (shI hW.2.1 L hk hn) hd (kk _ (shI hW.2.1 L hk hn))
theorem w_put {i ci nf kf index : Nat} {v : Value} {ty : FieldType} (hM : MB K cA cc nL own) (hW : WS ad cA T g0 K g H locs) (F : FPX own index ci nf kf ty) (L : LO i ci nf) (hT : T i kf) (hs : (∃ x : Int32, v = .int x) ∨ kf ∉ iFs ci) (hn : narrow ty v = v) (hfit : fits ty v = true) (hd : decode cc pc = .ok (.putfield index, 3))
    (kk : ∀ (g1 : Nat → va_E) (H : Heap) (locs : List Loc), WS ad cA T g0 K g1 H locs → fld g1 i kf = v → FR (Only i kf) g g1 → XX K k n H locs (pc + 3) ls rest) : XX K k n H locs pc ls (v :: .ref (ad i) :: rest) := by
  have hkf : kf < nf := by obtain ⟨⟨_, _, _, _, _, h, _⟩, _⟩ := F; exact h
  refine q_putF hM hW.1 F.1 L.1 (shO hW.2.1 L) hn hfit hd (fun H locs h1 => kk _ H locs ⟨h1, Shp_stF hW.2.1 L hs F.2, hW.2.2.tr FR_stF (fun a b h => ?_)⟩ (fld_st (shO hW.2.1 L) hkf) FR_stF)
  obtain ⟨rfl, rfl⟩ := h
  exact hT
theorem w_iald {i na : Nat} {j : Int32} (hM : MB K cA cc nL own) (hW : WS ad cA T g0 K g H locs) (L : LA i 0 na) (hin : vp_in j na) (hd : decode cc pc = .ok (.iaload, 1))
    (kk : XX K k n H locs (pc + 1) ls (.int (arI g i j.toNatClampNeg) :: rest)) : XX K k n H locs pc ls (.int j :: .ref (ad i) :: rest) := q_iald hM hW.1 L.1 (shA hW.2.1 L) hin hd kk
theorem w_bald {i na : Nat} {j : Int32} (hM : MB K cA cc nL own) (hW : WS ad cA T g0 K g H locs) (L : LA i 3 na) (hin : vp_in j na) (hd : decode cc pc = .ok (.baload, 1))
    (kk : XX K k n H locs (pc + 1) ls (.int (arI g i j.toNatClampNeg) :: rest)) : XX K k n H locs pc ls (.int j :: .ref (ad i) :: rest) := q_bald hM hW.1 L.1 (shA hW.2.1 L) hin hd kk
theorem w_zald {i na : Nat} {j : Int32} (hM : MB K cA cc nL own) (hW : WS ad cA T g0 K g H locs) (L : LA i 4 na) (hin : vp_in j na) (hd : decode cc pc = .ok (.baload, 1))
    (kk : XX K k n H locs (pc + 1) ls (.int (arI g i j.toNatClampNeg) :: rest)) : XX K k n H locs pc ls (.int j :: .ref (ad i) :: rest) := q_zald hM hW.1 L.1 (shA hW.2.1 L) hin hd kk
theorem w_jald {i na : Nat} {j : Int32} (hM : MB K cA cc nL own) (hW : WS ad cA T g0 K g H locs) (L : LJ i 5 na) (hin : vp_in j na) (hd : decode cc pc = .ok (.laload, 1))
    (kk : XX K k n H locs (pc + 1) ls (.long (arJ g i j.toNatClampNeg) :: rest)) : XX K k n H locs pc ls (.int j :: .ref (ad i) :: rest) := q_jald hM hW.1 L.1 (shJ hW.2.1 L) hin hd kk
theorem w_aald {i t0 na b : Nat} {j : Int32} (hM : MB K cA cc nL own) (hW : WS ad cA T g0 K g H locs) (L : LQ i t0 na) (ht : t0 = 1 ∨ t0 = 2) (hin : vp_in j na) (hv : arQ g i j.toNatClampNeg = some b) (hd : decode cc pc = .ok (.aaload, 1))
    (kk : XX K k n H locs (pc + 1) ls (.ref b :: rest)) : XX K k n H locs pc ls (.int j :: .ref (ad i) :: rest) := q_aald hM hW.1 L.1 (shQ hW.2.1 L) ht hin hv hd kk
theorem w_iast {i na : Nat} {j x : Int32} (hM : MB K cA cc nL own) (hW : WS ad cA T g0 K g H locs) (L : LA i 0 na) (hT : T i 0) (hin : vp_in j na) (hd : decode cc pc = .ok (.iastore, 1))
    (kk : ∀ (g1 : Nat → va_E) (H : Heap) (locs : List Loc), WS ad cA T g0 K g1 H locs → arI g1 i = upd (arI g i) j.toNatClampNeg x → FR (Only i 0) g g1 → XX K k n H locs (pc + 1) ls rest) : XX K k n H locs pc ls (.int x :: .int j :: .ref (ad i) :: rest) :=
  q_iast hM hW.1 L.1 (shA hW.2.1 L) hin hd (fun H locs h1 => kk _ H locs ⟨h1, Shp_stA hW.2.1 L, hW.2.2.tr FR_stA (fun a b h => by obtain ⟨rfl, rfl⟩ := h; exact hT)⟩ (arI_st (shA hW.2.1 L)) FR_stA)
theorem w_bast {i na : Nat} {j x : Int32} (hM : MB K cA cc nL own) (hW : WS ad cA T g0 K g H locs) (L : LA i 3 na) (hT : T i 0) (hin : vp_in j na) (hd : decode cc pc = .ok (.bastore, 1))
    (kk : ∀ (g1 : Nat → va_E) (H : Heap) (locs : List Loc), WS ad cA T g0 K g1 H locs → arI g1 i = upd (arI g i) j.toNatClampNeg (vp_nar .byte x) → FR (Only i 0) g g1 → XX K k n H locs (pc + 1) ls rest) : XX K k n H locs pc ls (.int x :: .int j :: .ref (ad i) :: rest) :=
  q_bast hM hW.1 L.1 (shA hW.2.1 L) hin hd (fun H locs h1 => kk _ H locs ⟨h1, Shp_stA hW.2.1 L, hW.2.2.tr FR_stA (fun a b h => by obtain ⟨rfl, rfl⟩ := h; exact hT)⟩ (arI_st (shA hW.2.1 L)) FR_stA)
theorem w_zast {i na : Nat} {j x : Int32} (hM : MB K cA cc nL own) (hW : WS ad cA T g0 K g H locs) (L : LA i 4 na) (hT : T i 0) (hin : vp_in j na) (hd : decode cc pc = .ok (.bastore, 1))
    (kk : ∀ (g1 : Nat → va_E) (H : Heap) (locs : List Loc), WS ad cA T g0 K g1 H locs → arI g1 i = upd (arI g i) j.toNatClampNeg (vp_nar .boolean x) → FR (Only i 0) g g1 → XX K k n H locs (pc + 1) ls rest) : XX K k n H locs pc ls (.int x :: .int j :: .ref (ad i) :: rest) :=
  q_zast hM hW.1 L.1 (shA hW.2.1 L) hin hd (fun H locs h1 => kk _ H locs ⟨h1, Shp_stA hW.2.1 L, hW.2.2.tr FR_stA (fun a b h => by obtain ⟨rfl, rfl⟩ := h; exact hT)⟩ (arI_st (shA hW.2.1 L)) FR_stA)
theorem w_jast {i na : Nat} {j : Int32} {x : Int64} (hM : MB K cA cc nL own) (hW : WS ad cA T g0 K g H locs) (L : LJ i 5 na) (hT : T i 0) (hin : vp_in j na) (hd : decode cc pc = .ok (.lastore, 1))
    (kk : ∀ (g1 : Nat → va_E) (H : Heap) (locs : List Loc), WS ad cA T g0 K g1 H locs → FR (Only i 0) g g1 → XX K k n H locs (pc + 1) ls rest) : XX K k n H locs pc ls (.long x :: .int j :: .ref (ad i) :: rest) :=
  q_jast hM hW.1 L.1 (shJ hW.2.1 L) hin hd (fun H locs h1 => kk _ H locs ⟨h1, Shp_stJ hW.2.1 L, hW.2.2.tr FR_stJ (fun a b h => by obtain ⟨rfl, rfl⟩ := h; exact hT)⟩ FR_stJ)
/-- a row of references whose places are labels one behind the other -/
theorem aq {i m b st : Nat} (h : arQ g i = fun j => if j < m then some (ad (b + st * j)) else none) {j : Int32} (h0 : 0 ≤ j.toInt) (h1 : j.toInt < m) : arQ g i j.toNatClampNeg = some (ad (b + st * j.toInt.toNat)) := by
  rw [h]
  have : j.toInt.toNat < m := by omega
  exact if_pos this
end WR
theorem rf_0_0 {ad : Nat → Nat} {cA : Nat → ClassId} {g : Nat → va_E} (h : Shp ad cA g) : fld g 0 0 = .ref (ad 1) := h.2.1 (0, 0, 1) (List.mem_of_getElem? (i := 0) rfl)
theorem rf_0_1 {ad : Nat → Nat} {cA : Nat → ClassId} {g : Nat → va_E} (h : Shp ad cA g) : fld g 0 1 = .ref (ad 3) := h.2.1 (0, 1, 3) (List.mem_of_getElem? (i := 1) rfl)
theorem rf_0_2 {ad : Nat → Nat} {cA : Nat → ClassId} {g : Nat → va_E} (h : Shp ad cA g) : fld g 0 2 = .ref (ad 80) := h.2.1 (0, 2, 80) (List.mem_of_getElem? (i := 2) rfl)
theorem rf_0_3 {ad : Nat → Nat} {cA : Nat → ClassId} {g : Nat → va_E} (h : Shp ad cA g) : fld g 0 3 = .ref (ad 102) := h.2.1 (0, 3, 102) (List.mem_of_getElem? (i := 3) rfl)
theorem rf_0_4 {ad : Nat → Nat} {cA : Nat → ClassId} {g : Nat → va_E} (h : Shp ad cA g) : fld g 0 4 = .ref (ad 120) := h.2.1 (0, 4, 120) (List.mem_of_getElem? (i := 4) rfl)
theorem rf_0_5 {ad : Nat → Nat} {cA : Nat → ClassId} {g : Nat → va_E} (h : Shp ad cA g) : fld g 0 5 = .ref (ad 127) := h.2.1 (0, 5, 127) (List.mem_of_getElem? (i := 5) rfl)
theorem rf_0_6 {ad : Nat → Nat} {cA : Nat → ClassId} {g : Nat → va_E} (h : Shp ad cA g) : fld g 0 6 = .ref (ad 78) := h.2.1 (0, 6, 78) (List.mem_of_getElem? (i := 6) rfl)
theorem rf_0_7 {ad : Nat → Nat} {cA : Nat → ClassId} {g : Nat → va_E} (h : Shp ad cA g) : fld g 0 7 = .ref (ad 79) := h.2.1 (0, 7, 79) (List.mem_of_getElem? (i := 7) rfl)
theorem rf_0_8 {ad : Nat → Nat} {cA : Nat → ClassId} {g : Nat → va_E} (h : Shp ad cA g) : fld g 0 8 = .ref (ad 75) := h.2.1 (0, 8, 75) (List.mem_of_getElem? (i := 8) rfl)
theorem rf_0_9 {ad : Nat → Nat} {cA : Nat → ClassId} {g : Nat → va_E} (h : Shp ad cA g) : fld g 0 9 = .ref (ad 61) := h.2.1 (0, 9, 61) (List.mem_of_getElem? (i := 9) rfl)
theorem rf_0_10 {ad : Nat → Nat} {cA : Nat → ClassId} {g : Nat → va_E} (h : Shp ad cA g) : fld g 0 10 = .ref (ad 18) := h.2.1 (0, 10, 18) (List.mem_of_getElem? (i := 10) rfl)
theorem rf_0_11 {ad : Nat → Nat} {cA : Nat → ClassId} {g : Nat → va_E} (h : Shp ad cA g) : fld g 0 11 = .ref (ad 30) := h.2.1 (0, 11, 30) (List.mem_of_getElem? (i := 11) rfl)
theorem rf_0_12 {ad : Nat → Nat} {cA : Nat → ClassId} {g : Nat → va_E} (h : Shp ad cA g) : fld g 0 12 = .ref (ad 42) := h.2.1 (0, 12, 42) (List.mem_of_getElem? (i := 12) rfl)
theorem rf_1_0 {ad : Nat → Nat} {cA : Nat → ClassId} {g : Nat → va_E} (h : Shp ad cA g) : fld g 1 0 = .ref (ad 2) := h.2.1 (1, 0, 2) (List.mem_of_getElem? (i := 13) rfl)
theorem rf_3_0 {ad : Nat → Nat} {cA : Nat → ClassId} {g : Nat → va_E} (h : Shp ad cA g) : fld g 3 0 = .ref (ad 4) := h.2.1 (3, 0, 4) (List.mem_of_getElem? (i := 14) rfl)
theorem rf_3_1 {ad : Nat → Nat} {cA : Nat → ClassId} {g : Nat → va_E} (h : Shp ad cA g) : fld g 3 1 = .ref (ad 5) := h.2.1 (3, 1, 5) (List.mem_of_getElem? (i := 15) rfl)
theorem rf_18_0 {ad : Nat → Nat} {cA : Nat → ClassId} {g : Nat → va_E} (h : Shp ad cA g) : fld g 18 0 = .ref (ad 19) := h.2.1 (18, 0, 19) (List.mem_of_getElem? (i := 16) rfl)
theorem rf_18_1 {ad : Nat → Nat} {cA : Nat → ClassId} {g : Nat → va_E} (h : Shp ad cA g) : fld g 18 1 = .ref (ad 20) := h.2.1 (18, 1, 20) (List.mem_of_getElem? (i := 17) rfl)
theorem rf_18_2 {ad : Nat → Nat} {cA : Nat → ClassId} {g : Nat → va_E} (h : Shp ad cA g) : fld g 18 2 = .ref (ad 21) := h.2.1 (18, 2, 21) (List.mem_of_getElem? (i := 18) rfl)
theorem rf_30_0 {ad : Nat → Nat} {cA : Nat → ClassId} {g : Nat → va_E} (h : Shp ad cA g) : fld g 30 0 = .ref (ad 31) := h.2.1 (30, 0, 31) (List.mem_of_getElem? (i := 19) rfl)
theorem rf_30_1 {ad : Nat → Nat} {cA : Nat → ClassId} {g : Nat → va_E} (h : Shp ad cA g) : fld g 30 1 = .ref (ad 32) := h.2.1 (30, 1, 32) (List.mem_of_getElem? (i := 20) rfl)
theorem rf_30_2 {ad : Nat → Nat} {cA : Nat → ClassId} {g : Nat → va_E} (h : Shp ad cA g) : fld g 30 2 = .ref (ad 33) := h.2.1 (30, 2, 33) (List.mem_of_getElem? (i := 21) rfl)
theorem rf_42_0 {ad : Nat → Nat} {cA : Nat → ClassId} {g : Nat → va_E} (h : Shp ad cA g) : fld g 42 0 = .ref (ad 43) := h.2.1 (42, 0, 43) (List.mem_of_getElem? (i := 22) rfl)
theorem rf_42_1 {ad : Nat → Nat} {cA : Nat → ClassId} {g : Nat → va_E} (h : Shp ad cA g) : fld g 42 1 = .ref (ad 44) := h.2.1 (42, 1, 44) (List.mem_of_getElem? (i := 23) rfl)
theorem rf_42_2 {ad : Nat → Nat} {cA : Nat → ClassId} {g : Nat → va_E} (h : Shp ad cA g) : fld g 42 2 = .ref (ad 45) := h.2.1 (42, 2, 45) (List.mem_of_getElem? (i := 24) rfl)
theorem rf_54_0 {ad : Nat → Nat} {cA : Nat → ClassId} {g : Nat → va_E} (h : Shp ad cA g) : fld g 54 0 = .ref (ad 55) := h.2.1 (54, 0, 55) (List.mem_of_getElem? (i := 25) rfl)
theorem rf_54_1 {ad : Nat → Nat} {cA : Nat → ClassId} {g : Nat → va_E} (h : Shp ad cA g) : fld g 54 1 = .ref (ad 56) := h.2.1 (54, 1, 56) (List.mem_of_getElem? (i := 26) rfl)
theorem rf_54_2 {ad : Nat → Nat} {cA : Nat → ClassId} {g : Nat → va_E} (h : Shp ad cA g) : fld g 54 2 = .ref (ad 57) := h.2.1 (54, 2, 57) (List.mem_of_getElem? (i := 27) rfl)
theorem rf_54_3 {ad : Nat → Nat} {cA : Nat → ClassId} {g : Nat → va_E} (h : Shp ad cA g) : fld g 54 3 = .ref (ad 58) := h.2.1 (54, 3, 58) (List.mem_of_getElem? (i := 28) rfl)
theorem rf_54_4 {ad : Nat → Nat} {cA : Nat → ClassId} {g : Nat → va_E} (h : Shp ad cA g) : fld g 54 4 = .ref (ad 59) := h.2.1 (54, 4, 59) (List.mem_of_getElem? (i := 29) rfl)
theorem rf_54_5 {ad : Nat → Nat} {cA : Nat → ClassId} {g : Nat → va_E} (h : Shp ad cA g) : fld g 54 5 = .ref (ad 60) := h.2.1 (54, 5, 60) (List.mem_of_getElem? (i := 30) rfl)
theorem rf_61_0 {ad : Nat → Nat} {cA : Nat → ClassId} {g : Nat → va_E} (h : Shp ad cA g) : fld g 61 0 = .ref (ad 62) := h.2.1 (61, 0, 62) (List.mem_of_getElem? (i := 31) rfl)
theorem rf_61_1 {ad : Nat → Nat} {cA : Nat → ClassId} {g : Nat → va_E} (h : Shp ad cA g) : fld g 61 1 = .ref (ad 63) := h.2.1 (61, 1, 63) (List.mem_of_getElem? (i := 32) rfl)
theorem rf_61_2 {ad : Nat → Nat} {cA : Nat → ClassId} {g : Nat → va_E} (h : Shp ad cA g) : fld g 61 2 = .ref (ad 64) := h.2.1 (61, 2, 64) (List.mem_of_getElem? (i := 33) rfl)
theorem rf_61_3 {ad : Nat → Nat} {cA : Nat → ClassId} {g : Nat → va_E} (h : Shp ad cA g) : fld g 61 3 = .ref (ad 65) := h.2.1 (61, 3, 65) (List.mem_of_getElem? (i := 34) rfl)
theorem rf_61_4 {ad : Nat → Nat} {cA : Nat → ClassId} {g : Nat → va_E} (h : Shp ad cA g) : fld g 61 4 = .ref (ad 66) := h.2.1 (61, 4, 66) (List.mem_of_getElem? (i := 35) rfl)
theorem rf_61_5 {ad : Nat → Nat} {cA : Nat → ClassId} {g : Nat → va_E} (h : Shp ad cA g) : fld g 61 5 = .ref (ad 67) := h.2.1 (61, 5, 67) (List.mem_of_getElem? (i := 36) rfl)
theorem rf_68_0 {ad : Nat → Nat} {cA : Nat → ClassId} {g : Nat → va_E} (h : Shp ad cA g) : fld g 68 0 = .ref (ad 69) := h.2.1 (68, 0, 69) (List.mem_of_getElem? (i := 37) rfl)
theorem rf_68_1 {ad : Nat → Nat} {cA : Nat → ClassId} {g : Nat → va_E} (h : Shp ad cA g) : fld g 68 1 = .ref (ad 70) := h.2.1 (68, 1, 70) (List.mem_of_getElem? (i := 38) rfl)
theorem rf_68_2 {ad : Nat → Nat} {cA : Nat → ClassId} {g : Nat → va_E} (h : Shp ad cA g) : fld g 68 2 = .ref (ad 71) := h.2.1 (68, 2, 71) (List.mem_of_getElem? (i := 39) rfl)
theorem rf_68_3 {ad : Nat → Nat} {cA : Nat → ClassId} {g : Nat → va_E} (h : Shp ad cA g) : fld g 68 3 = .ref (ad 72) := h.2.1 (68, 3, 72) (List.mem_of_getElem? (i := 40) rfl)
theorem rf_68_4 {ad : Nat → Nat} {cA : Nat → ClassId} {g : Nat → va_E} (h : Shp ad cA g) : fld g 68 4 = .ref (ad 73) := h.2.1 (68, 4, 73) (List.mem_of_getElem? (i := 41) rfl)
theorem rf_68_5 {ad : Nat → Nat} {cA : Nat → ClassId} {g : Nat → va_E} (h : Shp ad cA g) : fld g 68 5 = .ref (ad 74) := h.2.1 (68, 5, 74) (List.mem_of_getElem? (i := 42) rfl)
theorem rf_75_0 {ad : Nat → Nat} {cA : Nat → ClassId} {g : Nat → va_E} (h : Shp ad cA g) : fld g 75 0 = .ref (ad 76) := h.2.1 (75, 0, 76) (List.mem_of_getElem? (i := 43) rfl)
theorem rf_75_1 {ad : Nat → Nat} {cA : Nat → ClassId} {g : Nat → va_E} (h : Shp ad cA g) : fld g 75 1 = .ref (ad 77) := h.2.1 (75, 1, 77) (List.mem_of_getElem? (i := 44) rfl)
theorem rf_78_0 {ad : Nat → Nat} {cA : Nat → ClassId} {g : Nat → va_E} (h : Shp ad cA g) : fld g 78 0 = .ref (ad 2) := h.2.1 (78, 0, 2) (List.mem_of_getElem? (i := 45) rfl)
theorem rf_79_0 {ad : Nat → Nat} {cA : Nat → ClassId} {g : Nat → va_E} (h : Shp ad cA g) : fld g 79 0 = .ref (ad 2) := h.2.1 (79, 0, 2) (List.mem_of_getElem? (i := 46) rfl)
theorem rf_80_0 {ad : Nat → Nat} {cA : Nat → ClassId} {g : Nat → va_E} (h : Shp ad cA g) : fld g 80 0 = .ref (ad 3) := h.2.1 (80, 0, 3) (List.mem_of_getElem? (i := 47) rfl)
theorem rf_80_1 {ad : Nat → Nat} {cA : Nat → ClassId} {g : Nat → va_E} (h : Shp ad cA g) : fld g 80 1 = .ref (ad 81) := h.2.1 (80, 1, 81) (List.mem_of_getElem? (i := 48) rfl)
theorem rf_80_2 {ad : Nat → Nat} {cA : Nat → ClassId} {g : Nat → va_E} (h : Shp ad cA g) : fld g 80 2 = .ref (ad 82) := h.2.1 (80, 2, 82) (List.mem_of_getElem? (i := 49) rfl)
theorem rf_80_3 {ad : Nat → Nat} {cA : Nat → ClassId} {g : Nat → va_E} (h : Shp ad cA g) : fld g 80 3 = .ref (ad 83) := h.2.1 (80, 3, 83) (List.mem_of_getElem? (i := 50) rfl)
theorem rf_84_0 {ad : Nat → Nat} {cA : Nat → ClassId} {g : Nat → va_E} (h : Shp ad cA g) : fld g 84 0 = .ref (ad 85) := h.2.1 (84, 0, 85) (List.mem_of_getElem? (i := 51) rfl)
theorem rf_84_1 {ad : Nat → Nat} {cA : Nat → ClassId} {g : Nat → va_E} (h : Shp ad cA g) : fld g 84 1 = .ref (ad 86) := h.2.1 (84, 1, 86) (List.mem_of_getElem? (i := 52) rfl)
theorem rf_87_0 {ad : Nat → Nat} {cA : Nat → ClassId} {g : Nat → va_E} (h : Shp ad cA g) : fld g 87 0 = .ref (ad 88) := h.2.1 (87, 0, 88) (List.mem_of_getElem? (i := 53) rfl)
theorem rf_87_1 {ad : Nat → Nat} {cA : Nat → ClassId} {g : Nat → va_E} (h : Shp ad cA g) : fld g 87 1 = .ref (ad 89) := h.2.1 (87, 1, 89) (List.mem_of_getElem? (i := 54) rfl)
theorem rf_90_0 {ad : Nat → Nat} {cA : Nat → ClassId} {g : Nat → va_E} (h : Shp ad cA g) : fld g 90 0 = .ref (ad 91) := h.2.1 (90, 0, 91) (List.mem_of_getElem? (i := 55) rfl)
theorem rf_90_1 {ad : Nat → Nat} {cA : Nat → ClassId} {g : Nat → va_E} (h : Shp ad cA g) : fld g 90 1 = .ref (ad 92) := h.2.1 (90, 1, 92) (List.mem_of_getElem? (i := 56) rfl)
theorem rf_93_0 {ad : Nat → Nat} {cA : Nat → ClassId} {g : Nat → va_E} (h : Shp ad cA g) : fld g 93 0 = .ref (ad 94) := h.2.1 (93, 0, 94) (List.mem_of_getElem? (i := 57) rfl)
theorem rf_93_1 {ad : Nat → Nat} {cA : Nat → ClassId} {g : Nat → va_E} (h : Shp ad cA g) : fld g 93 1 = .ref (ad 95) := h.2.1 (93, 1, 95) (List.mem_of_getElem? (i := 58) rfl)
theorem rf_96_0 {ad : Nat → Nat} {cA : Nat → ClassId} {g : Nat → va_E} (h : Shp ad cA g) : fld g 96 0 = .ref (ad 97) := h.2.1 (96, 0, 97) (List.mem_of_getElem? (i := 59) rfl)
theorem rf_96_1 {ad : Nat → Nat} {cA : Nat → ClassId} {g : Nat → va_E} (h : Shp ad cA g) : fld g 96 1 = .ref (ad 98) := h.2.1 (96, 1, 98) (List.mem_of_getElem? (i := 60) rfl)
theorem rf_99_0 {ad : Nat → Nat} {cA : Nat → ClassId} {g : Nat → va_E} (h : Shp ad cA g) : fld g 99 0 = .ref (ad 100) := h.2.1 (99, 0, 100) (List.mem_of_getElem? (i := 61) rfl)
theorem rf_99_1 {ad : Nat → Nat} {cA : Nat → ClassId} {g : Nat → va_E} (h : Shp ad cA g) : fld g 99 1 = .ref (ad 101) := h.2.1 (99, 1, 101) (List.mem_of_getElem? (i := 62) rfl)
theorem rf_102_0 {ad : Nat → Nat} {cA : Nat → ClassId} {g : Nat → va_E} (h : Shp ad cA g) : fld g 102 0 = .ref (ad 103) := h.2.1 (102, 0, 103) (List.mem_of_getElem? (i := 63) rfl)
theorem rf_102_1 {ad : Nat → Nat} {cA : Nat → ClassId} {g : Nat → va_E} (h : Shp ad cA g) : fld g 102 1 = .ref (ad 112) := h.2.1 (102, 1, 112) (List.mem_of_getElem? (i := 64) rfl)
theorem rf_102_2 {ad : Nat → Nat} {cA : Nat → ClassId} {g : Nat → va_E} (h : Shp ad cA g) : fld g 102 2 = .ref (ad 118) := h.2.1 (102, 2, 118) (List.mem_of_getElem? (i := 65) rfl)
theorem rf_102_3 {ad : Nat → Nat} {cA : Nat → ClassId} {g : Nat → va_E} (h : Shp ad cA g) : fld g 102 3 = .ref (ad 119) := h.2.1 (102, 3, 119) (List.mem_of_getElem? (i := 66) rfl)
theorem rf_120_0 {ad : Nat → Nat} {cA : Nat → ClassId} {g : Nat → va_E} (h : Shp ad cA g) : fld g 120 0 = .ref (ad 121) := h.2.1 (120, 0, 121) (List.mem_of_getElem? (i := 67) rfl)
theorem rf_120_1 {ad : Nat → Nat} {cA : Nat → ClassId} {g : Nat → va_E} (h : Shp ad cA g) : fld g 120 1 = .ref (ad 122) := h.2.1 (120, 1, 122) (List.mem_of_getElem? (i := 68) rfl)
theorem rf_120_2 {ad : Nat → Nat} {cA : Nat → ClassId} {g : Nat → va_E} (h : Shp ad cA g) : fld g 120 2 = .ref (ad 123) := h.2.1 (120, 2, 123) (List.mem_of_getElem? (i := 69) rfl)
theorem rf_120_3 {ad : Nat → Nat} {cA : Nat → ClassId} {g : Nat → va_E} (h : Shp ad cA g) : fld g 120 3 = .ref (ad 124) := h.2.1 (120, 3, 124) (List.mem_of_getElem? (i := 70) rfl)
theorem rf_120_4 {ad : Nat → Nat} {cA : Nat → ClassId} {g : Nat → va_E} (h : Shp ad cA g) : fld g 120 4 = .ref (ad 125) := h.2.1 (120, 4, 125) (List.mem_of_getElem? (i := 71) rfl)
theorem rf_120_5 {ad : Nat → Nat} {cA : Nat → ClassId} {g : Nat → va_E} (h : Shp ad cA g) : fld g 120 5 = .ref (ad 126) := h.2.1 (120, 5, 126) (List.mem_of_getElem? (i := 72) rfl)
theorem rf_127_0 {ad : Nat → Nat} {cA : Nat → ClassId} {g : Nat → va_E} (h : Shp ad cA g) : fld g 127 0 = .ref (ad 128) := h.2.1 (127, 0, 128) (List.mem_of_getElem? (i := 73) rfl)
theorem rf_129_0 {ad : Nat → Nat} {cA : Nat → ClassId} {g : Nat → va_E} (h : Shp ad cA g) : fld g 129 0 = .ref (ad 130) := h.2.1 (129, 0, 130) (List.mem_of_getElem? (i := 74) rfl)
theorem rf_129_10 {ad : Nat → Nat} {cA : Nat → ClassId} {g : Nat → va_E} (h : Shp ad cA g) : fld g 129 10 = .ref (ad 131) := h.2.1 (129, 10, 131) (List.mem_of_getElem? (i := 75) rfl)
theorem rf_129_11 {ad : Nat → Nat} {cA : Nat → ClassId} {g : Nat → va_E} (h : Shp ad cA g) : fld g 129 11 = .ref (ad 132) := h.2.1 (129, 11, 132) (List.mem_of_getElem? (i := 76) rfl)
theorem rf_129_12 {ad : Nat → Nat} {cA : Nat → ClassId} {g : Nat → va_E} (h : Shp ad cA g) : fld g 129 12 = .ref (ad 133) := h.2.1 (129, 12, 133) (List.mem_of_getElem? (i := 77) rfl)
theorem rf_129_13 {ad : Nat → Nat} {cA : Nat → ClassId} {g : Nat → va_E} (h : Shp ad cA g) : fld g 129 13 = .ref (ad 134) := h.2.1 (129, 13, 134) (List.mem_of_getElem? (i := 78) rfl)
theorem rf_129_14 {ad : Nat → Nat} {cA : Nat → ClassId} {g : Nat → va_E} (h : Shp ad cA g) : fld g 129 14 = .ref (ad 135) := h.2.1 (129, 14, 135) (List.mem_of_getElem? (i := 79) rfl)
theorem rf_129_15 {ad : Nat → Nat} {cA : Nat → ClassId} {g : Nat → va_E} (h : Shp ad cA g) : fld g 129 15 = .ref (ad 136) := h.2.1 (129, 15, 136) (List.mem_of_getElem? (i := 80) rfl)
theorem rf_129_16 {ad : Nat → Nat} {cA : Nat → ClassId} {g : Nat → va_E} (h : Shp ad cA g) : fld g 129 16 = .ref (ad 137) := h.2.1 (129, 16, 137) (List.mem_of_getElem? (i := 81) rfl)
theorem rf_129_17 {ad : Nat → Nat} {cA : Nat → ClassId} {g : Nat → va_E} (h : Shp ad cA g) : fld g 129 17 = .ref (ad 138) := h.2.1 (129, 17, 138) (List.mem_of_getElem? (i := 82) rfl)
theorem rf_129_21 {ad : Nat → Nat} {cA : Nat → ClassId} {g : Nat → va_E} (h : Shp ad cA g) : fld g 129 21 = .ref (ad 139) := h.2.1 (129, 21, 139) (List.mem_of_getElem? (i := 83) rfl)
theorem rf_129_22 {ad : Nat → Nat} {cA : Nat → ClassId} {g : Nat → va_E} (h : Shp ad cA g) : fld g 129 22 = .ref (ad 140) := h.2.1 (129, 22, 140) (List.mem_of_getElem? (i := 84) rfl)
theorem rf_129_23 {ad : Nat → Nat} {cA : Nat → ClassId} {g : Nat → va_E} (h : Shp ad cA g) : fld g 129 23 = .ref (ad 141) := h.2.1 (129, 23, 141) (List.mem_of_getElem? (i := 85) rfl)
theorem rf_129_24 {ad : Nat → Nat} {cA : Nat → ClassId} {g : Nat → va_E} (h : Shp ad cA g) : fld g 129 24 = .ref (ad 142) := h.2.1 (129, 24, 142) (List.mem_of_getElem? (i := 86) rfl)
theorem rf_129_25 {ad : Nat → Nat} {cA : Nat → ClassId} {g : Nat → va_E} (h : Shp ad cA g) : fld g 129 25 = .ref (ad 143) := h.2.1 (129, 25, 143) (List.mem_of_getElem? (i := 87) rfl)
theorem rf_129_26 {ad : Nat → Nat} {cA : Nat → ClassId} {g : Nat → va_E} (h : Shp ad cA g) : fld g 129 26 = .ref (ad 144) := h.2.1 (129, 26, 144) (List.mem_of_getElem? (i := 88) rfl)
theorem rf_129_27 {ad : Nat → Nat} {cA : Nat → ClassId} {g : Nat → va_E} (h : Shp ad cA g) : fld g 129 27 = .ref (ad 145) := h.2.1 (129, 27, 145) (List.mem_of_getElem? (i := 89) rfl)
theorem rf_129_28 {ad : Nat → Nat} {cA : Nat → ClassId} {g : Nat → va_E} (h : Shp ad cA g) : fld g 129 28 = .ref (ad 146) := h.2.1 (129, 28, 146) (List.mem_of_getElem? (i := 90) rfl)
theorem rf_129_29 {ad : Nat → Nat} {cA : Nat → ClassId} {g : Nat → va_E} (h : Shp ad cA g) : fld g 129 29 = .ref (ad 147) := h.2.1 (129, 29, 147) (List.mem_of_getElem? (i := 91) rfl)
theorem rf_129_30 {ad : Nat → Nat} {cA : Nat → ClassId} {g : Nat → va_E} (h : Shp ad cA g) : fld g 129 30 = .ref (ad 148) := h.2.1 (129, 30, 148) (List.mem_of_getElem? (i := 92) rfl)
theorem rf_129_33 {ad : Nat → Nat} {cA : Nat → ClassId} {g : Nat → va_E} (h : Shp ad cA g) : fld g 129 33 = .ref (ad 149) := h.2.1 (129, 33, 149) (List.mem_of_getElem? (i := 93) rfl)
theorem rf_129_34 {ad : Nat → Nat} {cA : Nat → ClassId} {g : Nat → va_E} (h : Shp ad cA g) : fld g 129 34 = .ref (ad 150) := h.2.1 (129, 34, 150) (List.mem_of_getElem? (i := 94) rfl)
theorem rf_129_35 {ad : Nat → Nat} {cA : Nat → ClassId} {g : Nat → va_E} (h : Shp ad cA g) : fld g 129 35 = .ref (ad 151) := h.2.1 (129, 35, 151) (List.mem_of_getElem? (i := 95) rfl)
theorem rf_129_36 {ad : Nat → Nat} {cA : Nat → ClassId} {g : Nat → va_E} (h : Shp ad cA g) : fld g 129 36 = .ref (ad 152) := h.2.1 (129, 36, 152) (List.mem_of_getElem? (i := 96) rfl)
theorem rf_129_37 {ad : Nat → Nat} {cA : Nat → ClassId} {g : Nat → va_E} (h : Shp ad cA g) : fld g 129 37 = .ref (ad 153) := h.2.1 (129, 37, 153) (List.mem_of_getElem? (i := 97) rfl)
theorem rf_129_38 {ad : Nat → Nat} {cA : Nat → ClassId} {g : Nat → va_E} (h : Shp ad cA g) : fld g 129 38 = .ref (ad 154) := h.2.1 (129, 38, 154) (List.mem_of_getElem? (i := 98) rfl)
theorem rf_129_41 {ad : Nat → Nat} {cA : Nat → ClassId} {g : Nat → va_E} (h : Shp ad cA g) : fld g 129 41 = .ref (ad 155) := h.2.1 (129, 41, 155) (List.mem_of_getElem? (i := 99) rfl)
theorem rf_129_50 {ad : Nat → Nat} {cA : Nat → ClassId} {g : Nat → va_E} (h : Shp ad cA g) : fld g 129 50 = .ref (ad 156) := h.2.1 (129, 50, 156) (List.mem_of_getElem? (i := 100) rfl)
theorem rf_129_51 {ad : Nat → Nat} {cA : Nat → ClassId} {g : Nat → va_E} (h : Shp ad cA g) : fld g 129 51 = .ref (ad 157) := h.2.1 (129, 51, 157) (List.mem_of_getElem? (i := 101) rfl)
theorem rf_129_52 {ad : Nat → Nat} {cA : Nat → ClassId} {g : Nat → va_E} (h : Shp ad cA g) : fld g 129 52 = .ref (ad 158) := h.2.1 (129, 52, 158) (List.mem_of_getElem? (i := 102) rfl)
theorem rf_129_53 {ad : Nat → Nat} {cA : Nat → ClassId} {g : Nat → va_E} (h : Shp ad cA g) : fld g 129 53 = .ref (ad 159) := h.2.1 (129, 53, 159) (List.mem_of_getElem? (i := 103) rfl)
theorem rf_129_54 {ad : Nat → Nat} {cA : Nat → ClassId} {g : Nat → va_E} (h : Shp ad cA g) : fld g 129 54 = .ref (ad 160) := h.2.1 (129, 54, 160) (List.mem_of_getElem? (i := 104) rfl)
theorem rf_129_55 {ad : Nat → Nat} {cA : Nat → ClassId} {g : Nat → va_E} (h : Shp ad cA g) : fld g 129 55 = .ref (ad 161) := h.2.1 (129, 55, 161) (List.mem_of_getElem? (i := 105) rfl)
theorem rf_129_67 {ad : Nat → Nat} {cA : Nat → ClassId} {g : Nat → va_E} (h : Shp ad cA g) : fld g 129 67 = .ref (ad 162) := h.2.1 (129, 67, 162) (List.mem_of_getElem? (i := 106) rfl)
theorem rf_129_68 {ad : Nat → Nat} {cA : Nat → ClassId} {g : Nat → va_E} (h : Shp ad cA g) : fld g 129 68 = .ref (ad 163) := h.2.1 (129, 68, 163) (List.mem_of_getElem? (i := 107) rfl)
theorem rf_129_69 {ad : Nat → Nat} {cA : Nat → ClassId} {g : Nat → va_E} (h : Shp ad cA g) : fld g 129 69 = .ref (ad 164) := h.2.1 (129, 69, 164) (List.mem_of_getElem? (i := 108) rfl)
theorem rf_129_70 {ad : Nat → Nat} {cA : Nat → ClassId} {g : Nat → va_E} (h : Shp ad cA g) : fld g 129 70 = .ref (ad 165) := h.2.1 (129, 70, 165) (List.mem_of_getElem? (i := 109) rfl)
theorem rf_129_71 {ad : Nat → Nat} {cA : Nat → ClassId} {g : Nat → va_E} (h : Shp ad cA g) : fld g 129 71 = .ref (ad 166) := h.2.1 (129, 71, 166) (List.mem_of_getElem? (i := 110) rfl)
theorem rf_129_72 {ad : Nat → Nat} {cA : Nat → ClassId} {g : Nat → va_E} (h : Shp ad cA g) : fld g 129 72 = .ref (ad 167) := h.2.1 (129, 72, 167) (List.mem_of_getElem? (i := 111) rfl)
theorem rf_129_73 {ad : Nat → Nat} {cA : Nat → ClassId} {g : Nat → va_E} (h : Shp ad cA g) : fld g 129 73 = .ref (ad 168) := h.2.1 (129, 73, 168) (List.mem_of_getElem? (i := 112) rfl)
theorem rf_129_74 {ad : Nat → Nat} {cA : Nat → ClassId} {g : Nat → va_E} (h : Shp ad cA g) : fld g 129 74 = .ref (ad 169) := h.2.1 (129, 74, 169) (List.mem_of_getElem? (i := 113) rfl)
theorem rf_129_76 {ad : Nat → Nat} {cA : Nat → ClassId} {g : Nat → va_E} (h : Shp ad cA g) : fld g 129 76 = .ref (ad 170) := h.2.1 (129, 76, 170) (List.mem_of_getElem? (i := 114) rfl)
theorem rf_129_77 {ad : Nat → Nat} {cA : Nat → ClassId} {g : Nat → va_E} (h : Shp ad cA g) : fld g 129 77 = .ref (ad 171) := h.2.1 (129, 77, 171) (List.mem_of_getElem? (i := 115) rfl)
theorem rf_129_78 {ad : Nat → Nat} {cA : Nat → ClassId} {g : Nat → va_E} (h : Shp ad cA g) : fld g 129 78 = .ref (ad 172) := h.2.1 (129, 78, 172) (List.mem_of_getElem? (i := 116) rfl)
theorem rf_129_79 {ad : Nat → Nat} {cA : Nat → ClassId} {g : Nat → va_E} (h : Shp ad cA g) : fld g 129 79 = .ref (ad 173) := h.2.1 (129, 79, 173) (List.mem_of_getElem? (i := 117) rfl)
theorem rf_129_80 {ad : Nat → Nat} {cA : Nat → ClassId} {g : Nat → va_E} (h : Shp ad cA g) : fld g 129 80 = .ref (ad 174) := h.2.1 (129, 80, 174) (List.mem_of_getElem? (i := 118) rfl)
theorem rf_129_81 {ad : Nat → Nat} {cA : Nat → ClassId} {g : Nat → va_E} (h : Shp ad cA g) : fld g 129 81 = .ref (ad 175) := h.2.1 (129, 81, 175) (List.mem_of_getElem? (i := 119) rfl)
theorem rf_129_82 {ad : Nat → Nat} {cA : Nat → ClassId} {g : Nat → va_E} (h : Shp ad cA g) : fld g 129 82 = .ref (ad 176) := h.2.1 (129, 82, 176) (List.mem_of_getElem? (i := 120) rfl)
theorem rf_129_83 {ad : Nat → Nat} {cA : Nat → ClassId} {g : Nat → va_E} (h : Shp ad cA g) : fld g 129 83 = .ref (ad 177) := h.2.1 (129, 83, 177) (List.mem_of_getElem? (i := 121) rfl)
theorem rf_129_84 {ad : Nat → Nat} {cA : Nat → ClassId} {g : Nat → va_E} (h : Shp ad cA g) : fld g 129 84 = .ref (ad 178) := h.2.1 (129, 84, 178) (List.mem_of_getElem? (i := 122) rfl)
theorem rf_129_85 {ad : Nat → Nat} {cA : Nat → ClassId} {g : Nat → va_E} (h : Shp ad cA g) : fld g 129 85 = .ref (ad 179) := h.2.1 (129, 85, 179) (List.mem_of_getElem? (i := 123) rfl)
theorem aq_5 {ad : Nat → Nat} {cA : Nat → ClassId} {g : Nat → va_E} (h : Shp ad cA g) : arQ g 5 = fun j => if j < 12 then some (ad (6 + 1 * j)) else none := h.2.2 (5, 12, 6, 1) (List.mem_of_getElem? (i := 0) rfl)
theorem aq_21 {ad : Nat → Nat} {cA : Nat → ClassId} {g : Nat → va_E} (h : Shp ad cA g) : arQ g 21 = fun j => if j < 8 then some (ad (22 + 1 * j)) else none := h.2.2 (21, 8, 22, 1) (List.mem_of_getElem? (i := 1) rfl)
theorem aq_33 {ad : Nat → Nat} {cA : Nat → ClassId} {g : Nat → va_E} (h : Shp ad cA g) : arQ g 33 = fun j => if j < 8 then some (ad (34 + 1 * j)) else none := h.2.2 (33, 8, 34, 1) (List.mem_of_getElem? (i := 2) rfl)
theorem aq_45 {ad : Nat → Nat} {cA : Nat → ClassId} {g : Nat → va_E} (h : Shp ad cA g) : arQ g 45 = fun j => if j < 8 then some (ad (46 + 1 * j)) else none := h.2.2 (45, 8, 46, 1) (List.mem_of_getElem? (i := 3) rfl)
theorem aq_81 {ad : Nat → Nat} {cA : Nat → ClassId} {g : Nat → va_E} (h : Shp ad cA g) : arQ g 81 = fun j => if j < 6 then some (ad (84 + 3 * j)) else none := h.2.2 (81, 6, 84, 3) (List.mem_of_getElem? (i := 4) rfl)
theorem aq_103 {ad : Nat → Nat} {cA : Nat → ClassId} {g : Nat → va_E} (h : Shp ad cA g) : arQ g 103 = fun j => if j < 8 then some (ad (104 + 1 * j)) else none := h.2.2 (103, 8, 104, 1) (List.mem_of_getElem? (i := 5) rfl)
theorem aq_112 {ad : Nat → Nat} {cA : Nat → ClassId} {g : Nat → va_E} (h : Shp ad cA g) : arQ g 112 = fun j => if j < 5 then some (ad (113 + 1 * j)) else none := h.2.2 (112, 5, 113, 1) (List.mem_of_getElem? (i := 6) rfl)
theorem lb_0 : LO 0 11 16 := ⟨by decide, rfl⟩
theorem lb_1 : LO 1 10 2 := ⟨by decide, rfl⟩
theorem lb_2 : LA 2 0 260 := ⟨by decide, rfl⟩
theorem lb_3 : LO 3 5 3 := ⟨by decide, rfl⟩
theorem lb_4 : LA 4 0 12 := ⟨by decide, rfl⟩
theorem lb_5 : LQ 5 1 12 := ⟨by decide, rfl⟩
theorem lb_6 : LA 6 0 12 := ⟨by decide, rfl⟩
theorem lb_7 : LA 7 0 12 := ⟨by decide, rfl⟩
theorem lb_8 : LA 8 0 12 := ⟨by decide, rfl⟩
theorem lb_9 : LA 9 0 12 := ⟨by decide, rfl⟩
theorem lb_10 : LA 10 0 12 := ⟨by decide, rfl⟩
theorem lb_11 : LA 11 0 12 := ⟨by decide, rfl⟩
theorem lb_12 : LA 12 0 12 := ⟨by decide, rfl⟩
theorem lb_13 : LA 13 0 12 := ⟨by decide, rfl⟩
theorem lb_14 : LA 14 0 12 := ⟨by decide, rfl⟩
theorem lb_15 : LA 15 0 12 := ⟨by decide, rfl⟩
theorem lb_16 : LA 16 0 12 := ⟨by decide, rfl⟩
theorem lb_17 : LA 17 0 12 := ⟨by decide, rfl⟩
theorem lb_18 : LO 18 7 8 := ⟨by decide, rfl⟩
theorem lb_19 : LA 19 0 8 := ⟨by decide, rfl⟩
theorem lb_20 : LA 20 0 8 := ⟨by decide, rfl⟩
theorem lb_21 : LQ 21 1 8 := ⟨by decide, rfl⟩
theorem lb_22 : LA 22 0 12 := ⟨by decide, rfl⟩
theorem lb_23 : LA 23 0 12 := ⟨by decide, rfl⟩
theorem lb_24 : LA 24 0 12 := ⟨by decide, rfl⟩
theorem lb_25 : LA 25 0 12 := ⟨by decide, rfl⟩
theorem lb_26 : LA 26 0 12 := ⟨by decide, rfl⟩
theorem lb_27 : LA 27 0 12 := ⟨by decide, rfl⟩
theorem lb_28 : LA 28 0 12 := ⟨by decide, rfl⟩
theorem lb_29 : LA 29 0 12 := ⟨by decide, rfl⟩
theorem lb_30 : LO 30 7 8 := ⟨by decide, rfl⟩
theorem lb_31 : LA 31 0 8 := ⟨by decide, rfl⟩
theorem lb_32 : LA 32 0 8 := ⟨by decide, rfl⟩
theorem lb_33 : LQ 33 1 8 := ⟨by decide, rfl⟩
theorem lb_34 : LA 34 0 12 := ⟨by decide, rfl⟩
theorem lb_35 : LA 35 0 12 := ⟨by decide, rfl⟩
theorem lb_36 : LA 36 0 12 := ⟨by decide, rfl⟩
theorem lb_37 : LA 37 0 12 := ⟨by decide, rfl⟩
theorem lb_38 : LA 38 0 12 := ⟨by decide, rfl⟩
theorem lb_39 : LA 39 0 12 := ⟨by decide, rfl⟩
theorem lb_40 : LA 40 0 12 := ⟨by decide, rfl⟩
theorem lb_41 : LA 41 0 12 := ⟨by decide, rfl⟩
theorem lb_42 : LO 42 7 8 := ⟨by decide, rfl⟩
theorem lb_43 : LA 43 0 8 := ⟨by decide, rfl⟩
theorem lb_44 : LA 44 0 8 := ⟨by decide, rfl⟩
theorem lb_45 : LQ 45 1 8 := ⟨by decide, rfl⟩
theorem lb_46 : LA 46 0 12 := ⟨by decide, rfl⟩
theorem lb_47 : LA 47 0 12 := ⟨by decide, rfl⟩
theorem lb_48 : LA 48 0 12 := ⟨by decide, rfl⟩
theorem lb_49 : LA 49 0 12 := ⟨by decide, rfl⟩
theorem lb_50 : LA 50 0 12 := ⟨by decide, rfl⟩
theorem lb_51 : LA 51 0 12 := ⟨by decide, rfl⟩
theorem lb_52 : LA 52 0 12 := ⟨by decide, rfl⟩
theorem lb_53 : LA 53 0 12 := ⟨by decide, rfl⟩
theorem lb_54 : LO 54 3 8 := ⟨by decide, rfl⟩
theorem lb_55 : LA 55 0 16 := ⟨by decide, rfl⟩
theorem lb_56 : LA 56 0 16 := ⟨by decide, rfl⟩
theorem lb_57 : LA 57 0 16 := ⟨by decide, rfl⟩
theorem lb_58 : LA 58 0 256 := ⟨by decide, rfl⟩
theorem lb_59 : LA 59 0 256 := ⟨by decide, rfl⟩
theorem lb_60 : LA 60 0 64 := ⟨by decide, rfl⟩
theorem lb_61 : LO 61 3 8 := ⟨by decide, rfl⟩
theorem lb_62 : LA 62 0 16 := ⟨by decide, rfl⟩
theorem lb_63 : LA 63 0 16 := ⟨by decide, rfl⟩
theorem lb_64 : LA 64 0 16 := ⟨by decide, rfl⟩
theorem lb_65 : LA 65 0 256 := ⟨by decide, rfl⟩
theorem lb_66 : LA 66 0 256 := ⟨by decide, rfl⟩
theorem lb_67 : LA 67 0 64 := ⟨by decide, rfl⟩
theorem lb_68 : LO 68 3 8 := ⟨by decide, rfl⟩
theorem lb_69 : LA 69 0 16 := ⟨by decide, rfl⟩
theorem lb_70 : LA 70 0 16 := ⟨by decide, rfl⟩
theorem lb_71 : LA 71 0 16 := ⟨by decide, rfl⟩
theorem lb_72 : LA 72 0 256 := ⟨by decide, rfl⟩
theorem lb_73 : LA 73 0 256 := ⟨by decide, rfl⟩
theorem lb_74 : LA 74 0 64 := ⟨by decide, rfl⟩
theorem lb_75 : LO 75 0 3 := ⟨by decide, rfl⟩
theorem lb_76 : LA 76 0 48 := ⟨by decide, rfl⟩
theorem lb_77 : LA 77 0 48 := ⟨by decide, rfl⟩
theorem lb_78 : LO 78 1 5 := ⟨by decide, rfl⟩
theorem lb_79 : LO 79 4 5 := ⟨by decide, rfl⟩
theorem lb_80 : LO 80 2 11 := ⟨by decide, rfl⟩
theorem lb_81 : LQ 81 2 6 := ⟨by decide, rfl⟩
theorem lb_82 : LA 82 0 10 := ⟨by decide, rfl⟩
theorem lb_83 : LA 83 0 8 := ⟨by decide, rfl⟩
theorem lb_84 : LO 84 0 3 := ⟨by decide, rfl⟩
theorem lb_85 : LA 85 0 48 := ⟨by decide, rfl⟩
theorem lb_86 : LA 86 0 48 := ⟨by decide, rfl⟩
theorem lb_87 : LO 87 0 3 := ⟨by decide, rfl⟩
theorem lb_88 : LA 88 0 48 := ⟨by decide, rfl⟩
theorem lb_89 : LA 89 0 48 := ⟨by decide, rfl⟩
theorem lb_90 : LO 90 0 3 := ⟨by decide, rfl⟩
theorem lb_91 : LA 91 0 48 := ⟨by decide, rfl⟩
theorem lb_92 : LA 92 0 48 := ⟨by decide, rfl⟩
theorem lb_93 : LO 93 0 3 := ⟨by decide, rfl⟩
theorem lb_94 : LA 94 0 48 := ⟨by decide, rfl⟩
theorem lb_95 : LA 95 0 48 := ⟨by decide, rfl⟩
theorem lb_96 : LO 96 0 3 := ⟨by decide, rfl⟩
theorem lb_97 : LA 97 0 48 := ⟨by decide, rfl⟩
theorem lb_98 : LA 98 0 48 := ⟨by decide, rfl⟩
theorem lb_99 : LO 99 0 3 := ⟨by decide, rfl⟩
theorem lb_100 : LA 100 0 48 := ⟨by decide, rfl⟩
theorem lb_101 : LA 101 0 48 := ⟨by decide, rfl⟩
theorem lb_102 : LO 102 9 5 := ⟨by decide, rfl⟩
theorem lb_103 : LQ 103 1 8 := ⟨by decide, rfl⟩
theorem lb_104 : LA 104 0 8 := ⟨by decide, rfl⟩
theorem lb_105 : LA 105 0 8 := ⟨by decide, rfl⟩
theorem lb_106 : LA 106 0 8 := ⟨by decide, rfl⟩
theorem lb_107 : LA 107 0 8 := ⟨by decide, rfl⟩
theorem lb_108 : LA 108 0 8 := ⟨by decide, rfl⟩
theorem lb_109 : LA 109 0 8 := ⟨by decide, rfl⟩
theorem lb_110 : LA 110 0 8 := ⟨by decide, rfl⟩
theorem lb_111 : LA 111 0 8 := ⟨by decide, rfl⟩
theorem lb_112 : LQ 112 1 5 := ⟨by decide, rfl⟩
theorem lb_113 : LA 113 0 6 := ⟨by decide, rfl⟩
theorem lb_114 : LA 114 0 6 := ⟨by decide, rfl⟩
theorem lb_115 : LA 115 0 6 := ⟨by decide, rfl⟩
theorem lb_116 : LA 116 0 6 := ⟨by decide, rfl⟩
theorem lb_117 : LA 117 0 6 := ⟨by decide, rfl⟩
theorem lb_118 : LA 118 0 6 := ⟨by decide, rfl⟩
theorem lb_119 : LA 119 0 6 := ⟨by decide, rfl⟩
theorem lb_120 : LO 120 8 7 := ⟨by decide, rfl⟩
theorem lb_121 : LA 121 0 5 := ⟨by decide, rfl⟩
theorem lb_122 : LJ 122 5 341 := ⟨by decide, rfl⟩
theorem lb_123 : LJ 123 5 341 := ⟨by decide, rfl⟩
theorem lb_124 : LA 124 0 341 := ⟨by decide, rfl⟩
theorem lb_125 : LA 125 0 341 := ⟨by decide, rfl⟩
theorem lb_126 : LA 126 0 341 := ⟨by decide, rfl⟩
theorem lb_127 : LO 127 6 4 := ⟨by decide, rfl⟩
theorem lb_128 : LA 128 0 9 := ⟨by decide, rfl⟩
theorem lb_129 : LO 129 12 86 := ⟨by decide, rfl⟩
theorem lb_130 : LA 130 3 260 := ⟨by decide, rfl⟩
theorem lb_131 : LA 131 4 12 := ⟨by decide, rfl⟩
theorem lb_132 : LA 132 0 12 := ⟨by decide, rfl⟩
theorem lb_133 : LA 133 0 144 := ⟨by decide, rfl⟩
theorem lb_134 : LA 134 4 6 := ⟨by decide, rfl⟩
theorem lb_135 : LA 135 0 6 := ⟨by decide, rfl⟩
theorem lb_136 : LA 136 0 288 := ⟨by decide, rfl⟩
theorem lb_137 : LA 137 0 48 := ⟨by decide, rfl⟩
theorem lb_138 : LA 138 0 10 := ⟨by decide, rfl⟩
theorem lb_139 : LA 139 0 2 := ⟨by decide, rfl⟩
theorem lb_140 : LA 140 0 2 := ⟨by decide, rfl⟩
theorem lb_141 : LA 141 0 2 := ⟨by decide, rfl⟩
theorem lb_142 : LA 142 0 32 := ⟨by decide, rfl⟩
theorem lb_143 : LA 143 0 32 := ⟨by decide, rfl⟩
theorem lb_144 : LA 144 0 32 := ⟨by decide, rfl⟩
theorem lb_145 : LA 145 0 32 := ⟨by decide, rfl⟩
theorem lb_146 : LA 146 0 480 := ⟨by decide, rfl⟩
theorem lb_147 : LA 147 0 480 := ⟨by decide, rfl⟩
theorem lb_148 : LA 148 0 2 := ⟨by decide, rfl⟩
theorem lb_149 : LA 149 0 16 := ⟨by decide, rfl⟩
theorem lb_150 : LA 150 0 16 := ⟨by decide, rfl⟩
theorem lb_151 : LA 151 0 16 := ⟨by decide, rfl⟩
theorem lb_152 : LA 152 0 16 := ⟨by decide, rfl⟩
theorem lb_153 : LA 153 0 240 := ⟨by decide, rfl⟩
theorem lb_154 : LA 154 0 240 := ⟨by decide, rfl⟩
theorem lb_155 : LA 155 0 240 := ⟨by decide, rfl⟩
theorem lb_156 : LA 156 0 240 := ⟨by decide, rfl⟩
theorem lb_157 : LA 157 4 240 := ⟨by decide, rfl⟩
theorem lb_158 : LA 158 4 8 := ⟨by decide, rfl⟩
theorem lb_159 : LA 159 0 8 := ⟨by decide, rfl⟩
theorem lb_160 : LA 160 0 8 := ⟨by decide, rfl⟩
theorem lb_161 : LA 161 0 96 := ⟨by decide, rfl⟩
theorem lb_162 : LA 162 4 16 := ⟨by decide, rfl⟩
theorem lb_163 : LA 163 0 16 := ⟨by decide, rfl⟩
theorem lb_164 : LA 164 0 16 := ⟨by decide, rfl⟩
theorem lb_165 : LA 165 0 192 := ⟨by decide, rfl⟩
theorem lb_166 : LA 166 0 2 := ⟨by decide, rfl⟩
theorem lb_167 : LA 167 0 2 := ⟨by decide, rfl⟩
theorem lb_168 : LA 168 0 2 := ⟨by decide, rfl⟩
theorem lb_169 : LA 169 0 2 := ⟨by decide, rfl⟩
theorem lb_170 : LA 170 0 12 := ⟨by decide, rfl⟩
theorem lb_171 : LA 171 0 12 := ⟨by decide, rfl⟩
theorem lb_172 : LA 172 0 8 := ⟨by decide, rfl⟩
theorem lb_173 : LA 173 0 8 := ⟨by decide, rfl⟩
theorem lb_174 : LA 174 0 12 := ⟨by decide, rfl⟩
theorem lb_175 : LA 175 0 64 := ⟨by decide, rfl⟩
theorem lb_176 : LA 176 4 5 := ⟨by decide, rfl⟩
theorem lb_177 : LA 177 0 30 := ⟨by decide, rfl⟩
theorem lb_178 : LA 178 0 6 := ⟨by decide, rfl⟩
theorem lb_179 : LA 179 0 9 := ⟨by decide, rfl⟩
theorem lr_6 {q : Nat} (h : q < 12) : LA (6 + 1 * q) 0 12 := by
  revert q
  show ∀ q, q < 12 → (6 + 1 * q) < NN ∧ shk (6 + 1 * q) = (1, 0, 12)
  decide +kernel
theorem lr_22 {q : Nat} (h : q < 8) : LA (22 + 1 * q) 0 12 := by
  revert q
  show ∀ q, q < 8 → (22 + 1 * q) < NN ∧ shk (22 + 1 * q) = (1, 0, 12)
  decide +kernel
theorem lr_34 {q : Nat} (h : q < 8) : LA (34 + 1 * q) 0 12 := by
  revert q
  show ∀ q, q < 8 → (34 + 1 * q) < NN ∧ shk (34 + 1 * q) = (1, 0, 12)
  decide +kernel
theorem lr_46 {q : Nat} (h : q < 8) : LA (46 + 1 * q) 0 12 := by
  revert q
  show ∀ q, q < 8 → (46 + 1 * q) < NN ∧ shk (46 + 1 * q) = (1, 0, 12)
  decide +kernel
theorem lr_104 {q : Nat} (h : q < 8) : LA (104 + 1 * q) 0 8 := by
  revert q
  show ∀ q, q < 8 → (104 + 1 * q) < NN ∧ shk (104 + 1 * q) = (1, 0, 8)
  decide +kernel
theorem lr_113 {q : Nat} (h : q < 5) : LA (113 + 1 * q) 0 6 := by
  revert q
  show ∀ q, q < 5 → (113 + 1 * q) < NN ∧ shk (113 + 1 * q) = (1, 0, 6)
  decide +kernel
theorem lo_art {q : Nat} (h : q < 6) : LO (84 + 3 * q) 0 3 := by
  revert q
  show ∀ q, q < 6 → (84 + 3 * q) < NN ∧ shk (84 + 3 * q) = (0, 0, 3)
  decide +kernel
