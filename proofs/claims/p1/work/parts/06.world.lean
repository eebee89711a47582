/-! the world: labels 0 .. 128 of the class, 129 .. 179 of the reference -/
def NN : Nat := 180
/-- shapes: kind (0 object, 1 ints, 2 references, 3 longs), class, size -/
def shL : List (Nat × Nat × Nat) := [(0, 11, 16), (0, 10, 2), (1, 0, 260), (0, 5, 3), (1, 0, 12), (2, 1, 12), (1, 0, 12), (1, 0, 12), (1, 0, 12), (1, 0, 12), (1, 0, 12), (1, 0, 12), (1, 0, 12), (1, 0, 12), (1, 0, 12), (1, 0, 12), (1, 0, 12), (1, 0, 12), (0, 7, 8), (1, 0, 8), (1, 0, 8), (2, 1, 8), (1, 0, 12), (1, 0, 12), (1, 0, 12), (1, 0, 12), (1, 0, 12), (1, 0, 12), (1, 0, 12), (1, 0, 12), (0, 7, 8), (1, 0, 8), (1, 0, 8), (2, 1, 8), (1, 0, 12), (1, 0, 12), (1, 0, 12), (1, 0, 12), (1, 0, 12), (1, 0, 12), (1, 0, 12), (1, 0, 12), (0, 7, 8), (1, 0, 8), (1, 0, 8), (2, 1, 8), (1, 0, 12), (1, 0, 12), (1, 0, 12), (1, 0, 12), (1, 0, 12), (1, 0, 12), (1, 0, 12), (1, 0, 12), (0, 3, 8), (1, 0, 16), (1, 0, 16), (1, 0, 16), (1, 0, 256), (1, 0, 256), (1, 0, 64), (0, 3, 8), (1, 0, 16), (1, 0, 16), (1, 0, 16), (1, 0, 256), (1, 0, 256), (1, 0, 64), (0, 3, 8), (1, 0, 16), (1, 0, 16), (1, 0, 16), (1, 0, 256), (1, 0, 256), (1, 0, 64), (0, 0, 3), (1, 0, 48), (1, 0, 48), (0, 1, 5), (0, 4, 5), (0, 2, 11), (2, 2, 6), (1, 0, 10), (1, 0, 8), (0, 0, 3), (1, 0, 48), (1, 0, 48), (0, 0, 3), (1, 0, 48), (1, 0, 48), (0, 0, 3), (1, 0, 48), (1, 0, 48), (0, 0, 3), (1, 0, 48), (1, 0, 48), (0, 0, 3), (1, 0, 48), (1, 0, 48), (0, 0, 3), (1, 0, 48), (1, 0, 48), (0, 9, 5), (2, 1, 8), (1, 0, 8), (1, 0, 8), (1, 0, 8), (1, 0, 8), (1, 0, 8), (1, 0, 8), (1, 0, 8), (1, 0, 8), (2, 1, 5), (1, 0, 6), (1, 0, 6), (1, 0, 6), (1, 0, 6), (1, 0, 6), (1, 0, 6), (1, 0, 6), (0, 8, 7), (1, 0, 5), (3, 5, 341), (3, 5, 341), (1, 0, 341), (1, 0, 341), (1, 0, 341), (0, 6, 4), (1, 0, 9), (0, 12, 86), (1, 3, 260), (1, 4, 12), (1, 0, 12), (1, 0, 144), (1, 4, 6), (1, 0, 6), (1, 0, 288), (1, 0, 48), (1, 0, 10), (1, 0, 2), (1, 0, 2), (1, 0, 2), (1, 0, 32), (1, 0, 32), (1, 0, 32), (1, 0, 32), (1, 0, 480), (1, 0, 480), (1, 0, 2), (1, 0, 16), (1, 0, 16), (1, 0, 16), (1, 0, 16), (1, 0, 240), (1, 0, 240), (1, 0, 240), (1, 0, 240), (1, 4, 240), (1, 4, 8), (1, 0, 8), (1, 0, 8), (1, 0, 96), (1, 4, 16), (1, 0, 16), (1, 0, 16), (1, 0, 192), (1, 0, 2), (1, 0, 2), (1, 0, 2), (1, 0, 2), (1, 0, 12), (1, 0, 12), (1, 0, 8), (1, 0, 8), (1, 0, 12), (1, 0, 64), (1, 4, 5), (1, 0, 30), (1, 0, 6), (1, 0, 9)]
def shk (i : Nat) : Nat × Nat × Nat := shL.getD i (9, 0, 0)
/-- which fields of a kind of object hold ints -/
def iFs (ci : Nat) : List Nat := match ci with
  | 0 => [2]
  | 1 => [1, 2, 3]
  | 2 => [4, 5, 6, 7, 8]
  | 3 => [6, 7]
  | 4 => [1, 2, 3]
  | 5 => [2]
  | 6 => [1, 2, 3]
  | 7 => [3, 4, 5, 6, 7]
  | 8 => [6]
  | 9 => [4]
  | 10 => [1]
  | 11 => [15]
  | 12 => [1, 2, 3, 4, 5, 6, 7, 8, 9, 18, 19, 20, 31, 32, 39, 40, 42, 43, 44, 45, 46, 47, 48, 49, 56, 57, 58, 59, 60, 61, 62, 63, 64, 65, 66, 75]
  | _ => []
def shOK (cA : Nat → ClassId) (t : Nat × Nat × Nat) (e : va_E) : Prop := match t.1 with
  | 0 => ∃ fv : Nat → Value, e = ob t.2.1 t.2.2 fv ∧ ∀ k ∈ iFs t.2.1, ∃ x : Int32, fv k = .int x
  | 1 => ∃ f, e = ia (cA t.2.1) t.2.2 f
  | 2 => ∃ f, e = qa (cA t.2.1) t.2.2 f
  | _ => ∃ f, e = ja (cA t.2.1) t.2.2 f
def Shp (cA : Nat → ClassId) (g : Nat → va_E) : Prop := ∀ i, i < NN → shOK cA (shk i) (g i)
/-- a label of an object, of ints, of references, of longs -/
def LO (i ci nf : Nat) : Prop := i < NN ∧ shk i = (0, ci, nf)
def LA (i t n : Nat) : Prop := i < NN ∧ shk i = (1, t, n)
def LQ (i t n : Nat) : Prop := i < NN ∧ shk i = (2, t, n)
def LJ (i t n : Nat) : Prop := i < NN ∧ shk i = (3, t, n)
theorem iFs_lt : ∀ ci, ci < 13 → ∀ k ∈ iFs ci, k < ((vwCl[ci]?).map (fun q => q.2.2)).getD 0 := by decide +kernel
theorem fld_ob {g : Nat → va_E} {i ci nf k : Nat} {fv : Nat → Value} (h : g i = ob ci nf fv) (hk : k < nf) : fld g i k = fv k := by
  unfold fld
  rw [h]
  simp [ob, List.getD, hk]
theorem shO {cA : Nat → ClassId} {g : Nat → va_E} {i ci nf : Nat} (h : Shp cA g) (L : LO i ci nf) : g i = ob ci nf (fld g i) := by
  have := h i L.1
  rw [L.2] at this
  obtain ⟨fv, h1, -⟩ := this
  exact ob_fld h1
theorem shA {cA : Nat → ClassId} {g : Nat → va_E} {i t n : Nat} (h : Shp cA g) (L : LA i t n) : g i = ia (cA t) n (arI g i) := by
  have := h i L.1
  rw [L.2] at this
  obtain ⟨fv, h1⟩ := this
  exact ia_arI h1
theorem shQ {cA : Nat → ClassId} {g : Nat → va_E} {i t n : Nat} (h : Shp cA g) (L : LQ i t n) : g i = qa (cA t) n (arQ g i) := by
  have := h i L.1
  rw [L.2] at this
  obtain ⟨fv, h1⟩ := this
  exact qa_arQ h1
theorem shJ {cA : Nat → ClassId} {g : Nat → va_E} {i t n : Nat} (h : Shp cA g) (L : LJ i t n) : g i = ja (cA t) n (arJ g i) := by
  have := h i L.1
  rw [L.2] at this
  obtain ⟨fv, h1⟩ := this
  exact ja_arJ h1
theorem shI {cA : Nat → ClassId} {g : Nat → va_E} {i ci nf k : Nat} (h : Shp cA g) (L : LO i ci nf) (hk : k ∈ iFs ci) (hn : k < nf) : fld g i k = .int (fI g i k) := by
  have := h i L.1
  rw [L.2] at this
  obtain ⟨fv, h1, h2⟩ := this
  obtain ⟨x, hx⟩ := h2 k hk
  have e := (fld_ob h1 hn).trans hx
  unfold fI
  rw [e]
theorem Shp_stF {cA : Nat → ClassId} {g : Nat → va_E} {i ci nf k : Nat} {v : Value} (h : Shp cA g) (L : LO i ci nf) (hv : (∃ x : Int32, v = .int x) ∨ k ∉ iFs ci) : Shp cA (stF g i k v) := by
  intro j hj
  by_cases e : j = i
  · subst e
    have := h j hj
    rw [L.2] at this ⊢
    obtain ⟨fv, h1, h2⟩ := this
    refine ⟨fun q => if q = k then v else fv q, ?_, fun q hq => ?_⟩
    · unfold stF
      rw [va_up_self, h1]
      show (Sum.inr (ci, ((List.range nf).map fv).set k v) : va_E) = ob ci nf _
      rw [map_set]
      rfl
    · by_cases e2 : q = k
      · subst e2
        rcases hv with ⟨x, hx⟩ | hv
        · exact ⟨x, by simp [hx]⟩
        · exact absurd hq hv
      · obtain ⟨x, hx⟩ := h2 q hq
        exact ⟨x, by simp [e2, hx]⟩
  · rw [stF_ne e]
    exact h j hj
theorem Shp_stA {cA : Nat → ClassId} {g : Nat → va_E} {i t n j : Nat} {x : Int32} (h : Shp cA g) (L : LA i t n) : Shp cA (stA g i j x) := by
  intro q hq
  by_cases e : q = i
  · subst e
    rw [L.2]
    exact ⟨upd (arI g q) j x, by unfold stA; rw [va_up_self, shA h L]; rfl⟩
  · rw [stA_ne e]
    exact h q hq
theorem Shp_stJ {cA : Nat → ClassId} {g : Nat → va_E} {i t n j : Nat} {x : Int64} (h : Shp cA g) (L : LJ i t n) : Shp cA (stJ g i j x) := by
  intro q hq
  by_cases e : q = i
  · subst e
    rw [L.2]
    exact ⟨vp_updL (arJ g q) j x, by unfold stJ; rw [va_up_self, shJ h L]; rfl⟩
  · rw [stJ_ne e]
    exact h q hq
/-- what stands in g1 as in g, but for what T names: (label, field), and (label, 0) for a row of ints -/
def FR (T : Nat → Nat → Prop) (g g1 : Nat → va_E) : Prop := (∀ i k, ¬ T i k → fld g1 i k = fld g i k) ∧ (∀ i, ¬ T i 0 → arI g1 i = arI g i) ∧ ∀ i, arQ g1 i = arQ g i
theorem FR.rf {T : Nat → Nat → Prop} {g : Nat → va_E} : FR T g g := ⟨fun _ _ _ => rfl, fun _ _ => rfl, fun _ => rfl⟩
theorem FR.tr {T T1 : Nat → Nat → Prop} {g g1 g2 : Nat → va_E} (h : FR T g g1) (h1 : FR T1 g1 g2) (hs : ∀ i k, T1 i k → T i k) : FR T g g2 :=
  ⟨fun i k hn => (h1.1 i k (fun q => hn (hs i k q))).trans (h.1 i k hn), fun i hn => (h1.2.1 i (fun q => hn (hs i 0 q))).trans (h.2.1 i hn), fun i => (h1.2.2 i).trans (h.2.2 i)⟩
/-- the state of a walk: the world, its shapes, and what stands as it stood at the method's start -/
def WS (ad : Nat → Nat) (cA : Nat → ClassId) (T : Nat → Nat → Prop) (g0 : Nat → va_E) (K : KT) (g : Nat → va_E) (H : Heap) (locs : List Loc) : Prop := WB NN ad K g H locs ∧ Shp cA g ∧ FR T g0 g
theorem arQ_stF {g : Nat → va_E} {i k i' : Nat} {v : Value} : arQ (stF g i k v) i' = arQ g i' := by
  unfold arQ stF
  by_cases e : i' = i
  · subst e
    rw [va_up_self]
    cases g i' with
    | inr a => rfl
    | inl a => rfl
  · rw [va_up_ne _ _ e]
theorem arQ_stA {g : Nat → va_E} {i j i' : Nat} {x : Int32} : arQ (stA g i j x) i' = arQ g i' := by
  unfold arQ stA
  by_cases e : i' = i
  · subst e
    rw [va_up_self]
    cases g i' with
    | inr a => rfl
    | inl a => obtain ⟨c, n, f | f⟩ := a <;> rfl
  · rw [va_up_ne _ _ e]
theorem arQ_stJ {g : Nat → va_E} {i j i' : Nat} {x : Int64} : arQ (stJ g i j x) i' = arQ g i' := by
  unfold arQ stJ
  by_cases e : i' = i
  · subst e
    rw [va_up_self]
    cases g i' with
    | inr a => rfl
    | inl a => obtain ⟨c, n, f | f | f⟩ := a <;> rfl
  · rw [va_up_ne _ _ e]
theorem arI_stJ {g : Nat → va_E} {i j i' : Nat} {x : Int64} : arI (stJ g i j x) i' = arI g i' := by
  unfold arI stJ
  by_cases e : i' = i
  · subst e
    rw [va_up_self]
    cases g i' with
    | inr a => rfl
    | inl a => obtain ⟨c, n, f | f | f⟩ := a <;> rfl
  · rw [va_up_ne _ _ e]
/-- one write's frame -/
def Only (i k : Nat) : Nat → Nat → Prop := fun a b => a = i ∧ b = k
theorem FR_stF {g : Nat → va_E} {i k : Nat} {v : Value} : FR (Only i k) g (stF g i k v) := by
  refine ⟨fun a b h => ?_, fun _ _ => arI_stF, fun _ => arQ_stF⟩
  by_cases e : a = i
  · subst e
    exact fld_stk (fun q => h ⟨rfl, q⟩)
  · exact fld_eq (stF_ne e) b
theorem FR_stA {g : Nat → va_E} {i j : Nat} {x : Int32} : FR (Only i 0) g (stA g i j x) :=
  ⟨fun _ _ _ => fld_stA, fun a h => arI_eq (stA_ne (fun e => h ⟨e, rfl⟩)), fun _ => arQ_stA⟩
theorem FR_stJ {g : Nat → va_E} {i j : Nat} {x : Int64} : FR (Only i 0) g (stJ g i j x) := ⟨fun _ _ _ => fld_stJ, fun _ _ => arI_stJ, fun _ => arQ_stJ⟩
section WR
variable {K : KT} {cA : Nat → ClassId} {cc : ByteArray} {nL : Nat} {own : String} {k n : Nat} {H : Heap} {locs : List Loc} {pc : Nat} {ls : Array Slot} {rest : List Value} {ad : Nat → Nat} {g g0 : Nat → va_E} {T : Nat → Nat → Prop}
theorem w_get {i ci nf kf index : Nat} {v : Value} (hM : MB K cA cc nL own) (hW : WS ad cA T g0 K g H locs) (F : FG own index ci nf kf) (L : LO i ci nf) (hv : fld g i kf = v) (hd : decode cc pc = .ok (.getfield index, 3))
    (kk : XX K k n H locs (pc + 3) ls (v :: rest)) : XX K k n H locs pc ls (.ref (ad i) :: rest) := q_getF hM hW.1 F L.1 (shO hW.2.1 L) hv hd kk
/-- an int field: its value gets a name -/
theorem w_getI {i ci nf kf index : Nat} (hM : MB K cA cc nL own) (hW : WS ad cA T g0 K g H locs) (F : FG own index ci nf kf) (L : LO i ci nf) (hk : kf ∈ iFs ci) (hn : kf < nf) (hd : decode cc pc = .ok (.getfield index, 3))
    (kk : ∀ x : Int32, fld g i kf = .int x → XX K k n H locs (pc + 3) ls (.int x :: rest)) : XX K k n H locs pc ls (.ref (ad i) :: rest) := q_getF hM hW.1 F L.1 (shO hW.2.1 L) (shI hW.2.1 L hk hn) hd (kk _ (shI hW.2.1 L hk hn))
theorem w_put {i ci nf kf index : Nat} {v : Value} {ty : FieldType} (hM : MB K cA cc nL own) (hW : WS ad cA T g0 K g H locs) (F : FP own index ci nf kf ty) (L : LO i ci nf) (hT : T i kf) (hs : (∃ x : Int32, v = .int x) ∨ kf ∉ iFs ci) (hn : narrow ty v = v) (hfit : fits ty v = true) (hd : decode cc pc = .ok (.putfield index, 3))
    (kk : ∀ (g1 : Nat → va_E) (H : Heap) (locs : List Loc), WS ad cA T g0 K g1 H locs → fld g1 i kf = v → FR (Only i kf) g g1 → XX K k n H locs (pc + 3) ls rest) : XX K k n H locs pc ls (v :: .ref (ad i) :: rest) := by
  have hkf : kf < nf := by obtain ⟨_, _, _, _, _, h, _⟩ := F; exact h
  refine q_putF hM hW.1 F L.1 (shO hW.2.1 L) hn hfit hd (fun H locs h1 => kk _ H locs ⟨h1, Shp_stF hW.2.1 L hs, hW.2.2.tr FR_stF (fun a b h => ?_)⟩ (fld_st (shO hW.2.1 L) hkf) FR_stF)
  obtain ⟨rfl, rfl⟩ := h
  exact hT
theorem w_iald {i na : Nat} {j : Int32} (hM : MB K cA cc nL own) (hW : WS ad cA T g0 K g H locs) (L : LA i 0 na) (hin : vp_in j na) (hd : decode cc pc = .ok (.iaload, 1))
    (kk : XX K k n H locs (pc + 1) ls (.int (arI g i j.toNatClampNeg) :: rest)) : XX K k n H locs pc ls (.int j :: .ref (ad i) :: rest) := q_iald hM hW.1 L.1 (shA hW.2.1 L) hin hd kk
theorem w_bald {i na : Nat} {j : Int32} (hM : MB K cA cc nL own) (hW : WS ad cA T g0 K g H locs) (L : LA i 3 na) (hin : vp_in j na) (hd : decode cc pc = .ok (.baload, 1))
    (kk : XX K k n H locs (pc + 1) ls (.int (arI g i j.toNatClampNeg) :: rest)) : XX K k n H locs pc ls (.int j :: .ref (ad i) :: rest) := q_bald hM hW.1 L.1 (shA hW.2.1 L) hin hd kk
theorem w_zald {i na : Nat} {j : Int32} (hM : MB K cA cc nL own) (hW : WS ad cA T g0 K g H locs) (L : LA i 4 na) (hin : vp_in j na) (hd : decode cc pc = .ok (.baload, 1))
    (kk : XX K k n H locs (pc + 1) ls (.int (arI g i j.toNatClampNeg) :: rest)) : XX K k n H locs pc ls (.int j :: .ref (ad i) :: rest) := q_zald hM hW.1 L.1 (shA hW.2.1 L) hin hd kk
theorem w_jald {i na : Nat} {j : Int32} (hM : MB K cA cc nL own) (hW : WS ad cA T g0 K g H locs) (L : LJ i 5 na) (hin : vp_in j na) (hd : decode cc pc = .ok (.laload, 1))
    (kk : XX K k n H locs (pc + 1) ls (.long (arJ g i j.toNatClampNeg) :: rest)) : XX K k n H locs pc ls (.int j :: .ref (ad i) :: rest) := q_jald hM hW.1 L.1 (shJ hW.2.1 L) hin hd kk
theorem w_aald {i t0 na b : Nat} {j : Int32} (hM : MB K cA cc nL own) (hW : WS ad cA T g0 K g H locs) (L : LQ i t0 na) (ht : t0 = 1 ∨ t0 = 2) (hin : vp_in j na) (hv : arQ g i j.toNatClampNeg = some b) (hd : decode cc pc = .ok (.aaload, 1))
    (kk : XX K k n H locs (pc + 1) ls (.ref b :: rest)) : XX K k n H locs pc ls (.int j :: .ref (ad i) :: rest) := q_aald hM hW.1 L.1 (shQ hW.2.1 L) ht hin hv hd kk
theorem w_iast {i na : Nat} {j x : Int32} (hM : MB K cA cc nL own) (hW : WS ad cA T g0 K g H locs) (L : LA i 0 na) (hT : T i 0) (hin : vp_in j na) (hd : decode cc pc = .ok (.iastore, 1))
    (kk : ∀ (g1 : Nat → va_E) (H : Heap) (locs : List Loc), WS ad cA T g0 K g1 H locs → arI g1 i = upd (arI g i) j.toNatClampNeg x → FR (Only i 0) g g1 → XX K k n H locs (pc + 1) ls rest) : XX K k n H locs pc ls (.int x :: .int j :: .ref (ad i) :: rest) :=
  q_iast hM hW.1 L.1 (shA hW.2.1 L) hin hd (fun H locs h1 => kk _ H locs ⟨h1, Shp_stA hW.2.1 L, hW.2.2.tr FR_stA (fun a b h => by obtain ⟨rfl, rfl⟩ := h; exact hT)⟩ (arI_st (shA hW.2.1 L)) FR_stA)
theorem w_bast {i na : Nat} {j x : Int32} (hM : MB K cA cc nL own) (hW : WS ad cA T g0 K g H locs) (L : LA i 3 na) (hT : T i 0) (hin : vp_in j na) (hd : decode cc pc = .ok (.bastore, 1))
    (kk : ∀ (g1 : Nat → va_E) (H : Heap) (locs : List Loc), WS ad cA T g0 K g1 H locs → arI g1 i = upd (arI g i) j.toNatClampNeg (vp_nar .byte x) → FR (Only i 0) g g1 → XX K k n H locs (pc + 1) ls rest) : XX K k n H locs pc ls (.int x :: .int j :: .ref (ad i) :: rest) :=
  q_bast hM hW.1 L.1 (shA hW.2.1 L) hin hd (fun H locs h1 => kk _ H locs ⟨h1, Shp_stA hW.2.1 L, hW.2.2.tr FR_stA (fun a b h => by obtain ⟨rfl, rfl⟩ := h; exact hT)⟩ (arI_st (shA hW.2.1 L)) FR_stA)
theorem w_zast {i na : Nat} {j x : Int32} (hM : MB K cA cc nL own) (hW : WS ad cA T g0 K g H locs) (L : LA i 4 na) (hT : T i 0) (hin : vp_in j na) (hd : decode cc pc = .ok (.bastore, 1))
    (kk : ∀ (g1 : Nat → va_E) (H : Heap) (locs : List Loc), WS ad cA T g0 K g1 H locs → arI g1 i = upd (arI g i) j.toNatClampNeg (vp_nar .boolean x) → FR (Only i 0) g g1 → XX K k n H locs (pc + 1) ls rest) : XX K k n H locs pc ls (.int x :: .int j :: .ref (ad i) :: rest) :=
  q_zast hM hW.1 L.1 (shA hW.2.1 L) hin hd (fun H locs h1 => kk _ H locs ⟨h1, Shp_stA hW.2.1 L, hW.2.2.tr FR_stA (fun a b h => by obtain ⟨rfl, rfl⟩ := h; exact hT)⟩ (arI_st (shA hW.2.1 L)) FR_stA)
theorem w_jast {i na : Nat} {j : Int32} {x : Int64} (hM : MB K cA cc nL own) (hW : WS ad cA T g0 K g H locs) (L : LJ i 5 na) (hT : T i 0) (hin : vp_in j na) (hd : decode cc pc = .ok (.lastore, 1))
    (kk : ∀ (g1 : Nat → va_E) (H : Heap) (locs : List Loc), WS ad cA T g0 K g1 H locs → FR (Only i 0) g g1 → XX K k n H locs (pc + 1) ls rest) : XX K k n H locs pc ls (.long x :: .int j :: .ref (ad i) :: rest) :=
  q_jast hM hW.1 L.1 (shJ hW.2.1 L) hin hd (fun H locs h1 => kk _ H locs ⟨h1, Shp_stJ hW.2.1 L, hW.2.2.tr FR_stJ (fun a b h => by obtain ⟨rfl, rfl⟩ := h; exact hT)⟩ FR_stJ)
/-- a row of references whose places are labels one behind the other -/
theorem aq {i m b st : Nat} (h : arQ g i = fun j => if j < m then some (ad (b + st * j)) else none) {j : Int32} (h0 : 0 ≤ j.toInt) (h1 : j.toInt < m) : arQ g i j.toNatClampNeg = some (ad (b + st * j.toInt.toNat)) := by
  rw [h]
  have : j.toInt.toNat < m := by omega
  exact if_pos this
end WR
theorem lb_0 : LO 0 11 16 := ⟨by decide, rfl⟩
theorem lb_1 : LO 1 10 2 := ⟨by decide, rfl⟩
theorem lb_2 : LA 2 0 260 := ⟨by decide, rfl⟩
theorem lb_3 : LO 3 5 3 := ⟨by decide, rfl⟩
theorem lb_4 : LA 4 0 12 := ⟨by decide, rfl⟩
theorem lb_5 : LQ 5 1 12 := ⟨by decide, rfl⟩
theorem lb_6 : LA 6 0 12 := ⟨by decide, rfl⟩
theorem lb_7 : LA 7 0 12 := ⟨by decide, rfl⟩
theorem lb_8 : LA 8 0 12 := ⟨by decide, rfl⟩
theorem lb_9 : LA 9 0 12 := ⟨by decide, rfl⟩
theorem lb_10 : LA 10 0 12 := ⟨by decide, rfl⟩
theorem lb_11 : LA 11 0 12 := ⟨by decide, rfl⟩
theorem lb_12 : LA 12 0 12 := ⟨by decide, rfl⟩
theorem lb_13 : LA 13 0 12 := ⟨by decide, rfl⟩
theorem lb_14 : LA 14 0 12 := ⟨by decide, rfl⟩
theorem lb_15 : LA 15 0 12 := ⟨by decide, rfl⟩
theorem lb_16 : LA 16 0 12 := ⟨by decide, rfl⟩
theorem lb_17 : LA 17 0 12 := ⟨by decide, rfl⟩
theorem lb_18 : LO 18 7 8 := ⟨by decide, rfl⟩
theorem lb_19 : LA 19 0 8 := ⟨by decide, rfl⟩
theorem lb_20 : LA 20 0 8 := ⟨by decide, rfl⟩
theorem lb_21 : LQ 21 1 8 := ⟨by decide, rfl⟩
theorem lb_22 : LA 22 0 12 := ⟨by decide, rfl⟩
theorem lb_23 : LA 23 0 12 := ⟨by decide, rfl⟩
theorem lb_24 : LA 24 0 12 := ⟨by decide, rfl⟩
theorem lb_25 : LA 25 0 12 := ⟨by decide, rfl⟩
theorem lb_26 : LA 26 0 12 := ⟨by decide, rfl⟩
theorem lb_27 : LA 27 0 12 := ⟨by decide, rfl⟩
theorem lb_28 : LA 28 0 12 := ⟨by decide, rfl⟩
theorem lb_29 : LA 29 0 12 := ⟨by decide, rfl⟩
theorem lb_30 : LO 30 7 8 := ⟨by decide, rfl⟩
theorem lb_31 : LA 31 0 8 := ⟨by decide, rfl⟩
theorem lb_32 : LA 32 0 8 := ⟨by decide, rfl⟩
theorem lb_33 : LQ 33 1 8 := ⟨by decide, rfl⟩
theorem lb_34 : LA 34 0 12 := ⟨by decide, rfl⟩
theorem lb_35 : LA 35 0 12 := ⟨by decide, rfl⟩
theorem lb_36 : LA 36 0 12 := ⟨by decide, rfl⟩
theorem lb_37 : LA 37 0 12 := ⟨by decide, rfl⟩
theorem lb_38 : LA 38 0 12 := ⟨by decide, rfl⟩
theorem lb_39 : LA 39 0 12 := ⟨by decide, rfl⟩
theorem lb_40 : LA 40 0 12 := ⟨by decide, rfl⟩
theorem lb_41 : LA 41 0 12 := ⟨by decide, rfl⟩
theorem lb_42 : LO 42 7 8 := ⟨by decide, rfl⟩
theorem lb_43 : LA 43 0 8 := ⟨by decide, rfl⟩
theorem lb_44 : LA 44 0 8 := ⟨by decide, rfl⟩
theorem lb_45 : LQ 45 1 8 := ⟨by decide, rfl⟩
theorem lb_46 : LA 46 0 12 := ⟨by decide, rfl⟩
theorem lb_47 : LA 47 0 12 := ⟨by decide, rfl⟩
theorem lb_48 : LA 48 0 12 := ⟨by decide, rfl⟩
theorem lb_49 : LA 49 0 12 := ⟨by decide, rfl⟩
theorem lb_50 : LA 50 0 12 := ⟨by decide, rfl⟩
theorem lb_51 : LA 51 0 12 := ⟨by decide, rfl⟩
theorem lb_52 : LA 52 0 12 := ⟨by decide, rfl⟩
theorem lb_53 : LA 53 0 12 := ⟨by decide, rfl⟩
theorem lb_54 : LO 54 3 8 := ⟨by decide, rfl⟩
theorem lb_55 : LA 55 0 16 := ⟨by decide, rfl⟩
theorem lb_56 : LA 56 0 16 := ⟨by decide, rfl⟩
theorem lb_57 : LA 57 0 16 := ⟨by decide, rfl⟩
theorem lb_58 : LA 58 0 256 := ⟨by decide, rfl⟩
theorem lb_59 : LA 59 0 256 := ⟨by decide, rfl⟩
theorem lb_60 : LA 60 0 64 := ⟨by decide, rfl⟩
theorem lb_61 : LO 61 3 8 := ⟨by decide, rfl⟩
theorem lb_62 : LA 62 0 16 := ⟨by decide, rfl⟩
theorem lb_63 : LA 63 0 16 := ⟨by decide, rfl⟩
theorem lb_64 : LA 64 0 16 := ⟨by decide, rfl⟩
theorem lb_65 : LA 65 0 256 := ⟨by decide, rfl⟩
theorem lb_66 : LA 66 0 256 := ⟨by decide, rfl⟩
theorem lb_67 : LA 67 0 64 := ⟨by decide, rfl⟩
theorem lb_68 : LO 68 3 8 := ⟨by decide, rfl⟩
theorem lb_69 : LA 69 0 16 := ⟨by decide, rfl⟩
theorem lb_70 : LA 70 0 16 := ⟨by decide, rfl⟩
theorem lb_71 : LA 71 0 16 := ⟨by decide, rfl⟩
theorem lb_72 : LA 72 0 256 := ⟨by decide, rfl⟩
theorem lb_73 : LA 73 0 256 := ⟨by decide, rfl⟩
theorem lb_74 : LA 74 0 64 := ⟨by decide, rfl⟩
theorem lb_75 : LO 75 0 3 := ⟨by decide, rfl⟩
theorem lb_76 : LA 76 0 48 := ⟨by decide, rfl⟩
theorem lb_77 : LA 77 0 48 := ⟨by decide, rfl⟩
theorem lb_78 : LO 78 1 5 := ⟨by decide, rfl⟩
theorem lb_79 : LO 79 4 5 := ⟨by decide, rfl⟩
theorem lb_80 : LO 80 2 11 := ⟨by decide, rfl⟩
theorem lb_81 : LQ 81 2 6 := ⟨by decide, rfl⟩
theorem lb_82 : LA 82 0 10 := ⟨by decide, rfl⟩
theorem lb_83 : LA 83 0 8 := ⟨by decide, rfl⟩
theorem lb_84 : LO 84 0 3 := ⟨by decide, rfl⟩
theorem lb_85 : LA 85 0 48 := ⟨by decide, rfl⟩
theorem lb_86 : LA 86 0 48 := ⟨by decide, rfl⟩
theorem lb_87 : LO 87 0 3 := ⟨by decide, rfl⟩
theorem lb_88 : LA 88 0 48 := ⟨by decide, rfl⟩
theorem lb_89 : LA 89 0 48 := ⟨by decide, rfl⟩
theorem lb_90 : LO 90 0 3 := ⟨by decide, rfl⟩
theorem lb_91 : LA 91 0 48 := ⟨by decide, rfl⟩
theorem lb_92 : LA 92 0 48 := ⟨by decide, rfl⟩
theorem lb_93 : LO 93 0 3 := ⟨by decide, rfl⟩
theorem lb_94 : LA 94 0 48 := ⟨by decide, rfl⟩
theorem lb_95 : LA 95 0 48 := ⟨by decide, rfl⟩
theorem lb_96 : LO 96 0 3 := ⟨by decide, rfl⟩
theorem lb_97 : LA 97 0 48 := ⟨by decide, rfl⟩
theorem lb_98 : LA 98 0 48 := ⟨by decide, rfl⟩
theorem lb_99 : LO 99 0 3 := ⟨by decide, rfl⟩
theorem lb_100 : LA 100 0 48 := ⟨by decide, rfl⟩
theorem lb_101 : LA 101 0 48 := ⟨by decide, rfl⟩
theorem lb_102 : LO 102 9 5 := ⟨by decide, rfl⟩
theorem lb_103 : LQ 103 1 8 := ⟨by decide, rfl⟩
theorem lb_104 : LA 104 0 8 := ⟨by decide, rfl⟩
theorem lb_105 : LA 105 0 8 := ⟨by decide, rfl⟩
theorem lb_106 : LA 106 0 8 := ⟨by decide, rfl⟩
theorem lb_107 : LA 107 0 8 := ⟨by decide, rfl⟩
theorem lb_108 : LA 108 0 8 := ⟨by decide, rfl⟩
theorem lb_109 : LA 109 0 8 := ⟨by decide, rfl⟩
theorem lb_110 : LA 110 0 8 := ⟨by decide, rfl⟩
theorem lb_111 : LA 111 0 8 := ⟨by decide, rfl⟩
theorem lb_112 : LQ 112 1 5 := ⟨by decide, rfl⟩
theorem lb_113 : LA 113 0 6 := ⟨by decide, rfl⟩
theorem lb_114 : LA 114 0 6 := ⟨by decide, rfl⟩
theorem lb_115 : LA 115 0 6 := ⟨by decide, rfl⟩
theorem lb_116 : LA 116 0 6 := ⟨by decide, rfl⟩
theorem lb_117 : LA 117 0 6 := ⟨by decide, rfl⟩
theorem lb_118 : LA 118 0 6 := ⟨by decide, rfl⟩
theorem lb_119 : LA 119 0 6 := ⟨by decide, rfl⟩
theorem lb_120 : LO 120 8 7 := ⟨by decide, rfl⟩
theorem lb_121 : LA 121 0 5 := ⟨by decide, rfl⟩
theorem lb_122 : LJ 122 5 341 := ⟨by decide, rfl⟩
theorem lb_123 : LJ 123 5 341 := ⟨by decide, rfl⟩
theorem lb_124 : LA 124 0 341 := ⟨by decide, rfl⟩
theorem lb_125 : LA 125 0 341 := ⟨by decide, rfl⟩
theorem lb_126 : LA 126 0 341 := ⟨by decide, rfl⟩
theorem lb_127 : LO 127 6 4 := ⟨by decide, rfl⟩
theorem lb_128 : LA 128 0 9 := ⟨by decide, rfl⟩
theorem lb_129 : LO 129 12 86 := ⟨by decide, rfl⟩
theorem lb_130 : LA 130 3 260 := ⟨by decide, rfl⟩
theorem lb_131 : LA 131 4 12 := ⟨by decide, rfl⟩
theorem lb_132 : LA 132 0 12 := ⟨by decide, rfl⟩
theorem lb_133 : LA 133 0 144 := ⟨by decide, rfl⟩
theorem lb_134 : LA 134 4 6 := ⟨by decide, rfl⟩
theorem lb_135 : LA 135 0 6 := ⟨by decide, rfl⟩
theorem lb_136 : LA 136 0 288 := ⟨by decide, rfl⟩
theorem lb_137 : LA 137 0 48 := ⟨by decide, rfl⟩
theorem lb_138 : LA 138 0 10 := ⟨by decide, rfl⟩
theorem lb_139 : LA 139 0 2 := ⟨by decide, rfl⟩
theorem lb_140 : LA 140 0 2 := ⟨by decide, rfl⟩
theorem lb_141 : LA 141 0 2 := ⟨by decide, rfl⟩
theorem lb_142 : LA 142 0 32 := ⟨by decide, rfl⟩
theorem lb_143 : LA 143 0 32 := ⟨by decide, rfl⟩
theorem lb_144 : LA 144 0 32 := ⟨by decide, rfl⟩
theorem lb_145 : LA 145 0 32 := ⟨by decide, rfl⟩
theorem lb_146 : LA 146 0 480 := ⟨by decide, rfl⟩
theorem lb_147 : LA 147 0 480 := ⟨by decide, rfl⟩
theorem lb_148 : LA 148 0 2 := ⟨by decide, rfl⟩
theorem lb_149 : LA 149 0 16 := ⟨by decide, rfl⟩
theorem lb_150 : LA 150 0 16 := ⟨by decide, rfl⟩
theorem lb_151 : LA 151 0 16 := ⟨by decide, rfl⟩
theorem lb_152 : LA 152 0 16 := ⟨by decide, rfl⟩
theorem lb_153 : LA 153 0 240 := ⟨by decide, rfl⟩
theorem lb_154 : LA 154 0 240 := ⟨by decide, rfl⟩
theorem lb_155 : LA 155 0 240 := ⟨by decide, rfl⟩
theorem lb_156 : LA 156 0 240 := ⟨by decide, rfl⟩
theorem lb_157 : LA 157 4 240 := ⟨by decide, rfl⟩
theorem lb_158 : LA 158 4 8 := ⟨by decide, rfl⟩
theorem lb_159 : LA 159 0 8 := ⟨by decide, rfl⟩
theorem lb_160 : LA 160 0 8 := ⟨by decide, rfl⟩
theorem lb_161 : LA 161 0 96 := ⟨by decide, rfl⟩
theorem lb_162 : LA 162 4 16 := ⟨by decide, rfl⟩
theorem lb_163 : LA 163 0 16 := ⟨by decide, rfl⟩
theorem lb_164 : LA 164 0 16 := ⟨by decide, rfl⟩
theorem lb_165 : LA 165 0 192 := ⟨by decide, rfl⟩
theorem lb_166 : LA 166 0 2 := ⟨by decide, rfl⟩
theorem lb_167 : LA 167 0 2 := ⟨by decide, rfl⟩
theorem lb_168 : LA 168 0 2 := ⟨by decide, rfl⟩
theorem lb_169 : LA 169 0 2 := ⟨by decide, rfl⟩
theorem lb_170 : LA 170 0 12 := ⟨by decide, rfl⟩
theorem lb_171 : LA 171 0 12 := ⟨by decide, rfl⟩
theorem lb_172 : LA 172 0 8 := ⟨by decide, rfl⟩
theorem lb_173 : LA 173 0 8 := ⟨by decide, rfl⟩
theorem lb_174 : LA 174 0 12 := ⟨by decide, rfl⟩
theorem lb_175 : LA 175 0 64 := ⟨by decide, rfl⟩
theorem lb_176 : LA 176 4 5 := ⟨by decide, rfl⟩
theorem lb_177 : LA 177 0 30 := ⟨by decide, rfl⟩
theorem lb_178 : LA 178 0 6 := ⟨by decide, rfl⟩
theorem lb_179 : LA 179 0 9 := ⟨by decide, rfl⟩
theorem lr_6 {q : Nat} (h : q < 12) : LA (6 + 1 * q) 0 12 := by
  revert q
  show ∀ q, q < 12 → (6 + 1 * q) < NN ∧ shk (6 + 1 * q) = (1, 0, 12)
  decide +kernel
theorem lr_22 {q : Nat} (h : q < 8) : LA (22 + 1 * q) 0 12 := by
  revert q
  show ∀ q, q < 8 → (22 + 1 * q) < NN ∧ shk (22 + 1 * q) = (1, 0, 12)
  decide +kernel
theorem lr_34 {q : Nat} (h : q < 8) : LA (34 + 1 * q) 0 12 := by
  revert q
  show ∀ q, q < 8 → (34 + 1 * q) < NN ∧ shk (34 + 1 * q) = (1, 0, 12)
  decide +kernel
theorem lr_46 {q : Nat} (h : q < 8) : LA (46 + 1 * q) 0 12 := by
  revert q
  show ∀ q, q < 8 → (46 + 1 * q) < NN ∧ shk (46 + 1 * q) = (1, 0, 12)
  decide +kernel
theorem lr_104 {q : Nat} (h : q < 8) : LA (104 + 1 * q) 0 8 := by
  revert q
  show ∀ q, q < 8 → (104 + 1 * q) < NN ∧ shk (104 + 1 * q) = (1, 0, 8)
  decide +kernel
theorem lr_113 {q : Nat} (h : q < 5) : LA (113 + 1 * q) 0 6 := by
  revert q
  show ∀ q, q < 5 → (113 + 1 * q) < NN ∧ shk (113 + 1 * q) = (1, 0, 6)
  decide +kernel
theorem lo_art {q : Nat} (h : q < 6) : LO (84 + 3 * q) 0 3 := by
  revert q
  show ∀ q, q < 6 → (84 + 3 * q) < NN ∧ shk (84 + 3 * q) = (0, 0, 3)
  decide +kernel
