/-- the two texts that the law's reader asks (their objects at ad 400, ad 401, their bytes at ad 410, ad 411), and String's one static -/
def sbL : List Nat := [5, 8]
def sbB : List (List Int32) := [[119, 115, 114, 104, 120], [102, 107, 118, 112, 99, 97, 110, 121]]
def SB (ad : Nat → Nat) (A : Nat → Prop) (U : State) : Prop := vk_S 2 sbL sbB (fun i => ad (400 + i)) (fun i => ad (410 + i)) A U U.heap ∧ vk_R "ForgetSchool$LawReader" 60 "wsrhx" (ad 400) U ∧ vk_R "ForgetSchool$LawReader" 105 "fkvpcany" (ad 401) U ∧ va_Z "java/lang/String" "COMPACT_STRINGS" "Z" (.int 1) A U U.heap
theorem SB.calling {ad : Nat → Nat} {A : Nat → Prop} {U : State} (a : Array Value) (g : JFrame) (mk : MethodId) (h : SB ad A U) : SB ad A (U.calling g mk a) :=
  ⟨vk_S.moved (u := U) (U := U.calling g mk a) (Vm.Alike.refl U.vm) h.1, vk_R.same (u := U) (U := U.calling g mk a) rfl h.2.1, vk_R.same (u := U) (U := U.calling g mk a) rfl h.2.2.1, va_Z.moved (u := U) (U := U.calling g mk a) (Vm.Alike.refl U.vm) h.2.2.2⟩
theorem SB.call {ad : Nat → Nat} {A B : Nat → Prop} {s U : State} {H : Heap} {locs : List Loc} (h : SB ad A s) (hU : U.heap = H) (hWm : s.WarmedH U.vm) (hS : va_S A s.heap H locs) (hB : ∀ q, B q → A q) : SB ad B U := by
  subst hU
  exact ⟨((vk_S.moved hWm.alike h.1).kept hS.2.1).narrow hB, h.2.1.warm hWm, h.2.2.1.warm hWm, ((va_Z.moved hWm.alike h.2.2.2).kept hS.2.1).narrow hB⟩
section RW
variable {K : KT} {cA : Nat → ClassId} {cc : ByteArray} {nL : Nat} {own : String} {k n : Nat} {H : Heap} {locs : List Loc} {pc : Nat} {ls : Array Slot} {rest : List Value} {ad : Nat → Nat} {g : Nat → va_E} {N : Nat}
/-- the uniform world: N cells, the i-th at the address ad i, holding g i -/
def WB (N : Nat) (ad : Nat → Nat) (K : KT) (g : Nat → va_E) (H : Heap) (locs : List Loc) : Prop := match K with
  | (_, _, _, _, s, _, _, _, _, _, _, D, A, H0) => va_P D vwCl (wd N ad g) H ∧ va_D A (wd N ad g) ∧ va_S A H0 H locs ∧ SB ad A s ∧ H0 = s.heap
theorem q_getF {i ci nf kf index : Nat} {v : Value} (hM : MB K cA cc nL own) (hW : WB N ad K g H locs) (F : FG own index ci nf kf) (hi : i < N) (hg : g i = ob ci nf (fld g i)) (hv : fld g i kf = v) (hd : decode cc pc = .ok (.getfield index, 3))
    (kk : XX K k n H locs (pc + 3) ls (v :: rest)) : XX K k n H locs pc ls (.ref (ad i) :: rest) := by
  obtain ⟨p, l, e, R, s, m, args, below, meth, c, Q, D, A, H0⟩ := K
  obtain ⟨⟨hx, hb, hml, hown, hts⟩, ⟨hK, -⟩, -⟩ := hM
  obtain ⟨hP, hD, hS, hZ⟩ := hW
  obtain ⟨C, T, h1, h2, h3, h4, h5⟩ := F
  subst h5
  exact va_get (D := D) (ci := ci) hx hb hts h2 hown hK hP i ((wd_get hi).trans (by rw [hg]; rfl)) h1 kf h3 (hts _ h4) (fun _ h9 => h9) (by rw [ob_get h3, hv]) hd kk
theorem q_putF {i ci nf kf index : Nat} {v : Value} {ty : FieldType} (hM : MB K cA cc nL own) (hW : WB N ad K g H locs) (F : FP own index ci nf kf ty) (hi : i < N) (hg : g i = ob ci nf (fld g i)) (hn : narrow ty v = v) (hfit : fits ty v = true) (hd : decode cc pc = .ok (.putfield index, 3))
    (kk : ∀ H locs, WB N ad K (stF g i kf v) H locs → XX K k n H locs (pc + 3) ls rest) : XX K k n H locs pc ls (v :: .ref (ad i) :: rest) := by
  obtain ⟨p, l, e, R, s, m, args, below, meth, c, Q, D, A, H0⟩ := K
  obtain ⟨⟨hx, hb, hml, hown, hts⟩, ⟨hK, -⟩, -⟩ := hM
  obtain ⟨hP, hD, hS, hZ⟩ := hW
  obtain ⟨C, T, ty0, h1, h2, h3, h4, h5, h6, h7, h8, h9⟩ := F
  subst h5
  refine va_put (D := D) (ci := ci) hx hb hts h2 ty0 h6 h7 hown hK hP hD hS i ((wd_get hi).trans (by rw [hg]; rfl)) h1 kf h3 (hts _ h4) (fun _ h => h) h9 h8 hn hfit (by simpa using h3) hd (fun H1 locs1 a1 a2 a3 => ?_)
  have e : (wd N ad g).set i (ad i, .inr (ci, ((List.range nf).map (fld g i)).set kf v)) = wd N ad (stF g i kf v) := by
    rw [wd_set]
    unfold stF
    rw [hg]
    rfl
  rw [e] at a1 a2
  exact kk H1 locs1 ⟨a1, a2, a3, hZ⟩
theorem q_iald {i na : Nat} {j : Int32} (hM : MB K cA cc nL own) (hW : WB N ad K g H locs) (hi : i < N) (hg : g i = ia (cA 0) na (arI g i)) (hin : vp_in j na) (hd : decode cc pc = .ok (.iaload, 1))
    (kk : XX K k n H locs (pc + 1) ls (.int (arI g i j.toNatClampNeg) :: rest)) : XX K k n H locs pc ls (.int j :: .ref (ad i) :: rest) := by
  obtain ⟨p, l, e, R, s, m, args, below, meth, c, Q, D, A, H0⟩ := K
  obtain ⟨⟨hx, hb, hml, hown, hts⟩, ⟨hK, -⟩, -⟩ := hM
  obtain ⟨hP, hD, hS, hZ⟩ := hW
  exact va_iald (D := D) hx hb hK hP i 0 ((wd_get hi).trans (by rw [hg]; rfl)) rfl hin hd kk
theorem q_bald {i na : Nat} {j : Int32} (hM : MB K cA cc nL own) (hW : WB N ad K g H locs) (hi : i < N) (hg : g i = ia (cA 3) na (arI g i)) (hin : vp_in j na) (hd : decode cc pc = .ok (.baload, 1))
    (kk : XX K k n H locs (pc + 1) ls (.int (arI g i j.toNatClampNeg) :: rest)) : XX K k n H locs pc ls (.int j :: .ref (ad i) :: rest) := by
  obtain ⟨p, l, e, R, s, m, args, below, meth, c, Q, D, A, H0⟩ := K
  obtain ⟨⟨hx, hb, hml, hown, hts⟩, ⟨hK, -⟩, -⟩ := hM
  obtain ⟨hP, hD, hS, hZ⟩ := hW
  exact va_bald (D := D) hx hb hK hP i 3 ((wd_get hi).trans (by rw [hg]; rfl)) rfl hin hd kk
theorem q_zald {i na : Nat} {j : Int32} (hM : MB K cA cc nL own) (hW : WB N ad K g H locs) (hi : i < N) (hg : g i = ia (cA 4) na (arI g i)) (hin : vp_in j na) (hd : decode cc pc = .ok (.baload, 1))
    (kk : XX K k n H locs (pc + 1) ls (.int (arI g i j.toNatClampNeg) :: rest)) : XX K k n H locs pc ls (.int j :: .ref (ad i) :: rest) := by
  obtain ⟨p, l, e, R, s, m, args, below, meth, c, Q, D, A, H0⟩ := K
  obtain ⟨⟨hx, hb, hml, hown, hts⟩, ⟨hK, -⟩, -⟩ := hM
  obtain ⟨hP, hD, hS, hZ⟩ := hW
  exact va_zald (D := D) hx hb hK hP i 4 ((wd_get hi).trans (by rw [hg]; rfl)) rfl hin hd kk
theorem q_jald {i na : Nat} {j : Int32} (hM : MB K cA cc nL own) (hW : WB N ad K g H locs) (hi : i < N) (hg : g i = ja (cA 5) na (arJ g i)) (hin : vp_in j na) (hd : decode cc pc = .ok (.laload, 1))
    (kk : XX K k n H locs (pc + 1) ls (.long (arJ g i j.toNatClampNeg) :: rest)) : XX K k n H locs pc ls (.int j :: .ref (ad i) :: rest) := by
  obtain ⟨p, l, e, R, s, m, args, below, meth, c, Q, D, A, H0⟩ := K
  obtain ⟨⟨hx, hb, hml, hown, hts⟩, ⟨hK, -⟩, -⟩ := hM
  obtain ⟨hP, hD, hS, hZ⟩ := hW
  exact va_lald (D := D) hx hb hK hP i 5 ((wd_get hi).trans (by rw [hg]; rfl)) rfl hin hd kk
theorem q_aald {i na t0 b : Nat} {j : Int32} (hM : MB K cA cc nL own) (hW : WB N ad K g H locs) (hi : i < N) (hg : g i = qa (cA t0) na (arQ g i)) (ht : t0 = 1 ∨ t0 = 2) (hin : vp_in j na) (hv : arQ g i j.toNatClampNeg = some b) (hd : decode cc pc = .ok (.aaload, 1))
    (kk : XX K k n H locs (pc + 1) ls (.ref b :: rest)) : XX K k n H locs pc ls (.int j :: .ref (ad i) :: rest) := by
  obtain ⟨p, l, e, R, s, m, args, below, meth, c, Q, D, A, H0⟩ := K
  obtain ⟨⟨hx, hb, hml, hown, hts⟩, ⟨hK, -⟩, -⟩ := hM
  obtain ⟨hP, hD, hS, hZ⟩ := hW
  have hlt : j.toNatClampNeg < na := Nat.not_le.mp fun q => hin (Or.inr q)
  have ha : (wd N ad g)[i]? = some (ad i, .inl (cA t0, na, .inr (.inr (.inr (.inr (arQ g i)))))) := (wd_get hi).trans (by rw [hg]; rfl)
  have hc := hP i _ ha
  have kk : W p l e R s m args below meth c H locs k n Q (F0 m (pc + 1) ls (va_rf (arQ g i j.toNatClampNeg) :: rest)) := by rw [hv]; exact kk
  rcases ht with rfl | rfl
  · exact W.aald (v := va_rf (arQ g i j.toNatClampNeg)) (ty := .array .int) hx hb hc ((hK.2 1 _ rfl).1 na (fun j => va_rf (arQ g i j))) rfl (fun q => by cases q) (by show ¬ (j < 0 ∨ (arrV _ _ _).slots.size ≤ _); rw [arrV_size]; exact hin) (by show (arrV _ _ _).slots[_]? = _; rw [arrV_read _ _ hlt]) rfl rfl hd kk
  · exact W.aald (v := va_rf (arQ g i j.toNatClampNeg)) (ty := .object "ForgetSchool$Art") hx hb hc ((hK.2 2 _ rfl).1 na (fun j => va_rf (arQ g i j))) rfl (fun q => by cases q) (by show ¬ (j < 0 ∨ (arrV _ _ _).slots.size ≤ _); rw [arrV_size]; exact hin) (by show (arrV _ _ _).slots[_]? = _; rw [arrV_read _ _ hlt]) rfl rfl hd kk
theorem q_iast {i na : Nat} {j x : Int32} (hM : MB K cA cc nL own) (hW : WB N ad K g H locs) (hi : i < N) (hg : g i = ia (cA 0) na (arI g i)) (hin : vp_in j na) (hd : decode cc pc = .ok (.iastore, 1))
    (kk : ∀ H locs, WB N ad K (stA g i j.toNatClampNeg x) H locs → XX K k n H locs (pc + 1) ls rest) : XX K k n H locs pc ls (.int x :: .int j :: .ref (ad i) :: rest) := by
  obtain ⟨p, l, e, R, s, m, args, below, meth, c, Q, D, A, H0⟩ := K
  obtain ⟨⟨hx, hb, hml, hown, hts⟩, ⟨hK, -⟩, -⟩ := hM
  obtain ⟨hP, hD, hS, hZ⟩ := hW
  refine va_iast (D := D) hx hb hK hP hD hS i 0 ((wd_get hi).trans (by rw [hg]; rfl)) rfl hin hd (fun H1 locs1 a1 a2 a3 => ?_)
  have e : (wd N ad g).set i (ad i, .inl (cA 0, na, .inl (upd (arI g i) j.toNatClampNeg x))) = wd N ad (stA g i j.toNatClampNeg x) := by
    rw [wd_set]
    unfold stA
    rw [hg]
    rfl
  rw [e] at a1 a2
  exact kk H1 locs1 ⟨a1, a2, a3, hZ⟩
theorem q_bast {i na : Nat} {j x : Int32} (hM : MB K cA cc nL own) (hW : WB N ad K g H locs) (hi : i < N) (hg : g i = ia (cA 3) na (arI g i)) (hin : vp_in j na) (hd : decode cc pc = .ok (.bastore, 1))
    (kk : ∀ H locs, WB N ad K (stA g i j.toNatClampNeg (vp_nar .byte x)) H locs → XX K k n H locs (pc + 1) ls rest) : XX K k n H locs pc ls (.int x :: .int j :: .ref (ad i) :: rest) := by
  obtain ⟨p, l, e, R, s, m, args, below, meth, c, Q, D, A, H0⟩ := K
  obtain ⟨⟨hx, hb, hml, hown, hts⟩, ⟨hK, -⟩, -⟩ := hM
  obtain ⟨hP, hD, hS, hZ⟩ := hW
  refine va_bast (D := D) hx hb hK hP hD hS i 3 ((wd_get hi).trans (by rw [hg]; rfl)) rfl hin hd (fun H1 locs1 a1 a2 a3 => ?_)
  have e : (wd N ad g).set i (ad i, .inl (cA 3, na, .inl (upd (arI g i) j.toNatClampNeg (vp_nar .byte x)))) = wd N ad (stA g i j.toNatClampNeg (vp_nar .byte x)) := by
    rw [wd_set]
    unfold stA
    rw [hg]
    rfl
  rw [e] at a1 a2
  exact kk H1 locs1 ⟨a1, a2, a3, hZ⟩
theorem q_zast {i na : Nat} {j x : Int32} (hM : MB K cA cc nL own) (hW : WB N ad K g H locs) (hi : i < N) (hg : g i = ia (cA 4) na (arI g i)) (hin : vp_in j na) (hd : decode cc pc = .ok (.bastore, 1))
    (kk : ∀ H locs, WB N ad K (stA g i j.toNatClampNeg (vp_nar .boolean x)) H locs → XX K k n H locs (pc + 1) ls rest) : XX K k n H locs pc ls (.int x :: .int j :: .ref (ad i) :: rest) := by
  obtain ⟨p, l, e, R, s, m, args, below, meth, c, Q, D, A, H0⟩ := K
  obtain ⟨⟨hx, hb, hml, hown, hts⟩, ⟨hK, -⟩, -⟩ := hM
  obtain ⟨hP, hD, hS, hZ⟩ := hW
  refine va_zast (D := D) hx hb hK hP hD hS i 4 ((wd_get hi).trans (by rw [hg]; rfl)) rfl hin hd (fun H1 locs1 a1 a2 a3 => ?_)
  have e : (wd N ad g).set i (ad i, .inl (cA 4, na, .inl (upd (arI g i) j.toNatClampNeg (vp_nar .boolean x)))) = wd N ad (stA g i j.toNatClampNeg (vp_nar .boolean x)) := by
    rw [wd_set]
    unfold stA
    rw [hg]
    rfl
  rw [e] at a1 a2
  exact kk H1 locs1 ⟨a1, a2, a3, hZ⟩
theorem q_jast {i na : Nat} {j : Int32} {x : Int64} (hM : MB K cA cc nL own) (hW : WB N ad K g H locs) (hi : i < N) (hg : g i = ja (cA 5) na (arJ g i)) (hin : vp_in j na) (hd : decode cc pc = .ok (.lastore, 1))
    (kk : ∀ H locs, WB N ad K (stJ g i j.toNatClampNeg x) H locs → XX K k n H locs (pc + 1) ls rest) : XX K k n H locs pc ls (.long x :: .int j :: .ref (ad i) :: rest) := by
  obtain ⟨p, l, e, R, s, m, args, below, meth, c, Q, D, A, H0⟩ := K
  obtain ⟨⟨hx, hb, hml, hown, hts⟩, ⟨hK, -⟩, -⟩ := hM
  obtain ⟨hP, hD, hS, hZ⟩ := hW
  refine va_last (D := D) hx hb hK hP hD hS i 5 ((wd_get hi).trans (by rw [hg]; rfl)) rfl hin hd (fun H1 locs1 a1 a2 a3 => ?_)
  have e : (wd N ad g).set i (ad i, .inl (cA 5, na, .inr (.inl (vp_updL (arJ g i) j.toNatClampNeg x)))) = wd N ad (stJ g i j.toNatClampNeg x) := by
    rw [wd_set]
    unfold stJ
    rw [hg]
    rfl
  rw [e] at a1 a2
  exact kk H1 locs1 ⟨a1, a2, a3, hZ⟩
/-! calls -/
/-- which cells a method may change -/
def fr (N : Nat) (ad : Nat → Nat) (sz : Nat) : Nat → Prop := fun q => (∃ i, i < N ∧ q = ad i) ∨ sz ≤ q
def QX (N : Nat) (ad : Nat → Nat) (D : va_G) (sz : Nat) (P : Option Value → (Nat → va_E) → Prop) : Array Value → State → Outcome → State → Prop := fun _ st oc t => (∃ (v : Option Value) (g' : Nat → va_E), oc = .returned v ∧ P v g' ∧ va_P D vwCl (wd N ad g') t.heap) ∧ va_F (fr N ad sz) st t
def PX (N : Nat) (ad : Nat → Nat) (cA : Nat → ClassId) (D : va_G) (sz : Nat) (av : List Value) (g : Nat → va_E) : Array Value → State → Prop := va_Pc av (fun U => U.heap.size = sz ∧ va_P D vwCl (wd N ad g) U.heap ∧ KB D cA U ∧ va_D (fun _ => True) (wd N ad g) ∧ SB ad (fr N ad sz) U)
/-- a method's contract over the uniform world -/
def CT (l : Launch) (N : Nat) (ad : Nat → Nat) (cA : Nat → ClassId) (D : va_G) (y : MethodName) (cc : ByteArray) (maxL : Nat) (ret : Option FieldType) (rm : Nat × Nat) (av : List Value) (g : Nat → va_E) (P : Option Value → (Nat → va_E) → Prop) : Prop :=
  ∀ sz : Nat, Met l y (.code y cc maxL ret :: AW) { frames := rm.1, cells := 0, slots := 0, locals := rm.2 } (PX N ad cA D sz av g) (QX N ad D sz P) 0 0 (fr N ad sz)
theorem PX_blind {D : va_G} {sz : Nat} {av : List Value} : FrameBlind (PX N ad cA D sz av g) := fun a U g9 mk h => ⟨h.1, h.2.1, h.2.2.1, h.2.2.2.1.calling a g9 mk, h.2.2.2.2.1, h.2.2.2.2.2.calling a g9 mk⟩
theorem wd_at {j : Nat} {q : Nat × va_E} (h : (wd N ad g)[j]? = some q) : j < N ∧ q = (ad j, g j) := by
  have hlt : j < (wd N ad g).length := (List.getElem?_eq_some_iff.mp h).1
  have hj : j < N := by simpa [wd] using hlt
  exact ⟨hj, (Option.some.inj ((wd_get hj).symm.trans h)).symm⟩
theorem wdD_same {A : Nat → Prop} {g' : Nat → va_E} (h : va_D A (wd N ad g)) : va_D A (wd N ad g') := by
  refine ⟨fun i j p q hi hj hpq => ?_, fun j q hj => ?_⟩
  · obtain ⟨a1, rfl⟩ := wd_at hi
    obtain ⟨a2, rfl⟩ := wd_at hj
    exact h.1 i j (ad i, g i) (ad j, g j) (wd_get a1) (wd_get a2) hpq
  · obtain ⟨a1, rfl⟩ := wd_at hj
    exact h.2 j (ad j, g j) (wd_get a1)
theorem wd_fr {D : va_G} {A : Nat → Prop} {H0 : Heap} (hD : va_D A (wd N ad g)) (hS : va_S A H0 H locs) (hA : ∀ q, H0.size ≤ q → A q) : ∀ q, fr N ad H.size q → A q := by
  rintro q (⟨i, hi, rfl⟩ | h)
  · exact hD.2 i _ (wd_get hi)
  · exact hA q (Nat.le_trans hS.1 h)
/-- behind a call -/
theorem q_back {p : Program} {l : Launch} {e : Env} {R : Room} {s : State} {m : MethodId} {args : Array Value} {below : List Frame} {meth : Method} {c : Code} {Q : State → Prop} {D : va_G} {A : Nat → Prop} {H0 : Heap} {st0 : List Value} {P : Option Value → (Nat → va_E) → Prop} {a : Array Value}
    (hr : va_Run p l e R s m args below meth c H locs k n 0 0 (F0 m pc ls st0) rest (QX N ad D H.size P a) (fr N ad H.size)) (hA : ∀ q, H0.size ≤ q → A q) (hW : WB N ad (p, l, e, R, s, m, args, below, meth, c, Q, D, A, H0) g H locs)
    (kk : ∀ (v : Option Value) (g' : Nat → va_E) (H1 : Heap) (locs1 : List Loc), P v g' → WB N ad (p, l, e, R, s, m, args, below, meth, c, Q, D, A, H0) g' H1 locs1 → XX (p, l, e, R, s, m, args, below, meth, c, Q, D, A, H0) k n H1 locs1 (pc + 3) ls (v.toList ++ rest)) : XX (p, l, e, R, s, m, args, below, meth, c, Q, D, A, H0) k n H locs pc ls st0 := by
  obtain ⟨hP, hD, hS, hZ⟩ := hW
  have hf := wd_fr (D := D) hD hS hA
  intro T hT X
  obtain ⟨v, st₀, t, T', L, h0, X', hL, e1, e2, ⟨⟨v', g', hv, hp, hw⟩, hz, hk⟩, st⟩ := hr T hT X
  cases hv
  rw [h0] at hz hk
  obtain ⟨t2, a1, b1⟩ := kk v g' T'.heap (locs ++ L) hp ⟨by rw [e1]; exact hw, wdD_same hD, ⟨Nat.le_trans hS.1 (by rw [e1]; exact hz), fun q h1 h2 => by rw [e1, hk q (Nat.lt_of_lt_of_le h1 hS.1) (fun z => h2 (hf q z))]; exact hS.2.1 q h1 h2, fun q hq => by
      rcases List.mem_append.mp hq with h | h
      · exact hS.2.2 q h
      · exact hf _ (hL q h)⟩, hZ⟩ T' rfl X'
  exact ⟨t2, st t2 a1, b1⟩
/-- what a call of a method needs of the words: of instances, of the class, constructors -/
def MI (y : MethodName) (cc : ByteArray) (maxL : Nat) (ret : Option FieldType) (na : Nat) : Prop := Cond.code y cc maxL ret ∈ AW ∧ Cond.initialized y.cls ∈ AW ∧ Cond.instanceMethod y ∈ AW ∧ Cond.selects y.cls y y ∈ AW ∧ (y.cls ≠ "java/lang/invoke/MethodHandle" ∧ y.cls ≠ "java/lang/invoke/VarHandle" ∧ (parseMethodDescriptor y.desc).map (fun d => d.parameters.length) = some na)
def MS (y : MethodName) (cc : ByteArray) (maxL : Nat) (ret : Option FieldType) (na : Nat) : Prop := Cond.code y cc maxL ret ∈ AW ∧ Cond.initialized y.cls ∈ AW ∧ Cond.static y ∈ AW ∧ (y.cls ≠ "java/lang/invoke/MethodHandle" ∧ y.cls ≠ "java/lang/invoke/VarHandle" ∧ (parseMethodDescriptor y.desc).map (fun d => d.parameters.length) = some na)
theorem goodCode {y : MethodName} {cc : ByteArray} {maxL : Nat} {ret : Option FieldType} (h : Cond.code y cc maxL ret ∈ AW) : GoodIn AW (.code y cc maxL ret :: AW) := fun w hw => by
  rcases List.mem_cons.mp hw with rfl | hw
  · exact gAW _ h
  · exact gAW _ hw
/-- a call's room -/
def RM (K : KT) (rm : Nat × Nat) (maxL : Nat) : Prop := match K with
  | (_, _, _, R, _, _, _, _, _, _, _, _, _, _) => rm.1 + 1 ≤ R.frames ∧ 8 + (maxL + 11) + rm.2 ≤ R.locals
def HasRoom (K : KT) (f lo : Nat) : Prop := match K with
  | (_, _, _, R, _, _, _, _, _, _, _, _, _, _) => f ≤ R.frames ∧ lo ≤ R.locals
def Lof (K : KT) : Launch := match K with
  | (_, l, _, _, _, _, _, _, _, _, _, _, _, _) => l
def Dof (K : KT) : va_G := match K with
  | (_, _, _, _, _, _, _, _, _, _, _, D, _, _) => D
def Cells (K : KT) (k n : Nat) : Prop := match K with
  | (_, _, _, R, _, _, _, _, _, _, _, _, _, _) => k ≤ R.cells ∧ n ≤ R.slots
theorem q_callV {index maxL na f lo : Nat} {y : MethodName} {bytes : ByteArray} {ret : Option FieldType} {rm : Nat × Nat} {i ci nf : Nat} {C : String} {T : u_T} {As st0 : List Value} {P : Option Value → (Nat → va_E) → Prop} (hM : MB K cA cc nL own) (hW : WB N ad K g H locs) (hR : HasRoom K f lo) (hC : Cells K k n)
    (M : MI y bytes maxL ret na) (hl : Cond.methodLink own index y ∈ AW) (hc : vwCl[ci]? = some (C, T, nf)) (hy : y.cls = C) (hi : i < N) (hg : g i = ob ci nf (fld g i)) (ct : CT (Lof K) N ad cA (Dof K) y bytes maxL ret rm (.ref (ad i) :: As) g P) (hf : rm.1 + 1 ≤ f ∧ 8 + (maxL + 11) + rm.2 ≤ lo) (hst : st0 = As.reverse ++ .ref (ad i) :: rest) (hn : As.length = na) (hLs : ls.size = nL) (hw : (rest.map fun v => v.category).sum ≤ 8) (hd : decode cc pc = .ok (.invokevirtual index, 3))
    (kk : ∀ (v : Option Value) (g : Nat → va_E) (H : Heap) (locs : List Loc), P v g → WB N ad K g H locs → XX K k n H locs (pc + 3) ls (v.toList ++ rest)) : XX K k n H locs pc ls st0 := by
  obtain ⟨p, l, e, R, s, m, args, below, meth, c, Q, D, A, H0⟩ := K
  obtain ⟨hF, hK, hlk, hA⟩ := hM
  obtain ⟨hx, hb, hml, hown, hts⟩ := hF
  obtain ⟨m1, m2, m3, m4, m5⟩ := M
  have hcw : CallW R s args own C index y bytes maxL ret (.code y bytes maxL ret :: AW) { frames := rm.1, cells := 0, slots := 0, locals := rm.2 } 0 0 na :=
    ⟨callB_of na hts (goodCode m1) rfl rfl rfl (hts _ m2) (hts _ hl) m5 ⟨Nat.le_trans hf.1 hR.1, Nat.le_trans hf.2 hR.2⟩, hts _ m3, by rw [← hy]; exact hts _ m4⟩
  have hcell : ∃ cellB : Cell, H[ad i]? = some cellB ∧ cellB.vm.isStatics = false ∧ s.vm.findClass C = some cellB.cls := va_recv hK.1 hW.1 hc ((wd_get hi).trans (by rw [hg]; rfl))
  exact q_back (a := (Value.ref (ad i) :: As).toArray) (va_runV (C := C) (b := ad i) (As := As) (rest := rest) ⟨hx, hb, hml, hown, hts⟩ (ct H.size) hcw ⟨PX_blind, hcell, fun U hU hWm => ⟨rfl, by rw [hU], by rw [hU]; exact hW.1, hK.moved hWm, hW.2.1.weaken (fun _ _ _ _ => trivial), hW.2.2.2.1.call hU hWm (by rw [← hW.2.2.2.2]; exact hW.2.2.1) (wd_fr (D := D) hW.2.1 hW.2.2.1 hA)⟩⟩ rfl hn hLs hst (by simpa [JFrame.monitorRoom, F0] using hw) hd hC) hA hW kk
theorem q_callS {index maxL na f lo : Nat} {y : MethodName} {bytes : ByteArray} {ret : Option FieldType} {rm : Nat × Nat} {As st0 : List Value} {P : Option Value → (Nat → va_E) → Prop} (hM : MB K cA cc nL own) (hW : WB N ad K g H locs) (hR : HasRoom K f lo) (hC : Cells K k n)
    (M : MS y bytes maxL ret na) (hl : Cond.methodLink own index y ∈ AW) (ct : CT (Lof K) N ad cA (Dof K) y bytes maxL ret rm As g P) (hf : rm.1 + 1 ≤ f ∧ 8 + (maxL + 11) + rm.2 ≤ lo) (hst : st0 = As.reverse ++ rest) (hn : As.length = na) (hLs : ls.size = nL) (hw : (rest.map fun v => v.category).sum ≤ 8) (hd : decode cc pc = .ok (.invokestatic index, 3))
    (kk : ∀ (v : Option Value) (g : Nat → va_E) (H : Heap) (locs : List Loc), P v g → WB N ad K g H locs → XX K k n H locs (pc + 3) ls (v.toList ++ rest)) : XX K k n H locs pc ls st0 := by
  obtain ⟨p, l, e, R, s, m, args, below, meth, c, Q, D, A, H0⟩ := K
  obtain ⟨hF, hK, hlk, hA⟩ := hM
  obtain ⟨hx, hb, hml, hown, hts⟩ := hF
  obtain ⟨m1, m2, m3, m5⟩ := M
  have hcw : CallB R s args own index y bytes maxL ret (.code y bytes maxL ret :: AW) { frames := rm.1, cells := 0, slots := 0, locals := rm.2 } 0 0 na ∧ (Cond.static y).before args s = true :=
    ⟨callB_of na hts (goodCode m1) rfl rfl rfl (hts _ m2) (hts _ hl) m5 ⟨Nat.le_trans hf.1 hR.1, Nat.le_trans hf.2 hR.2⟩, hts _ m3⟩
  exact q_back (a := As.toArray) (va_runS (As := As) (rest := rest) ⟨hx, hb, hml, hown, hts⟩ (ct H.size) hcw ⟨PX_blind, fun U hU hWm => ⟨rfl, by rw [hU], by rw [hU]; exact hW.1, hK.moved hWm, hW.2.1.weaken (fun _ _ _ _ => trivial), hW.2.2.2.1.call hU hWm (by rw [← hW.2.2.2.2]; exact hW.2.2.1) (wd_fr (D := D) hW.2.1 hW.2.2.1 hA)⟩⟩ rfl hn hLs hst (by simpa [JFrame.monitorRoom, F0] using hw) hd hC) hA hW kk
theorem q_callN {index maxL na f lo : Nat} {y : MethodName} {host : String} {bytes : ByteArray} {ret : Option FieldType} {rm : Nat × Nat} {As st0 : List Value} {P : Option Value → (Nat → va_E) → Prop} (hM : MB K cA cc nL own) (hW : WB N ad K g H locs) (hR : HasRoom K f lo) (hC : Cells K k n)
    (M : MS y bytes maxL ret na) (hl : Cond.methodLinkNest own index y host ∈ NWL) (ct : CT (Lof K) N ad cA (Dof K) y bytes maxL ret rm As g P) (hf : rm.1 + 1 ≤ f ∧ 8 + (maxL + 11) + rm.2 ≤ lo) (hst : st0 = As.reverse ++ rest) (hn : As.length = na) (hLs : ls.size = nL) (hw : (rest.map fun v => v.category).sum ≤ 8) (hd : decode cc pc = .ok (.invokestatic index, 3))
    (kk : ∀ (v : Option Value) (g : Nat → va_E) (H : Heap) (locs : List Loc), P v g → WB N ad K g H locs → XX K k n H locs (pc + 3) ls (v.toList ++ rest)) : XX K k n H locs pc ls st0 := by
  obtain ⟨p, l, e, R, s, m, args, below, meth, c, Q, D, A, H0⟩ := K
  obtain ⟨hF, hK, hlk, hA⟩ := hM
  obtain ⟨hx, hb, hml, hown, hts⟩ := hF
  obtain ⟨m1, m2, m3, m5⟩ := M
  have hcw : va_CN R s args own index y host bytes maxL ret (.code y bytes maxL ret :: AW) { frames := rm.1, cells := 0, slots := 0, locals := rm.2 } 0 0 na ∧ (Cond.static y).before args s = true ∧ True :=
    ⟨va_cnB na hts (goodCode m1) rfl rfl rfl (hK.2.1 _ hl) (hts _ m2) m5 ⟨Nat.le_trans hf.1 hR.1, Nat.le_trans hf.2 hR.2⟩, hts _ m3, trivial⟩
  exact q_back (a := As.toArray) (va_runSN (As := As) (rest := rest) ⟨hx, hb, hml, hown, hts⟩ (ct H.size) hcw ⟨PX_blind, fun U hU hWm => ⟨rfl, by rw [hU], by rw [hU]; exact hW.1, hK.moved hWm, hW.2.1.weaken (fun _ _ _ _ => trivial), hW.2.2.2.1.call hU hWm (by rw [← hW.2.2.2.2]; exact hW.2.2.1) (wd_fr (D := D) hW.2.1 hW.2.2.1 hA)⟩⟩ rfl hn hLs hst (by simpa [JFrame.monitorRoom, F0] using hw) hd hC) hA hW kk
/-! texts, lengths of arrays -/
theorem q_ldcS0 {index : Nat} (hM : MB K cA cc nL "ForgetSchool$LawReader") (hW : WB N ad K g H locs) (hi : index = 60) (hd : decode cc pc = .ok (.ldc index, 2))
    (kk : XX K k n H locs (pc + 2) ls (.ref (ad 400) :: rest)) : XX K k n H locs pc ls rest := by
  obtain ⟨p, l, e, R, s, m, args, below, meth, c, Q, D, A, H0⟩ := K
  obtain ⟨⟨hx, hb, hml, hown, hts⟩, ⟨hK, -⟩, -⟩ := hM
  subst hi
  exact va_ldcS hx hb hown hW.2.2.2.1.2.1 hd kk
theorem q_ldcS1 {index : Nat} (hM : MB K cA cc nL "ForgetSchool$LawReader") (hW : WB N ad K g H locs) (hi : index = 105) (hd : decode cc pc = .ok (.ldc index, 2))
    (kk : XX K k n H locs (pc + 2) ls (.ref (ad 401) :: rest)) : XX K k n H locs pc ls rest := by
  obtain ⟨p, l, e, R, s, m, args, below, meth, c, Q, D, A, H0⟩ := K
  obtain ⟨⟨hx, hb, hml, hown, hts⟩, ⟨hK, -⟩, -⟩ := hM
  subst hi
  exact va_ldcS hx hb hown hW.2.2.2.1.2.2.1 hd kk
theorem q_getsC {index : Nat} (hM : MB K cA cc nL own) (hW : WB N ad K g H locs) (hl : Cond.fieldLink own index "java/lang/String" "COMPACT_STRINGS" "Z" ∈ AW) (hd : decode cc pc = .ok (.getstatic index, 3))
    (kk : XX K k n H locs (pc + 3) ls (.int 1 :: rest)) : XX K k n H locs pc ls rest := by
  obtain ⟨p, l, e, R, s, m, args, below, meth, c, Q, D, A, H0⟩ := K
  obtain ⟨⟨hx, hb, hml, hown, hts⟩, ⟨hK, -⟩, -⟩ := hM
  obtain ⟨hP, hD, hS, hZ, hH⟩ := hW
  subst hH
  exact va_gets hx hb hZ.2.2.2 hS hown (hts _ hl) (fun _ h => h) hd kk
theorem q_getCo {index i : Nat} (hM : MB K cA cc nL own) (hW : WB N ad K g H locs) (hi : i < 2) (hl : Cond.fieldLink own index "java/lang/String" "coder" "B" ∈ AW) (hd : decode cc pc = .ok (.getfield index, 3))
    (kk : XX K k n H locs (pc + 3) ls (.int 0 :: rest)) : XX K k n H locs pc ls (.ref (ad (400 + i)) :: rest) := by
  obtain ⟨p, l, e, R, s, m, args, below, meth, c, Q, D, A, H0⟩ := K
  obtain ⟨⟨hx, hb, hml, hown, hts⟩, ⟨hK, -⟩, -⟩ := hM
  obtain ⟨hP, hD, hS, hZ, hH⟩ := hW
  subst hH
  exact vk_getf hx hb (hZ.1.1 i hi).2.1 hS hown (hts _ hl) (fun _ h => h) hd kk
theorem q_getVa {index i : Nat} (hM : MB K cA cc nL own) (hW : WB N ad K g H locs) (hi : i < 2) (hl : Cond.fieldLink own index "java/lang/String" "value" "[B" ∈ AW) (hd : decode cc pc = .ok (.getfield index, 3))
    (kk : XX K k n H locs (pc + 3) ls (.ref (ad (410 + i)) :: rest)) : XX K k n H locs pc ls (.ref (ad (400 + i)) :: rest) := by
  obtain ⟨p, l, e, R, s, m, args, below, meth, c, Q, D, A, H0⟩ := K
  obtain ⟨⟨hx, hb, hml, hown, hts⟩, ⟨hK, -⟩, -⟩ := hM
  obtain ⟨hP, hD, hS, hZ, hH⟩ := hW
  subst hH
  exact vk_getf hx hb (hZ.1.1 i hi).2.2.1 hS hown (hts _ hl) (fun _ h => h) hd kk
theorem q_tlen {i : Nat} {v : Int32} (hM : MB K cA cc nL own) (hW : WB N ad K g H locs) (hi : i < 2) (hv : Int32.ofNat (sbL.getD i 0) = v) (hd : decode cc pc = .ok (.arraylength, 1))
    (kk : XX K k n H locs (pc + 1) ls (.int v :: rest)) : XX K k n H locs pc ls (.ref (ad (410 + i)) :: rest) := by
  obtain ⟨p, l, e, R, s, m, args, below, meth, c, Q, D, A, H0⟩ := K
  obtain ⟨⟨hx, hb, hml, hown, hts⟩, ⟨hK, -⟩, -⟩ := hM
  obtain ⟨hP, hD, hS, hZ, hH⟩ := hW
  subst hH
  exact va_tlen hx hb (hZ.1.1 i hi).2.2.2 hS hv hd kk
theorem q_tb {i : Nat} {j : Int32} (hM : MB K cA cc nL own) (hW : WB N ad K g H locs) (hi : i < 2) (hin : vp_in j (sbL.getD i 0)) (hd : decode cc pc = .ok (.baload, 1))
    (kk : XX K k n H locs (pc + 1) ls (.int ((sbB.getD i []).getD j.toNatClampNeg 0) :: rest)) : XX K k n H locs pc ls (.int j :: .ref (ad (410 + i)) :: rest) := by
  obtain ⟨p, l, e, R, s, m, args, below, meth, c, Q, D, A, H0⟩ := K
  obtain ⟨⟨hx, hb, hml, hown, hts⟩, ⟨hK, -⟩, -⟩ := hM
  obtain ⟨hP, hD, hS, hZ, hH⟩ := hW
  subst hH
  exact va_tb hx hb (hZ.1.1 i hi).2.2.2 hS hin rfl hd kk
theorem q_alen {i na : Nat} {v : Int32} (hM : MB K cA cc nL own) (hW : WB N ad K g H locs) (hi : i < N) (hg : g i = ia (cA 0) na (arI g i)) (hv : Int32.ofNat na = v) (hd : decode cc pc = .ok (.arraylength, 1))
    (kk : XX K k n H locs (pc + 1) ls (.int v :: rest)) : XX K k n H locs pc ls (.ref (ad i) :: rest) := by
  obtain ⟨p, l, e, R, s, m, args, below, meth, c, Q, D, A, H0⟩ := K
  obtain ⟨⟨hx, hb, hml, hown, hts⟩, ⟨hK, -⟩, -⟩ := hM
  obtain ⟨hP, hD, hS, hZ⟩ := hW
  exact va_alen (D := D) hx hb hK hP i 0 ((wd_get hi).trans (by rw [hg]; rfl)) rfl hv hd kk
/-- a call of one of String's own methods -/
theorem q_callT {index maxL na f lo i : Nat} {y : MethodName} {bytes : ByteArray} {ret : Option FieldType} {rm : Nat × Nat} {As st0 : List Value} {P : Option Value → (Nat → va_E) → Prop} (hM : MB K cA cc nL own) (hW : WB N ad K g H locs) (hR : HasRoom K f lo) (hC : Cells K k n)
    (M : MI y bytes maxL ret na) (hl : Cond.methodLink own index y ∈ AW) (hy : y.cls = "java/lang/String") (hi : i < 2) (ct : CT (Lof K) N ad cA (Dof K) y bytes maxL ret rm (.ref (ad (400 + i)) :: As) g P) (hf : rm.1 + 1 ≤ f ∧ 8 + (maxL + 11) + rm.2 ≤ lo) (hst : st0 = As.reverse ++ .ref (ad (400 + i)) :: rest) (hn : As.length = na) (hLs : ls.size = nL) (hw : (rest.map fun v => v.category).sum ≤ 8) (hd : decode cc pc = .ok (.invokevirtual index, 3))
    (kk : ∀ (v : Option Value) (g : Nat → va_E) (H : Heap) (locs : List Loc), P v g → WB N ad K g H locs → XX K k n H locs (pc + 3) ls (v.toList ++ rest)) : XX K k n H locs pc ls st0 := by
  obtain ⟨p, l, e, R, s, m, args, below, meth, c, Q, D, A, H0⟩ := K
  obtain ⟨hF, hK, hlk, hA⟩ := hM
  obtain ⟨hx, hb, hml, hown, hts⟩ := hF
  obtain ⟨m1, m2, m3, m4, m5⟩ := M
  have hcw : CallW R s args own "java/lang/String" index y bytes maxL ret (.code y bytes maxL ret :: AW) { frames := rm.1, cells := 0, slots := 0, locals := rm.2 } 0 0 na :=
    ⟨callB_of na hts (goodCode m1) rfl rfl rfl (hts _ m2) (hts _ hl) m5 ⟨Nat.le_trans hf.1 hR.1, Nat.le_trans hf.2 hR.2⟩, hts _ m3, by rw [← hy]; exact hts _ m4⟩
  have hcell : ∃ cellB : Cell, H[ad (400 + i)]? = some cellB ∧ cellB.vm.isStatics = false ∧ s.vm.findClass "java/lang/String" = some cellB.cls := vk_recv (adK := fun i => ad (400 + i)) (i := i) hW.2.2.2.1.1 hi (by rw [← hW.2.2.2.2]; exact hW.2.2.1)
  exact q_back (a := (Value.ref (ad (400 + i)) :: As).toArray) (va_runV (C := "java/lang/String") (b := ad (400 + i)) (As := As) (rest := rest) ⟨hx, hb, hml, hown, hts⟩ (ct H.size) hcw ⟨PX_blind, hcell, fun U hU hWm => ⟨rfl, by rw [hU], by rw [hU]; exact hW.1, hK.moved hWm, hW.2.1.weaken (fun _ _ _ _ => trivial), hW.2.2.2.1.call hU hWm (by rw [← hW.2.2.2.2]; exact hW.2.2.1) (wd_fr (D := D) hW.2.1 hW.2.2.1 hA)⟩⟩ rfl hn hLs hst (by simpa [JFrame.monitorRoom, F0] using hw) hd hC) hA hW kk
/-! a method's start and its ends -/
/-- what the method's end must show, and that an end then is one -/
def Ends (N : Nat) (ad : Nat → Nat) (K : KT) (cc : ByteArray) (P : Option Value → (Nat → va_E) → Prop) : Prop :=
  (∀ g H locs pc ls v, WB N ad K g H locs → P (some (.int v)) g → decode cc pc = .ok (.ireturn, 1) → XX K 0 0 H locs pc ls [.int v])
def EndsV (N : Nat) (ad : Nat → Nat) (K : KT) (cc : ByteArray) (P : Option Value → (Nat → va_E) → Prop) : Prop :=
  (∀ g H locs pc ls, WB N ad K g H locs → P none g → decode cc pc = .ok (.return_, 1) → XX K 0 0 H locs pc ls [])
def EndsA (N : Nat) (ad : Nat → Nat) (K : KT) (cc : ByteArray) (P : Option Value → (Nat → va_E) → Prop) : Prop :=
  (∀ g H locs pc ls a, WB N ad K g H locs → P (some (.ref a)) g → decode cc pc = .ok (.areturn, 1) → XX K 0 0 H locs pc ls [.ref a])
def EndsJ (N : Nat) (ad : Nat → Nat) (K : KT) (cc : ByteArray) (P : Option Value → (Nat → va_E) → Prop) : Prop :=
  (∀ g H locs pc ls v, WB N ad K g H locs → P (some (.long v)) g → decode cc pc = .ok (.lreturn, 1) → XX K 0 0 H locs pc ls [.long v])
theorem q_enter {l : Launch} {D : va_G} {y : MethodName} {maxL : Nat} {ret : Option FieldType} {rm : Nat × Nat} {av : List Value} {P : Option Value → (Nat → va_E) → Prop} {En : KT → Prop} (hy : plainName y.cls = true) (hav : (lg_sl av).length ≤ maxL)
    (hE : ∀ p l e R s m args below meth c D (hx : p.tables.exec = Jvm.exec) (hb : c.code = cc) (hr : meth.sig.returnType = ret) (hlk : meth.locks = false), En (p, l, e, R, s, m, args, below, meth, c, MQ below (QX N ad D s.heap.size P) args s 0 0 (fr N ad s.heap.size), D, fr N ad s.heap.size, s.heap))
    (body : ∀ (K : KT) (H : Heap) (locs : List Loc) (ls : Array Slot), Lof K = l → Dof K = D → MB K cA cc maxL y.cls → WB N ad K g H locs → HasRoom K rm.1 rm.2 → Cells K 0 0 → En K → lv_has ls maxL (lv_args 0 av) → XX K 0 0 H locs 0 ls []) : CT l N ad cA D y cc maxL ret rm av g P := by
  intro sz
  refine Met.ofW (cc := cc) (maxL := maxL) (ret := ret) hy rfl ?_
  intro p e s m args below meth c s₁ B hml hv
  obtain ⟨rfl, hsz, hP, hK, hD0, hZ⟩ := hv
  have hts0 := atoms_spec (ws := .code y cc maxL ret :: AW) B.pre
  have hD : va_D (fr N ad s.heap.size) (wd N ad g) := ⟨hD0.1, fun j q hj => by
    obtain ⟨a1, rfl⟩ := wd_at hj
    exact Or.inl ⟨j, a1, rfl⟩⟩
  subst hsz
  rw [lg_entry_eq]
  exact body (p, l, e, _, s, m, av.toArray, below, meth, c, _, D, fr N ad s.heap.size, s.heap) s.heap [] _ rfl rfl ⟨⟨B.exec, B.bytes, hml, findClass_of_methodNamed B.named, fun w hw => hts0 w (List.mem_cons_of_mem _ hw)⟩, hK, B.notSynchronized, fun q h => Or.inr h⟩ ⟨hP, hD, va_S.rf, hZ, rfl⟩ ⟨Nat.le_refl _, Nat.le_refl _⟩ ⟨Nat.le_refl _, Nat.le_refl _⟩ (hE p l e _ s m av.toArray below meth c D B.exec B.bytes B.returns B.notSynchronized) (lv_entry av hav)
theorem q_enterI {l : Launch} {D : va_G} {y : MethodName} {maxL : Nat} {ret : Option FieldType} {rm : Nat × Nat} {av : List Value} {P : Option Value → (Nat → va_E) → Prop} (hy : plainName y.cls = true) (hav : (lg_sl av).length ≤ maxL) (hret : ret = some .int)
    (body : ∀ (K : KT) (H : Heap) (locs : List Loc) (ls : Array Slot), Lof K = l → Dof K = D → MB K cA cc maxL y.cls → WB N ad K g H locs → HasRoom K rm.1 rm.2 → Cells K 0 0 → Ends N ad K cc P → lv_has ls maxL (lv_args 0 av) → XX K 0 0 H locs 0 ls []) : CT l N ad cA D y cc maxL ret rm av g P :=
  q_enter (En := fun K => Ends N ad K cc P) hy hav (fun p l e R s m args below meth c D hx hb hr hlk g H locs pc ls v hW hp hd => W.iret (v := v) hx hb (hr.trans hret) (fun t ht hWm => ⟨⟨some (.int v), g, rfl, hp, by rw [ht]; exact hW.1⟩, hW.2.2.1.F ht⟩) hW.2.2.1.2.2 hd hlk) body
theorem q_enterV {l : Launch} {D : va_G} {y : MethodName} {maxL : Nat} {rm : Nat × Nat} {av : List Value} {P : Option Value → (Nat → va_E) → Prop} (hy : plainName y.cls = true) (hav : (lg_sl av).length ≤ maxL)
    (body : ∀ (K : KT) (H : Heap) (locs : List Loc) (ls : Array Slot), Lof K = l → Dof K = D → MB K cA cc maxL y.cls → WB N ad K g H locs → HasRoom K rm.1 rm.2 → Cells K 0 0 → EndsV N ad K cc P → lv_has ls maxL (lv_args 0 av) → XX K 0 0 H locs 0 ls []) : CT l N ad cA D y cc maxL none rm av g P :=
  q_enter (En := fun K => EndsV N ad K cc P) hy hav (fun p l e R s m args below meth c D hx hb hr hlk g H locs pc ls hW hp hd => W.vret hx hb hr (fun t ht hWm => ⟨⟨none, g, rfl, hp, by rw [ht]; exact hW.1⟩, hW.2.2.1.F ht⟩) hW.2.2.1.2.2 hd hlk) body
end RW
