/-! THE CLAIM OUT OF ONE WALK OF THE LAW'S BODY. Your part is whole_start (and what it stands on); all else here is the same for every law, but numbers. -/
def R_law : String := "ForgetSchoolLaw"
def lw_P (b : Addr) (xs : List Int32) (args : Array Value) (s : State) : Prop := args = #[.ref b] ∧ s.IntsAt b xs ∧ xs.length ≤ 3072 ∧ (Jvm.Cond.and given_1 narrow_1).before args s = true
def lw_Q (_ : Array Value) (s : State) (o : Outcome) (t : State) : Prop := o = .returned (some (.int 1)) ∧ Framed s o t [] 600000 7302250
def lw_Z (below : List Frame) (a : Array Value) (s : State) : State → Prop := fun t => ∃ o, t.status = .running ∧ Ended t below o ∧ lw_Q a s o t
/-- the law's own end, with 1 on the stack, nothing written that was there before, its room as the claim has it -/
theorem lw_ret {p : Program} {l : Launch} {e : Env} {s : State} {m : MethodId} {below : List Frame} {meth : Method} {c : Code} {b : Nat} (hx : p.tables.exec = Jvm.exec) (hb : c.code = code) (hr : meth.sig.returnType = ret) (hlocks : meth.locks = false) {pc : Nat} {H : Heap} {ls : Array Slot} (hdg : decode code pc = .ok (.ireturn, 1)) : W p l e room_1 s m #[Value.ref b] below meth c H [] 600000 7302250 (lw_Z below #[Value.ref b] s) (F0 m pc ls [.int 1]) := by
  intro T hT X
  obtain ⟨fs, hret, hrun, hended, hW, hframe⟩ := X.leave (v := some (.int 1)) (hlocks := hlocks) (fun h => by rw [hr] at h; cases h)
  have hmeth' : T.vm.method? m = some meth := X.method'
  refine ⟨T.setFrames fs, ?_, .returned (some (.int 1)), hrun, hended, rfl, ⟨_, rfl⟩, hW, hframe⟩
  jvm_step X.here [X.here.top, hx, hb, hdg, hmeth', hr, ret, narrow_b1]
  (try refine ⟨rfl, ?_⟩); (try refine ⟨rfl, ?_⟩)
  first | (intro acts; rw [hret _ acts rfl rfl rfl]) | rw [hret _ _ rfl rfl rfl]
  exact Steps.refl _
/-- what holds at the law's entry: the machine, the code, the tables' words (any of lw_tbl by 'hts w (by decide +kernel)'), the script of L ints xs at the cell b, what the Statement gives of the start (any of its parts by flat_of_before) -/
def lw_At (p : Program) (s : State) (m : MethodId) (meth : Method) (c : Code) (b L : Nat) (xs : Nat → Int32) : Prop :=
  p.tables.exec = Jvm.exec ∧ c.code = code ∧ meth.sig.returnType = ret ∧ c.maxLocals = 4 ∧ s.vm.findClass R_law = some m.cls ∧ (∀ w ∈ lw_tbl, w.before #[Value.ref b] s = true) ∧ va_X b L xs s s.heap ∧ b < s.heap.size ∧ meth.locks = false ∧ (Jvm.Cond.and given_1 narrow_1).before #[Value.ref b] s = true

section LB
variable {K : KT} {cA : Nat → ClassId} {cc : ByteArray} {nL N : Nat} {own : String} {k n : Nat} {H : Heap} {locs : List Loc} {pc : Nat} {ls : Array Slot} {rest : List Value} {ad : Nat → Nat} {g : Nat → va_E}
/-- the script, that no cell of the world is -/
def XB (K : KT) (b L : Nat) (xs : Nat → Int32) : Prop := match K with
  | (_, _, _, _, s, _, _, _, _, _, _, _, A, H0) => va_X b L xs s H0 ∧ b < H0.size ∧ ¬ A b
theorem s_iald {b L : Nat} {xs : Nat → Int32} {i : Int32} (k9 : Nat) (hM : MB K cA cc nL own) (hW : WB N ad K g H locs) (hX : XB K b L xs) (h9 : i.toInt = k9) (hlt : k9 < L) (hL : L < 1000000) (hd : decode cc pc = .ok (.iaload, 1))
    (kk : XX K k n H locs (pc + 1) ls (.int (xs k9) :: rest)) : XX K k n H locs pc ls (.int i :: .ref b :: rest) := by
  obtain ⟨p, l, e, R, s, m, args, below, meth, c, Q, D, A, H0⟩ := K
  obtain ⟨⟨hx, hb, hml, hown, hts⟩, ⟨hK, -⟩, -⟩ := hM
  obtain ⟨hP, hD, hS, hZ⟩ := hW
  have e : i.toNatClampNeg = k9 := i_cl h9
  exact va_sld hx hb hX.1 hX.2.1 hX.2.2 hS (i_in (by omega) (by omega)) hd (by rw [e]; exact kk)
theorem s_alen {b L : Nat} {xs : Nat → Int32} (hM : MB K cA cc nL own) (hW : WB N ad K g H locs) (hX : XB K b L xs) (hd : decode cc pc = .ok (.arraylength, 1))
    (kk : XX K k n H locs (pc + 1) ls (.int (Int32.ofNat L) :: rest)) : XX K k n H locs pc ls (.ref b :: rest) := by
  obtain ⟨p, l, e, R, s, m, args, below, meth, c, Q, D, A, H0⟩ := K
  obtain ⟨⟨hx, hb, hml, hown, hts⟩, ⟨hK, -⟩, -⟩ := hM
  obtain ⟨hP, hD, hS, hZ⟩ := hW
  exact va_slen hx hb hX.1 hX.2.1 hX.2.2 hS hd kk
theorem l_perm {ws ws1 : va_W} (hW : WL K ws H locs) (is : List Nat) (h : is.map (fun i => ws[i]?) = ws1.map some) (h2 : is.filterMap (fun i => ws[i]?) = ws1) (hn : va_nd is = true) : WL K ws1 H locs := by
  obtain ⟨p, l, e, R, s, m, args, below, meth, c, Q, D, A, H0⟩ := K
  obtain ⟨hP, hD, hS⟩ := hW
  exact ⟨hP.sub is h2, hD.sub is hn h, hS⟩
theorem l_widen {k1 n1 : Nat} {st : List Value} (h1 : k ≤ k1) (h2 : n ≤ n1) (kk : XX K k1 n1 H locs pc ls st) : XX K k n H locs pc ls st := by
  obtain ⟨p, l, e, R, s, m, args, below, meth, c, Q, D, A, H0⟩ := K
  exact W.widen h1 h2 kk
theorem ac_of {args : Array Value} {s : State} {t : FieldType} (h : (Cond.arrayClass t).before args s = true) (ho : ∀ C, t ≠ .object C) : ∃ c : ClassId, ArrOfT s c t ∧ va_RA s c t := by
  obtain ⟨c, k, comp, h1, h2, h3⟩ := Cond.arrayClass_spec h
  refine ⟨c, fun N z => ⟨(fun q hq => by cases hq), k, h2, comp, h3⟩, ?_⟩
  cases t <;> first | exact h1 | exact absurd rfl (ho _)
theorem ac_ofA {args : Array Value} {s : State} {t : FieldType} (h : (Cond.arrayOver (.array t)).before args s = true) : ∃ c : ClassId, ArrOfT s c (.array t) ∧ va_RA s c (.array t) := by
  obtain ⟨comp, c, k, h1, h2, h3, h4, h5⟩ := arrayOverA_spec h
  exact ⟨c, fun N z => ⟨(fun q hq => by cases hq), k, h3, comp, h4⟩, h5⟩
theorem ac_ofO {args : Array Value} {s : State} {C : String} (h : (Cond.arrayOver (.object C)).before args s = true) : ∃ c : ClassId, ArrOfT s c (.object C) ∧ va_RA s c (.object C) := by
  obtain ⟨comp, c, k, h1, h2, h3, h4, h5⟩ := Cond.arrayOver_spec h
  exact ⟨c, fun N z => ⟨(fun q hq => by cases hq), k, h3, comp, h4⟩, k, comp, h3, h4, h1, h5⟩
end LB

theorem vk_S_cg {N : Nat} {len : List Nat} {byt : List (List Int32)} {k v k1 v1 : Nat → Nat} {A : Nat → Prop} {U : State} {H : Heap} (h : vk_S N len byt k v A U H) (h1 : ∀ i, i < N → k1 i = k i) (h2 : ∀ i, i < N → v1 i = v i) : vk_S N len byt k1 v1 A U H :=
  ⟨fun i hi => by rw [h1 i hi, h2 i hi]; exact h.1 i hi, fun i j hi hj e => h.2 i j hi hj (by rw [← h1 i hi, ← h1 j hj]; exact e)⟩
/-- what stands all through the law's loop -/
def PI (ad : Nat → Nat) (cA : Nat → ClassId) (g : Nat → va_E) : Prop := Shp ad cA g ∧ Rng g ∧ (∃ lw lwn : Nat, ((lw = 54 ∧ lwn = 68) ∨ (lw = 68 ∧ lwn = 54)) ∧ fld g 0 13 = .ref (ad lw) ∧ fld g 0 14 = .ref (ad lwn)) ∧ LWQ g ∧ TB g
theorem PI_fr {ad : Nat → Nat} {cA : Nat → ClassId} {T : Nat → Nat → Prop} {g g1 : Nat → va_E} (h : PI ad cA g) (hs : Shp ad cA g1) (hG : Rng g1) (hf : FR T g g1) (n1 : ¬ T 0 13) (n2 : ¬ T 0 14) (n3 : ¬ T 143 0) (n4 : ¬ T 144 0) (n5 : ¬ T 145 0) (n6 : ¬ T 146 0) (n7 : ¬ T 148 0) (n8 : ¬ T 129 32) (n9 : ¬ T 130 0) : PI ad cA g1 := by
  obtain ⟨-, -, ⟨lw, lwn, hc, h13, h14⟩, hQ, hT⟩ := h
  exact ⟨hs, hG, ⟨lw, lwn, hc, (hf.1 0 13 n1).trans h13, (hf.1 0 14 n2).trans h14⟩, LWQ_fr hQ hf n3 n4 n5 n6 n7 n8, TB_fr hT hf n9⟩

theorem getD_out {α : Type} {l : List α} {n : Nat} {d : α} (h : l.length ≤ n) : l.getD n d = d := by
  rw [List.getD_eq_getElem?_getD, List.getElem?_eq_none h]
  rfl
theorem fI_out {g : Nat → va_E} {i k : Nat} {c : Nat} {fs : List Value} (h : g i = .inr (c, fs)) (hk : fs.length ≤ k) : fI g i k = 0 := by
  unfold fI fld
  rw [h]
  show (match fs.getD k .null with | .int x => x | _ => 0) = 0
  rw [getD_out hk]
theorem fz_0 (ad : Nat → Nat) (cA : Nat → ClassId) : ∀ k, fI (gF ad cA) 0 k = 0 ∨ ((0, k) ∈ ([(18, 7), (30, 7), (42, 7), (127, 3), (129, 2)] : List (Nat × Nat)) ∧ fI (gF ad cA) 0 k = 1)
  | 0 => Or.inl rfl
  | 1 => Or.inl rfl
  | 2 => Or.inl rfl
  | 3 => Or.inl rfl
  | 4 => Or.inl rfl
  | 5 => Or.inl rfl
  | 6 => Or.inl rfl
  | 7 => Or.inl rfl
  | 8 => Or.inl rfl
  | 9 => Or.inl rfl
  | 10 => Or.inl rfl
  | 11 => Or.inl rfl
  | 12 => Or.inl rfl
  | 13 => Or.inl rfl
  | 14 => Or.inl rfl
  | 15 => Or.inl rfl
  | k + 16 => Or.inl (fI_out (fs := (List.range 16).map (gF_0 ad)) rfl (by rw [List.length_map, List.length_range]; omega))
theorem fz_1 (ad : Nat → Nat) (cA : Nat → ClassId) : ∀ k, fI (gF ad cA) 1 k = 0 ∨ ((1, k) ∈ ([(18, 7), (30, 7), (42, 7), (127, 3), (129, 2)] : List (Nat × Nat)) ∧ fI (gF ad cA) 1 k = 1)
  | 0 => Or.inl rfl
  | 1 => Or.inl rfl
  | k + 2 => Or.inl (fI_out (fs := (List.range 2).map (gF_1 ad)) rfl (by rw [List.length_map, List.length_range]; omega))
theorem fz_3 (ad : Nat → Nat) (cA : Nat → ClassId) : ∀ k, fI (gF ad cA) 3 k = 0 ∨ ((3, k) ∈ ([(18, 7), (30, 7), (42, 7), (127, 3), (129, 2)] : List (Nat × Nat)) ∧ fI (gF ad cA) 3 k = 1)
  | 0 => Or.inl rfl
  | 1 => Or.inl rfl
  | 2 => Or.inl rfl
  | k + 3 => Or.inl (fI_out (fs := (List.range 3).map (gF_3 ad)) rfl (by rw [List.length_map, List.length_range]; omega))
theorem fz_18 (ad : Nat → Nat) (cA : Nat → ClassId) : ∀ k, fI (gF ad cA) 18 k = 0 ∨ ((18, k) ∈ ([(18, 7), (30, 7), (42, 7), (127, 3), (129, 2)] : List (Nat × Nat)) ∧ fI (gF ad cA) 18 k = 1)
  | 0 => Or.inl rfl
  | 1 => Or.inl rfl
  | 2 => Or.inl rfl
  | 3 => Or.inl rfl
  | 4 => Or.inl rfl
  | 5 => Or.inl rfl
  | 6 => Or.inl rfl
  | 7 => Or.inr ⟨by decide, rfl⟩
  | k + 8 => Or.inl (fI_out (fs := (List.range 8).map (gF_18 ad)) rfl (by rw [List.length_map, List.length_range]; omega))
theorem fz_30 (ad : Nat → Nat) (cA : Nat → ClassId) : ∀ k, fI (gF ad cA) 30 k = 0 ∨ ((30, k) ∈ ([(18, 7), (30, 7), (42, 7), (127, 3), (129, 2)] : List (Nat × Nat)) ∧ fI (gF ad cA) 30 k = 1)
  | 0 => Or.inl rfl
  | 1 => Or.inl rfl
  | 2 => Or.inl rfl
  | 3 => Or.inl rfl
  | 4 => Or.inl rfl
  | 5 => Or.inl rfl
  | 6 => Or.inl rfl
  | 7 => Or.inr ⟨by decide, rfl⟩
  | k + 8 => Or.inl (fI_out (fs := (List.range 8).map (gF_30 ad)) rfl (by rw [List.length_map, List.length_range]; omega))
theorem fz_42 (ad : Nat → Nat) (cA : Nat → ClassId) : ∀ k, fI (gF ad cA) 42 k = 0 ∨ ((42, k) ∈ ([(18, 7), (30, 7), (42, 7), (127, 3), (129, 2)] : List (Nat × Nat)) ∧ fI (gF ad cA) 42 k = 1)
  | 0 => Or.inl rfl
  | 1 => Or.inl rfl
  | 2 => Or.inl rfl
  | 3 => Or.inl rfl
  | 4 => Or.inl rfl
  | 5 => Or.inl rfl
  | 6 => Or.inl rfl
  | 7 => Or.inr ⟨by decide, rfl⟩
  | k + 8 => Or.inl (fI_out (fs := (List.range 8).map (gF_42 ad)) rfl (by rw [List.length_map, List.length_range]; omega))
theorem fz_54 (ad : Nat → Nat) (cA : Nat → ClassId) : ∀ k, fI (gF ad cA) 54 k = 0 ∨ ((54, k) ∈ ([(18, 7), (30, 7), (42, 7), (127, 3), (129, 2)] : List (Nat × Nat)) ∧ fI (gF ad cA) 54 k = 1)
  | 0 => Or.inl rfl
  | 1 => Or.inl rfl
  | 2 => Or.inl rfl
  | 3 => Or.inl rfl
  | 4 => Or.inl rfl
  | 5 => Or.inl rfl
  | 6 => Or.inl rfl
  | 7 => Or.inl rfl
  | k + 8 => Or.inl (fI_out (fs := (List.range 8).map (gF_54 ad)) rfl (by rw [List.length_map, List.length_range]; omega))
theorem fz_61 (ad : Nat → Nat) (cA : Nat → ClassId) : ∀ k, fI (gF ad cA) 61 k = 0 ∨ ((61, k) ∈ ([(18, 7), (30, 7), (42, 7), (127, 3), (129, 2)] : List (Nat × Nat)) ∧ fI (gF ad cA) 61 k = 1)
  | 0 => Or.inl rfl
  | 1 => Or.inl rfl
  | 2 => Or.inl rfl
  | 3 => Or.inl rfl
  | 4 => Or.inl rfl
  | 5 => Or.inl rfl
  | 6 => Or.inl rfl
  | 7 => Or.inl rfl
  | k + 8 => Or.inl (fI_out (fs := (List.range 8).map (gF_61 ad)) rfl (by rw [List.length_map, List.length_range]; omega))
theorem fz_68 (ad : Nat → Nat) (cA : Nat → ClassId) : ∀ k, fI (gF ad cA) 68 k = 0 ∨ ((68, k) ∈ ([(18, 7), (30, 7), (42, 7), (127, 3), (129, 2)] : List (Nat × Nat)) ∧ fI (gF ad cA) 68 k = 1)
  | 0 => Or.inl rfl
  | 1 => Or.inl rfl
  | 2 => Or.inl rfl
  | 3 => Or.inl rfl
  | 4 => Or.inl rfl
  | 5 => Or.inl rfl
  | 6 => Or.inl rfl
  | 7 => Or.inl rfl
  | k + 8 => Or.inl (fI_out (fs := (List.range 8).map (gF_68 ad)) rfl (by rw [List.length_map, List.length_range]; omega))
theorem fz_75 (ad : Nat → Nat) (cA : Nat → ClassId) : ∀ k, fI (gF ad cA) 75 k = 0 ∨ ((75, k) ∈ ([(18, 7), (30, 7), (42, 7), (127, 3), (129, 2)] : List (Nat × Nat)) ∧ fI (gF ad cA) 75 k = 1)
  | 0 => Or.inl rfl
  | 1 => Or.inl rfl
  | 2 => Or.inl rfl
  | k + 3 => Or.inl (fI_out (fs := (List.range 3).map (gF_75 ad)) rfl (by rw [List.length_map, List.length_range]; omega))
theorem fz_78 (ad : Nat → Nat) (cA : Nat → ClassId) : ∀ k, fI (gF ad cA) 78 k = 0 ∨ ((78, k) ∈ ([(18, 7), (30, 7), (42, 7), (127, 3), (129, 2)] : List (Nat × Nat)) ∧ fI (gF ad cA) 78 k = 1)
  | 0 => Or.inl rfl
  | 1 => Or.inl rfl
  | 2 => Or.inl rfl
  | 3 => Or.inl rfl
  | 4 => Or.inl rfl
  | k + 5 => Or.inl (fI_out (fs := (List.range 5).map (gF_78 ad)) rfl (by rw [List.length_map, List.length_range]; omega))
theorem fz_79 (ad : Nat → Nat) (cA : Nat → ClassId) : ∀ k, fI (gF ad cA) 79 k = 0 ∨ ((79, k) ∈ ([(18, 7), (30, 7), (42, 7), (127, 3), (129, 2)] : List (Nat × Nat)) ∧ fI (gF ad cA) 79 k = 1)
  | 0 => Or.inl rfl
  | 1 => Or.inl rfl
  | 2 => Or.inl rfl
  | 3 => Or.inl rfl
  | 4 => Or.inl rfl
  | k + 5 => Or.inl (fI_out (fs := (List.range 5).map (gF_79 ad)) rfl (by rw [List.length_map, List.length_range]; omega))
theorem fz_80 (ad : Nat → Nat) (cA : Nat → ClassId) : ∀ k, fI (gF ad cA) 80 k = 0 ∨ ((80, k) ∈ ([(18, 7), (30, 7), (42, 7), (127, 3), (129, 2)] : List (Nat × Nat)) ∧ fI (gF ad cA) 80 k = 1)
  | 0 => Or.inl rfl
  | 1 => Or.inl rfl
  | 2 => Or.inl rfl
  | 3 => Or.inl rfl
  | 4 => Or.inl rfl
  | 5 => Or.inl rfl
  | 6 => Or.inl rfl
  | 7 => Or.inl rfl
  | 8 => Or.inl rfl
  | 9 => Or.inl rfl
  | 10 => Or.inl rfl
  | k + 11 => Or.inl (fI_out (fs := (List.range 11).map (gF_80 ad)) rfl (by rw [List.length_map, List.length_range]; omega))
theorem fz_84 (ad : Nat → Nat) (cA : Nat → ClassId) : ∀ k, fI (gF ad cA) 84 k = 0 ∨ ((84, k) ∈ ([(18, 7), (30, 7), (42, 7), (127, 3), (129, 2)] : List (Nat × Nat)) ∧ fI (gF ad cA) 84 k = 1)
  | 0 => Or.inl rfl
  | 1 => Or.inl rfl
  | 2 => Or.inl rfl
  | k + 3 => Or.inl (fI_out (fs := (List.range 3).map (gF_84 ad)) rfl (by rw [List.length_map, List.length_range]; omega))
theorem fz_87 (ad : Nat → Nat) (cA : Nat → ClassId) : ∀ k, fI (gF ad cA) 87 k = 0 ∨ ((87, k) ∈ ([(18, 7), (30, 7), (42, 7), (127, 3), (129, 2)] : List (Nat × Nat)) ∧ fI (gF ad cA) 87 k = 1)
  | 0 => Or.inl rfl
  | 1 => Or.inl rfl
  | 2 => Or.inl rfl
  | k + 3 => Or.inl (fI_out (fs := (List.range 3).map (gF_87 ad)) rfl (by rw [List.length_map, List.length_range]; omega))
theorem fz_90 (ad : Nat → Nat) (cA : Nat → ClassId) : ∀ k, fI (gF ad cA) 90 k = 0 ∨ ((90, k) ∈ ([(18, 7), (30, 7), (42, 7), (127, 3), (129, 2)] : List (Nat × Nat)) ∧ fI (gF ad cA) 90 k = 1)
  | 0 => Or.inl rfl
  | 1 => Or.inl rfl
  | 2 => Or.inl rfl
  | k + 3 => Or.inl (fI_out (fs := (List.range 3).map (gF_90 ad)) rfl (by rw [List.length_map, List.length_range]; omega))
theorem fz_93 (ad : Nat → Nat) (cA : Nat → ClassId) : ∀ k, fI (gF ad cA) 93 k = 0 ∨ ((93, k) ∈ ([(18, 7), (30, 7), (42, 7), (127, 3), (129, 2)] : List (Nat × Nat)) ∧ fI (gF ad cA) 93 k = 1)
  | 0 => Or.inl rfl
  | 1 => Or.inl rfl
  | 2 => Or.inl rfl
  | k + 3 => Or.inl (fI_out (fs := (List.range 3).map (gF_93 ad)) rfl (by rw [List.length_map, List.length_range]; omega))
theorem fz_96 (ad : Nat → Nat) (cA : Nat → ClassId) : ∀ k, fI (gF ad cA) 96 k = 0 ∨ ((96, k) ∈ ([(18, 7), (30, 7), (42, 7), (127, 3), (129, 2)] : List (Nat × Nat)) ∧ fI (gF ad cA) 96 k = 1)
  | 0 => Or.inl rfl
  | 1 => Or.inl rfl
  | 2 => Or.inl rfl
  | k + 3 => Or.inl (fI_out (fs := (List.range 3).map (gF_96 ad)) rfl (by rw [List.length_map, List.length_range]; omega))
theorem fz_99 (ad : Nat → Nat) (cA : Nat → ClassId) : ∀ k, fI (gF ad cA) 99 k = 0 ∨ ((99, k) ∈ ([(18, 7), (30, 7), (42, 7), (127, 3), (129, 2)] : List (Nat × Nat)) ∧ fI (gF ad cA) 99 k = 1)
  | 0 => Or.inl rfl
  | 1 => Or.inl rfl
  | 2 => Or.inl rfl
  | k + 3 => Or.inl (fI_out (fs := (List.range 3).map (gF_99 ad)) rfl (by rw [List.length_map, List.length_range]; omega))
theorem fz_102 (ad : Nat → Nat) (cA : Nat → ClassId) : ∀ k, fI (gF ad cA) 102 k = 0 ∨ ((102, k) ∈ ([(18, 7), (30, 7), (42, 7), (127, 3), (129, 2)] : List (Nat × Nat)) ∧ fI (gF ad cA) 102 k = 1)
  | 0 => Or.inl rfl
  | 1 => Or.inl rfl
  | 2 => Or.inl rfl
  | 3 => Or.inl rfl
  | 4 => Or.inl rfl
  | k + 5 => Or.inl (fI_out (fs := (List.range 5).map (gF_102 ad)) rfl (by rw [List.length_map, List.length_range]; omega))
theorem fz_120 (ad : Nat → Nat) (cA : Nat → ClassId) : ∀ k, fI (gF ad cA) 120 k = 0 ∨ ((120, k) ∈ ([(18, 7), (30, 7), (42, 7), (127, 3), (129, 2)] : List (Nat × Nat)) ∧ fI (gF ad cA) 120 k = 1)
  | 0 => Or.inl rfl
  | 1 => Or.inl rfl
  | 2 => Or.inl rfl
  | 3 => Or.inl rfl
  | 4 => Or.inl rfl
  | 5 => Or.inl rfl
  | 6 => Or.inl rfl
  | k + 7 => Or.inl (fI_out (fs := (List.range 7).map (gF_120 ad)) rfl (by rw [List.length_map, List.length_range]; omega))
theorem fz_127 (ad : Nat → Nat) (cA : Nat → ClassId) : ∀ k, fI (gF ad cA) 127 k = 0 ∨ ((127, k) ∈ ([(18, 7), (30, 7), (42, 7), (127, 3), (129, 2)] : List (Nat × Nat)) ∧ fI (gF ad cA) 127 k = 1)
  | 0 => Or.inl rfl
  | 1 => Or.inl rfl
  | 2 => Or.inl rfl
  | 3 => Or.inr ⟨by decide, rfl⟩
  | k + 4 => Or.inl (fI_out (fs := (List.range 4).map (gF_127 ad)) rfl (by rw [List.length_map, List.length_range]; omega))
theorem fz_129 (ad : Nat → Nat) (cA : Nat → ClassId) : ∀ k, fI (gF ad cA) 129 k = 0 ∨ ((129, k) ∈ ([(18, 7), (30, 7), (42, 7), (127, 3), (129, 2)] : List (Nat × Nat)) ∧ fI (gF ad cA) 129 k = 1)
  | 0 => Or.inl rfl
  | 1 => Or.inl rfl
  | 2 => Or.inr ⟨by decide, rfl⟩
  | 3 => Or.inl rfl
  | 4 => Or.inl rfl
  | 5 => Or.inl rfl
  | 6 => Or.inl rfl
  | 7 => Or.inl rfl
  | 8 => Or.inl rfl
  | 9 => Or.inl rfl
  | 10 => Or.inl rfl
  | 11 => Or.inl rfl
  | 12 => Or.inl rfl
  | 13 => Or.inl rfl
  | 14 => Or.inl rfl
  | 15 => Or.inl rfl
  | 16 => Or.inl rfl
  | 17 => Or.inl rfl
  | 18 => Or.inl rfl
  | 19 => Or.inl rfl
  | 20 => Or.inl rfl
  | 21 => Or.inl rfl
  | 22 => Or.inl rfl
  | 23 => Or.inl rfl
  | 24 => Or.inl rfl
  | 25 => Or.inl rfl
  | 26 => Or.inl rfl
  | 27 => Or.inl rfl
  | 28 => Or.inl rfl
  | 29 => Or.inl rfl
  | 30 => Or.inl rfl
  | 31 => Or.inl rfl
  | 32 => Or.inl rfl
  | 33 => Or.inl rfl
  | 34 => Or.inl rfl
  | 35 => Or.inl rfl
  | 36 => Or.inl rfl
  | 37 => Or.inl rfl
  | 38 => Or.inl rfl
  | 39 => Or.inl rfl
  | 40 => Or.inl rfl
  | 41 => Or.inl rfl
  | 42 => Or.inl rfl
  | 43 => Or.inl rfl
  | 44 => Or.inl rfl
  | 45 => Or.inl rfl
  | 46 => Or.inl rfl
  | 47 => Or.inl rfl
  | 48 => Or.inl rfl
  | 49 => Or.inl rfl
  | 50 => Or.inl rfl
  | 51 => Or.inl rfl
  | 52 => Or.inl rfl
  | 53 => Or.inl rfl
  | 54 => Or.inl rfl
  | 55 => Or.inl rfl
  | 56 => Or.inl rfl
  | 57 => Or.inl rfl
  | 58 => Or.inl rfl
  | 59 => Or.inl rfl
  | 60 => Or.inl rfl
  | 61 => Or.inl rfl
  | 62 => Or.inl rfl
  | 63 => Or.inl rfl
  | 64 => Or.inl rfl
  | 65 => Or.inl rfl
  | 66 => Or.inl rfl
  | 67 => Or.inl rfl
  | 68 => Or.inl rfl
  | 69 => Or.inl rfl
  | 70 => Or.inl rfl
  | 71 => Or.inl rfl
  | 72 => Or.inl rfl
  | 73 => Or.inl rfl
  | 74 => Or.inl rfl
  | 75 => Or.inl rfl
  | 76 => Or.inl rfl
  | 77 => Or.inl rfl
  | 78 => Or.inl rfl
  | 79 => Or.inl rfl
  | 80 => Or.inl rfl
  | 81 => Or.inl rfl
  | 82 => Or.inl rfl
  | 83 => Or.inl rfl
  | 84 => Or.inl rfl
  | 85 => Or.inl rfl
  | k + 86 => Or.inl (fI_out (fs := (List.range 86).map (gF_129 ad)) rfl (by rw [List.length_map, List.length_range]; omega))
theorem fz_all (ad : Nat → Nat) (cA : Nat → ClassId) : ∀ i k, fI (gF ad cA) i k = 0 ∨ ((i, k) ∈ ([(18, 7), (30, 7), (42, 7), (127, 3), (129, 2)] : List (Nat × Nat)) ∧ fI (gF ad cA) i k = 1)
  | 0, k => fz_0 ad cA k
  | 1, k => fz_1 ad cA k
  | 2, k => Or.inl rfl
  | 3, k => fz_3 ad cA k
  | 4, k => Or.inl rfl
  | 5, k => Or.inl rfl
  | 6, k => Or.inl rfl
  | 7, k => Or.inl rfl
  | 8, k => Or.inl rfl
  | 9, k => Or.inl rfl
  | 10, k => Or.inl rfl
  | 11, k => Or.inl rfl
  | 12, k => Or.inl rfl
  | 13, k => Or.inl rfl
  | 14, k => Or.inl rfl
  | 15, k => Or.inl rfl
  | 16, k => Or.inl rfl
  | 17, k => Or.inl rfl
  | 18, k => fz_18 ad cA k
  | 19, k => Or.inl rfl
  | 20, k => Or.inl rfl
  | 21, k => Or.inl rfl
  | 22, k => Or.inl rfl
  | 23, k => Or.inl rfl
  | 24, k => Or.inl rfl
  | 25, k => Or.inl rfl
  | 26, k => Or.inl rfl
  | 27, k => Or.inl rfl
  | 28, k => Or.inl rfl
  | 29, k => Or.inl rfl
  | 30, k => fz_30 ad cA k
  | 31, k => Or.inl rfl
  | 32, k => Or.inl rfl
  | 33, k => Or.inl rfl
  | 34, k => Or.inl rfl
  | 35, k => Or.inl rfl
  | 36, k => Or.inl rfl
  | 37, k => Or.inl rfl
  | 38, k => Or.inl rfl
  | 39, k => Or.inl rfl
  | 40, k => Or.inl rfl
  | 41, k => Or.inl rfl
  | 42, k => fz_42 ad cA k
  | 43, k => Or.inl rfl
  | 44, k => Or.inl rfl
  | 45, k => Or.inl rfl
  | 46, k => Or.inl rfl
  | 47, k => Or.inl rfl
  | 48, k => Or.inl rfl
  | 49, k => Or.inl rfl
  | 50, k => Or.inl rfl
  | 51, k => Or.inl rfl
  | 52, k => Or.inl rfl
  | 53, k => Or.inl rfl
  | 54, k => fz_54 ad cA k
  | 55, k => Or.inl rfl
  | 56, k => Or.inl rfl
  | 57, k => Or.inl rfl
  | 58, k => Or.inl rfl
  | 59, k => Or.inl rfl
  | 60, k => Or.inl rfl
  | 61, k => fz_61 ad cA k
  | 62, k => Or.inl rfl
  | 63, k => Or.inl rfl
  | 64, k => Or.inl rfl
  | 65, k => Or.inl rfl
  | 66, k => Or.inl rfl
  | 67, k => Or.inl rfl
  | 68, k => fz_68 ad cA k
  | 69, k => Or.inl rfl
  | 70, k => Or.inl rfl
  | 71, k => Or.inl rfl
  | 72, k => Or.inl rfl
  | 73, k => Or.inl rfl
  | 74, k => Or.inl rfl
  | 75, k => fz_75 ad cA k
  | 76, k => Or.inl rfl
  | 77, k => Or.inl rfl
  | 78, k => fz_78 ad cA k
  | 79, k => fz_79 ad cA k
  | 80, k => fz_80 ad cA k
  | 81, k => Or.inl rfl
  | 82, k => Or.inl rfl
  | 83, k => Or.inl rfl
  | 84, k => fz_84 ad cA k
  | 85, k => Or.inl rfl
  | 86, k => Or.inl rfl
  | 87, k => fz_87 ad cA k
  | 88, k => Or.inl rfl
  | 89, k => Or.inl rfl
  | 90, k => fz_90 ad cA k
  | 91, k => Or.inl rfl
  | 92, k => Or.inl rfl
  | 93, k => fz_93 ad cA k
  | 94, k => Or.inl rfl
  | 95, k => Or.inl rfl
  | 96, k => fz_96 ad cA k
  | 97, k => Or.inl rfl
  | 98, k => Or.inl rfl
  | 99, k => fz_99 ad cA k
  | 100, k => Or.inl rfl
  | 101, k => Or.inl rfl
  | 102, k => fz_102 ad cA k
  | 103, k => Or.inl rfl
  | 104, k => Or.inl rfl
  | 105, k => Or.inl rfl
  | 106, k => Or.inl rfl
  | 107, k => Or.inl rfl
  | 108, k => Or.inl rfl
  | 109, k => Or.inl rfl
  | 110, k => Or.inl rfl
  | 111, k => Or.inl rfl
  | 112, k => Or.inl rfl
  | 113, k => Or.inl rfl
  | 114, k => Or.inl rfl
  | 115, k => Or.inl rfl
  | 116, k => Or.inl rfl
  | 117, k => Or.inl rfl
  | 118, k => Or.inl rfl
  | 119, k => Or.inl rfl
  | 120, k => fz_120 ad cA k
  | 121, k => Or.inl rfl
  | 122, k => Or.inl rfl
  | 123, k => Or.inl rfl
  | 124, k => Or.inl rfl
  | 125, k => Or.inl rfl
  | 126, k => Or.inl rfl
  | 127, k => fz_127 ad cA k
  | 128, k => Or.inl rfl
  | 129, k => fz_129 ad cA k
  | 130, k => Or.inl rfl
  | 131, k => Or.inl rfl
  | 132, k => Or.inl rfl
  | 133, k => Or.inl rfl
  | 134, k => Or.inl rfl
  | 135, k => Or.inl rfl
  | 136, k => Or.inl rfl
  | 137, k => Or.inl rfl
  | 138, k => Or.inl rfl
  | 139, k => Or.inl rfl
  | 140, k => Or.inl rfl
  | 141, k => Or.inl rfl
  | 142, k => Or.inl rfl
  | 143, k => Or.inl rfl
  | 144, k => Or.inl rfl
  | 145, k => Or.inl rfl
  | 146, k => Or.inl rfl
  | 147, k => Or.inl rfl
  | 148, k => Or.inl rfl
  | 149, k => Or.inl rfl
  | 150, k => Or.inl rfl
  | 151, k => Or.inl rfl
  | 152, k => Or.inl rfl
  | 153, k => Or.inl rfl
  | 154, k => Or.inl rfl
  | 155, k => Or.inl rfl
  | 156, k => Or.inl rfl
  | 157, k => Or.inl rfl
  | 158, k => Or.inl rfl
  | 159, k => Or.inl rfl
  | 160, k => Or.inl rfl
  | 161, k => Or.inl rfl
  | 162, k => Or.inl rfl
  | 163, k => Or.inl rfl
  | 164, k => Or.inl rfl
  | 165, k => Or.inl rfl
  | 166, k => Or.inl rfl
  | 167, k => Or.inl rfl
  | 168, k => Or.inl rfl
  | 169, k => Or.inl rfl
  | 170, k => Or.inl rfl
  | 171, k => Or.inl rfl
  | 172, k => Or.inl rfl
  | 173, k => Or.inl rfl
  | 174, k => Or.inl rfl
  | 175, k => Or.inl rfl
  | 176, k => Or.inl rfl
  | 177, k => Or.inl rfl
  | 178, k => Or.inl rfl
  | 179, k => Or.inl rfl
  | i + 180, k => Or.inl (by
    have e : gF ad cA (i + 180) = .inr (0, []) := getD_out (by show 180 ≤ i + 180; omega)
    exact fI_out e (by show 0 ≤ k; omega))
theorem az_all (ad : Nat → Nat) (cA : Nat → ClassId) : ∀ i j, arI (gF ad cA) i j = 0 ∨ ((i = 82 ∨ i = 138) ∧ arI (gF ad cA) i j = -1)
  | 0, j => Or.inl rfl
  | 1, j => Or.inl rfl
  | 2, j => Or.inl rfl
  | 3, j => Or.inl rfl
  | 4, j => Or.inl rfl
  | 5, j => Or.inl rfl
  | 6, j => Or.inl rfl
  | 7, j => Or.inl rfl
  | 8, j => Or.inl rfl
  | 9, j => Or.inl rfl
  | 10, j => Or.inl rfl
  | 11, j => Or.inl rfl
  | 12, j => Or.inl rfl
  | 13, j => Or.inl rfl
  | 14, j => Or.inl rfl
  | 15, j => Or.inl rfl
  | 16, j => Or.inl rfl
  | 17, j => Or.inl rfl
  | 18, j => Or.inl rfl
  | 19, j => Or.inl rfl
  | 20, j => Or.inl rfl
  | 21, j => Or.inl rfl
  | 22, j => Or.inl rfl
  | 23, j => Or.inl rfl
  | 24, j => Or.inl rfl
  | 25, j => Or.inl rfl
  | 26, j => Or.inl rfl
  | 27, j => Or.inl rfl
  | 28, j => Or.inl rfl
  | 29, j => Or.inl rfl
  | 30, j => Or.inl rfl
  | 31, j => Or.inl rfl
  | 32, j => Or.inl rfl
  | 33, j => Or.inl rfl
  | 34, j => Or.inl rfl
  | 35, j => Or.inl rfl
  | 36, j => Or.inl rfl
  | 37, j => Or.inl rfl
  | 38, j => Or.inl rfl
  | 39, j => Or.inl rfl
  | 40, j => Or.inl rfl
  | 41, j => Or.inl rfl
  | 42, j => Or.inl rfl
  | 43, j => Or.inl rfl
  | 44, j => Or.inl rfl
  | 45, j => Or.inl rfl
  | 46, j => Or.inl rfl
  | 47, j => Or.inl rfl
  | 48, j => Or.inl rfl
  | 49, j => Or.inl rfl
  | 50, j => Or.inl rfl
  | 51, j => Or.inl rfl
  | 52, j => Or.inl rfl
  | 53, j => Or.inl rfl
  | 54, j => Or.inl rfl
  | 55, j => Or.inl rfl
  | 56, j => Or.inl rfl
  | 57, j => Or.inl rfl
  | 58, j => Or.inl rfl
  | 59, j => Or.inl rfl
  | 60, j => Or.inl rfl
  | 61, j => Or.inl rfl
  | 62, j => Or.inl rfl
  | 63, j => Or.inl rfl
  | 64, j => Or.inl rfl
  | 65, j => Or.inl rfl
  | 66, j => Or.inl rfl
  | 67, j => Or.inl rfl
  | 68, j => Or.inl rfl
  | 69, j => Or.inl rfl
  | 70, j => Or.inl rfl
  | 71, j => Or.inl rfl
  | 72, j => Or.inl rfl
  | 73, j => Or.inl rfl
  | 74, j => Or.inl rfl
  | 75, j => Or.inl rfl
  | 76, j => Or.inl rfl
  | 77, j => Or.inl rfl
  | 78, j => Or.inl rfl
  | 79, j => Or.inl rfl
  | 80, j => Or.inl rfl
  | 81, j => Or.inl rfl
  | 82, j => Or.inr ⟨by decide, rfl⟩
  | 83, j => Or.inl rfl
  | 84, j => Or.inl rfl
  | 85, j => Or.inl rfl
  | 86, j => Or.inl rfl
  | 87, j => Or.inl rfl
  | 88, j => Or.inl rfl
  | 89, j => Or.inl rfl
  | 90, j => Or.inl rfl
  | 91, j => Or.inl rfl
  | 92, j => Or.inl rfl
  | 93, j => Or.inl rfl
  | 94, j => Or.inl rfl
  | 95, j => Or.inl rfl
  | 96, j => Or.inl rfl
  | 97, j => Or.inl rfl
  | 98, j => Or.inl rfl
  | 99, j => Or.inl rfl
  | 100, j => Or.inl rfl
  | 101, j => Or.inl rfl
  | 102, j => Or.inl rfl
  | 103, j => Or.inl rfl
  | 104, j => Or.inl rfl
  | 105, j => Or.inl rfl
  | 106, j => Or.inl rfl
  | 107, j => Or.inl rfl
  | 108, j => Or.inl rfl
  | 109, j => Or.inl rfl
  | 110, j => Or.inl rfl
  | 111, j => Or.inl rfl
  | 112, j => Or.inl rfl
  | 113, j => Or.inl rfl
  | 114, j => Or.inl rfl
  | 115, j => Or.inl rfl
  | 116, j => Or.inl rfl
  | 117, j => Or.inl rfl
  | 118, j => Or.inl rfl
  | 119, j => Or.inl rfl
  | 120, j => Or.inl rfl
  | 121, j => Or.inl rfl
  | 122, j => Or.inl rfl
  | 123, j => Or.inl rfl
  | 124, j => Or.inl rfl
  | 125, j => Or.inl rfl
  | 126, j => Or.inl rfl
  | 127, j => Or.inl rfl
  | 128, j => Or.inl rfl
  | 129, j => Or.inl rfl
  | 130, j => Or.inl rfl
  | 131, j => Or.inl rfl
  | 132, j => Or.inl rfl
  | 133, j => Or.inl rfl
  | 134, j => Or.inl rfl
  | 135, j => Or.inl rfl
  | 136, j => Or.inl rfl
  | 137, j => Or.inl rfl
  | 138, j => Or.inr ⟨by decide, rfl⟩
  | 139, j => Or.inl rfl
  | 140, j => Or.inl rfl
  | 141, j => Or.inl rfl
  | 142, j => Or.inl rfl
  | 143, j => Or.inl rfl
  | 144, j => Or.inl rfl
  | 145, j => Or.inl rfl
  | 146, j => Or.inl rfl
  | 147, j => Or.inl rfl
  | 148, j => Or.inl rfl
  | 149, j => Or.inl rfl
  | 150, j => Or.inl rfl
  | 151, j => Or.inl rfl
  | 152, j => Or.inl rfl
  | 153, j => Or.inl rfl
  | 154, j => Or.inl rfl
  | 155, j => Or.inl rfl
  | 156, j => Or.inl rfl
  | 157, j => Or.inl rfl
  | 158, j => Or.inl rfl
  | 159, j => Or.inl rfl
  | 160, j => Or.inl rfl
  | 161, j => Or.inl rfl
  | 162, j => Or.inl rfl
  | 163, j => Or.inl rfl
  | 164, j => Or.inl rfl
  | 165, j => Or.inl rfl
  | 166, j => Or.inl rfl
  | 167, j => Or.inl rfl
  | 168, j => Or.inl rfl
  | 169, j => Or.inl rfl
  | 170, j => Or.inl rfl
  | 171, j => Or.inl rfl
  | 172, j => Or.inl rfl
  | 173, j => Or.inl rfl
  | 174, j => Or.inl rfl
  | 175, j => Or.inl rfl
  | 176, j => Or.inl rfl
  | 177, j => Or.inl rfl
  | 178, j => Or.inl rfl
  | 179, j => Or.inl rfl
  | i + 180, j => Or.inl (by
    have e : gF ad cA (i + 180) = .inr (0, []) := getD_out (by show 180 ≤ i + 180; omega)
    unfold arI
    rw [e])
theorem rF_0 (i k : Nat) : (rF i k).1 ≤ 0 ∧ 0 ≤ (rF i k).2 := by
  unfold rF
  cases h : rFl.find? (fun q => q.1.1 == i && q.1.2 == k) with
  | none => exact ⟨by decide, by decide⟩
  | some q => exact (by decide +kernel : ∀ q ∈ rFl, q.2.1 ≤ 0 ∧ 0 ≤ q.2.2) q (List.mem_of_find?_eq_some h)
theorem rA_0 (i : Nat) : (rA i).1 ≤ 0 ∧ 0 ≤ (rA i).2 := by
  unfold rA
  cases h : rAl.find? (fun q => q.1 == i) with
  | none => exact ⟨by decide, by decide⟩
  | some q => exact (by decide +kernel : ∀ q ∈ rAl, q.2.1 ≤ 0 ∧ 0 ≤ q.2.2) q (List.mem_of_find?_eq_some h)
theorem gF_Rng (ad : Nat → Nat) (cA : Nat → ClassId) : Rng (gF ad cA) := by
  refine ⟨fun i k _ => ?_, fun i j => ?_⟩
  · rcases fz_all ad cA i k with h | ⟨h1, h⟩
    · rw [h, kc_0]; exact rF_0 i k
    · rw [h, kc_1]
      revert h1
      have := (by decide +kernel : ∀ q ∈ ([(18, 7), (30, 7), (42, 7), (127, 3), (129, 2)] : List (Nat × Nat)), (rF q.1 q.2).1 ≤ 1 ∧ 1 ≤ (rF q.1 q.2).2)
      exact fun h1 => this (i, k) h1
  · rcases az_all ad cA i j with h | ⟨h1, h⟩
    · rw [h, kc_0]; exact rA_0 i
    · rw [h, kc_m1]
      rcases h1 with rfl | rfl
      · exact ⟨by decide, by decide⟩
      · exact ⟨by decide, by decide⟩
theorem gF_PI (ad : Nat → Nat) (cA : Nat → ClassId) : PI ad cA (gF ad cA) := by
  refine ⟨gF_shp ad cA, gF_Rng ad cA, ⟨54, 68, Or.inl ⟨rfl, rfl⟩, rfl, rfl⟩, ⟨fun l k _ hk => ?_, fun k hk => ?_, fun k hk => ?_⟩, fun j => ?_⟩
  · exact absurd hk (by rw [show arI (gF ad cA) 148 l = 0 from rfl, kc_0]; omega)
  · exact absurd hk (by rw [show arI (gF ad cA) 148 0 = 0 from rfl, kc_0]; omega)
  · exact absurd hk (by rw [show arI (gF ad cA) 148 1 = 0 from rfl, kc_0]; omega)
  · rw [show arI (gF ad cA) 130 j = 0 from rfl, kc_0]
    omega
