/-- what is fixed during a method's walk -/
abbrev KT : Type := Program × Launch × Env × Room × State × MethodId × Array Value × List Frame × Method × Code × (State → Prop) × va_G × (Nat → Prop) × Heap
/-- the goal of a walk: from here the method comes to its end -/
def XX (K : KT) (k n : Nat) (H : Heap) (locs : List Loc) (pc : Nat) (ls : Array Slot) (st : List Value) : Prop := match K with
  | (p, l, e, R, s, m, args, below, meth, c, Q, _, _, _) => W p l e R s m args below meth c H locs k n Q (F0 m pc ls st)
/-- the arrays' classes: of ints, of rows of ints, of Arts, of bytes, of booleans, of longs -/
def TY (cA : Nat → ClassId) : List (ClassId × FieldType) := [(cA 0, .int), (cA 1, .array .int), (cA 2, .object "ForgetSchool$Art"), (cA 3, .byte), (cA 4, .boolean), (cA 5, .long)]
/-- words that a callee can't take over by itself: links between nest mates -/
def NWL : List Cond := [(Cond.fieldLinkNest "ForgetSchool$Search" (35) "ForgetSchool$Course" "pupils" "LForgetSchool$Pupils;" "ForgetSchool"), (Cond.methodLinkNest "ForgetSchool$ArtReader" (55) yX11_within "ForgetSchool"), (Cond.methodLinkNest "ForgetSchool$LawReader" (98) yX11_within "ForgetSchool"), (Cond.methodLinkNest "ForgetSchool$Course" (61) yX11_has "ForgetSchool"), (Cond.methodLinkNest "ForgetSchool$Course" (147) yX11_tenths "ForgetSchool"), (Cond.methodLinkNest "ForgetSchool$Pupils" (39) yX11_has "ForgetSchool"), (Cond.methodLinkNest "ForgetSchool$Search" (79) yX11_areOf "ForgetSchool"), (Cond.methodLinkNest "ForgetSchool$Search" (59) yX11_has "ForgetSchool"), (Cond.methodLinkNest "ForgetSchool$Net" (32) yX11_areOf "ForgetSchool"), (Cond.methodLinkNest "ForgetSchool$Net" (28) yX11_has "ForgetSchool"), (Cond.methodLinkNest "ForgetSchool$Net" (47) yX11_lowestBit "ForgetSchool"), (Cond.methodLinkNest "ForgetSchool$Staff" (34) yX11_lowestBit "ForgetSchool"), (Cond.methodLinkNest "ForgetSchool$Staff" (30) yX11_has "ForgetSchool"), (Cond.methodLinkNest "ForgetSchool$Staff" (41) yX11_areOf "ForgetSchool")]
theorem NWL_kind : ∀ w ∈ NWL, (∃ a i x h, w = .methodLinkNest a i x h) ∨ (∃ a i b n d h, w = .fieldLinkNest a i b n d h) := by
  simp [NWL]
def KB (D : va_G) (cA : Nat → ClassId) (U : State) : Prop := va_K D vwCl (TY cA) U ∧ (∀ w ∈ NWL, va_Nw w U) ∧ va_AO "ForgetSchool$Art" U ∧ (Cond.arrayOver (.array .int)).before #[] U = true
theorem KB.moved {D : va_G} {cA : Nat → ClassId} {s U : State} (hW : s.WarmedH U.vm) (h : KB D cA s) : KB D cA U := by
  refine ⟨h.1.moved hW.alike, fun w hw => ?_, h.2.2.1.moved hW.alike, over_moved hW.alike h.2.2.2⟩
  rcases NWL_kind w hw with ⟨a, i, x, h9, rfl⟩ | ⟨a, i, b, n, d, h9, rfl⟩
  · exact va_Nw.warmM hW (h.2.1 _ hw)
  · exact va_Nw.warmF hW (h.2.1 _ hw)
theorem KB.calling {D : va_G} {cA : Nat → ClassId} {U : State} (a : Array Value) (g : JFrame) (mk : MethodId) (h : KB D cA U) : KB D cA (U.calling g mk a) := by
  refine ⟨va_K.moved (u := U) (U := U.calling g mk a) (Vm.Alike.refl U.vm) h.1, fun w hw => ?_, va_AO.moved (u := U) (U := U.calling g mk a) (Vm.Alike.refl U.vm) h.2.2.1, over_moved (u := U) (E := U.calling g mk a) (Vm.Alike.refl U.vm) h.2.2.2⟩
  rcases NWL_kind w hw with ⟨a, i, x, h9, rfl⟩ | ⟨a, i, b, n, d, h9, rfl⟩
  · exact va_Nw.same rfl rfl (h.2.1 _ hw)
  · exact va_Nw.same rfl rfl (h.2.1 _ hw)
/-- what holds all through a method: machine, code, words, tables -/
def MB (K : KT) (cA : Nat → ClassId) (cc : ByteArray) (nL : Nat) (own : String) : Prop := match K with
  | (p, _, _, _, s, m, args, _, meth, c, _, D, A, H0) => (p.tables.exec = Jvm.exec ∧ c.code = cc ∧ c.maxLocals = nL ∧ s.vm.findClass own = some m.cls ∧ ∀ w ∈ AW, w.before args s = true) ∧ KB D cA s ∧ meth.locks = false ∧ ∀ q, H0.size ≤ q → A q
/-- the world as a list of cells -/
def WL (K : KT) (ws : va_W) (H : Heap) (locs : List Loc) : Prop := match K with
  | (_, _, _, _, _, _, _, _, _, _, _, D, A, H0) => va_P D vwCl ws H ∧ va_D A ws ∧ va_S A H0 H locs
/-- cells: an object of n fields; arrays of ints (also bytes, booleans), of references, of longs -/
def ob (ci n : Nat) (fv : Nat → Value) : va_E := .inr (ci, (List.range n).map fv)
def ia (c : ClassId) (n : Nat) (f : Nat → Int32) : va_E := .inl (c, n, .inl f)
def qa (c : ClassId) (n : Nat) (f : Nat → Option Nat) : va_E := .inl (c, n, .inr (.inr (.inr (.inr f))))
def ja (c : ClassId) (n : Nat) (f : Nat → Int64) : va_E := .inl (c, n, .inr (.inl f))
def wd (N : Nat) (ad : Nat → Nat) (g : Nat → va_E) : va_W := (List.range N).map (fun i => (ad i, g i))
theorem wd_get {N i : Nat} {ad : Nat → Nat} {g : Nat → va_E} (h : i < N) : (wd N ad g)[i]? = some (ad i, g i) := by
  unfold wd
  rw [List.getElem?_map, List.getElem?_range h]
  rfl
theorem map_set {α : Type} (f : Nat → α) (N i : Nat) (v : α) : ((List.range N).map f).set i v = (List.range N).map (fun j => if j = i then v else f j) := by
  apply List.ext_getElem?
  intro j
  rw [List.getElem?_set, List.getElem?_map, List.getElem?_map, List.length_map, List.length_range]
  by_cases hj : j < N
  · rw [List.getElem?_range hj]
    by_cases e : i = j
    · subst e; simp [hj]
    · simp [e, Ne.symm e]
  · rw [List.getElem?_eq_none (by rw [List.length_range]; omega)]
    by_cases e : i = j
    · subst e; simp [hj]
    · simp [e]
theorem wd_set {N i : Nat} {ad : Nat → Nat} {g : Nat → va_E} (c : va_E) : (wd N ad g).set i (ad i, c) = wd N ad (va_up g i c) := by
  unfold wd
  rw [map_set]
  congr 1
  funext j
  by_cases e : j = i
  · subst e; simp [va_up]
  · simp [va_up, e]
theorem ob_get {n k : Nat} {fv : Nat → Value} (h : k < n) : ((List.range n).map fv)[k]? = some (fv k) := by
  rw [List.getElem?_map, List.getElem?_range h]
  rfl
/-- what stands in a field, in a row -/
def fld (g : Nat → va_E) (i k : Nat) : Value := match g i with
  | .inr (_, fs) => fs.getD k .null
  | .inl _ => .null
def fI (g : Nat → va_E) (i k : Nat) : Int32 := match fld g i k with
  | .int x => x
  | _ => 0
def arI (g : Nat → va_E) (i : Nat) : Nat → Int32 := match g i with
  | .inl (_, _, .inl f) => f
  | _ => fun _ => 0
def arQ (g : Nat → va_E) (i : Nat) : Nat → Option Nat := match g i with
  | .inl (_, _, .inr (.inr (.inr (.inr f)))) => f
  | _ => fun _ => none
def arJ (g : Nat → va_E) (i : Nat) : Nat → Int64 := match g i with
  | .inl (_, _, .inr (.inl f)) => f
  | _ => fun _ => 0
/-- writes -/
def stF (g : Nat → va_E) (i k : Nat) (v : Value) : Nat → va_E := va_up g i (match g i with
  | .inr (ci, fs) => .inr (ci, fs.set k v)
  | e => e)
def stA (g : Nat → va_E) (i j : Nat) (x : Int32) : Nat → va_E := va_up g i (match g i with
  | .inl (c, n, .inl f) => .inl (c, n, .inl (upd f j x))
  | e => e)
def stJ (g : Nat → va_E) (i j : Nat) (x : Int64) : Nat → va_E := va_up g i (match g i with
  | .inl (c, n, .inr (.inl f)) => .inl (c, n, .inr (.inl (vp_updL f j x)))
  | e => e)
theorem stF_ne {g : Nat → va_E} {i k j : Nat} {v : Value} (h : j ≠ i) : stF g i k v j = g j := va_up_ne _ _ h
theorem stA_ne {g : Nat → va_E} {i k j : Nat} {v : Int32} (h : j ≠ i) : stA g i k v j = g j := va_up_ne _ _ h
theorem stJ_ne {g : Nat → va_E} {i k j : Nat} {v : Int64} (h : j ≠ i) : stJ g i k v j = g j := va_up_ne _ _ h
theorem fld_eq {g g' : Nat → va_E} {i : Nat} (h : g' i = g i) (k : Nat) : fld g' i k = fld g i k := by unfold fld; rw [h]
theorem fI_eq {g g' : Nat → va_E} {i : Nat} (h : g' i = g i) (k : Nat) : fI g' i k = fI g i k := by unfold fI; rw [fld_eq h]
theorem arI_eq {g g' : Nat → va_E} {i : Nat} (h : g' i = g i) : arI g' i = arI g i := by unfold arI; rw [h]
theorem arQ_eq {g g' : Nat → va_E} {i : Nat} (h : g' i = g i) : arQ g' i = arQ g i := by unfold arQ; rw [h]
theorem arJ_eq {g g' : Nat → va_E} {i : Nat} (h : g' i = g i) : arJ g' i = arJ g i := by unfold arJ; rw [h]
theorem fld_stk {g : Nat → va_E} {i k k' : Nat} {v : Value} (h : k' ≠ k) : fld (stF g i k v) i k' = fld g i k' := by
  unfold fld stF
  rw [va_up_self]
  cases g i with
  | inl a => rfl
  | inr a =>
    obtain ⟨ci, fs⟩ := a
    simp [List.getD, List.getElem?_set, Ne.symm h]
theorem fld_st {g : Nat → va_E} {i ci n k : Nat} {v : Value} {fv : Nat → Value} (hg : g i = ob ci n fv) (h : k < n) : fld (stF g i k v) i k = v := by
  unfold fld stF
  rw [va_up_self, hg]
  simp [ob, List.getD, List.getElem?_set, h]
theorem fld_stA {g : Nat → va_E} {i j i' k : Nat} {x : Int32} : fld (stA g i j x) i' k = fld g i' k := by
  unfold fld stA
  by_cases e : i' = i
  · subst e
    rw [va_up_self]
    cases g i' with
    | inr a => rfl
    | inl a =>
      obtain ⟨c, n, f | f⟩ := a <;> rfl
  · rw [va_up_ne _ _ e]
theorem fld_stJ {g : Nat → va_E} {i j i' k : Nat} {x : Int64} : fld (stJ g i j x) i' k = fld g i' k := by
  unfold fld stJ
  by_cases e : i' = i
  · subst e
    rw [va_up_self]
    cases g i' with
    | inr a => rfl
    | inl a =>
      obtain ⟨c, n, f | f | f⟩ := a <;> rfl
  · rw [va_up_ne _ _ e]
theorem arI_stF {g : Nat → va_E} {i k i' : Nat} {v : Value} : arI (stF g i k v) i' = arI g i' := by
  unfold arI stF
  by_cases e : i' = i
  · subst e
    rw [va_up_self]
    cases g i' with
    | inr a => rfl
    | inl a => rfl
  · rw [va_up_ne _ _ e]
theorem arI_st {g : Nat → va_E} {i j : Nat} {x : Int32} {c : ClassId} {n : Nat} {f : Nat → Int32} (hg : g i = ia c n f) : arI (stA g i j x) i = upd (arI g i) j x := by
  unfold arI stA
  rw [va_up_self, hg]
  rfl
theorem ob_fld {g : Nat → va_E} {i ci n : Nat} {fv : Nat → Value} (hg : g i = ob ci n fv) : g i = ob ci n (fld g i) := by
  have : (List.range n).map fv = (List.range n).map (fld g i) := by
    apply List.map_congr_left
    intro k hk
    unfold fld
    rw [hg]
    simp [ob, List.getD, List.mem_range.mp hk]
  rw [show ob ci n (fld g i) = .inr (ci, (List.range n).map (fld g i)) from rfl, ← this, hg]
  rfl
theorem ia_arI {g : Nat → va_E} {i n : Nat} {c : ClassId} {f : Nat → Int32} (hg : g i = ia c n f) : g i = ia c n (arI g i) := by
  unfold arI; rw [hg]; rfl
theorem qa_arQ {g : Nat → va_E} {i n : Nat} {c : ClassId} {f : Nat → Option Nat} (hg : g i = qa c n f) : g i = qa c n (arQ g i) := by
  unfold arQ; rw [hg]; rfl
theorem ja_arJ {g : Nat → va_E} {i n : Nat} {c : ClassId} {f : Nat → Int64} (hg : g i = ja c n f) : g i = ja c n (arJ g i) := by
  unfold arJ; rw [hg]; rfl
