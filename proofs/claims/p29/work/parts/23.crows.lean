/-- what the tables say of arrays over arrays -/
def va_AOA (t : FieldType) (U : State) : Prop := (Cond.arrayOver (.array t)).before #[] U = true
theorem va_AOA.use {t : FieldType} {A : Array Value} {U : State} (h : va_AOA t U) : (Cond.arrayOver (.array t)).before A U = true := h
/-! ===== BEGIN new T[n][m]: the outer array a place, the inner ones among the pooled ===== -/
/-- f, but v at every address of l -/
def vr_up {α : Type} (f : Nat → α) (l : List Nat) (v : α) : Nat → α := fun a => if a ∈ l then v else f a
theorem vr_up_in {α : Type} {f : Nat → α} {l : List Nat} {v : α} {a : Nat} (h : a ∈ l) : vr_up f l v a = v := if_pos h
theorem vr_up_ne {α : Type} {f : Nat → α} {l : List Nat} {v : α} {a : Nat} (h : a ∉ l) : vr_up f l v a = f a := if_neg h
theorem vr_rows {L l : List Nat} {f : Nat → va_E} {e : va_E} (h : ∀ a, a ∈ l → a ∉ L) : va_pl L f ++ l.map (fun a => (a, e)) = va_pl (L ++ l) (vr_up f l e) := by
  unfold va_pl
  rw [List.map_append]
  congr 1
  · apply List.map_congr_left
    intro a ha
    rw [vr_up_ne (fun q => h a q ha)]
  · apply List.map_congr_left
    intro a ha
    rw [vr_up_in ha]
theorem vr_lay {X rows : va_W} {x : Nat × va_E} {pl : va_W} {D : va_G} {cl : List vw_C} {H : Heap} (hP : va_P D cl (((X ++ pl) ++ [x]) ++ rows) H) : va_P D cl ((X ++ [x]) ++ (pl ++ rows)) H := by
  rw [List.append_assoc (X ++ pl)] at hP
  have h := va_P.swap hP
  rw [← List.append_assoc X] at h
  have h2 := va_P.swap h
  rw [List.append_assoc (X ++ [x])] at h2
  exact h2
theorem vr_layD {X rows : va_W} {x : Nat × va_E} {pl : va_W} {A : Nat → Prop} (hD : va_D A (((X ++ pl) ++ [x]) ++ rows)) : va_D A ((X ++ [x]) ++ (pl ++ rows)) := by
  rw [List.append_assoc (X ++ pl)] at hD
  have h := va_D.swap hD
  rw [← List.append_assoc X] at h
  have h2 := va_D.swap h
  rw [List.append_assoc (X ++ [x])] at h2
  exact h2
theorem vr_outer (c : ClassId) (N h0 : Nat) : ∀ i : Nat, Jvm.Free.Multi.outerC c N h0 i = arrV c N (fun j => va_rf (if j < i then some (h0 + 1 + j) else none))
  | 0 => by
    show ({ cls := c, slots := Array.replicate N .null, vm := .none } : Cell) = _
    rw [arrV_new]
    refine congrArg (arrV c N) (funext fun j => ?_)
    simp [va_rf]
  | i + 1 => by
    show (Jvm.Free.Multi.outerC c N h0 i).setSlot i (.ref (h0 + 1 + i)) = _
    rw [vr_outer c N h0 i, arrV_store]
    refine congrArg (arrV c N) (funext fun j => ?_)
    by_cases e : j = i
    · subst e
      simp [updV, va_rf]
    · by_cases h : j < i
      · simp [updV, e, h, Nat.lt_succ_of_lt h]
      · simp [updV, e, h, show ¬ j < i + 1 by omega]
section VGM
variable {p : Program} {l : Launch} {e : Env} {R : Room} {s : State} {m : MethodId} {args : Array Value} {below : List Frame} {meth : Method} {c : Code} {H : Heap} {locs : List Loc} {cells slots : Nat} {Q : State → Prop}
variable {cc : ByteArray} {pc : Nat} {ls : Array Slot} {rest : List Value} {D : va_G} {cl : List vw_C} {A : Nat → Prop} {a : Nat} {tys : List (ClassId × FieldType)} {ws : va_W} {H0 : Heap}
theorem va_mna {X : va_W} {L : List Nat} {f : Nat → va_E} {cc : ByteArray} (hexec : p.tables.exec = Jvm.exec) (hb : c.code = cc) {own : String} {index : Nat} {ty : FieldType} {cy : ClassId} (hown : s.vm.findClass own = some m.cls) (hclink : (Cond.classLink own index ("[" ++ (FieldType.array ty).toString)).before args s = true) (hover : va_AOA ty s) (harr : (Cond.arrayClass ty).before args s = true) (hcy : s.vm.findClass (FieldType.array ty).toString = some cy)
    (hK : va_K D cl tys s) (hP : va_P D cl (X ++ va_pl L f) H) (hD : va_D A (X ++ va_pl L f)) (hS : va_S A H0 H locs) (hA : ∀ q, H0.size ≤ q → A q) {n k : Int32} {N' K' : Nat} {z : vp_A} (hn : ¬ n < 0) (hk : ¬ k < 0) (hN : n.toNatClampNeg = N') (hM : k.toNatClampNeg = K')
    (hb1 : N' * 4 ≤ 536870912) (hb2 : K' * componentBytes ty ≤ 536870912) (hb3 : K' ≤ 536870912) (hdf : fits ty (defaultValue ty) = true) (hdd : (defaultValue ty).isDefault = true) (hcells : cells + (1 + N') ≤ R.cells) (hslots : slots + (N' + N' * K') ≤ R.slots) (hz : ∀ c : ClassId, Jvm.Free.Multi.innerC c K' (defaultValue ty) = vp_cell c z) (hdg : decode cc pc = .ok (.multianewarray index 2, 4))
    (kk : ∀ (q : Nat) (r : Nat → Nat) (cA : ClassId) (H1 : Heap), (∀ i j : Nat, i < N' → j < N' → r i = r j → i = j) → (∀ i : Nat, i < N' → r i ∉ L) → va_K D cl (tys ++ [(cA, .array ty)]) s →
      va_P D cl ((X ++ [(q, .inl (cA, N', .inr (.inr (.inr (.inr (fun i => if i < N' then some (r i) else none))))))]) ++ va_pl (L ++ (List.range N').map r) (vr_up f ((List.range N').map r) (.inl (cy, z)))) H1 → va_D A ((X ++ [(q, .inl (cA, N', .inr (.inr (.inr (.inr (fun i => if i < N' then some (r i) else none))))))]) ++ va_pl (L ++ (List.range N').map r) (vr_up f ((List.range N').map r) (.inl (cy, z)))) → va_S A H0 H1 locs →
      W p l e R s m args below meth c H1 locs (cells + 1 + N') (slots + N' + N' * K') Q (F0 m (pc + 4) ls (.ref q :: rest))) : W p l e R s m args below meth c H locs cells slots Q (F0 m pc ls (.int k :: .int n :: rest)) := by
  subst hN
  subst hM
  intro T hT Xs
  obtain ⟨vm₁, cA, comp, -, fA, fC, hO, -, X', step⟩ := Xs.multianewarray2F hexec hown hclink (va_AOA.use hover) harr (g := F0 m pc ls (.int k :: .int n :: rest)) rfl (by rw [hb]; exact hdg) rfl hn hk hb1 hb2 hb3 hdf hdd hcells hslots
  have ec : some cy = some comp := hcy.symm.trans fC
  cases ec
  generalize hF : Jvm.Free.Multi.fill (T.setVm vm₁) cA cy n.toNatClampNeg k.toNatClampNeg (defaultValue ty) n.toNatClampNeg = F at X' step
  have hTh : (T.setVm vm₁).heap = H := hT
  obtain ⟨f1, f2, -, -⟩ := Jvm.Free.Multi.fill_facts (T.setVm vm₁) cA cy n.toNatClampNeg k.toNatClampNeg (defaultValue ty) n.toNatClampNeg
  rw [hF, hTh] at f1 f2
  have hold : ∀ x : Nat, x < H.size → F.heap[x]? = H[x]? := fun x hx => by
    have := Jvm.Free.Multi.fill_old (T.setVm vm₁) cA cy n.toNatClampNeg k.toNatClampNeg (defaultValue ty) (a := x) (by rw [hTh]; exact hx) n.toNatClampNeg
    rw [hF, hTh] at this
    exact this
  have hrow : ∀ j : Nat, j < n.toNatClampNeg → F.heap[H.size + 1 + j]? = some (vp_cell cy z) := fun j hj => by
    have := Jvm.Free.Multi.fill_inner (T.setVm vm₁) cA cy n.toNatClampNeg k.toNatClampNeg (defaultValue ty) n.toNatClampNeg j hj
    rw [hF, hTh, hz] at this
    exact this
  have hout : Jvm.Free.Multi.outerC cA n.toNatClampNeg H.size n.toNatClampNeg = vp_cell cA (n.toNatClampNeg, .inr (.inr (.inr (.inr (fun i => if i < n.toNatClampNeg then some (H.size + 1 + i) else none))))) := by
    rw [vp_cell_q]
    exact vr_outer cA n.toNatClampNeg H.size n.toNatClampNeg
  rw [hout] at f2
  have hlt : ∀ a, a ∈ L → a < H.size := fun a ha => by
    obtain ⟨k9, hk9⟩ := va_pl_get (X := X) (f := f) ha
    exact (hP k9 _ hk9).lt
  have hnl : ∀ i : Nat, i < n.toNatClampNeg → H.size + 1 + i ∉ L := fun i _ h => by
    have := hlt _ h
    omega
  have hnm : ∀ a, a ∈ (List.range n.toNatClampNeg).map (fun i => H.size + 1 + i) → a ∉ L := fun a ha h => by
    obtain ⟨i, -, rfl⟩ := List.mem_map.mp ha
    have := hlt _ h
    omega
  have hP0 : va_P D cl (X ++ va_pl L f) F.heap := hP.kept (fun k9 x hx => hold x.1 ((hP k9 x hx).lt))
  have hP1 : va_P D cl ((X ++ va_pl L f) ++ [(H.size, .inl (cA, n.toNatClampNeg, .inr (.inr (.inr (.inr (fun i => if i < n.toNatClampNeg then some (H.size + 1 + i) else none))))))]) F.heap := hP0.app (fun k9 x hx => by
    have h0 : k9 < 1 := (List.getElem?_eq_some_iff.mp hx).1
    rw [show k9 = 0 by omega] at hx
    cases hx
    exact f2)
  have hP2 : va_P D cl (((X ++ va_pl L f) ++ [(H.size, .inl (cA, n.toNatClampNeg, .inr (.inr (.inr (.inr (fun i => if i < n.toNatClampNeg then some (H.size + 1 + i) else none))))))]) ++ ((List.range n.toNatClampNeg).map (fun i => H.size + 1 + i)).map (fun a => (a, .inl (cy, z)))) F.heap := hP1.app (fun k9 x hx => by
    obtain ⟨a, ha, rfl⟩ := List.mem_map.mp (List.mem_of_getElem? hx)
    obtain ⟨i, hi, rfl⟩ := List.mem_map.mp ha
    exact hrow i (List.mem_range.mp hi))
  have hD2 : va_D A (((X ++ va_pl L f) ++ [(H.size, .inl (cA, n.toNatClampNeg, .inr (.inr (.inr (.inr (fun i => if i < n.toNatClampNeg then some (H.size + 1 + i) else none))))))]) ++ ((List.range n.toNatClampNeg).map (fun i => H.size + 1 + i)).map (fun a => (a, .inl (cy, z)))) := by
    have hD1 := hD.push (e := .inl (cA, n.toNatClampNeg, .inr (.inr (.inr (.inr (fun i => if i < n.toNatClampNeg then some (H.size + 1 + i) else none)))))) hP rfl (hA _ hS.1)
    generalize hW1 : (X ++ va_pl L f) ++ [(H.size, .inl (cA, n.toNatClampNeg, .inr (.inr (.inr (.inr (fun i => if i < n.toNatClampNeg then some (H.size + 1 + i) else none))))))] = W1 at hD1 hP1 ⊢
    have hle : ∀ (k9 : Nat) (x : Nat × va_E), W1[k9]? = some x → x.1 ≤ H.size := fun k9 x hx => by
      rw [← hW1] at hx
      by_cases hl : k9 < (X ++ va_pl L f).length
      · rw [List.getElem?_append_left hl] at hx
        exact Nat.le_of_lt ((hP k9 x hx).lt)
      · rw [List.getElem?_append_right (by omega)] at hx
        have h0 : k9 - (X ++ va_pl L f).length < 1 := (List.getElem?_eq_some_iff.mp hx).1
        rw [show k9 - (X ++ va_pl L f).length = 0 by omega] at hx
        cases hx
        exact Nat.le_refl _
    have hr : ∀ (k9 : Nat) (x : Nat × va_E), (((List.range n.toNatClampNeg).map (fun i => H.size + 1 + i)).map (fun a => ((a, .inl (cy, z)) : Nat × va_E)))[k9]? = some x → x.1 = H.size + 1 + k9 := fun k9 x hx => by
      rw [List.getElem?_map, List.getElem?_map] at hx
      by_cases h9 : k9 < n.toNatClampNeg
      · rw [List.getElem?_range h9] at hx
        cases hx
        rfl
      · have hn0 : (List.range n.toNatClampNeg)[k9]? = none := List.getElem?_eq_none (by rw [List.length_range]; omega)
        rw [hn0] at hx
        cases hx
    refine ⟨fun i j x y hi hj hxy => ?_, fun k9 x hx => ?_⟩
    · by_cases h1 : i < W1.length <;> by_cases h2 : j < W1.length
      · rw [List.getElem?_append_left h1] at hi
        rw [List.getElem?_append_left h2] at hj
        exact hD1.1 i j x y hi hj hxy
      · rw [List.getElem?_append_left h1] at hi
        rw [List.getElem?_append_right (by omega)] at hj
        have := hle _ _ hi
        have := hr _ _ hj
        omega
      · rw [List.getElem?_append_right (by omega)] at hi
        rw [List.getElem?_append_left h2] at hj
        have := hle _ _ hj
        have := hr _ _ hi
        omega
      · rw [List.getElem?_append_right (by omega)] at hi hj
        have := hr _ _ hi
        have := hr _ _ hj
        omega
    · by_cases h1 : k9 < W1.length
      · rw [List.getElem?_append_left h1] at hx
        exact hD1.2 k9 x hx
      · rw [List.getElem?_append_right (by omega)] at hx
        have := hr _ _ hx
        exact hA _ (by have := hS.1; omega)
  have hAr : ArrOfT s cA (.array ty) := fun N9 z9 => by
    obtain ⟨-, k9, hk9, cm9, hkk9⟩ := (hO 0 0 0).1
    exact ⟨(fun q hq => by cases hq), k9, hk9, cm9, hkk9⟩
  have hK2 : va_K D cl (tys ++ [(cA, .array ty)]) s := ⟨hK.1, fun k9 x hx => by
    by_cases hl : k9 < tys.length
    · rw [List.getElem?_append_left hl] at hx
      exact hK.2 k9 x hx
    · rw [List.getElem?_append_right (by omega)] at hx
      have h0 : k9 - tys.length < 1 := (List.getElem?_eq_some_iff.mp hx).1
      rw [show k9 - tys.length = 0 by omega] at hx
      cases hx
      exact ⟨hAr, fA⟩⟩
  obtain ⟨t, a1, b1⟩ := kk H.size (fun i => H.size + 1 + i) cA F.heap (fun i j _ _ h => by have h9 : H.size + 1 + i = H.size + 1 + j := h; omega) hnl hK2 (by rw [← vr_rows hnm]; exact vr_lay hP2) (by rw [← vr_rows hnm]; exact vr_layD hD2) ⟨by rw [f1]; have := hS.1; omega, fun x h1 h2 => (hold x (Nat.lt_of_lt_of_le h1 hS.1)).trans (hS.2.1 x h1 h2), hS.2.2⟩ F rfl X'
  refine ⟨t, step t ?_, b1⟩
  have e : T.heap.size = H.size := by rw [hT]
  rw [e]
  exact a1
end VGM
/-! ===== END ===== -/
section CR
variable {K : KT} {cA : Nat → ClassId} {cc : ByteArray} {nL : Nat} {own : String} {k n : Nat} {H : Heap} {locs : List Loc} {pc : Nat} {ls : Array Slot} {rest : List Value} {ws : va_W}
theorem l_get {q0 a ci nf kf index : Nat} {fs : List Value} {v : Value} (hM : MB K cA cc nL own) (hW : WL K ws H locs) (F : FG own index ci nf kf) (he : ws[q0]? = some (a, .inr (ci, fs))) (hv : fs[kf]? = some v) (hd : decode cc pc = .ok (.getfield index, 3))
    (kk : XX K k n H locs (pc + 3) ls (v :: rest)) : XX K k n H locs pc ls (.ref a :: rest) := by
  obtain ⟨p, l, e, R, s, m, args, below, meth, c, Q, D, A, H0⟩ := K
  obtain ⟨⟨hx, hb, hml, hown, hts⟩, ⟨hK, -⟩, -⟩ := hM
  obtain ⟨hP, hD, hS⟩ := hW
  obtain ⟨C, T, h1, h2, h3, h4, h5⟩ := F
  subst h5
  exact va_get (D := D) (ci := ci) hx hb hts h2 hown hK hP q0 he h1 kf h3 (hts _ h4) (fun _ h9 => h9) hv hd kk
theorem l_put {q0 a ci nf kf index : Nat} {fs : List Value} {v : Value} {ty : FieldType} (hM : MB K cA cc nL own) (hW : WL K ws H locs) (F : FP own index ci nf kf ty) (he : ws[q0]? = some (a, .inr (ci, fs))) (hn : narrow ty v = v) (hfit : fits ty v = true) (hl9 : kf < fs.length) (hd : decode cc pc = .ok (.putfield index, 3))
    (kk : ∀ H locs, WL K (ws.set q0 (a, .inr (ci, fs.set kf v))) H locs → XX K k n H locs (pc + 3) ls rest) : XX K k n H locs pc ls (v :: .ref a :: rest) := by
  obtain ⟨p, l, e, R, s, m, args, below, meth, c, Q, D, A, H0⟩ := K
  obtain ⟨⟨hx, hb, hml, hown, hts⟩, ⟨hK, -⟩, -⟩ := hM
  obtain ⟨hP, hD, hS⟩ := hW
  obtain ⟨C, T, ty0, h1, h2, h3, h4, h5, h6, h7, h8, h9⟩ := F
  subst h5
  exact va_put (D := D) (ci := ci) hx hb hts h2 ty0 h6 h7 hown hK hP hD hS q0 he h1 kf h3 (hts _ h4) (fun _ h => h) h9 h8 hn hfit hl9 hd (fun H1 locs1 a1 a2 a3 => kk H1 locs1 ⟨a1, a2, a3⟩)
/-- a final field, in its own constructor -/
def FF (own : String) (index ci n k : Nat) (ty : FieldType) : Prop := ∃ (C : String) (T : u_T) (ty0 : Nat → FieldType), vwCl[ci]? = some (C, T, n) ∧ (∀ w ∈ u_ws C T n, w ∈ AW) ∧ k < n ∧ Cond.fieldLink own index C (T k).2.1 (T k).2.2.1 ∈ AW ∧ (T k).1 = C ∧ (∀ k, k < n → parseFieldDescriptor (T k).2.2.1 = some (ty0 k)) ∧ (∀ a, a < n → ∀ b, b < n → a ≠ b → (T a).2.1 ≠ (T b).2.1) ∧ parseFieldDescriptor (T k).2.2.1 = some ty ∧ (T k).2.2.2 = true ∧ own = C
def IsInit (K : KT) : Prop := match K with
  | (_, _, _, _, _, _, _, _, meth, _, _, _, _, _) => meth.name = "<init>"
theorem l_putf {q0 a ci nf kf index : Nat} {fs : List Value} {v : Value} {ty : FieldType} (hM : MB K cA cc nL own) (hW : WL K ws H locs) (hI : IsInit K) (F : FF own index ci nf kf ty) (he : ws[q0]? = some (a, .inr (ci, fs))) (hn : narrow ty v = v) (hfit : fits ty v = true) (hl9 : kf < fs.length) (hd : decode cc pc = .ok (.putfield index, 3))
    (kk : ∀ H locs, WL K (ws.set q0 (a, .inr (ci, fs.set kf v))) H locs → XX K k n H locs (pc + 3) ls rest) : XX K k n H locs pc ls (v :: .ref a :: rest) := by
  obtain ⟨p, l, e, R, s, m, args, below, meth, c, Q, D, A, H0⟩ := K
  obtain ⟨⟨hx, hb, hml, hown, hts⟩, ⟨hK, -⟩, -⟩ := hM
  obtain ⟨hP, hD, hS⟩ := hW
  obtain ⟨C, T, ty0, h1, h2, h3, h4, h5, h6, h7, h8, h9, h10⟩ := F
  subst h5
  exact va_putF (D := D) (ci := ci) hx hb hts h2 ty0 h6 h7 hown hK hP hD hS q0 he h1 kf h3 (hts _ h4) (fun _ h => h) h9 hI h10.symm h8 hn hfit hl9 hd (fun H1 locs1 a1 a2 a3 => kk H1 locs1 ⟨a1, a2, a3⟩)
theorem l_obj {a f lo idx : Nat} (hM : MB K cA cc nL own) (hR : HasRoom K f lo) (hf : 1 ≤ f ∧ 12 ≤ lo) (h1 : Cond.methodLink own idx Lib.objectInit ∈ AW) (h2 : Cond.instanceMethod Lib.objectInit ∈ AW) (h3 : Cond.code Lib.objectInit ⟨#[0xb1]⟩ 1 none ∈ AW) (hLs : ls.size = nL) (hd : decode cc pc = .ok (.invokespecial idx, 3))
    (kk : XX K k n H locs (pc + 3) ls []) : XX K k n H locs pc ls [.ref a] := by
  obtain ⟨p, l, e, R, s, m, args, below, meth, c, Q, D, A, H0⟩ := K
  obtain ⟨⟨hx, hb, hml, hown, hts⟩, ⟨hK, -⟩, -⟩ := hM
  exact W.objInit hx hb hown (hts _ h1) (hts _ h2) (hts _ h3) rfl (by rw [hml]; exact hLs) rfl hd (Nat.le_trans hf.1 hR.1) (Nat.le_trans hf.2 hR.2) kk
theorem l_new {ci index : Nat} {C : String} {T : u_T} {N : Nat} {fs : List Value} {ty : Nat → FieldType} (hM : MB K cA cc nL own) (hW : WL K ws H locs) (hC : Cells K (k + 1) (n + N)) (hc : vwCl[ci]? = some (C, T, N)) (h2 : ∀ w ∈ u_ws C T N, w ∈ AW) (hty : ∀ k, k < N → parseFieldDescriptor (T k).2.2.1 = some (ty k)) (h3 : Cond.classLink own index C ∈ AW) (h4 : Cond.instantiable C N ∈ AW) (h5 : Cond.initialized C ∈ AW) (hfs : ∀ j, j < N → defaultValue (ty j) = vp_V fs j) (hd : decode cc pc = .ok (.new index, 3))
    (kk : ∀ (q : Nat) (H : Heap), WL K (ws ++ [(q, .inr (ci, fs))]) H locs → XX K (k + 1) (n + N) H locs (pc + 3) ls (.ref q :: rest)) : XX K k n H locs pc ls rest := by
  obtain ⟨p, l, e, R, s, m, args, below, meth, c, Q, D, A, H0⟩ := K
  obtain ⟨⟨hx, hb, hml, hown, hts⟩, ⟨hK, -⟩, -, hA⟩ := hM
  obtain ⟨hP, hD, hS⟩ := hW
  exact va_new (D := D) (ci := ci) (fs := fs) hx hb hts h2 ty hty hown (hts _ h3) (hts _ h4) (hts _ h5) hK hP hD hS hA hc hfs hC.1 hC.2 hd (fun q H1 a1 a2 a3 => kk q H1 ⟨a1, a2, a3⟩)
theorem K_same {D : va_G} {s : State} {c1 c2 : ClassId} {t : FieldType} {T1 : List (ClassId × FieldType)} {i j : Nat} (ho : ∀ C, t ≠ .object C) (hK : va_K D vwCl T1 s) (h1 : T1[i]? = some (c1, t)) (h2 : T1[j]? = some (c2, t)) : c1 = c2 := by
  have a1 := (hK.2 i _ h1).2
  have a2 := (hK.2 j _ h2).2
  cases t <;> first | exact Option.some.inj (a1.symm.trans a2) | exact absurd rfl (ho _)
theorem K_sameO {D : va_G} {s : State} {c1 c2 : ClassId} {C : String} {T1 : List (ClassId × FieldType)} {i j : Nat} (hK : va_K D vwCl T1 s) (h1 : T1[i]? = some (c1, .object C)) (h2 : T1[j]? = some (c2, .object C)) : c1 = c2 := by
  obtain ⟨_, _, _, _, _, a1⟩ := (hK.2 i _ h1).2
  obtain ⟨_, _, _, _, _, a2⟩ := (hK.2 j _ h2).2
  exact Option.some.inj (a1.symm.trans a2)
theorem l_newI {x : Int32} {N' : Nat} (hM : MB K cA cc nL own) (hW : WL K ws H locs) (hC : Cells K (k + 1) (n + N')) (h3 : Cond.arrayClass .int ∈ AW) (hn : ¬ x < 0) (hN : x.toNatClampNeg = N') (hb9 : N' ≤ 100000) (hd : decode cc pc = .ok (.newarray .int, 2))
    (kk : ∀ (q : Nat) (H : Heap), WL K (ws ++ [(q, ia (cA 0) N' (fun _ => 0))]) H locs → XX K (k + 1) (n + N') H locs (pc + 2) ls (.ref q :: rest)) : XX K k n H locs pc ls (.int x :: rest) := by
  obtain ⟨p, l, e, R, s, m, args, below, meth, c, Q, D, A, H0⟩ := K
  obtain ⟨⟨hx, hb, hml, hown, hts⟩, ⟨hK, -⟩, -, hA⟩ := hM
  obtain ⟨hP, hD, hS⟩ := hW
  refine va_newa (atype := .int) (ty := .int) (a0 := (N', .inl (fun _ => 0))) hx hb (hts _ h3) rfl hK hP hD hS hA (fun c9 => vp_cell_i c9 N' _) hn hN (by show N' * 4 ≤ _; omega) hC.1 hC.2 hd (fun q c9 H1 hK1 a1 a2 a3 => ?_)
  have e : c9 = cA 0 := K_same (i := 6) (j := 0) (fun _ h => by cases h) hK1 rfl rfl
  subst e
  exact kk q H1 ⟨a1, a2, a3⟩
theorem l_newB {x : Int32} {N' : Nat} (hM : MB K cA cc nL own) (hW : WL K ws H locs) (hC : Cells K (k + 1) (n + N')) (h3 : Cond.arrayClass .byte ∈ AW) (hn : ¬ x < 0) (hN : x.toNatClampNeg = N') (hb9 : N' ≤ 100000) (hd : decode cc pc = .ok (.newarray .byte, 2))
    (kk : ∀ (q : Nat) (H : Heap), WL K (ws ++ [(q, ia (cA 3) N' (fun _ => 0))]) H locs → XX K (k + 1) (n + N') H locs (pc + 2) ls (.ref q :: rest)) : XX K k n H locs pc ls (.int x :: rest) := by
  obtain ⟨p, l, e, R, s, m, args, below, meth, c, Q, D, A, H0⟩ := K
  obtain ⟨⟨hx, hb, hml, hown, hts⟩, ⟨hK, -⟩, -, hA⟩ := hM
  obtain ⟨hP, hD, hS⟩ := hW
  refine va_newa (atype := .byte) (ty := .byte) (a0 := (N', .inl (fun _ => 0))) hx hb (hts _ h3) rfl hK hP hD hS hA (fun c9 => vp_cell_i c9 N' _) hn hN (by show N' * 1 ≤ _; omega) hC.1 hC.2 hd (fun q c9 H1 hK1 a1 a2 a3 => ?_)
  have e : c9 = cA 3 := K_same (i := 6) (j := 3) (fun _ h => by cases h) hK1 rfl rfl
  subst e
  exact kk q H1 ⟨a1, a2, a3⟩
theorem l_newZ {x : Int32} {N' : Nat} (hM : MB K cA cc nL own) (hW : WL K ws H locs) (hC : Cells K (k + 1) (n + N')) (h3 : Cond.arrayClass .boolean ∈ AW) (hn : ¬ x < 0) (hN : x.toNatClampNeg = N') (hb9 : N' ≤ 100000) (hd : decode cc pc = .ok (.newarray .boolean, 2))
    (kk : ∀ (q : Nat) (H : Heap), WL K (ws ++ [(q, ia (cA 4) N' (fun _ => 0))]) H locs → XX K (k + 1) (n + N') H locs (pc + 2) ls (.ref q :: rest)) : XX K k n H locs pc ls (.int x :: rest) := by
  obtain ⟨p, l, e, R, s, m, args, below, meth, c, Q, D, A, H0⟩ := K
  obtain ⟨⟨hx, hb, hml, hown, hts⟩, ⟨hK, -⟩, -, hA⟩ := hM
  obtain ⟨hP, hD, hS⟩ := hW
  refine va_newa (atype := .boolean) (ty := .boolean) (a0 := (N', .inl (fun _ => 0))) hx hb (hts _ h3) rfl hK hP hD hS hA (fun c9 => vp_cell_i c9 N' _) hn hN (by show N' * 1 ≤ _; omega) hC.1 hC.2 hd (fun q c9 H1 hK1 a1 a2 a3 => ?_)
  have e : c9 = cA 4 := K_same (i := 6) (j := 4) (fun _ h => by cases h) hK1 rfl rfl
  subst e
  exact kk q H1 ⟨a1, a2, a3⟩
theorem l_newJ {x : Int32} {N' : Nat} (hM : MB K cA cc nL own) (hW : WL K ws H locs) (hC : Cells K (k + 1) (n + N')) (h3 : Cond.arrayClass .long ∈ AW) (hn : ¬ x < 0) (hN : x.toNatClampNeg = N') (hb9 : N' ≤ 100000) (hd : decode cc pc = .ok (.newarray .long, 2))
    (kk : ∀ (q : Nat) (H : Heap), WL K (ws ++ [(q, ja (cA 5) N' (fun _ => 0))]) H locs → XX K (k + 1) (n + N') H locs (pc + 2) ls (.ref q :: rest)) : XX K k n H locs pc ls (.int x :: rest) := by
  obtain ⟨p, l, e, R, s, m, args, below, meth, c, Q, D, A, H0⟩ := K
  obtain ⟨⟨hx, hb, hml, hown, hts⟩, ⟨hK, -⟩, -, hA⟩ := hM
  obtain ⟨hP, hD, hS⟩ := hW
  refine va_newa (atype := .long) (ty := .long) (a0 := (N', .inr (.inl (fun _ => 0)))) hx hb (hts _ h3) rfl hK hP hD hS hA (fun c9 => vp_cell_l c9 N' _) hn hN (by show N' * 8 ≤ _; omega) hC.1 hC.2 hd (fun q c9 H1 hK1 a1 a2 a3 => ?_)
  have e : c9 = cA 5 := K_same (i := 6) (j := 5) (fun _ h => by cases h) hK1 rfl rfl
  subst e
  exact kk q H1 ⟨a1, a2, a3⟩
theorem l_newQ {x : Int32} {N' index : Nat} (hM : MB K cA cc nL own) (hW : WL K ws H locs) (hC : Cells K (k + 1) (n + N')) (h3 : Cond.classLink own index "ForgetSchool$Art" ∈ AW) (hn : ¬ x < 0) (hN : x.toNatClampNeg = N') (hb9 : N' ≤ 100000) (hd : decode cc pc = .ok (.anewarray index, 3))
    (kk : ∀ (q : Nat) (H : Heap), WL K (ws ++ [(q, qa (cA 2) N' (fun _ => none))]) H locs → XX K (k + 1) (n + N') H locs (pc + 3) ls (.ref q :: rest)) : XX K k n H locs pc ls (.int x :: rest) := by
  obtain ⟨p, l, e, R, s, m, args, below, meth, c, Q, D, A, H0⟩ := K
  obtain ⟨⟨hx, hb, hml, hown, hts⟩, ⟨hK, hKn, hKo, hKoo⟩, -, hA⟩ := hM
  obtain ⟨hP, hD, hS⟩ := hW
  refine va_newq (C := "ForgetSchool$Art") hx hb hown (hts _ h3) hKo hK hP hD hS hA hn hN (by omega) hC.1 hC.2 hd (fun q c9 H1 hK1 a1 a2 a3 => ?_)
  have e : c9 = cA 2 := K_sameO (i := 6) (j := 2) hK1 rfl rfl
  subst e
  exact kk q H1 ⟨a1, a2, a3⟩
theorem l_mna {x y : Int32} {N' K' index : Nat} (hM : MB K cA cc nL own) (hW : WL K ws H locs) (hC : Cells K (k + (1 + N')) (n + (N' + N' * K'))) (h3 : Cond.classLink own index "[[I" ∈ AW) (h4 : Cond.arrayClass .int ∈ AW) (hn : ¬ x < 0) (hk : ¬ y < 0) (hN : x.toNatClampNeg = N') (hN2 : y.toNatClampNeg = K') (hb9 : N' ≤ 100000) (hb8 : K' ≤ 100000) (hd : decode cc pc = .ok (.multianewarray index 2, 4))
    (kk : ∀ (q : Nat) (r : Nat → Nat) (H : Heap), WL K (ws ++ ((q, qa (cA 1) N' (fun i => if i < N' then some (r i) else none)) :: (List.range N').map (fun i => (r i, ia (cA 0) K' (fun _ => 0))))) H locs → XX K (k + 1 + N') (n + N' + N' * K') H locs (pc + 4) ls (.ref q :: rest)) : XX K k n H locs pc ls (.int y :: .int x :: rest) := by
  obtain ⟨p, l, e, R, s, m, args, below, meth, c, Q, D, A, H0⟩ := K
  obtain ⟨⟨hx, hb, hml, hown, hts⟩, ⟨hK, hKn, hKo, hKoo⟩, -, hA⟩ := hM
  obtain ⟨hP, hD, hS⟩ := hW
  have hcy : s.vm.findClass (FieldType.array .int).toString = some (cA 0) := (hK.2 0 _ rfl).2
  have hP0 : va_P D vwCl (ws ++ va_pl [] (fun _ => .inr (0, []))) H := by simpa [va_pl] using hP
  have hD0 : va_D A (ws ++ va_pl [] (fun _ => .inr (0, []))) := by simpa [va_pl] using hD
  refine va_mna (ty := .int) (z := (K', .inl (fun _ => 0))) (cy := cA 0) hx hb hown (hts _ h3) hKoo (hts _ h4) hcy hK hP0 hD0 hS hA hn hk hN hN2 (by omega) (by show K' * 4 ≤ _; omega) (by omega) rfl rfl hC.1 hC.2 (fun c9 => ?_) hd (fun q r c9 H1 hinj hnm hK1 a1 a2 a3 => ?_)
  · show ({ cls := c9, slots := Array.replicate K' (.int 0), vm := .none } : Cell) = _
    rw [arrV_new]
    exact (vp_cell_i c9 K' _).symm
  have e : c9 = cA 1 := K_same (i := 6) (j := 1) (fun _ h => by cases h) hK1 rfl rfl
  subst e
  have e2 : (ws ++ [(q, .inl (cA 1, N', .inr (.inr (.inr (.inr (fun i => if i < N' then some (r i) else none))))))]) ++ va_pl ([] ++ (List.range N').map r) (vr_up (fun _ => .inr (0, [])) ((List.range N').map r) (.inl (cA 0, (K', .inl (fun _ => 0))))) = ws ++ ((q, qa (cA 1) N' (fun i => if i < N' then some (r i) else none)) :: (List.range N').map (fun i => (r i, ia (cA 0) K' (fun _ => 0)))) := by
    rw [List.append_assoc]
    refine congrArg (fun z => ws ++ z) ?_
    show _ :: va_pl _ _ = _ :: _
    refine congrArg (List.cons _) ?_
    unfold va_pl
    rw [List.nil_append, List.map_map]
    apply List.map_congr_left
    intro i hi
    show (r i, vr_up _ _ _ (r i)) = _
    rw [vr_up_in (List.mem_map.mpr ⟨i, hi, rfl⟩)]
    rfl
  rw [e2] at a1 a2
  exact kk q r H1 ⟨a1, a2, a3⟩
theorem l_iast {q0 a na : Nat} {f : Nat → Int32} {j x : Int32} (hM : MB K cA cc nL own) (hW : WL K ws H locs) (he : ws[q0]? = some (a, ia (cA 0) na f)) (hin : vp_in j na) (hd : decode cc pc = .ok (.iastore, 1))
    (kk : ∀ H locs, WL K (ws.set q0 (a, ia (cA 0) na (upd f j.toNatClampNeg x))) H locs → XX K k n H locs (pc + 1) ls rest) : XX K k n H locs pc ls (.int x :: .int j :: .ref a :: rest) := by
  obtain ⟨p, l, e, R, s, m, args, below, meth, c, Q, D, A, H0⟩ := K
  obtain ⟨⟨hx, hb, hml, hown, hts⟩, ⟨hK, -⟩, -⟩ := hM
  obtain ⟨hP, hD, hS⟩ := hW
  exact va_iast (D := D) hx hb hK hP hD hS q0 0 he rfl hin hd (fun H1 locs1 a1 a2 a3 => kk H1 locs1 ⟨a1, a2, a3⟩)
theorem l_aast {q0 qk a v na : Nat} {f : Nat → Option Nat} {vs : List Value} {j : Int32} (hM : MB K cA cc nL own) (hW : WL K ws H locs) (he : ws[q0]? = some (a, qa (cA 2) na f)) (hv : ws[qk]? = some (v, .inr (0, vs))) (hin : vp_in j na) (hd : decode cc pc = .ok (.aastore, 1))
    (kk : ∀ H locs, WL K (ws.set q0 (a, qa (cA 2) na (va_up f j.toNatClampNeg (some v)))) H locs → XX K k n H locs (pc + 1) ls rest) : XX K k n H locs pc ls (.ref v :: .int j :: .ref a :: rest) := by
  obtain ⟨p, l, e, R, s, m, args, below, meth, c, Q, D, A, H0⟩ := K
  obtain ⟨⟨hx, hb, hml, hown, hts⟩, ⟨hK, -⟩, -⟩ := hM
  obtain ⟨hP, hD, hS⟩ := hW
  exact va_astq (D := D) hx hb hK hP hD hS q0 2 qk 0 (r := (RX0, TX0, 3)) he rfl hv rfl hin hd (fun H1 locs1 a1 a2 a3 => kk H1 locs1 ⟨a1, a2, a3⟩)
/-! constructors' contracts -/
def QL (D : va_G) (A : Nat → Prop) (Ws : va_W → Prop) : Array Value → State → Outcome → State → Prop := fun _ st oc t => (∃ ws1 : va_W, oc = .returned none ∧ Ws ws1 ∧ va_P D vwCl ws1 t.heap ∧ va_D A ws1) ∧ va_F A st t
def PL (cA : Nat → ClassId) (D : va_G) (sz : Nat) (av : List Value) (ws : va_W) : Array Value → State → Prop := va_Pc av (fun U => U.heap.size = sz ∧ va_P D vwCl ws U.heap ∧ KB D cA U ∧ va_D (fun _ => True) ws)
def CI (l : Launch) (cA : Nat → ClassId) (D : va_G) (y : MethodName) (cc : ByteArray) (maxL : Nat) (rm : Nat × Nat × Nat × Nat) (av : List Value) (ws : va_W) (Ws : va_W → Prop) : Prop :=
  ∀ sz : Nat, Met l y (.code y cc maxL none :: AW) { frames := rm.1, cells := rm.2.1, slots := rm.2.2.1, locals := rm.2.2.2 } (PL cA D sz av ws) (QL D (va_A ws sz) Ws) rm.2.1 rm.2.2.1 (va_A ws sz)
def EndsL (K : KT) (cc : ByteArray) (mc ms : Nat) (Ws : va_W → Prop) : Prop := ∀ ws H locs pc ls, WL K ws H locs → Ws ws → decode cc pc = .ok (.return_, 1) → XX K mc ms H locs pc ls []
theorem q_enterL {l : Launch} {D : va_G} {y : MethodName} {maxL : Nat} {rm : Nat × Nat × Nat × Nat} {av : List Value} {Ws : va_W → Prop} (hy : plainName y.cls = true) (hi : y.name = "<init>") (hav : (lg_sl av).length ≤ maxL)
    (body : ∀ (K : KT) (H : Heap) (locs : List Loc) (ls : Array Slot), Lof K = l → Dof K = D → MB K cA cc maxL y.cls → IsInit K → WL K ws H locs → HasRoom K rm.1 rm.2.2.2 → Cells K rm.2.1 rm.2.2.1 → EndsL K cc rm.2.1 rm.2.2.1 Ws → lv_has ls maxL (lv_args 0 av) → XX K 0 0 H locs 0 ls []) : CI l cA D y cc maxL rm av ws Ws := by
  intro sz
  refine Met.ofW (cc := cc) (maxL := maxL) (ret := none) hy rfl ?_
  intro p e s m args below meth c s₁ B hml hv
  obtain ⟨rfl, hsz, hP, hK, hD0⟩ := hv
  have hts0 := atoms_spec (ws := .code y cc maxL none :: AW) B.pre
  subst hsz
  rw [lg_entry_eq]
  exact body (p, l, e, _, s, m, av.toArray, below, meth, c, _, D, va_A ws s.heap.size, s.heap) s.heap [] _ rfl rfl ⟨⟨B.exec, B.bytes, hml, findClass_of_methodNamed B.named, fun w hw => hts0 w (List.mem_cons_of_mem _ hw)⟩, hK, B.notSynchronized, fun q h => Or.inr h⟩ ((name_of_methodNamed B.named B.method).1.trans hi) ⟨hP, hD0.self, va_S.rf⟩ ⟨Nat.le_refl _, Nat.le_refl _⟩ ⟨Nat.le_refl _, Nat.le_refl _⟩ (fun ws1 H locs pc ls hW hp hd => W.vret B.exec B.bytes B.returns (fun t ht hWm => ⟨⟨ws1, rfl, hp, by rw [ht]; exact hW.1, hW.2.1⟩, hW.2.2.F ht⟩) hW.2.2.2.2 hd B.notSynchronized) (lv_entry av hav)
/-- what a call of a constructor needs of the words -/
def MC (y : MethodName) (cc : ByteArray) (maxL na : Nat) : Prop := Cond.code y cc maxL none ∈ AW ∧ Cond.initialized y.cls ∈ AW ∧ Cond.instanceMethod y ∈ AW ∧ y.name = "<init>" ∧ (y.cls ≠ "java/lang/invoke/MethodHandle" ∧ y.cls ≠ "java/lang/invoke/VarHandle" ∧ (parseMethodDescriptor y.desc).map (fun d => d.parameters.length) = some na)
theorem l_callI {index maxL na f lo b i0 : Nat} {y : MethodName} {bytes : ByteArray} {rm : Nat × Nat × Nat × Nat} {e0 : va_E} {As st0 : List Value} {Ws : va_W → Prop} {wr : va_W} (hM : MB K cA cc nL own) (hW : WL K ws H locs) (hR : HasRoom K f lo) (hC : Cells K (k + rm.2.1) (n + rm.2.2.1))
    (M : MC y bytes maxL na) (hl : Cond.methodLink own index y ∈ AW) (ct : CI (Lof K) cA (Dof K) y bytes maxL rm (.ref b :: As) [(b, e0)] Ws) (he : ws[i0]? = some (b, e0)) (isR : List Nat) (hRr : isR.map (fun i => ws[i]?) = wr.map some) (hnd : va_nd isR = true) (hdis : ∀ i ∈ isR, i ∉ [i0])
    (hf : rm.1 + 1 ≤ f ∧ 8 + (maxL + 11) + rm.2.2.2 ≤ lo) (hst : st0 = As.reverse ++ .ref b :: rest) (hn : As.length = na) (hLs : ls.size = nL) (hw : (rest.map fun v => v.category).sum ≤ 8) (hd : decode cc pc = .ok (.invokespecial index, 3))
    (kk : ∀ (ws1 : va_W) (H : Heap) (locs : List Loc), Ws ws1 → WL K (wr ++ ws1) H locs → XX K (k + rm.2.1) (n + rm.2.2.1) H locs (pc + 3) ls rest) : XX K k n H locs pc ls st0 := by
  obtain ⟨p, l, e, R, s, m, args, below, meth, c, Q, D, A, H0⟩ := K
  obtain ⟨hF, hK, hlk, hA⟩ := hM
  obtain ⟨hx, hb, hml, hown, hts⟩ := hF
  obtain ⟨m1, m2, m3, m4, m5⟩ := M
  obtain ⟨hP, hD, hS⟩ := hW
  have hcw : CallB R s args own index y bytes maxL none (.code y bytes maxL none :: AW) { frames := rm.1, cells := rm.2.1, slots := rm.2.2.1, locals := rm.2.2.2 } rm.2.1 rm.2.2.1 na ∧ y.name = "<init>" ∧ (Cond.instanceMethod y).before args s = true :=
    ⟨callB_of na hts (goodCode m1) rfl rfl rfl (hts _ m2) (hts _ hl) m5 ⟨Nat.le_trans hf.1 hR.1, Nat.le_trans hf.2 hR.2⟩, m4, hts _ m3⟩
  have hPc : va_P D vwCl [(b, e0)] H := hP.sub [i0] (by simp [he])
  have hDc : va_D A [(b, e0)] := hD.sub [i0] rfl (by simp [he])
  have hfr : ∀ q, va_A [(b, e0)] H.size q → A q := va_free hD hS hA [i0] (by simp [he])
  have hrun := va_runI (p := p) (l := l) (e := e) (R := R) (meth := meth) (below := below) (args := args) (c := c) (m := m) (s := s) (H := H) (b := b) (As := As) (rest := rest) (locs := locs) (cells := k) (slots := n) (g := F0 m pc ls st0) ⟨hx, hb, hml, hown, hts⟩ (ct H.size) hcw ⟨fun a U g9 mk h => ⟨h.1, h.2.1, h.2.2.1, h.2.2.2.1.calling a g9 mk, h.2.2.2.2⟩, fun U hU hWm => ⟨rfl, by rw [hU], by rw [hU]; exact hPc, hK.moved hWm, hDc.weaken (fun _ _ _ _ => trivial)⟩⟩ rfl hn hLs hst (by simpa [JFrame.monitorRoom, F0] using hw) hd hC
  intro T hT X
  obtain ⟨v, st₀, t, T', L, h0, X', hL, e1, e2, ⟨⟨ws1, hv, hp, hw1, hd1⟩, hz, hk⟩, st⟩ := hrun T hT X
  cases hv
  rw [h0] at hz hk
  have hjoin := va_join (ws := ws) (wc := [(b, e0)]) (wr := wr) (w1 := ws1) (H1 := T'.heap) hP hD [i0] isR (by simp [he]) hRr hnd hdis (fun q h1 h2 => by rw [e1]; exact hk q h1 h2) hfr (by rw [e1]; exact hw1) hd1
  obtain ⟨t2, a1, b1⟩ := kk ws1 T'.heap (locs ++ L) hp ⟨hjoin.1, hjoin.2, Nat.le_trans hS.1 (by rw [e1]; exact hz), fun q h1 h2 => by rw [e1, hk q (Nat.lt_of_lt_of_le h1 hS.1) (fun z => h2 (hfr q z))]; exact hS.2.1 q h1 h2, fun q hq => by
      rcases List.mem_append.mp hq with h | h
      · exact hS.2.2 q h
      · exact hfr _ (hL q h)⟩ T' rfl X'
  exact ⟨t2, st t2 a1, b1⟩
end CR
