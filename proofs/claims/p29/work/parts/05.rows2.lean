section RW2
variable {K : KT} {cA : Nat → ClassId} {cc : ByteArray} {nL : Nat} {own : String} {k n : Nat} {H : Heap} {locs : List Loc} {pc : Nat} {ls : Array Slot} {rest : List Value}
theorem q_iload_n {i : Fin 4} {x : Int32} (hM : MB K cA cc nL own) (hd : decode cc pc = .ok (.iload_n i, 1)) (hl : ls[(i : Nat)]? = some (.val (.int x))) (kk : XX K k n H locs (pc + 1) ls (.int x :: rest)) : XX K k n H locs (pc) ls (rest) := by
  obtain ⟨p, l, e, R, s, m, args, below, meth, c, Q, D, A, H0⟩ := K
  obtain ⟨⟨hx, hb, hml, hown, hts⟩, -⟩ := hM
  exact lv_iload_n hx hb hd rfl hl kk
theorem q_iload {i : Nat} {x : Int32} (hM : MB K cA cc nL own) (hd : decode cc pc = .ok (.iload i, 2)) (hl : ls[i]? = some (.val (.int x))) (kk : XX K k n H locs (pc + 2) ls (.int x :: rest)) : XX K k n H locs (pc) ls (rest) := by
  obtain ⟨p, l, e, R, s, m, args, below, meth, c, Q, D, A, H0⟩ := K
  obtain ⟨⟨hx, hb, hml, hown, hts⟩, -⟩ := hM
  exact lv_iload hx hb hd hl kk
theorem q_lload_n {i : Fin 4} {x : Int64} (hM : MB K cA cc nL own) (hd : decode cc pc = .ok (.lload_n i, 1)) (hl : ls[(i : Nat)]? = some (.val (.long x))) (kk : XX K k n H locs (pc + 1) ls (.long x :: rest)) : XX K k n H locs (pc) ls (rest) := by
  obtain ⟨p, l, e, R, s, m, args, below, meth, c, Q, D, A, H0⟩ := K
  obtain ⟨⟨hx, hb, hml, hown, hts⟩, -⟩ := hM
  exact lv_lload_n hx hb hd rfl hl kk
theorem q_lload {i : Nat} {x : Int64} (hM : MB K cA cc nL own) (hd : decode cc pc = .ok (.lload i, 2)) (hl : ls[i]? = some (.val (.long x))) (kk : XX K k n H locs (pc + 2) ls (.long x :: rest)) : XX K k n H locs (pc) ls (rest) := by
  obtain ⟨p, l, e, R, s, m, args, below, meth, c, Q, D, A, H0⟩ := K
  obtain ⟨⟨hx, hb, hml, hown, hts⟩, -⟩ := hM
  exact lv_lload hx hb hd hl kk
theorem q_aload_n {i : Fin 4} {x : Nat} (hM : MB K cA cc nL own) (hd : decode cc pc = .ok (.aload_n i, 1)) (hl : ls[(i : Nat)]? = some (.val (.ref x))) (kk : XX K k n H locs (pc + 1) ls (.ref x :: rest)) : XX K k n H locs (pc) ls (rest) := by
  obtain ⟨p, l, e, R, s, m, args, below, meth, c, Q, D, A, H0⟩ := K
  obtain ⟨⟨hx, hb, hml, hown, hts⟩, -⟩ := hM
  exact lv_aload_n hx hb hd rfl hl kk
theorem q_aload {i : Nat} {x : Nat} (hM : MB K cA cc nL own) (hd : decode cc pc = .ok (.aload i, 2)) (hl : ls[i]? = some (.val (.ref x))) (kk : XX K k n H locs (pc + 2) ls (.ref x :: rest)) : XX K k n H locs (pc) ls (rest) := by
  obtain ⟨p, l, e, R, s, m, args, below, meth, c, Q, D, A, H0⟩ := K
  obtain ⟨⟨hx, hb, hml, hown, hts⟩, -⟩ := hM
  exact lv_aload hx hb hd hl kk
theorem q_istore_n {i : Fin 4} {x : Int32} {lv lv9 : List (Nat × Value)} (hM : MB K cA cc nL own) (hd : decode cc pc = .ok (.istore_n i, 1)) (hl : lv_has ls nL lv) (hn : (i : Nat) < nL) (he : ((i : Nat), Value.int x) :: lv.filter (fun q => !(q.1 == (i : Nat)) && !(q.1 + 1 == (i : Nat) && q.2.category == 2)) = lv9) (kk : ∀ ls : Array Slot, lv_has ls nL lv9 → XX K k n H locs (pc + 1) ls (rest)) : XX K k n H locs (pc) ls (.int x :: rest) := by
  obtain ⟨p, l, e, R, s, m, args, below, meth, c, Q, D, A, H0⟩ := K
  obtain ⟨⟨hx, hb, hml, hown, hts⟩, -⟩ := hM
  exact lv_istore_n hx hb hd rfl hl hn he kk
theorem q_istore {i : Nat} {x : Int32} {lv lv9 : List (Nat × Value)} (hM : MB K cA cc nL own) (hd : decode cc pc = .ok (.istore i, 2)) (hl : lv_has ls nL lv) (hn : i < nL) (he : (i, Value.int x) :: lv.filter (fun q => !(q.1 == i) && !(q.1 + 1 == i && q.2.category == 2)) = lv9) (kk : ∀ ls : Array Slot, lv_has ls nL lv9 → XX K k n H locs (pc + 2) ls (rest)) : XX K k n H locs (pc) ls (.int x :: rest) := by
  obtain ⟨p, l, e, R, s, m, args, below, meth, c, Q, D, A, H0⟩ := K
  obtain ⟨⟨hx, hb, hml, hown, hts⟩, -⟩ := hM
  exact lv_istore hx hb hd hl hn he kk
theorem q_astore_n {i : Fin 4} {x : Nat} {lv lv9 : List (Nat × Value)} (hM : MB K cA cc nL own) (hd : decode cc pc = .ok (.astore_n i, 1)) (hl : lv_has ls nL lv) (hn : (i : Nat) < nL) (he : ((i : Nat), Value.ref x) :: lv.filter (fun q => !(q.1 == (i : Nat)) && !(q.1 + 1 == (i : Nat) && q.2.category == 2)) = lv9) (kk : ∀ ls : Array Slot, lv_has ls nL lv9 → XX K k n H locs (pc + 1) ls (rest)) : XX K k n H locs (pc) ls (.ref x :: rest) := by
  obtain ⟨p, l, e, R, s, m, args, below, meth, c, Q, D, A, H0⟩ := K
  obtain ⟨⟨hx, hb, hml, hown, hts⟩, -⟩ := hM
  exact lv_astore_n hx hb hd rfl hl hn he kk
theorem q_astore {i : Nat} {x : Nat} {lv lv9 : List (Nat × Value)} (hM : MB K cA cc nL own) (hd : decode cc pc = .ok (.astore i, 2)) (hl : lv_has ls nL lv) (hn : i < nL) (he : (i, Value.ref x) :: lv.filter (fun q => !(q.1 == i) && !(q.1 + 1 == i && q.2.category == 2)) = lv9) (kk : ∀ ls : Array Slot, lv_has ls nL lv9 → XX K k n H locs (pc + 2) ls (rest)) : XX K k n H locs (pc) ls (.ref x :: rest) := by
  obtain ⟨p, l, e, R, s, m, args, below, meth, c, Q, D, A, H0⟩ := K
  obtain ⟨⟨hx, hb, hml, hown, hts⟩, -⟩ := hM
  exact lv_astore hx hb hd hl hn he kk
theorem q_lstore {i : Nat} {x : Int64} {lv lv9 : List (Nat × Value)} (hM : MB K cA cc nL own) (hd : decode cc pc = .ok (.lstore i, 2)) (hl : lv_has ls nL lv) (hn : i + 1 < nL) (he : (i, Value.long x) :: lv.filter (fun q => !(q.1 == i) && (!(q.1 == i + 1) && !(q.1 + 1 == i && q.2.category == 2))) = lv9) (kk : ∀ ls : Array Slot, lv_has ls nL lv9 → XX K k n H locs (pc + 2) ls (rest)) : XX K k n H locs (pc) ls (.long x :: rest) := by
  obtain ⟨p, l, e, R, s, m, args, below, meth, c, Q, D, A, H0⟩ := K
  obtain ⟨⟨hx, hb, hml, hown, hts⟩, -⟩ := hM
  exact lv_lstore hx hb hd hl hn he kk
theorem q_lstore_n {i : Fin 4} {x : Int64} {lv lv9 : List (Nat × Value)} (hM : MB K cA cc nL own) (hd : decode cc pc = .ok (.lstore_n i, 1)) (hl : lv_has ls nL lv) (hn : (i : Nat) + 1 < nL) (he : ((i : Nat), Value.long x) :: lv.filter (fun q => !(q.1 == (i : Nat)) && (!(q.1 == (i : Nat) + 1) && !(q.1 + 1 == (i : Nat) && q.2.category == 2))) = lv9) (kk : ∀ ls : Array Slot, lv_has ls nL lv9 → XX K k n H locs (pc + 1) ls (rest)) : XX K k n H locs (pc) ls (.long x :: rest) := by
  obtain ⟨p, l, e, R, s, m, args, below, meth, c, Q, D, A, H0⟩ := K
  obtain ⟨⟨hx, hb, hml, hown, hts⟩, -⟩ := hM
  exact lv_lstore_n hx hb hd rfl hl hn he kk
theorem i_addT {x y z : Int32} (h : x + y = z) {a b : Int} (hx : x.toInt = a) (hy : y.toInt = b) (h1 : -2147483648 ≤ a + b) (h2 : a + b ≤ 2147483647) : z.toInt = a + b := by
  subst h; subst hx; subst hy
  rw [Int32.toInt_add, Int.bmod_def]
  omega
theorem i_subT {x y z : Int32} (h : x - y = z) {a b : Int} (hx : x.toInt = a) (hy : y.toInt = b) (h1 : -2147483648 ≤ a - b) (h2 : a - b ≤ 2147483647) : z.toInt = a - b := by
  subst h; subst hx; subst hy
  rw [Int32.toInt_sub, Int.bmod_def]
  omega
theorem i_mulT {x y z : Int32} (h : x * y = z) {a b : Int} (hx : x.toInt = a) (hy : y.toInt = b) (h1 : -2147483648 ≤ a * b) (h2 : a * b ≤ 2147483647) : z.toInt = a * b := by
  subst h; subst hx; subst hy
  rw [Int32.toInt_mul, Int.bmod_def]
  omega
theorem i_divT {x y z : Int32} (h : x / y = z) {a b : Int} (hx : x.toInt = a) (hy : y.toInt = b) (h1 : 0 ≤ a) (h2 : 0 < b) : z.toInt = a / b := by
  subst h
  have hxx : x.toInt ≤ 2147483647 := Int32.toInt_le x
  rw [Int32.toInt_div, hx, hy, Int.tdiv_eq_ediv_of_nonneg h1]
  have h3 : 0 ≤ a / b := Int.ediv_nonneg h1 (by omega)
  have h4 : a / b ≤ a := Int.ediv_le_self _ h1
  rw [Int.bmod_def]
  omega
theorem i_remT {x y z : Int32} (h : x - x / y * y = z) {a b : Int} (hx : x.toInt = a) (hy : y.toInt = b) (h1 : 0 ≤ a) (h2 : 0 < b) : z.toInt = a % b := by
  have hxx : x.toInt ≤ 2147483647 := Int32.toInt_le x
  have hd := i_divT (rfl : x / y = x / y) hx hy h1 h2
  have h3 : 0 ≤ a / b := Int.ediv_nonneg h1 (by omega)
  have h6 : a / b * b ≤ a := Int.ediv_mul_le a (by omega)
  have h7 : 0 ≤ a / b * b := Int.mul_nonneg h3 (by omega)
  have hm := i_mulT (rfl : x / y * y = x / y * y) hd hy (by omega) (by omega)
  have := i_subT h hx hm (by omega) (by omega)
  rw [this]
  have := Int.mul_ediv_add_emod a b
  rw [Int.mul_comm] at this
  omega
theorem i_rng (x : Int32) : -2147483648 ≤ x.toInt ∧ x.toInt ≤ 2147483647 := ⟨Int32.le_toInt x, Int32.toInt_le x⟩
theorem i_in {x : Int32} {N : Nat} (h1 : 0 ≤ x.toInt) (h2 : x.toInt < N) : vp_in x N := vp_in_iff.mpr ⟨h1, h2⟩
theorem i_cl {x : Int32} {a : Nat} (h : x.toInt = a) : x.toNatClampNeg = a := by
  show x.toInt.toNat = a
  rw [h]
  rfl
theorem i_lt {x y : Int32} {a b : Int} (hx : x.toInt = a) (hy : y.toInt = b) : x < y ↔ a < b := by rw [Int32.lt_iff_toInt_lt, hx, hy]
theorem i_le {x y : Int32} {a b : Int} (hx : x.toInt = a) (hy : y.toInt = b) : x ≤ y ↔ a ≤ b := by rw [Int32.le_iff_toInt_le, hx, hy]
theorem i_eq {x y : Int32} {a b : Int} (hx : x.toInt = a) (hy : y.toInt = b) : x = y ↔ a = b := by rw [← Int32.toInt_inj, hx, hy]

theorem q_iconst {c9 : Int} {v : Int32} (hM : MB K cA cc nL own) (hd : decode cc pc = .ok (.iconst c9, 1)) (hv : Int32.ofInt c9 = v) (kk : XX K k n H locs (pc + 1) ls (.int v :: rest)) : XX K k n H locs (pc) ls (rest) := by
  obtain ⟨p, l, e, R, s, m, args, below, meth, c, Q, D, A, H0⟩ := K
  obtain ⟨⟨hx, hb, hml, hown, hts⟩, -⟩ := hM
  exact lv_iconst hx hb hd hv kk
theorem q_bipush {c9 : Int} {v : Int32} (hM : MB K cA cc nL own) (hd : decode cc pc = .ok (.bipush c9, 2)) (hv : (Int8.ofInt c9).toInt32 = v) (kk : XX K k n H locs (pc + 2) ls (.int v :: rest)) : XX K k n H locs (pc) ls (rest) := by
  obtain ⟨p, l, e, R, s, m, args, below, meth, c, Q, D, A, H0⟩ := K
  obtain ⟨⟨hx, hb, hml, hown, hts⟩, -⟩ := hM
  exact lv_bipush hx hb hd hv kk
theorem q_sipush {c9 : Int} {v : Int32} (hM : MB K cA cc nL own) (hd : decode cc pc = .ok (.sipush c9, 3)) (hv : (Int16.ofInt c9).toInt32 = v) (kk : XX K k n H locs (pc + 3) ls (.int v :: rest)) : XX K k n H locs (pc) ls (rest) := by
  obtain ⟨p, l, e, R, s, m, args, below, meth, c, Q, D, A, H0⟩ := K
  obtain ⟨⟨hx, hb, hml, hown, hts⟩, -⟩ := hM
  exact lv_sipush hx hb hd hv kk
theorem q_lconst {c9 : Fin 2} {v : Int64} (hM : MB K cA cc nL own) (hd : decode cc pc = .ok (.lconst c9, 1)) (hv : Int64.ofNat (c9 : Nat) = v) (kk : XX K k n H locs (pc + 1) ls (.long v :: rest)) : XX K k n H locs (pc) ls (rest) := by
  obtain ⟨p, l, e, R, s, m, args, below, meth, c, Q, D, A, H0⟩ := K
  obtain ⟨⟨hx, hb, hml, hown, hts⟩, -⟩ := hM
  exact lv_lconst hx hb hd hv kk
theorem q_ldc {index : Nat} {v : Int32} (hM : MB K cA cc nL own) (hw : Cond.constant own index v ∈ AW) (hd : decode cc pc = .ok (.ldc index, 2)) (kk : XX K k n H locs (pc + 2) ls (.int v :: rest)) : XX K k n H locs (pc) ls (rest) := by
  obtain ⟨p, l, e, R, s, m, args, below, meth, c, Q, D, A, H0⟩ := K
  obtain ⟨⟨hx, hb, hml, hown, hts⟩, -⟩ := hM
  exact lv_ldc hx hb hown (hts _ hw) hd kk
theorem q_ldcw {index : Nat} {v : Int32} (hM : MB K cA cc nL own) (hw : Cond.constant own index v ∈ AW) (hd : decode cc pc = .ok (.ldc_w index, 3)) (kk : XX K k n H locs (pc + 3) ls (.int v :: rest)) : XX K k n H locs (pc) ls (rest) := by
  obtain ⟨p, l, e, R, s, m, args, below, meth, c, Q, D, A, H0⟩ := K
  obtain ⟨⟨hx, hb, hml, hown, hts⟩, -⟩ := hM
  exact lv_ldcw hx hb hown (hts _ hw) hd kk
theorem q_ldc2 {index : Nat} {v : Int64} (hM : MB K cA cc nL own) (hw : Cond.constantLong own index v ∈ AW) (hd : decode cc pc = .ok (.ldc2_w index, 3)) (kk : XX K k n H locs (pc + 3) ls (.long v :: rest)) : XX K k n H locs (pc) ls (rest) := by
  obtain ⟨p, l, e, R, s, m, args, below, meth, c, Q, D, A, H0⟩ := K
  obtain ⟨⟨hx, hb, hml, hown, hts⟩, -⟩ := hM
  exact lv_ldc2 hx hb hown (hts _ hw) hd kk
theorem q_iadd {x y : Int32} (hM : MB K cA cc nL own) (hd : decode cc pc = .ok (.iadd, 1)) (kk : ∀ z : Int32, x + y = z → XX K k n H locs (pc + 1) ls (.int z :: rest)) : XX K k n H locs (pc) ls (.int y :: .int x :: rest) := by
  obtain ⟨p, l, e, R, s, m, args, below, meth, c, Q, D, A, H0⟩ := K
  obtain ⟨⟨hx, hb, hml, hown, hts⟩, -⟩ := hM
  exact lv_iadd hx hb hd (kk _ rfl)
theorem q_isub {x y : Int32} (hM : MB K cA cc nL own) (hd : decode cc pc = .ok (.isub, 1)) (kk : ∀ z : Int32, x - y = z → XX K k n H locs (pc + 1) ls (.int z :: rest)) : XX K k n H locs (pc) ls (.int y :: .int x :: rest) := by
  obtain ⟨p, l, e, R, s, m, args, below, meth, c, Q, D, A, H0⟩ := K
  obtain ⟨⟨hx, hb, hml, hown, hts⟩, -⟩ := hM
  exact lv_isub hx hb hd (kk _ rfl)
theorem q_imul {x y : Int32} (hM : MB K cA cc nL own) (hd : decode cc pc = .ok (.imul, 1)) (kk : ∀ z : Int32, x * y = z → XX K k n H locs (pc + 1) ls (.int z :: rest)) : XX K k n H locs (pc) ls (.int y :: .int x :: rest) := by
  obtain ⟨p, l, e, R, s, m, args, below, meth, c, Q, D, A, H0⟩ := K
  obtain ⟨⟨hx, hb, hml, hown, hts⟩, -⟩ := hM
  exact lv_imul hx hb hd (kk _ rfl)
theorem q_iand {x y : Int32} (hM : MB K cA cc nL own) (hd : decode cc pc = .ok (.iand, 1)) (kk : ∀ z : Int32, x &&& y = z → XX K k n H locs (pc + 1) ls (.int z :: rest)) : XX K k n H locs (pc) ls (.int y :: .int x :: rest) := by
  obtain ⟨p, l, e, R, s, m, args, below, meth, c, Q, D, A, H0⟩ := K
  obtain ⟨⟨hx, hb, hml, hown, hts⟩, -⟩ := hM
  exact lv_iand hx hb hd (kk _ rfl)
theorem q_ior {x y : Int32} (hM : MB K cA cc nL own) (hd : decode cc pc = .ok (.ior, 1)) (kk : ∀ z : Int32, x ||| y = z → XX K k n H locs (pc + 1) ls (.int z :: rest)) : XX K k n H locs (pc) ls (.int y :: .int x :: rest) := by
  obtain ⟨p, l, e, R, s, m, args, below, meth, c, Q, D, A, H0⟩ := K
  obtain ⟨⟨hx, hb, hml, hown, hts⟩, -⟩ := hM
  exact lv_ior hx hb hd (kk _ rfl)
theorem q_ixor {x y : Int32} (hM : MB K cA cc nL own) (hd : decode cc pc = .ok (.ixor, 1)) (kk : ∀ z : Int32, x ^^^ y = z → XX K k n H locs (pc + 1) ls (.int z :: rest)) : XX K k n H locs (pc) ls (.int y :: .int x :: rest) := by
  obtain ⟨p, l, e, R, s, m, args, below, meth, c, Q, D, A, H0⟩ := K
  obtain ⟨⟨hx, hb, hml, hown, hts⟩, -⟩ := hM
  exact lv_ixor hx hb hd (kk _ rfl)
theorem q_ishl {x y : Int32} (hM : MB K cA cc nL own) (hd : decode cc pc = .ok (.ishl, 1)) (kk : ∀ z : Int32, x <<< (y &&& 31) = z → XX K k n H locs (pc + 1) ls (.int z :: rest)) : XX K k n H locs (pc) ls (.int y :: .int x :: rest) := by
  obtain ⟨p, l, e, R, s, m, args, below, meth, c, Q, D, A, H0⟩ := K
  obtain ⟨⟨hx, hb, hml, hown, hts⟩, -⟩ := hM
  exact lv_ishl hx hb hd (kk _ rfl)
theorem q_ishr {x y : Int32} (hM : MB K cA cc nL own) (hd : decode cc pc = .ok (.ishr, 1)) (kk : ∀ z : Int32, x >>> (y &&& 31) = z → XX K k n H locs (pc + 1) ls (.int z :: rest)) : XX K k n H locs (pc) ls (.int y :: .int x :: rest) := by
  obtain ⟨p, l, e, R, s, m, args, below, meth, c, Q, D, A, H0⟩ := K
  obtain ⟨⟨hx, hb, hml, hown, hts⟩, -⟩ := hM
  exact lv_ishr hx hb hd (kk _ rfl)
theorem q_idiv {x y : Int32} (hM : MB K cA cc nL own) (hne : ¬ y = 0) (hd : decode cc pc = .ok (.idiv, 1)) (kk : ∀ z : Int32, x / y = z → XX K k n H locs (pc + 1) ls (.int z :: rest)) : XX K k n H locs (pc) ls (.int y :: .int x :: rest) := by
  obtain ⟨p, l, e, R, s, m, args, below, meth, c, Q, D, A, H0⟩ := K
  obtain ⟨⟨hx, hb, hml, hown, hts⟩, -⟩ := hM
  exact lv_idiv hx hb hd hne (kk _ rfl)
theorem q_irem {x y : Int32} (hM : MB K cA cc nL own) (hne : ¬ y = 0) (hd : decode cc pc = .ok (.irem, 1)) (kk : ∀ z : Int32, x - x / y * y = z → XX K k n H locs (pc + 1) ls (.int z :: rest)) : XX K k n H locs (pc) ls (.int y :: .int x :: rest) := by
  obtain ⟨p, l, e, R, s, m, args, below, meth, c, Q, D, A, H0⟩ := K
  obtain ⟨⟨hx, hb, hml, hown, hts⟩, -⟩ := hM
  exact lv_irem hx hb hd hne (kk _ rfl)
theorem q_iushr {x y : Int32} (hM : MB K cA cc nL own) (hd : decode cc pc = .ok (.iushr, 1)) (kk : ∀ z : Int32, (x.toUInt32 >>> (y.toUInt32 &&& Int32.toUInt32 31)).toInt32 = z → XX K k n H locs (pc + 1) ls (.int z :: rest)) : XX K k n H locs (pc) ls (.int y :: .int x :: rest) := by
  obtain ⟨p, l, e, R, s, m, args, below, meth, c, Q, D, A, H0⟩ := K
  obtain ⟨⟨hx, hb, hml, hown, hts⟩, -⟩ := hM
  exact lv_iushr hx hb hd rfl (kk _ rfl)
theorem q_ineg {x : Int32} (hM : MB K cA cc nL own) (hd : decode cc pc = .ok (.ineg, 1)) (kk : ∀ z : Int32, -x = z → XX K k n H locs (pc + 1) ls (.int z :: rest)) : XX K k n H locs (pc) ls (.int x :: rest) := by
  obtain ⟨p, l, e, R, s, m, args, below, meth, c, Q, D, A, H0⟩ := K
  obtain ⟨⟨hx, hb, hml, hown, hts⟩, -⟩ := hM
  exact lv_ineg hx hb hd (kk _ rfl)
theorem q_i2l {x : Int32} (hM : MB K cA cc nL own) (hd : decode cc pc = .ok (.i2l, 1)) (kk : XX K k n H locs (pc + 1) ls (.long x.toInt64 :: rest)) : XX K k n H locs (pc) ls (.int x :: rest) := by
  obtain ⟨p, l, e, R, s, m, args, below, meth, c, Q, D, A, H0⟩ := K
  obtain ⟨⟨hx, hb, hml, hown, hts⟩, -⟩ := hM
  exact lv_i2l hx hb hd rfl kk
theorem q_l2i {x : Int64} (hM : MB K cA cc nL own) (hd : decode cc pc = .ok (.l2i, 1)) (kk : XX K k n H locs (pc + 1) ls (.int x.toInt32 :: rest)) : XX K k n H locs (pc) ls (.long x :: rest) := by
  obtain ⟨p, l, e, R, s, m, args, below, meth, c, Q, D, A, H0⟩ := K
  obtain ⟨⟨hx, hb, hml, hown, hts⟩, -⟩ := hM
  exact lv_l2i hx hb hd rfl kk
theorem q_i2b {x : Int32} (hM : MB K cA cc nL own) (hd : decode cc pc = .ok (.i2b, 1)) (kk : XX K k n H locs (pc + 1) ls (.int x.toInt8.toInt32 :: rest)) : XX K k n H locs (pc) ls (.int x :: rest) := by
  obtain ⟨p, l, e, R, s, m, args, below, meth, c, Q, D, A, H0⟩ := K
  obtain ⟨⟨hx, hb, hml, hown, hts⟩, -⟩ := hM
  exact lv_i2b hx hb hd rfl kk
theorem q_i2c {x : Int32} (hM : MB K cA cc nL own) (hd : decode cc pc = .ok (.i2c, 1)) (kk : XX K k n H locs (pc + 1) ls (.int (x.toUInt32 % 65536).toInt32 :: rest)) : XX K k n H locs (pc) ls (.int x :: rest) := by
  obtain ⟨p, l, e, R, s, m, args, below, meth, c, Q, D, A, H0⟩ := K
  obtain ⟨⟨hx, hb, hml, hown, hts⟩, -⟩ := hM
  exact lv_i2c hx hb hd rfl kk
theorem q_lcmp {x y : Int64} (hM : MB K cA cc nL own) (hd : decode cc pc = .ok (.lcmp, 1)) (kk : XX K k n H locs (pc + 1) ls (.int (lg_cmp x y) :: rest)) : XX K k n H locs (pc) ls (.long y :: .long x :: rest) := by
  obtain ⟨p, l, e, R, s, m, args, below, meth, c, Q, D, A, H0⟩ := K
  obtain ⟨⟨hx, hb, hml, hown, hts⟩, -⟩ := hM
  exact W.lcmp hx hb hd kk
theorem q_lshl {x : Int64} {y : Int32} (hM : MB K cA cc nL own) (hd : decode cc pc = .ok (.lshl, 1)) (kk : XX K k n H locs (pc + 1) ls (.long (x <<< (y.toInt64 &&& 63)) :: rest)) : XX K k n H locs (pc) ls (.int y :: .long x :: rest) := by
  obtain ⟨p, l, e, R, s, m, args, below, meth, c, Q, D, A, H0⟩ := K
  obtain ⟨⟨hx, hb, hml, hown, hts⟩, -⟩ := hM
  exact lv_lshl hx hb hd rfl kk
theorem q_lshr {x : Int64} {y : Int32} (hM : MB K cA cc nL own) (hd : decode cc pc = .ok (.lshr, 1)) (kk : XX K k n H locs (pc + 1) ls (.long (x >>> (y.toInt64 &&& 63)) :: rest)) : XX K k n H locs (pc) ls (.int y :: .long x :: rest) := by
  obtain ⟨p, l, e, R, s, m, args, below, meth, c, Q, D, A, H0⟩ := K
  obtain ⟨⟨hx, hb, hml, hown, hts⟩, -⟩ := hM
  exact lv_lshr hx hb hd rfl kk
theorem q_land {x y : Int64} (hM : MB K cA cc nL own) (hd : decode cc pc = .ok (.land, 1)) (kk : XX K k n H locs (pc + 1) ls (.long (x &&& y) :: rest)) : XX K k n H locs (pc) ls (.long y :: .long x :: rest) := by
  obtain ⟨p, l, e, R, s, m, args, below, meth, c, Q, D, A, H0⟩ := K
  obtain ⟨⟨hx, hb, hml, hown, hts⟩, -⟩ := hM
  exact lv_land hx hb hd kk
theorem q_lor {x y : Int64} (hM : MB K cA cc nL own) (hd : decode cc pc = .ok (.lor, 1)) (kk : XX K k n H locs (pc + 1) ls (.long (x ||| y) :: rest)) : XX K k n H locs (pc) ls (.long y :: .long x :: rest) := by
  obtain ⟨p, l, e, R, s, m, args, below, meth, c, Q, D, A, H0⟩ := K
  obtain ⟨⟨hx, hb, hml, hown, hts⟩, -⟩ := hM
  exact lv_lor hx hb hd kk
theorem q_dup {v : Value} (hM : MB K cA cc nL own) (hd : decode cc pc = .ok (.dup, 1)) (hv : v.category = 1) (kk : XX K k n H locs (pc + 1) ls (v :: v :: rest)) : XX K k n H locs (pc) ls (v :: rest) := by
  obtain ⟨p, l, e, R, s, m, args, below, meth, c, Q, D, A, H0⟩ := K
  obtain ⟨⟨hx, hb, hml, hown, hts⟩, -⟩ := hM
  exact lv_dup hx hb hd hv kk
theorem q_pop {v : Value} (hM : MB K cA cc nL own) (hd : decode cc pc = .ok (.pop, 1)) (hv : v.category = 1) (kk : XX K k n H locs (pc + 1) ls (rest)) : XX K k n H locs (pc) ls (v :: rest) := by
  obtain ⟨p, l, e, R, s, m, args, below, meth, c, Q, D, A, H0⟩ := K
  obtain ⟨⟨hx, hb, hml, hown, hts⟩, -⟩ := hM
  exact lv_pop hx hb hd hv kk
theorem q_dup2 {v w : Value} (hM : MB K cA cc nL own) (hd : decode cc pc = .ok (.dup2, 1)) (hv : v.category = 1) (hw : w.category = 1) (kk : XX K k n H locs (pc + 1) ls (v :: w :: v :: w :: rest)) : XX K k n H locs (pc) ls (v :: w :: rest) := by
  obtain ⟨p, l, e, R, s, m, args, below, meth, c, Q, D, A, H0⟩ := K
  obtain ⟨⟨hx, hb, hml, hown, hts⟩, -⟩ := hM
  exact lv_dup2_11 hx hb hd hv hw kk
theorem q_iinc {i : Nat} {kq : Nat} {c9 : Int} {x : Int32} {lv : List (Nat × Value)} {lv9 : Int32 → List (Nat × Value)} (hM : MB K cA cc nL own) (hd : decode cc pc = .ok (.iinc i c9, 3)) (hl : lv_has ls nL lv) (hk : lv[kq]? = some (i, .int x)) (hn : i < nL) (he : ∀ z : Int32, (i, Value.int z) :: lv.filter (fun q => !(q.1 == i) && !(q.1 + 1 == i && q.2.category == 2)) = lv9 z) (kk : ∀ (z : Int32) (ls : Array Slot), x + Int32.ofInt c9 = z → lv_has ls nL (lv9 z) → XX K k n H locs (pc + 3) ls (rest)) : XX K k n H locs (pc) ls (rest) := by
  obtain ⟨p, l, e, R, s, m, args, below, meth, c, Q, D, A, H0⟩ := K
  obtain ⟨⟨hx, hb, hml, hown, hts⟩, -⟩ := hM
  exact lv_iinc (v := x + Int32.ofInt c9) hx hb hd hl hk rfl hn (he _) (fun ls h => kk _ ls rfl h)
theorem q_goto {off : Int} {tgt : Nat} (hM : MB K cA cc nL own) (hd : decode cc pc = .ok (.goto off, 3)) (ht : (pc : Int) + off = (tgt : Int)) (kk : XX K k n H locs (tgt) ls (rest)) : XX K k n H locs (pc) ls (rest) := by
  obtain ⟨p, l, e, R, s, m, args, below, meth, c, Q, D, A, H0⟩ := K
  obtain ⟨⟨hx, hb, hml, hown, hts⟩, -⟩ := hM
  exact lv_goto hx hb hd ht kk
theorem q_icmp_eq {off : Int} {tgt : Nat} {x y : Int32} {a b : Int} (hM : MB K cA cc nL own) (hd : decode cc pc = .ok (.if_icmp .eq off, 3)) (ht : (pc : Int) + off = (tgt : Int)) (hp : x.toInt = a) (hq : y.toInt = b) (kt : a = b → XX K k n H locs (tgt) ls (rest)) (kf : ¬ a = b → XX K k n H locs (pc + 3) ls (rest)) : XX K k n H locs (pc) ls (.int y :: .int x :: rest) := by
  obtain ⟨p, l, e, R, s, m, args, below, meth, c, Q, D, A, H0⟩ := K
  obtain ⟨⟨hx, hb, hml, hown, hts⟩, -⟩ := hM
  exact lv_icmp_eq hx hb hd ht (fun h => kt ((i_eq hp hq).mp h)) (fun h => kf (fun h2 => h ((i_eq hp hq).mpr h2)))
theorem q_if_eq {off : Int} {tgt : Nat} {x : Int32} {a : Int} (hM : MB K cA cc nL own) (hd : decode cc pc = .ok (.ifCond .eq off, 3)) (ht : (pc : Int) + off = (tgt : Int)) (hp : x.toInt = a) (kt : a = 0 → XX K k n H locs (tgt) ls (rest)) (kf : ¬ a = 0 → XX K k n H locs (pc + 3) ls (rest)) : XX K k n H locs (pc) ls (.int x :: rest) := by
  obtain ⟨p, l, e, R, s, m, args, below, meth, c, Q, D, A, H0⟩ := K
  obtain ⟨⟨hx, hb, hml, hown, hts⟩, -⟩ := hM
  have hq : (0 : Int32).toInt = 0 := rfl
  exact lv_if_eq hx hb hd ht (fun h => kt ((i_eq hp hq).mp h)) (fun h => kf (fun h2 => h ((i_eq hp hq).mpr h2)))
theorem q_icmp_ne {off : Int} {tgt : Nat} {x y : Int32} {a b : Int} (hM : MB K cA cc nL own) (hd : decode cc pc = .ok (.if_icmp .ne off, 3)) (ht : (pc : Int) + off = (tgt : Int)) (hp : x.toInt = a) (hq : y.toInt = b) (kt : ¬ a = b → XX K k n H locs (tgt) ls (rest)) (kf : a = b → XX K k n H locs (pc + 3) ls (rest)) : XX K k n H locs (pc) ls (.int y :: .int x :: rest) := by
  obtain ⟨p, l, e, R, s, m, args, below, meth, c, Q, D, A, H0⟩ := K
  obtain ⟨⟨hx, hb, hml, hown, hts⟩, -⟩ := hM
  exact lv_icmp_ne hx hb hd ht (fun h => kt (fun h2 => h ((i_eq hp hq).mpr h2))) (fun h => kf ((i_eq hp hq).mp h))
theorem q_if_ne {off : Int} {tgt : Nat} {x : Int32} {a : Int} (hM : MB K cA cc nL own) (hd : decode cc pc = .ok (.ifCond .ne off, 3)) (ht : (pc : Int) + off = (tgt : Int)) (hp : x.toInt = a) (kt : ¬ a = 0 → XX K k n H locs (tgt) ls (rest)) (kf : a = 0 → XX K k n H locs (pc + 3) ls (rest)) : XX K k n H locs (pc) ls (.int x :: rest) := by
  obtain ⟨p, l, e, R, s, m, args, below, meth, c, Q, D, A, H0⟩ := K
  obtain ⟨⟨hx, hb, hml, hown, hts⟩, -⟩ := hM
  have hq : (0 : Int32).toInt = 0 := rfl
  exact lv_if_ne hx hb hd ht (fun h => kt (fun h2 => h ((i_eq hp hq).mpr h2))) (fun h => kf ((i_eq hp hq).mp h))
theorem q_icmp_lt {off : Int} {tgt : Nat} {x y : Int32} {a b : Int} (hM : MB K cA cc nL own) (hd : decode cc pc = .ok (.if_icmp .lt off, 3)) (ht : (pc : Int) + off = (tgt : Int)) (hp : x.toInt = a) (hq : y.toInt = b) (kt : a < b → XX K k n H locs (tgt) ls (rest)) (kf : b ≤ a → XX K k n H locs (pc + 3) ls (rest)) : XX K k n H locs (pc) ls (.int y :: .int x :: rest) := by
  obtain ⟨p, l, e, R, s, m, args, below, meth, c, Q, D, A, H0⟩ := K
  obtain ⟨⟨hx, hb, hml, hown, hts⟩, -⟩ := hM
  exact lv_icmp_lt hx hb hd ht (fun h => kt ((i_lt hp hq).mp h)) (fun h => kf (Int.not_lt.mp (fun h2 => h ((i_lt hp hq).mpr h2))))
theorem q_if_lt {off : Int} {tgt : Nat} {x : Int32} {a : Int} (hM : MB K cA cc nL own) (hd : decode cc pc = .ok (.ifCond .lt off, 3)) (ht : (pc : Int) + off = (tgt : Int)) (hp : x.toInt = a) (kt : a < 0 → XX K k n H locs (tgt) ls (rest)) (kf : 0 ≤ a → XX K k n H locs (pc + 3) ls (rest)) : XX K k n H locs (pc) ls (.int x :: rest) := by
  obtain ⟨p, l, e, R, s, m, args, below, meth, c, Q, D, A, H0⟩ := K
  obtain ⟨⟨hx, hb, hml, hown, hts⟩, -⟩ := hM
  have hq : (0 : Int32).toInt = 0 := rfl
  exact lv_if_lt hx hb hd ht (fun h => kt ((i_lt hp hq).mp h)) (fun h => kf (Int.not_lt.mp (fun h2 => h ((i_lt hp hq).mpr h2))))
theorem q_icmp_ge {off : Int} {tgt : Nat} {x y : Int32} {a b : Int} (hM : MB K cA cc nL own) (hd : decode cc pc = .ok (.if_icmp .ge off, 3)) (ht : (pc : Int) + off = (tgt : Int)) (hp : x.toInt = a) (hq : y.toInt = b) (kt : b ≤ a → XX K k n H locs (tgt) ls (rest)) (kf : a < b → XX K k n H locs (pc + 3) ls (rest)) : XX K k n H locs (pc) ls (.int y :: .int x :: rest) := by
  obtain ⟨p, l, e, R, s, m, args, below, meth, c, Q, D, A, H0⟩ := K
  obtain ⟨⟨hx, hb, hml, hown, hts⟩, -⟩ := hM
  exact lv_icmp_ge hx hb hd ht (fun h => kt ((i_le hq hp).mp h)) (fun h => kf (Int.not_le.mp (fun h2 => h ((i_le hq hp).mpr h2))))
theorem q_if_ge {off : Int} {tgt : Nat} {x : Int32} {a : Int} (hM : MB K cA cc nL own) (hd : decode cc pc = .ok (.ifCond .ge off, 3)) (ht : (pc : Int) + off = (tgt : Int)) (hp : x.toInt = a) (kt : 0 ≤ a → XX K k n H locs (tgt) ls (rest)) (kf : a < 0 → XX K k n H locs (pc + 3) ls (rest)) : XX K k n H locs (pc) ls (.int x :: rest) := by
  obtain ⟨p, l, e, R, s, m, args, below, meth, c, Q, D, A, H0⟩ := K
  obtain ⟨⟨hx, hb, hml, hown, hts⟩, -⟩ := hM
  have hq : (0 : Int32).toInt = 0 := rfl
  exact lv_if_ge hx hb hd ht (fun h => kt ((i_le hq hp).mp h)) (fun h => kf (Int.not_le.mp (fun h2 => h ((i_le hq hp).mpr h2))))
theorem q_icmp_gt {off : Int} {tgt : Nat} {x y : Int32} {a b : Int} (hM : MB K cA cc nL own) (hd : decode cc pc = .ok (.if_icmp .gt off, 3)) (ht : (pc : Int) + off = (tgt : Int)) (hp : x.toInt = a) (hq : y.toInt = b) (kt : b < a → XX K k n H locs (tgt) ls (rest)) (kf : a ≤ b → XX K k n H locs (pc + 3) ls (rest)) : XX K k n H locs (pc) ls (.int y :: .int x :: rest) := by
  obtain ⟨p, l, e, R, s, m, args, below, meth, c, Q, D, A, H0⟩ := K
  obtain ⟨⟨hx, hb, hml, hown, hts⟩, -⟩ := hM
  exact lv_icmp_gt hx hb hd ht (fun h => kt ((i_lt hq hp).mp h)) (fun h => kf (Int.not_lt.mp (fun h2 => h ((i_lt hq hp).mpr h2))))
theorem q_if_gt {off : Int} {tgt : Nat} {x : Int32} {a : Int} (hM : MB K cA cc nL own) (hd : decode cc pc = .ok (.ifCond .gt off, 3)) (ht : (pc : Int) + off = (tgt : Int)) (hp : x.toInt = a) (kt : 0 < a → XX K k n H locs (tgt) ls (rest)) (kf : a ≤ 0 → XX K k n H locs (pc + 3) ls (rest)) : XX K k n H locs (pc) ls (.int x :: rest) := by
  obtain ⟨p, l, e, R, s, m, args, below, meth, c, Q, D, A, H0⟩ := K
  obtain ⟨⟨hx, hb, hml, hown, hts⟩, -⟩ := hM
  have hq : (0 : Int32).toInt = 0 := rfl
  exact lv_if_gt hx hb hd ht (fun h => kt ((i_lt hq hp).mp h)) (fun h => kf (Int.not_lt.mp (fun h2 => h ((i_lt hq hp).mpr h2))))
theorem q_icmp_le {off : Int} {tgt : Nat} {x y : Int32} {a b : Int} (hM : MB K cA cc nL own) (hd : decode cc pc = .ok (.if_icmp .le off, 3)) (ht : (pc : Int) + off = (tgt : Int)) (hp : x.toInt = a) (hq : y.toInt = b) (kt : a ≤ b → XX K k n H locs (tgt) ls (rest)) (kf : b < a → XX K k n H locs (pc + 3) ls (rest)) : XX K k n H locs (pc) ls (.int y :: .int x :: rest) := by
  obtain ⟨p, l, e, R, s, m, args, below, meth, c, Q, D, A, H0⟩ := K
  obtain ⟨⟨hx, hb, hml, hown, hts⟩, -⟩ := hM
  exact lv_icmp_le hx hb hd ht (fun h => kt ((i_le hp hq).mp h)) (fun h => kf (Int.not_le.mp (fun h2 => h ((i_le hp hq).mpr h2))))
theorem q_if_le {off : Int} {tgt : Nat} {x : Int32} {a : Int} (hM : MB K cA cc nL own) (hd : decode cc pc = .ok (.ifCond .le off, 3)) (ht : (pc : Int) + off = (tgt : Int)) (hp : x.toInt = a) (kt : a ≤ 0 → XX K k n H locs (tgt) ls (rest)) (kf : 0 < a → XX K k n H locs (pc + 3) ls (rest)) : XX K k n H locs (pc) ls (.int x :: rest) := by
  obtain ⟨p, l, e, R, s, m, args, below, meth, c, Q, D, A, H0⟩ := K
  obtain ⟨⟨hx, hb, hml, hown, hts⟩, -⟩ := hM
  have hq : (0 : Int32).toInt = 0 := rfl
  exact lv_if_le hx hb hd ht (fun h => kt ((i_le hp hq).mp h)) (fun h => kf (Int.not_le.mp (fun h2 => h ((i_le hp hq).mpr h2))))
theorem q_tableOut {dflt lo hi : Int} {offs : Array Int} {len : Nat} {x : Int32} {a : Int} {tgt : Nat} (hM : MB K cA cc nL own) (hd : decode cc pc = .ok (.tableswitch dflt lo hi offs, len)) (hp : x.toInt = a) (h : a < lo ∨ hi < a) (ht : (pc : Int) + dflt = (tgt : Int)) (kk : XX K k n H locs (tgt) ls (rest)) : XX K k n H locs (pc) ls (.int x :: rest) := by
  obtain ⟨p, l, e, R, s, m, args, below, meth, c, Q, D, A, H0⟩ := K
  obtain ⟨⟨hx, hb, hml, hown, hts⟩, -⟩ := hM
  exact lv_tableOut hx hb hd (by rw [hp]; exact h) ht kk
theorem q_tableIn {dflt lo hi : Int} {offs : Array Int} {len : Nat} {x : Int32} {a : Int} {off : Int} {tgt : Nat} (hM : MB K cA cc nL own) (hd : decode cc pc = .ok (.tableswitch dflt lo hi offs, len)) (hp : x.toInt = a) (h1 : lo ≤ a) (h2 : a ≤ hi) (ho : offs[(a - lo).toNat]? = some off) (ht : (pc : Int) + off = (tgt : Int)) (kk : XX K k n H locs (tgt) ls (rest)) : XX K k n H locs (pc) ls (.int x :: rest) := by
  obtain ⟨p, l, e, R, s, m, args, below, meth, c, Q, D, A, H0⟩ := K
  obtain ⟨⟨hx, hb, hml, hown, hts⟩, -⟩ := hM
  exact lv_tableIn hx hb hd (by rw [hp]; omega) (by rw [hp]; omega) (by rw [hp]; exact ho) ht kk
theorem q_lookup {dflt : Int} {ps : Array (Int × Int)} {len : Nat} {x : Int32} {off : Int} {tgt : Nat} (hM : MB K cA cc nL own) (hd : decode cc pc = .ok (.lookupswitch dflt ps, len)) (hp : (ps.toList.zip (ps.toList.drop 1)).all (fun (a, next) => a.1 < next.1) = true) (ho : Op.lookupswitch.offset ps.toList dflt x.toInt = off) (ht : (pc : Int) + off = (tgt : Int)) (kk : XX K k n H locs (tgt) ls (rest)) : XX K k n H locs (pc) ls (.int x :: rest) := by
  obtain ⟨p, l, e, R, s, m, args, below, meth, c, Q, D, A, H0⟩ := K
  obtain ⟨⟨hx, hb, hml, hown, hts⟩, -⟩ := hM
  exact lv_lookup hx hb hd hp ho ht kk
end RW2
