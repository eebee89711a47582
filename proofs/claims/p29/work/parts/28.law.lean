theorem dL_law_0 : decode cL_law 0 = .ok (.new 7, 3) := by decide +kernel
theorem dL_law_3 : decode cL_law 3 = .ok (.dup, 1) := by decide +kernel
theorem dL_law_4 : decode cL_law 4 = .ok (.invokespecial 9, 3) := by decide +kernel
theorem dL_law_7 : decode cL_law 7 = .ok (.astore_n 1, 1) := by decide +kernel
theorem dL_law_8 : decode cL_law 8 = .ok (.new 10, 3) := by decide +kernel
theorem dL_law_11 : decode cL_law 11 = .ok (.dup, 1) := by decide +kernel
theorem dL_law_12 : decode cL_law 12 = .ok (.invokespecial 12, 3) := by decide +kernel
theorem dL_law_15 : decode cL_law 15 = .ok (.astore_n 2, 1) := by decide +kernel
theorem dL_law_16 : decode cL_law 16 = .ok (.iconst 0, 1) := by decide +kernel
theorem dL_law_17 : decode cL_law 17 = .ok (.istore_n 3, 1) := by decide +kernel
theorem dfX11 : ∀ j, j < 16 → defaultValue (tyX11 j) = vp_V [.null, .null, .null, .null, .null, .null, .null, .null, .null, .null, .null, .null, .null, .null, .null, .int (0 : Int32)] j := by
  intro j hj
  match j, hj with
  | 0, _ => rfl
  | 1, _ => rfl
  | 2, _ => rfl
  | 3, _ => rfl
  | 4, _ => rfl
  | 5, _ => rfl
  | 6, _ => rfl
  | 7, _ => rfl
  | 8, _ => rfl
  | 9, _ => rfl
  | 10, _ => rfl
  | 11, _ => rfl
  | 12, _ => rfl
  | 13, _ => rfl
  | 14, _ => rfl
  | 15, _ => rfl
  | n + 16, h => exact absurd h (by omega)
theorem nyX11_init : MC yX11_init cX11_init 1 0 := ⟨kAW (v_0_1 (List.mem_of_getElem? (i := 9) rfl)) rfl, kAW (v_0_0 (List.mem_of_getElem? (i := 1) rfl)) rfl, kAW (v_0_1 (List.mem_of_getElem? (i := 8) rfl)) rfl, rfl, by decide, by decide, by decide +kernel⟩
theorem dfX12 : ∀ j, j < 86 → defaultValue (tyX12 j) = vp_V [.null, .int (0 : Int32), .int (0 : Int32), .int (0 : Int32), .int (0 : Int32), .int (0 : Int32), .int (0 : Int32), .int (0 : Int32), .int (0 : Int32), .int (0 : Int32), .null, .null, .null, .null, .null, .null, .null, .null, .int (0 : Int32), .int (0 : Int32), .int (0 : Int32), .null, .null, .null, .null, .null, .null, .null, .null, .null, .null, .int (0 : Int32), .int (0 : Int32), .null, .null, .null, .null, .null, .null, .int (0 : Int32), .int (0 : Int32), .null, .int (0 : Int32), .int (0 : Int32), .int (0 : Int32), .int (0 : Int32), .int (0 : Int32), .int (0 : Int32), .int (0 : Int32), .int (0 : Int32), .null, .null, .null, .null, .null, .null, .int (0 : Int32), .int (0 : Int32), .int (0 : Int32), .int (0 : Int32), .int (0 : Int32), .int (0 : Int32), .int (0 : Int32), .int (0 : Int32), .int (0 : Int32), .int (0 : Int32), .int (0 : Int32), .null, .null, .null, .null, .null, .null, .null, .null, .int (0 : Int32), .null, .null, .null, .null, .null, .null, .null, .null, .null, .null] j := by
  intro j hj
  match j, hj with
  | 0, _ => rfl
  | 1, _ => rfl
  | 2, _ => rfl
  | 3, _ => rfl
  | 4, _ => rfl
  | 5, _ => rfl
  | 6, _ => rfl
  | 7, _ => rfl
  | 8, _ => rfl
  | 9, _ => rfl
  | 10, _ => rfl
  | 11, _ => rfl
  | 12, _ => rfl
  | 13, _ => rfl
  | 14, _ => rfl
  | 15, _ => rfl
  | 16, _ => rfl
  | 17, _ => rfl
  | 18, _ => rfl
  | 19, _ => rfl
  | 20, _ => rfl
  | 21, _ => rfl
  | 22, _ => rfl
  | 23, _ => rfl
  | 24, _ => rfl
  | 25, _ => rfl
  | 26, _ => rfl
  | 27, _ => rfl
  | 28, _ => rfl
  | 29, _ => rfl
  | 30, _ => rfl
  | 31, _ => rfl
  | 32, _ => rfl
  | 33, _ => rfl
  | 34, _ => rfl
  | 35, _ => rfl
  | 36, _ => rfl
  | 37, _ => rfl
  | 38, _ => rfl
  | 39, _ => rfl
  | 40, _ => rfl
  | 41, _ => rfl
  | 42, _ => rfl
  | 43, _ => rfl
  | 44, _ => rfl
  | 45, _ => rfl
  | 46, _ => rfl
  | 47, _ => rfl
  | 48, _ => rfl
  | 49, _ => rfl
  | 50, _ => rfl
  | 51, _ => rfl
  | 52, _ => rfl
  | 53, _ => rfl
  | 54, _ => rfl
  | 55, _ => rfl
  | 56, _ => rfl
  | 57, _ => rfl
  | 58, _ => rfl
  | 59, _ => rfl
  | 60, _ => rfl
  | 61, _ => rfl
  | 62, _ => rfl
  | 63, _ => rfl
  | 64, _ => rfl
  | 65, _ => rfl
  | 66, _ => rfl
  | 67, _ => rfl
  | 68, _ => rfl
  | 69, _ => rfl
  | 70, _ => rfl
  | 71, _ => rfl
  | 72, _ => rfl
  | 73, _ => rfl
  | 74, _ => rfl
  | 75, _ => rfl
  | 76, _ => rfl
  | 77, _ => rfl
  | 78, _ => rfl
  | 79, _ => rfl
  | 80, _ => rfl
  | 81, _ => rfl
  | 82, _ => rfl
  | 83, _ => rfl
  | 84, _ => rfl
  | 85, _ => rfl
  | n + 86, h => exact absurd h (by omega)
theorem nyX12_init : MC yX12_init cX12_init 2 0 := ⟨kAW (v_4_2 (List.mem_of_getElem? (i := 11) rfl)) rfl, kAW (v_0_0 (List.mem_of_getElem? (i := 13) rfl)) rfl, kAW (v_4_2 (List.mem_of_getElem? (i := 10) rfl)) rfl, rfl, by decide, by decide, by decide +kernel⟩
set_option maxRecDepth 1000000 in
set_option maxHeartbeats 40000000 in
/-- YOUR PART: from the entry, for every script of at most 3072 ints, the law comes to its end with true ('hflags': the launch's flags, for a law that throws: no stack traces) -/
theorem whole_start {p : Program} {e : Env} {s : State} {m : MethodId} {below : List Frame} {meth : Method} {c : Code} (l : Launch) (hflags : l.flags = flags0) {b L : Nat} {xs : Nat → Int32} (hL : L ≤ 3072) (C0 : lw_At p s m meth c b L xs) : W p l e room_1 s m #[Value.ref b] below meth c s.heap [] 0 0 (lw_Z below #[Value.ref b] s) (entryFrame m ([Value.ref b] : List Value).toArray 4) := by
  obtain ⟨hx, hb, hr, hml, hown, hts, hX, hbl, hlocks, hgv⟩ := id C0
  obtain ⟨c0, i0, hKn0⟩ := u_known (C := RX0) (T := TX0) (N := 3) (n := 3) hts (fun w h => tAW (wX0 w h)) (hts _ (tAW (kAW (v_0_9 (List.mem_of_getElem? (i := 10) rfl)) rfl)))
  obtain ⟨c1, i1, hKn1⟩ := u_known (C := RX1) (T := TX1) (N := 5) (n := 5) hts (fun w h => tAW (wX1 w h)) (hts _ (tAW (kAW (v_0_10 (List.mem_of_getElem? (i := 15) rfl)) rfl)))
  obtain ⟨c2, i2, hKn2⟩ := u_known (C := RX2) (T := TX2) (N := 11) (n := 11) hts (fun w h => tAW (wX2 w h)) (hts _ (tAW (kAW (v_0_13 (List.mem_of_getElem? (i := 11) rfl)) rfl)))
  obtain ⟨c3, i3, hKn3⟩ := u_known (C := RX3) (T := TX3) (N := 8) (n := 8) hts (fun w h => tAW (wX3 w h)) (hts _ (tAW (kAW (v_0_7 (List.mem_of_getElem? (i := 5) rfl)) rfl)))
  obtain ⟨c4, i4, hKn4⟩ := u_known (C := RX4) (T := TX4) (N := 5) (n := 5) hts (fun w h => tAW (wX4 w h)) (hts _ (tAW (kAW (v_0_12 (List.mem_of_getElem? (i := 5) rfl)) rfl)))
  obtain ⟨c5, i5, hKn5⟩ := u_known (C := RX5) (T := TX5) (N := 3) (n := 3) hts (fun w h => tAW (wX5 w h)) (hts _ (tAW (kAW (v_0_2 (List.mem_of_getElem? (i := 14) rfl)) rfl)))
  obtain ⟨c6, i6, hKn6⟩ := u_known (C := RX6) (T := TX6) (N := 4) (n := 4) hts (fun w h => tAW (wX6 w h)) (hts _ (tAW (kAW (v_1_5 (List.mem_of_getElem? (i := 8) rfl)) rfl)))
  obtain ⟨c7, i7, hKn7⟩ := u_known (C := RX7) (T := TX7) (N := 8) (n := 8) hts (fun w h => tAW (wX7 w h)) (hts _ (tAW (kAW (v_0_4 (List.mem_of_getElem? (i := 5) rfl)) rfl)))
  obtain ⟨c8, i8, hKn8⟩ := u_known (C := RX8) (T := TX8) (N := 7) (n := 7) hts (fun w h => tAW (wX8 w h)) (hts _ (tAW (kAW (v_1_3 (List.mem_of_getElem? (i := 10) rfl)) rfl)))
  obtain ⟨c9, i9, hKn9⟩ := u_known (C := RX9) (T := TX9) (N := 5) (n := 5) hts (fun w h => tAW (wX9 w h)) (hts _ (tAW (kAW (v_1_1 (List.mem_of_getElem? (i := 15) rfl)) rfl)))
  obtain ⟨c10, i10, hKn10⟩ := u_known (C := RX10) (T := TX10) (N := 2) (n := 2) hts (fun w h => tAW (wX10 w h)) (hts _ (tAW (kAW (v_0_1 (List.mem_of_getElem? (i := 14) rfl)) rfl)))
  obtain ⟨c11, i11, hKn11⟩ := u_known (C := RX11) (T := TX11) (N := 16) (n := 16) hts (fun w h => tAW (wX11 w h)) (hts _ (tAW (kAW (v_0_1 (List.mem_of_getElem? (i := 6) rfl)) rfl)))
  obtain ⟨c12, i12, hKn12⟩ := u_known (C := RX12) (T := TX12) (N := 86) (n := 86) hts (fun w h => tAW (wX12 w h)) (hts _ (tAW (kAW (v_4_2 (List.mem_of_getElem? (i := 8) rfl)) rfl)))
  obtain ⟨a_int, ha_int⟩ := ac_of (t := .int) (hts _ (tAW (kAW (v_0_2 (List.mem_of_getElem? (i := 12) rfl)) rfl))) (fun _ h => by cases h)
  obtain ⟨a_byte, ha_byte⟩ := ac_of (t := .byte) (hts _ (tAW (kAW (v_2_8 (List.mem_of_getElem? (i := 14) rfl)) rfl))) (fun _ h => by cases h)
  obtain ⟨a_boolean, ha_boolean⟩ := ac_of (t := .boolean) (hts _ (tAW (kAW (v_5_4 (List.mem_of_getElem? (i := 0) rfl)) rfl))) (fun _ h => by cases h)
  obtain ⟨a_long, ha_long⟩ := ac_of (t := .long) (hts _ (tAW (kAW (v_1_5 (List.mem_of_getElem? (i := 6) rfl)) rfl))) (fun _ h => by cases h)
  have hoA : (Cond.arrayOver (.array .int)).before #[Value.ref b] s = true := hts _ (v_0_3 (List.mem_of_getElem? (i := 4) rfl))
  have hoO : (Cond.arrayOver (.object "ForgetSchool$Art")).before #[Value.ref b] s = true := hts _ (v_0_14 (List.mem_of_getElem? (i := 1) rfl))
  obtain ⟨a_rows, ha_rows⟩ := ac_ofA hoA
  obtain ⟨a_art, ha_art⟩ := ac_ofO hoO
  obtain ⟨cA, hcA⟩ : ∃ cA : Nat → ClassId, cA = fun i => [a_int, a_rows, a_art, a_byte, a_boolean, a_long].getD i a_int := ⟨_, rfl⟩
  obtain ⟨D, hDc⟩ : ∃ D : va_G, ∀ (k : Nat) (q : vw_C), vwCl[k]? = some q → u_Kn s q.1 q.2.1 q.2.2 (D.1 k) (D.2 k) := by
    refine ⟨(fun k => [c0, c1, c2, c3, c4, c5, c6, c7, c8, c9, c10, c11, c12].getD k c0, fun k => [i0, i1, i2, i3, i4, i5, i6, i7, i8, i9, i10, i11, i12].getD k i0), ?_⟩
    intro k q hq
    match k, hq with
    | 0, hq => cases hq; exact hKn0
    | 1, hq => cases hq; exact hKn1
    | 2, hq => cases hq; exact hKn2
    | 3, hq => cases hq; exact hKn3
    | 4, hq => cases hq; exact hKn4
    | 5, hq => cases hq; exact hKn5
    | 6, hq => cases hq; exact hKn6
    | 7, hq => cases hq; exact hKn7
    | 8, hq => cases hq; exact hKn8
    | 9, hq => cases hq; exact hKn9
    | 10, hq => cases hq; exact hKn10
    | 11, hq => cases hq; exact hKn11
    | 12, hq => cases hq; exact hKn12
    | k + 13, hq => simp [vwCl] at hq
  have hKB : KB D cA s := by
    refine ⟨⟨hDc, fun k q hq => ?_⟩, fun w hw => ?_, va_AO.of hoO, hoA⟩
    · match k, hq with
      | 0, hq => cases hq; rw [hcA]; exact ha_int
      | 1, hq => cases hq; rw [hcA]; exact ha_rows
      | 2, hq => cases hq; rw [hcA]; exact ha_art
      | 3, hq => cases hq; rw [hcA]; exact ha_byte
      | 4, hq => cases hq; rw [hcA]; exact ha_boolean
      | 5, hq => cases hq; rw [hcA]; exact ha_long
      | k + 6, hq => simp [TY] at hq
    · revert w
      show ∀ w ∈ [(Cond.fieldLinkNest "ForgetSchool$Search" (35) "ForgetSchool$Course" "pupils" "LForgetSchool$Pupils;" "ForgetSchool"), (Cond.methodLinkNest "ForgetSchool$ArtReader" (55) yX11_within "ForgetSchool"), (Cond.methodLinkNest "ForgetSchool$LawReader" (98) yX11_within "ForgetSchool"), (Cond.methodLinkNest "ForgetSchool$Course" (61) yX11_has "ForgetSchool"), (Cond.methodLinkNest "ForgetSchool$Course" (147) yX11_tenths "ForgetSchool"), (Cond.methodLinkNest "ForgetSchool$Pupils" (39) yX11_has "ForgetSchool"), (Cond.methodLinkNest "ForgetSchool$Search" (79) yX11_areOf "ForgetSchool"), (Cond.methodLinkNest "ForgetSchool$Search" (59) yX11_has "ForgetSchool"), (Cond.methodLinkNest "ForgetSchool$Net" (32) yX11_areOf "ForgetSchool"), (Cond.methodLinkNest "ForgetSchool$Net" (28) yX11_has "ForgetSchool"), (Cond.methodLinkNest "ForgetSchool$Net" (47) yX11_lowestBit "ForgetSchool"), (Cond.methodLinkNest "ForgetSchool$Staff" (34) yX11_lowestBit "ForgetSchool"), (Cond.methodLinkNest "ForgetSchool$Staff" (30) yX11_has "ForgetSchool"), (Cond.methodLinkNest "ForgetSchool$Staff" (41) yX11_areOf "ForgetSchool")], va_Nw w s
      exact List.forall_mem_cons.mpr ⟨va_Nw.of rfl (hts _ (v_1_0 (List.mem_of_getElem? (i := 6) rfl))), List.forall_mem_cons.mpr ⟨va_Nw.of rfl (hts _ (v_1_13 (List.mem_of_getElem? (i := 6) rfl))), List.forall_mem_cons.mpr ⟨va_Nw.of rfl (hts _ (v_2_7 (List.mem_of_getElem? (i := 8) rfl))), List.forall_mem_cons.mpr ⟨va_Nw.of rfl (hts _ (v_2_10 (List.mem_of_getElem? (i := 3) rfl))), List.forall_mem_cons.mpr ⟨va_Nw.of rfl (hts _ (v_2_14 (List.mem_of_getElem? (i := 10) rfl))), List.forall_mem_cons.mpr ⟨va_Nw.of rfl (hts _ (v_3_1 (List.mem_of_getElem? (i := 7) rfl))), List.forall_mem_cons.mpr ⟨va_Nw.of rfl (hts _ (v_3_5 (List.mem_of_getElem? (i := 1) rfl))), List.forall_mem_cons.mpr ⟨va_Nw.of rfl (hts _ (v_3_5 (List.mem_of_getElem? (i := 9) rfl))), List.forall_mem_cons.mpr ⟨va_Nw.of rfl (hts _ (v_3_7 (List.mem_of_getElem? (i := 10) rfl))), List.forall_mem_cons.mpr ⟨va_Nw.of rfl (hts _ (v_3_8 (List.mem_of_getElem? (i := 4) rfl))), List.forall_mem_cons.mpr ⟨va_Nw.of rfl (hts _ (v_3_9 (List.mem_of_getElem? (i := 10) rfl))), List.forall_mem_cons.mpr ⟨va_Nw.of rfl (hts _ (v_3_11 (List.mem_of_getElem? (i := 11) rfl))), List.forall_mem_cons.mpr ⟨va_Nw.of rfl (hts _ (v_3_12 (List.mem_of_getElem? (i := 0) rfl))), List.forall_mem_cons.mpr ⟨va_Nw.of rfl (hts _ (v_3_12 (List.mem_of_getElem? (i := 1) rfl))), fun _ h => absurd h List.not_mem_nil⟩⟩⟩⟩⟩⟩⟩⟩⟩⟩⟩⟩⟩⟩
  clear hcA
  have hAg : ∀ q : Nat, s.heap.size ≤ q → (fun q : Nat => s.heap.size ≤ q) q := fun _ h => h
  obtain ⟨K, hK0⟩ : ∃ K : KT, K = (p, l, e, room_1, s, m, #[Value.ref b], below, meth, c, lw_Z below #[Value.ref b] s, D, (fun q : Nat => s.heap.size ≤ q), s.heap) := ⟨_, rfl⟩
  have hM : MB K cA code 4 R_law := by rw [hK0]; exact ⟨⟨hx, hb, hml, hown, fun w hw => hts w (tAW hw)⟩, hKB, hlocks, hAg⟩
  have hXB : XB K b L xs := by rw [hK0]; exact ⟨hX, hbl, Nat.not_le.mpr hbl⟩
  have hR : HasRoom K 2048 84000 := by rw [hK0]; exact ⟨Nat.le_refl _, Nat.le_refl _⟩
  have hC : Cells K 600000 7302250 := by rw [hK0]; exact ⟨Nat.le_refl _, Nat.le_refl _⟩
  have nv : ∀ c ∈ flatC (Jvm.Cond.and given_1 narrow_1), c.before #[Value.ref b] s = true := flat_of_before _ hgv
  have hN : ∀ (c : Cond) (q : Nat), (flatC (Jvm.Cond.and given_1 narrow_1))[q]? = some c → c.before #[Value.ref b] s = true := fun c q h => nv c (List.mem_of_getElem? h)
  have hAn : ∀ a : Nat, a < s.heap.size → ¬ (fun q : Nat => s.heap.size ≤ q) a := fun a h => Nat.not_le.mpr h
  obtain ⟨kK, kV, hS9, hE9⟩ := vk_Sof (args := #[Value.ref b]) (s := s) (N := 2) (tm := fun i => if i = 0 then (Term.string "ForgetSchool$LawReader" 60) else (Term.string "ForgetSchool$LawReader" 105)) (len := sbL) (byt := sbB) (A := fun q : Nat => s.heap.size ≤ q)
    (fun i hi => by
      rcases (show i = 0 ∨ i = 1 by omega) with rfl | rfl
      · exact (by decide : sbL.getD 0 0 < 2 ^ 31)
      · exact (by decide : sbL.getD 1 0 < 2 ^ 31))
    (fun i hi => by
      rcases (show i = 0 ∨ i = 1 by omega) with rfl | rfl
      · exact hN _ 9 rfl
      · exact hN _ 18 rfl)
    (fun i hi => by
      rcases (show i = 0 ∨ i = 1 by omega) with rfl | rfl
      · exact hN _ 10 rfl
      · exact hN _ 19 rfl)
    (fun i hi => by
      rcases (show i = 0 ∨ i = 1 by omega) with rfl | rfl
      · exact hN _ 11 rfl
      · exact hN _ 20 rfl)
    (fun i hi => by
      rcases (show i = 0 ∨ i = 1 by omega) with rfl | rfl
      · exact hN _ 12 rfl
      · exact hN _ 21 rfl)
    (fun i hi j hj => by
      rcases (show i = 0 ∨ i = 1 by omega) with rfl | rfl
      · match j, hj with
        | 0, _ => exact hN _ 13 rfl
        | 1, _ => exact hN _ 14 rfl
        | 2, _ => exact hN _ 15 rfl
        | 3, _ => exact hN _ 16 rfl
        | 4, _ => exact hN _ 17 rfl
        | n + 5, h => exact absurd h (by show ¬ n + 5 < 5; omega)
      · match j, hj with
        | 0, _ => exact hN _ 22 rfl
        | 1, _ => exact hN _ 23 rfl
        | 2, _ => exact hN _ 24 rfl
        | 3, _ => exact hN _ 25 rfl
        | 4, _ => exact hN _ 26 rfl
        | 5, _ => exact hN _ 27 rfl
        | 6, _ => exact hN _ 28 rfl
        | 7, _ => exact hN _ 29 rfl
        | n + 8, h => exact absurd h (by show ¬ n + 8 < 8; omega))
    (fun i j hi hj hij => by
      rcases (show i = 0 ∨ i = 1 by omega) with rfl | rfl
      · rcases (show j = 0 ∨ j = 1 by omega) with rfl | rfl
        · exact absurd rfl hij
        · exact Or.inl (hN _ 30 rfl)
      · rcases (show j = 0 ∨ j = 1 by omega) with rfl | rfl
        · exact Or.inr (hN _ 30 rfl)
        · exact absurd rfl hij)
    hAn
  have hr60 : vk_R "ForgetSchool$LawReader" 60 "wsrhx" (kK 0) s := vk_R.of (A := #[Value.ref b]) (hts _ (v_2_1 (List.mem_of_getElem? (i := 0) rfl))) (hE9 0 (by decide))
  have hr105 : vk_R "ForgetSchool$LawReader" 105 "fkvpcany" (kK 1) s := vk_R.of (A := #[Value.ref b]) (hts _ (v_2_8 (List.mem_of_getElem? (i := 1) rfl))) (hE9 1 (by decide))
  have hcs : va_Z "java/lang/String" "COMPACT_STRINGS" "Z" (.int 1) (fun q : Nat => s.heap.size ≤ q) s s.heap := va_Zof (hts _ (v_2_2 (List.mem_of_getElem? (i := 1) rfl))) (hts _ (v_0_0 (List.mem_of_getElem? (i := 15) rfl))) (va_eqt (hN _ 4 rfl)) hAn
  have hend : ∀ (H : Heap) (locs : List Loc) (pc : Nat) (ls : Array Slot), decode code pc = .ok (.ireturn, 1) → WL K [] H locs → XX K 600000 7302250 H locs pc ls [.int 1] := by
    intro H locs pc ls hd hW0
    rw [hK0] at hW0 ⊢
    have hS9 : va_S (fun q : Nat => s.heap.size ≤ q) s.heap H locs := hW0.2.2
    exact va_forget (fun q hq => hS9.2.2 q hq) (lw_ret hx hb hr hlocks hd)
  have hW : WL K [] s.heap [] := by rw [hK0]; exact ⟨fun k q h => by simp at h, ⟨fun i j p q h => by simp at h, fun k q h => by simp at h⟩, va_S.rf⟩
  have hl := lv_entry ([.ref b]) (n := 4) (Nat.le_of_ble_eq_true rfl)
  rw [lg_entry_eq]
  generalize (lg_sl ([.ref b]) ++ List.replicate (4 - (lg_sl ([.ref b])).length) Slot.unset).toArray = ls at hl ⊢
  have hl : lv_has ls 4 [(0, .ref b)] := hl
  have key : XX K 0 0 s.heap [] 0 ls [] := by
    have hCk : ∀ {k n : Nat}, k ≤ 600000 → n ≤ 7302250 → Cells K k n := fun h1 h2 => by rw [hK0] at hC ⊢; exact ⟨Nat.le_trans h1 hC.1, Nat.le_trans h2 hC.2⟩
    refine l_new (ci := 11) (C := RX11) (T := TX11) (N := 16) (fs := [.null, .null, .null, .null, .null, .null, .null, .null, .null, .null, .null, .null, .null, .null, .null, .int (0 : Int32)]) (ty := tyX11) hM hW (hCk (by decide) (by decide)) rfl wX11 tyX11_ok (kAW (v_0_1 (List.mem_of_getElem? (i := 5) rfl)) rfl) (kAW (v_0_1 (List.mem_of_getElem? (i := 6) rfl)) rfl) (kAW (v_0_0 (List.mem_of_getElem? (i := 1) rfl)) rfl) (dfX11) dL_law_0 (fun x0 H hW => ?_)
    have hW : WL K [(x0, .inr (11, [.null, .null, .null, .null, .null, .null, .null, .null, .null, .null, .null, .null, .null, .null, .null, .int (0 : Int32)]))] H _ := hW
    refine (show XX K 1 16 H _ 3 ls [.ref x0] from ?_)
    refine q_dup hM dL_law_3 rfl ?_
    refine l_callI (As := []) (rest := [.ref x0]) (wr := []) hM hW hR (hCk (by decide) (by decide)) nyX11_init (kAW (v_0_1 (List.mem_of_getElem? (i := 7) rfl)) rfl) (k_X11_init _ _ cA x0) (i0 := 0) rfl [] rfl rfl (by decide) (by decide) rfl rfl hl.1 (Nat.le_of_ble_eq_true rfl) dL_law_4 (fun ws1 H locs hws hW => ?_)
    refine Exists.elim hws (fun xq1 hws => ?_)
    refine Exists.elim hws (fun xq2 hws => ?_)
    refine Exists.elim hws (fun xq3 hws => ?_)
    refine Exists.elim hws (fun xq4 hws => ?_)
    refine Exists.elim hws (fun xq5 hws => ?_)
    refine Exists.elim hws (fun xr1 hws => ?_)
    refine Exists.elim hws (fun xq6 hws => ?_)
    refine Exists.elim hws (fun xq7 hws => ?_)
    refine Exists.elim hws (fun xq8 hws => ?_)
    refine Exists.elim hws (fun xq9 hws => ?_)
    refine Exists.elim hws (fun xr2 hws => ?_)
    refine Exists.elim hws (fun xq10 hws => ?_)
    refine Exists.elim hws (fun xq11 hws => ?_)
    refine Exists.elim hws (fun xq12 hws => ?_)
    refine Exists.elim hws (fun xq13 hws => ?_)
    refine Exists.elim hws (fun xr3 hws => ?_)
    refine Exists.elim hws (fun xq14 hws => ?_)
    refine Exists.elim hws (fun xq15 hws => ?_)
    refine Exists.elim hws (fun xq16 hws => ?_)
    refine Exists.elim hws (fun xq17 hws => ?_)
    refine Exists.elim hws (fun xr4 hws => ?_)
    refine Exists.elim hws (fun xq18 hws => ?_)
    refine Exists.elim hws (fun xq19 hws => ?_)
    refine Exists.elim hws (fun xq20 hws => ?_)
    refine Exists.elim hws (fun xq21 hws => ?_)
    refine Exists.elim hws (fun xq22 hws => ?_)
    refine Exists.elim hws (fun xq23 hws => ?_)
    refine Exists.elim hws (fun xq24 hws => ?_)
    refine Exists.elim hws (fun xq25 hws => ?_)
    refine Exists.elim hws (fun xq26 hws => ?_)
    refine Exists.elim hws (fun xq27 hws => ?_)
    refine Exists.elim hws (fun xq28 hws => ?_)
    refine Exists.elim hws (fun xq29 hws => ?_)
    refine Exists.elim hws (fun xq30 hws => ?_)
    refine Exists.elim hws (fun xq31 hws => ?_)
    refine Exists.elim hws (fun xq32 hws => ?_)
    refine Exists.elim hws (fun xq33 hws => ?_)
    refine Exists.elim hws (fun xq34 hws => ?_)
    refine Exists.elim hws (fun xq35 hws => ?_)
    refine Exists.elim hws (fun xq36 hws => ?_)
    refine Exists.elim hws (fun xq37 hws => ?_)
    refine Exists.elim hws (fun xq38 hws => ?_)
    refine Exists.elim hws (fun xq39 hws => ?_)
    refine Exists.elim hws (fun xq40 hws => ?_)
    refine Exists.elim hws (fun xq41 hws => ?_)
    refine Exists.elim hws (fun xq42 hws => ?_)
    refine Exists.elim hws (fun xq43 hws => ?_)
    refine Exists.elim hws (fun xq44 hws => ?_)
    refine Exists.elim hws (fun xq45 hws => ?_)
    refine Exists.elim hws (fun xq46 hws => ?_)
    refine Exists.elim hws (fun xq47 hws => ?_)
    refine Exists.elim hws (fun xq48 hws => ?_)
    refine Exists.elim hws (fun xq49 hws => ?_)
    refine Exists.elim hws (fun xq50 hws => ?_)
    refine Exists.elim hws (fun xq51 hws => ?_)
    refine Exists.elim hws (fun xq52 hws => ?_)
    refine Exists.elim hws (fun xq53 hws => ?_)
    refine Exists.elim hws (fun xq54 hws => ?_)
    refine Exists.elim hws (fun xq55 hws => ?_)
    refine Exists.elim hws (fun xq56 hws => ?_)
    refine Exists.elim hws (fun xq57 hws => ?_)
    refine Exists.elim hws (fun xq58 hws => ?_)
    refine Exists.elim hws (fun xq59 hws => ?_)
    refine Exists.elim hws (fun xq60 hws => ?_)
    refine Exists.elim hws (fun xq61 hws => ?_)
    refine Exists.elim hws (fun xq62 hws => ?_)
    refine Exists.elim hws (fun xq63 hws => ?_)
    refine Exists.elim hws (fun xq64 hws => ?_)
    refine Exists.elim hws (fun xq65 hws => ?_)
    refine Exists.elim hws (fun xq66 hws => ?_)
    refine Exists.elim hws (fun xq67 hws => ?_)
    refine Exists.elim hws (fun xr5 hws => ?_)
    refine Exists.elim hws (fun xq68 hws => ?_)
    refine Exists.elim hws (fun xr6 hws => ?_)
    refine Exists.elim hws (fun xq69 hws => ?_)
    refine Exists.elim hws (fun xq70 hws => ?_)
    refine Exists.elim hws (fun xq71 hws => ?_)
    refine Exists.elim hws (fun xq72 hws => ?_)
    refine Exists.elim hws (fun xq73 hws => ?_)
    refine Exists.elim hws (fun xq74 hws => ?_)
    refine Exists.elim hws (fun xq75 hws => ?_)
    refine Exists.elim hws (fun xq76 hws => ?_)
    refine Exists.elim hws (fun xq77 hws => ?_)
    refine Exists.elim hws (fun xq78 hws => ?_)
    refine Exists.elim hws (fun xq79 hws => ?_)
    subst hws
    have hW : WL K [(x0, .inr (11, [.ref xq1, .ref xq3, .ref xq44, .ref xq66, .ref xq71, .ref xq78, .ref xq42, .ref xq43, .ref xq39, .ref xq25, .ref xq6, .ref xq10, .ref xq14, .ref xq18, .ref xq32, .int (0 : Int32)])), (xq1, .inr (10, [.ref xq2, .int (0 : Int32)])), (xq2, ia (cA 0) 260 (fun _ => 0)), (xq3, .inr (5, [.ref xq4, .ref xq5, .int (0 : Int32)])), (xq4, ia (cA 0) 12 (fun _ => 0)), (xq5, qa (cA 1) 12 (fun i => if i < 12 then some (xr1 i) else none)), ((xr1 0), ia (cA 0) 12 (fun _ => 0)), ((xr1 1), ia (cA 0) 12 (fun _ => 0)), ((xr1 2), ia (cA 0) 12 (fun _ => 0)), ((xr1 3), ia (cA 0) 12 (fun _ => 0)), ((xr1 4), ia (cA 0) 12 (fun _ => 0)), ((xr1 5), ia (cA 0) 12 (fun _ => 0)), ((xr1 6), ia (cA 0) 12 (fun _ => 0)), ((xr1 7), ia (cA 0) 12 (fun _ => 0)), ((xr1 8), ia (cA 0) 12 (fun _ => 0)), ((xr1 9), ia (cA 0) 12 (fun _ => 0)), ((xr1 10), ia (cA 0) 12 (fun _ => 0)), ((xr1 11), ia (cA 0) 12 (fun _ => 0)), (xq6, .inr (7, [.ref xq7, .ref xq8, .ref xq9, .int (0 : Int32), .int (0 : Int32), .int (0 : Int32), .int (0 : Int32), .int (1 : Int32)])), (xq7, ia (cA 0) 8 (fun _ => 0)), (xq8, ia (cA 0) 8 (fun _ => 0)), (xq9, qa (cA 1) 8 (fun i => if i < 8 then some (xr2 i) else none)), ((xr2 0), ia (cA 0) 12 (fun _ => 0)), ((xr2 1), ia (cA 0) 12 (fun _ => 0)), ((xr2 2), ia (cA 0) 12 (fun _ => 0)), ((xr2 3), ia (cA 0) 12 (fun _ => 0)), ((xr2 4), ia (cA 0) 12 (fun _ => 0)), ((xr2 5), ia (cA 0) 12 (fun _ => 0)), ((xr2 6), ia (cA 0) 12 (fun _ => 0)), ((xr2 7), ia (cA 0) 12 (fun _ => 0)), (xq10, .inr (7, [.ref xq11, .ref xq12, .ref xq13, .int (0 : Int32), .int (0 : Int32), .int (0 : Int32), .int (0 : Int32), .int (1 : Int32)])), (xq11, ia (cA 0) 8 (fun _ => 0)), (xq12, ia (cA 0) 8 (fun _ => 0)), (xq13, qa (cA 1) 8 (fun i => if i < 8 then some (xr3 i) else none)), ((xr3 0), ia (cA 0) 12 (fun _ => 0)), ((xr3 1), ia (cA 0) 12 (fun _ => 0)), ((xr3 2), ia (cA 0) 12 (fun _ => 0)), ((xr3 3), ia (cA 0) 12 (fun _ => 0)), ((xr3 4), ia (cA 0) 12 (fun _ => 0)), ((xr3 5), ia (cA 0) 12 (fun _ => 0)), ((xr3 6), ia (cA 0) 12 (fun _ => 0)), ((xr3 7), ia (cA 0) 12 (fun _ => 0)), (xq14, .inr (7, [.ref xq15, .ref xq16, .ref xq17, .int (0 : Int32), .int (0 : Int32), .int (0 : Int32), .int (0 : Int32), .int (1 : Int32)])), (xq15, ia (cA 0) 8 (fun _ => 0)), (xq16, ia (cA 0) 8 (fun _ => 0)), (xq17, qa (cA 1) 8 (fun i => if i < 8 then some (xr4 i) else none)), ((xr4 0), ia (cA 0) 12 (fun _ => 0)), ((xr4 1), ia (cA 0) 12 (fun _ => 0)), ((xr4 2), ia (cA 0) 12 (fun _ => 0)), ((xr4 3), ia (cA 0) 12 (fun _ => 0)), ((xr4 4), ia (cA 0) 12 (fun _ => 0)), ((xr4 5), ia (cA 0) 12 (fun _ => 0)), ((xr4 6), ia (cA 0) 12 (fun _ => 0)), ((xr4 7), ia (cA 0) 12 (fun _ => 0)), (xq18, .inr (3, [.ref xq19, .ref xq20, .ref xq21, .ref xq22, .ref xq23, .ref xq24, .int (0 : Int32), .int (0 : Int32)])), (xq19, ia (cA 0) 16 (fun _ => 0)), (xq20, ia (cA 0) 16 (fun _ => 0)), (xq21, ia (cA 0) 16 (fun _ => 0)), (xq22, ia (cA 0) 256 (fun _ => 0)), (xq23, ia (cA 0) 256 (fun _ => 0)), (xq24, ia (cA 0) 64 (fun _ => 0)), (xq25, .inr (3, [.ref xq26, .ref xq27, .ref xq28, .ref xq29, .ref xq30, .ref xq31, .int (0 : Int32), .int (0 : Int32)])), (xq26, ia (cA 0) 16 (fun _ => 0)), (xq27, ia (cA 0) 16 (fun _ => 0)), (xq28, ia (cA 0) 16 (fun _ => 0)), (xq29, ia (cA 0) 256 (fun _ => 0)), (xq30, ia (cA 0) 256 (fun _ => 0)), (xq31, ia (cA 0) 64 (fun _ => 0)), (xq32, .inr (3, [.ref xq33, .ref xq34, .ref xq35, .ref xq36, .ref xq37, .ref xq38, .int (0 : Int32), .int (0 : Int32)])), (xq33, ia (cA 0) 16 (fun _ => 0)), (xq34, ia (cA 0) 16 (fun _ => 0)), (xq35, ia (cA 0) 16 (fun _ => 0)), (xq36, ia (cA 0) 256 (fun _ => 0)), (xq37, ia (cA 0) 256 (fun _ => 0)), (xq38, ia (cA 0) 64 (fun _ => 0)), (xq39, .inr (0, [.ref xq40, .ref xq41, .int (0 : Int32)])), (xq40, ia (cA 0) 48 (fun _ => 0)), (xq41, ia (cA 0) 48 (fun _ => 0)), (xq42, .inr (1, [.ref xq2, .int (0 : Int32), .int (0 : Int32), .int (0 : Int32), .ref xq39])), (xq43, .inr (4, [.ref xq2, .int (0 : Int32), .int (0 : Int32), .int (0 : Int32), .ref xq32])), (xq44, .inr (2, [.ref xq3, .ref xq45, .ref xq64, .ref xq65, .int (0 : Int32), .int (0 : Int32), .int (0 : Int32), .int (0 : Int32), .int (0 : Int32), .ref xq18, .ref xq6])), (xq45, qa (cA 2) 6 (fun j => some ([xq46, xq49, xq52, xq55, xq58, xq61].getD j 0))), (xq46, .inr (0, [.ref xq47, .ref xq48, .int (0 : Int32)])), (xq47, ia (cA 0) 48 (fun _ => 0)), (xq48, ia (cA 0) 48 (fun _ => 0)), (xq49, .inr (0, [.ref xq50, .ref xq51, .int (0 : Int32)])), (xq50, ia (cA 0) 48 (fun _ => 0)), (xq51, ia (cA 0) 48 (fun _ => 0)), (xq52, .inr (0, [.ref xq53, .ref xq54, .int (0 : Int32)])), (xq53, ia (cA 0) 48 (fun _ => 0)), (xq54, ia (cA 0) 48 (fun _ => 0)), (xq55, .inr (0, [.ref xq56, .ref xq57, .int (0 : Int32)])), (xq56, ia (cA 0) 48 (fun _ => 0)), (xq57, ia (cA 0) 48 (fun _ => 0)), (xq58, .inr (0, [.ref xq59, .ref xq60, .int (0 : Int32)])), (xq59, ia (cA 0) 48 (fun _ => 0)), (xq60, ia (cA 0) 48 (fun _ => 0)), (xq61, .inr (0, [.ref xq62, .ref xq63, .int (0 : Int32)])), (xq62, ia (cA 0) 48 (fun _ => 0)), (xq63, ia (cA 0) 48 (fun _ => 0)), (xq64, ia (cA 0) 10 (fun _ => -1)), (xq65, ia (cA 0) 8 (fun _ => 0)), (xq66, .inr (9, [.ref xq67, .ref xq68, .ref xq69, .ref xq70, .int (0 : Int32)])), (xq67, qa (cA 1) 8 (fun i => if i < 8 then some (xr5 i) else none)), ((xr5 0), ia (cA 0) 8 (fun _ => 0)), ((xr5 1), ia (cA 0) 8 (fun _ => 0)), ((xr5 2), ia (cA 0) 8 (fun _ => 0)), ((xr5 3), ia (cA 0) 8 (fun _ => 0)), ((xr5 4), ia (cA 0) 8 (fun _ => 0)), ((xr5 5), ia (cA 0) 8 (fun _ => 0)), ((xr5 6), ia (cA 0) 8 (fun _ => 0)), ((xr5 7), ia (cA 0) 8 (fun _ => 0)), (xq68, qa (cA 1) 5 (fun i => if i < 5 then some (xr6 i) else none)), ((xr6 0), ia (cA 0) 6 (fun _ => 0)), ((xr6 1), ia (cA 0) 6 (fun _ => 0)), ((xr6 2), ia (cA 0) 6 (fun _ => 0)), ((xr6 3), ia (cA 0) 6 (fun _ => 0)), ((xr6 4), ia (cA 0) 6 (fun _ => 0)), (xq69, ia (cA 0) 6 (fun _ => 0)), (xq70, ia (cA 0) 6 (fun _ => 0)), (xq71, .inr (8, [.ref xq72, .ref xq73, .ref xq74, .ref xq75, .ref xq76, .ref xq77, .int (0 : Int32)])), (xq72, ia (cA 0) 5 (fun _ => 0)), (xq73, ja (cA 5) 341 (fun _ => 0)), (xq74, ja (cA 5) 341 (fun _ => 0)), (xq75, ia (cA 0) 341 (fun _ => 0)), (xq76, ia (cA 0) 341 (fun _ => 0)), (xq77, ia (cA 0) 341 (fun _ => 0)), (xq78, .inr (6, [.ref xq79, .int (0 : Int32), .int (0 : Int32), .int (1 : Int32)])), (xq79, ia (cA 0) 9 (fun _ => 0))] H locs := hW
    refine (show XX K 129 5321 H locs 7 ls [.ref x0] from ?_)
    refine q_astore_n (lv9 := [(1, .ref x0), (0, .ref b)]) hM dL_law_7 hl (by decide) rfl (fun ls hl => ?_)
    refine l_new (ci := 12) (C := RX12) (T := TX12) (N := 86) (fs := [.null, .int (0 : Int32), .int (0 : Int32), .int (0 : Int32), .int (0 : Int32), .int (0 : Int32), .int (0 : Int32), .int (0 : Int32), .int (0 : Int32), .int (0 : Int32), .null, .null, .null, .null, .null, .null, .null, .null, .int (0 : Int32), .int (0 : Int32), .int (0 : Int32), .null, .null, .null, .null, .null, .null, .null, .null, .null, .null, .int (0 : Int32), .int (0 : Int32), .null, .null, .null, .null, .null, .null, .int (0 : Int32), .int (0 : Int32), .null, .int (0 : Int32), .int (0 : Int32), .int (0 : Int32), .int (0 : Int32), .int (0 : Int32), .int (0 : Int32), .int (0 : Int32), .int (0 : Int32), .null, .null, .null, .null, .null, .null, .int (0 : Int32), .int (0 : Int32), .int (0 : Int32), .int (0 : Int32), .int (0 : Int32), .int (0 : Int32), .int (0 : Int32), .int (0 : Int32), .int (0 : Int32), .int (0 : Int32), .int (0 : Int32), .null, .null, .null, .null, .null, .null, .null, .null, .int (0 : Int32), .null, .null, .null, .null, .null, .null, .null, .null, .null, .null]) (ty := tyX12) hM hW (hCk (by decide) (by decide)) rfl wX12 tyX12_ok (kAW (v_4_2 (List.mem_of_getElem? (i := 7) rfl)) rfl) (kAW (v_4_2 (List.mem_of_getElem? (i := 8) rfl)) rfl) (kAW (v_0_0 (List.mem_of_getElem? (i := 13) rfl)) rfl) (dfX12) dL_law_8 (fun m0 H hW => ?_)
    have hW : WL K [(x0, .inr (11, [.ref xq1, .ref xq3, .ref xq44, .ref xq66, .ref xq71, .ref xq78, .ref xq42, .ref xq43, .ref xq39, .ref xq25, .ref xq6, .ref xq10, .ref xq14, .ref xq18, .ref xq32, .int (0 : Int32)])), (xq1, .inr (10, [.ref xq2, .int (0 : Int32)])), (xq2, ia (cA 0) 260 (fun _ => 0)), (xq3, .inr (5, [.ref xq4, .ref xq5, .int (0 : Int32)])), (xq4, ia (cA 0) 12 (fun _ => 0)), (xq5, qa (cA 1) 12 (fun i => if i < 12 then some (xr1 i) else none)), ((xr1 0), ia (cA 0) 12 (fun _ => 0)), ((xr1 1), ia (cA 0) 12 (fun _ => 0)), ((xr1 2), ia (cA 0) 12 (fun _ => 0)), ((xr1 3), ia (cA 0) 12 (fun _ => 0)), ((xr1 4), ia (cA 0) 12 (fun _ => 0)), ((xr1 5), ia (cA 0) 12 (fun _ => 0)), ((xr1 6), ia (cA 0) 12 (fun _ => 0)), ((xr1 7), ia (cA 0) 12 (fun _ => 0)), ((xr1 8), ia (cA 0) 12 (fun _ => 0)), ((xr1 9), ia (cA 0) 12 (fun _ => 0)), ((xr1 10), ia (cA 0) 12 (fun _ => 0)), ((xr1 11), ia (cA 0) 12 (fun _ => 0)), (xq6, .inr (7, [.ref xq7, .ref xq8, .ref xq9, .int (0 : Int32), .int (0 : Int32), .int (0 : Int32), .int (0 : Int32), .int (1 : Int32)])), (xq7, ia (cA 0) 8 (fun _ => 0)), (xq8, ia (cA 0) 8 (fun _ => 0)), (xq9, qa (cA 1) 8 (fun i => if i < 8 then some (xr2 i) else none)), ((xr2 0), ia (cA 0) 12 (fun _ => 0)), ((xr2 1), ia (cA 0) 12 (fun _ => 0)), ((xr2 2), ia (cA 0) 12 (fun _ => 0)), ((xr2 3), ia (cA 0) 12 (fun _ => 0)), ((xr2 4), ia (cA 0) 12 (fun _ => 0)), ((xr2 5), ia (cA 0) 12 (fun _ => 0)), ((xr2 6), ia (cA 0) 12 (fun _ => 0)), ((xr2 7), ia (cA 0) 12 (fun _ => 0)), (xq10, .inr (7, [.ref xq11, .ref xq12, .ref xq13, .int (0 : Int32), .int (0 : Int32), .int (0 : Int32), .int (0 : Int32), .int (1 : Int32)])), (xq11, ia (cA 0) 8 (fun _ => 0)), (xq12, ia (cA 0) 8 (fun _ => 0)), (xq13, qa (cA 1) 8 (fun i => if i < 8 then some (xr3 i) else none)), ((xr3 0), ia (cA 0) 12 (fun _ => 0)), ((xr3 1), ia (cA 0) 12 (fun _ => 0)), ((xr3 2), ia (cA 0) 12 (fun _ => 0)), ((xr3 3), ia (cA 0) 12 (fun _ => 0)), ((xr3 4), ia (cA 0) 12 (fun _ => 0)), ((xr3 5), ia (cA 0) 12 (fun _ => 0)), ((xr3 6), ia (cA 0) 12 (fun _ => 0)), ((xr3 7), ia (cA 0) 12 (fun _ => 0)), (xq14, .inr (7, [.ref xq15, .ref xq16, .ref xq17, .int (0 : Int32), .int (0 : Int32), .int (0 : Int32), .int (0 : Int32), .int (1 : Int32)])), (xq15, ia (cA 0) 8 (fun _ => 0)), (xq16, ia (cA 0) 8 (fun _ => 0)), (xq17, qa (cA 1) 8 (fun i => if i < 8 then some (xr4 i) else none)), ((xr4 0), ia (cA 0) 12 (fun _ => 0)), ((xr4 1), ia (cA 0) 12 (fun _ => 0)), ((xr4 2), ia (cA 0) 12 (fun _ => 0)), ((xr4 3), ia (cA 0) 12 (fun _ => 0)), ((xr4 4), ia (cA 0) 12 (fun _ => 0)), ((xr4 5), ia (cA 0) 12 (fun _ => 0)), ((xr4 6), ia (cA 0) 12 (fun _ => 0)), ((xr4 7), ia (cA 0) 12 (fun _ => 0)), (xq18, .inr (3, [.ref xq19, .ref xq20, .ref xq21, .ref xq22, .ref xq23, .ref xq24, .int (0 : Int32), .int (0 : Int32)])), (xq19, ia (cA 0) 16 (fun _ => 0)), (xq20, ia (cA 0) 16 (fun _ => 0)), (xq21, ia (cA 0) 16 (fun _ => 0)), (xq22, ia (cA 0) 256 (fun _ => 0)), (xq23, ia (cA 0) 256 (fun _ => 0)), (xq24, ia (cA 0) 64 (fun _ => 0)), (xq25, .inr (3, [.ref xq26, .ref xq27, .ref xq28, .ref xq29, .ref xq30, .ref xq31, .int (0 : Int32), .int (0 : Int32)])), (xq26, ia (cA 0) 16 (fun _ => 0)), (xq27, ia (cA 0) 16 (fun _ => 0)), (xq28, ia (cA 0) 16 (fun _ => 0)), (xq29, ia (cA 0) 256 (fun _ => 0)), (xq30, ia (cA 0) 256 (fun _ => 0)), (xq31, ia (cA 0) 64 (fun _ => 0)), (xq32, .inr (3, [.ref xq33, .ref xq34, .ref xq35, .ref xq36, .ref xq37, .ref xq38, .int (0 : Int32), .int (0 : Int32)])), (xq33, ia (cA 0) 16 (fun _ => 0)), (xq34, ia (cA 0) 16 (fun _ => 0)), (xq35, ia (cA 0) 16 (fun _ => 0)), (xq36, ia (cA 0) 256 (fun _ => 0)), (xq37, ia (cA 0) 256 (fun _ => 0)), (xq38, ia (cA 0) 64 (fun _ => 0)), (xq39, .inr (0, [.ref xq40, .ref xq41, .int (0 : Int32)])), (xq40, ia (cA 0) 48 (fun _ => 0)), (xq41, ia (cA 0) 48 (fun _ => 0)), (xq42, .inr (1, [.ref xq2, .int (0 : Int32), .int (0 : Int32), .int (0 : Int32), .ref xq39])), (xq43, .inr (4, [.ref xq2, .int (0 : Int32), .int (0 : Int32), .int (0 : Int32), .ref xq32])), (xq44, .inr (2, [.ref xq3, .ref xq45, .ref xq64, .ref xq65, .int (0 : Int32), .int (0 : Int32), .int (0 : Int32), .int (0 : Int32), .int (0 : Int32), .ref xq18, .ref xq6])), (xq45, qa (cA 2) 6 (fun j => some ([xq46, xq49, xq52, xq55, xq58, xq61].getD j 0))), (xq46, .inr (0, [.ref xq47, .ref xq48, .int (0 : Int32)])), (xq47, ia (cA 0) 48 (fun _ => 0)), (xq48, ia (cA 0) 48 (fun _ => 0)), (xq49, .inr (0, [.ref xq50, .ref xq51, .int (0 : Int32)])), (xq50, ia (cA 0) 48 (fun _ => 0)), (xq51, ia (cA 0) 48 (fun _ => 0)), (xq52, .inr (0, [.ref xq53, .ref xq54, .int (0 : Int32)])), (xq53, ia (cA 0) 48 (fun _ => 0)), (xq54, ia (cA 0) 48 (fun _ => 0)), (xq55, .inr (0, [.ref xq56, .ref xq57, .int (0 : Int32)])), (xq56, ia (cA 0) 48 (fun _ => 0)), (xq57, ia (cA 0) 48 (fun _ => 0)), (xq58, .inr (0, [.ref xq59, .ref xq60, .int (0 : Int32)])), (xq59, ia (cA 0) 48 (fun _ => 0)), (xq60, ia (cA 0) 48 (fun _ => 0)), (xq61, .inr (0, [.ref xq62, .ref xq63, .int (0 : Int32)])), (xq62, ia (cA 0) 48 (fun _ => 0)), (xq63, ia (cA 0) 48 (fun _ => 0)), (xq64, ia (cA 0) 10 (fun _ => -1)), (xq65, ia (cA 0) 8 (fun _ => 0)), (xq66, .inr (9, [.ref xq67, .ref xq68, .ref xq69, .ref xq70, .int (0 : Int32)])), (xq67, qa (cA 1) 8 (fun i => if i < 8 then some (xr5 i) else none)), ((xr5 0), ia (cA 0) 8 (fun _ => 0)), ((xr5 1), ia (cA 0) 8 (fun _ => 0)), ((xr5 2), ia (cA 0) 8 (fun _ => 0)), ((xr5 3), ia (cA 0) 8 (fun _ => 0)), ((xr5 4), ia (cA 0) 8 (fun _ => 0)), ((xr5 5), ia (cA 0) 8 (fun _ => 0)), ((xr5 6), ia (cA 0) 8 (fun _ => 0)), ((xr5 7), ia (cA 0) 8 (fun _ => 0)), (xq68, qa (cA 1) 5 (fun i => if i < 5 then some (xr6 i) else none)), ((xr6 0), ia (cA 0) 6 (fun _ => 0)), ((xr6 1), ia (cA 0) 6 (fun _ => 0)), ((xr6 2), ia (cA 0) 6 (fun _ => 0)), ((xr6 3), ia (cA 0) 6 (fun _ => 0)), ((xr6 4), ia (cA 0) 6 (fun _ => 0)), (xq69, ia (cA 0) 6 (fun _ => 0)), (xq70, ia (cA 0) 6 (fun _ => 0)), (xq71, .inr (8, [.ref xq72, .ref xq73, .ref xq74, .ref xq75, .ref xq76, .ref xq77, .int (0 : Int32)])), (xq72, ia (cA 0) 5 (fun _ => 0)), (xq73, ja (cA 5) 341 (fun _ => 0)), (xq74, ja (cA 5) 341 (fun _ => 0)), (xq75, ia (cA 0) 341 (fun _ => 0)), (xq76, ia (cA 0) 341 (fun _ => 0)), (xq77, ia (cA 0) 341 (fun _ => 0)), (xq78, .inr (6, [.ref xq79, .int (0 : Int32), .int (0 : Int32), .int (1 : Int32)])), (xq79, ia (cA 0) 9 (fun _ => 0)), (m0, .inr (12, [.null, .int (0 : Int32), .int (0 : Int32), .int (0 : Int32), .int (0 : Int32), .int (0 : Int32), .int (0 : Int32), .int (0 : Int32), .int (0 : Int32), .int (0 : Int32), .null, .null, .null, .null, .null, .null, .null, .null, .int (0 : Int32), .int (0 : Int32), .int (0 : Int32), .null, .null, .null, .null, .null, .null, .null, .null, .null, .null, .int (0 : Int32), .int (0 : Int32), .null, .null, .null, .null, .null, .null, .int (0 : Int32), .int (0 : Int32), .null, .int (0 : Int32), .int (0 : Int32), .int (0 : Int32), .int (0 : Int32), .int (0 : Int32), .int (0 : Int32), .int (0 : Int32), .int (0 : Int32), .null, .null, .null, .null, .null, .null, .int (0 : Int32), .int (0 : Int32), .int (0 : Int32), .int (0 : Int32), .int (0 : Int32), .int (0 : Int32), .int (0 : Int32), .int (0 : Int32), .int (0 : Int32), .int (0 : Int32), .int (0 : Int32), .null, .null, .null, .null, .null, .null, .null, .null, .int (0 : Int32), .null, .null, .null, .null, .null, .null, .null, .null, .null, .null]))] H _ := hW
    refine (show XX K 130 5407 H _ 11 ls [.ref m0] from ?_)
    refine q_dup hM dL_law_11 rfl ?_
    refine l_callI (As := []) (rest := [.ref m0]) (wr := [(x0, .inr (11, [.ref xq1, .ref xq3, .ref xq44, .ref xq66, .ref xq71, .ref xq78, .ref xq42, .ref xq43, .ref xq39, .ref xq25, .ref xq6, .ref xq10, .ref xq14, .ref xq18, .ref xq32, .int (0 : Int32)])), (xq1, .inr (10, [.ref xq2, .int (0 : Int32)])), (xq2, ia (cA 0) 260 (fun _ => 0)), (xq3, .inr (5, [.ref xq4, .ref xq5, .int (0 : Int32)])), (xq4, ia (cA 0) 12 (fun _ => 0)), (xq5, qa (cA 1) 12 (fun i => if i < 12 then some (xr1 i) else none)), ((xr1 0), ia (cA 0) 12 (fun _ => 0)), ((xr1 1), ia (cA 0) 12 (fun _ => 0)), ((xr1 2), ia (cA 0) 12 (fun _ => 0)), ((xr1 3), ia (cA 0) 12 (fun _ => 0)), ((xr1 4), ia (cA 0) 12 (fun _ => 0)), ((xr1 5), ia (cA 0) 12 (fun _ => 0)), ((xr1 6), ia (cA 0) 12 (fun _ => 0)), ((xr1 7), ia (cA 0) 12 (fun _ => 0)), ((xr1 8), ia (cA 0) 12 (fun _ => 0)), ((xr1 9), ia (cA 0) 12 (fun _ => 0)), ((xr1 10), ia (cA 0) 12 (fun _ => 0)), ((xr1 11), ia (cA 0) 12 (fun _ => 0)), (xq6, .inr (7, [.ref xq7, .ref xq8, .ref xq9, .int (0 : Int32), .int (0 : Int32), .int (0 : Int32), .int (0 : Int32), .int (1 : Int32)])), (xq7, ia (cA 0) 8 (fun _ => 0)), (xq8, ia (cA 0) 8 (fun _ => 0)), (xq9, qa (cA 1) 8 (fun i => if i < 8 then some (xr2 i) else none)), ((xr2 0), ia (cA 0) 12 (fun _ => 0)), ((xr2 1), ia (cA 0) 12 (fun _ => 0)), ((xr2 2), ia (cA 0) 12 (fun _ => 0)), ((xr2 3), ia (cA 0) 12 (fun _ => 0)), ((xr2 4), ia (cA 0) 12 (fun _ => 0)), ((xr2 5), ia (cA 0) 12 (fun _ => 0)), ((xr2 6), ia (cA 0) 12 (fun _ => 0)), ((xr2 7), ia (cA 0) 12 (fun _ => 0)), (xq10, .inr (7, [.ref xq11, .ref xq12, .ref xq13, .int (0 : Int32), .int (0 : Int32), .int (0 : Int32), .int (0 : Int32), .int (1 : Int32)])), (xq11, ia (cA 0) 8 (fun _ => 0)), (xq12, ia (cA 0) 8 (fun _ => 0)), (xq13, qa (cA 1) 8 (fun i => if i < 8 then some (xr3 i) else none)), ((xr3 0), ia (cA 0) 12 (fun _ => 0)), ((xr3 1), ia (cA 0) 12 (fun _ => 0)), ((xr3 2), ia (cA 0) 12 (fun _ => 0)), ((xr3 3), ia (cA 0) 12 (fun _ => 0)), ((xr3 4), ia (cA 0) 12 (fun _ => 0)), ((xr3 5), ia (cA 0) 12 (fun _ => 0)), ((xr3 6), ia (cA 0) 12 (fun _ => 0)), ((xr3 7), ia (cA 0) 12 (fun _ => 0)), (xq14, .inr (7, [.ref xq15, .ref xq16, .ref xq17, .int (0 : Int32), .int (0 : Int32), .int (0 : Int32), .int (0 : Int32), .int (1 : Int32)])), (xq15, ia (cA 0) 8 (fun _ => 0)), (xq16, ia (cA 0) 8 (fun _ => 0)), (xq17, qa (cA 1) 8 (fun i => if i < 8 then some (xr4 i) else none)), ((xr4 0), ia (cA 0) 12 (fun _ => 0)), ((xr4 1), ia (cA 0) 12 (fun _ => 0)), ((xr4 2), ia (cA 0) 12 (fun _ => 0)), ((xr4 3), ia (cA 0) 12 (fun _ => 0)), ((xr4 4), ia (cA 0) 12 (fun _ => 0)), ((xr4 5), ia (cA 0) 12 (fun _ => 0)), ((xr4 6), ia (cA 0) 12 (fun _ => 0)), ((xr4 7), ia (cA 0) 12 (fun _ => 0)), (xq18, .inr (3, [.ref xq19, .ref xq20, .ref xq21, .ref xq22, .ref xq23, .ref xq24, .int (0 : Int32), .int (0 : Int32)])), (xq19, ia (cA 0) 16 (fun _ => 0)), (xq20, ia (cA 0) 16 (fun _ => 0)), (xq21, ia (cA 0) 16 (fun _ => 0)), (xq22, ia (cA 0) 256 (fun _ => 0)), (xq23, ia (cA 0) 256 (fun _ => 0)), (xq24, ia (cA 0) 64 (fun _ => 0)), (xq25, .inr (3, [.ref xq26, .ref xq27, .ref xq28, .ref xq29, .ref xq30, .ref xq31, .int (0 : Int32), .int (0 : Int32)])), (xq26, ia (cA 0) 16 (fun _ => 0)), (xq27, ia (cA 0) 16 (fun _ => 0)), (xq28, ia (cA 0) 16 (fun _ => 0)), (xq29, ia (cA 0) 256 (fun _ => 0)), (xq30, ia (cA 0) 256 (fun _ => 0)), (xq31, ia (cA 0) 64 (fun _ => 0)), (xq32, .inr (3, [.ref xq33, .ref xq34, .ref xq35, .ref xq36, .ref xq37, .ref xq38, .int (0 : Int32), .int (0 : Int32)])), (xq33, ia (cA 0) 16 (fun _ => 0)), (xq34, ia (cA 0) 16 (fun _ => 0)), (xq35, ia (cA 0) 16 (fun _ => 0)), (xq36, ia (cA 0) 256 (fun _ => 0)), (xq37, ia (cA 0) 256 (fun _ => 0)), (xq38, ia (cA 0) 64 (fun _ => 0)), (xq39, .inr (0, [.ref xq40, .ref xq41, .int (0 : Int32)])), (xq40, ia (cA 0) 48 (fun _ => 0)), (xq41, ia (cA 0) 48 (fun _ => 0)), (xq42, .inr (1, [.ref xq2, .int (0 : Int32), .int (0 : Int32), .int (0 : Int32), .ref xq39])), (xq43, .inr (4, [.ref xq2, .int (0 : Int32), .int (0 : Int32), .int (0 : Int32), .ref xq32])), (xq44, .inr (2, [.ref xq3, .ref xq45, .ref xq64, .ref xq65, .int (0 : Int32), .int (0 : Int32), .int (0 : Int32), .int (0 : Int32), .int (0 : Int32), .ref xq18, .ref xq6])), (xq45, qa (cA 2) 6 (fun j => some ([xq46, xq49, xq52, xq55, xq58, xq61].getD j 0))), (xq46, .inr (0, [.ref xq47, .ref xq48, .int (0 : Int32)])), (xq47, ia (cA 0) 48 (fun _ => 0)), (xq48, ia (cA 0) 48 (fun _ => 0)), (xq49, .inr (0, [.ref xq50, .ref xq51, .int (0 : Int32)])), (xq50, ia (cA 0) 48 (fun _ => 0)), (xq51, ia (cA 0) 48 (fun _ => 0)), (xq52, .inr (0, [.ref xq53, .ref xq54, .int (0 : Int32)])), (xq53, ia (cA 0) 48 (fun _ => 0)), (xq54, ia (cA 0) 48 (fun _ => 0)), (xq55, .inr (0, [.ref xq56, .ref xq57, .int (0 : Int32)])), (xq56, ia (cA 0) 48 (fun _ => 0)), (xq57, ia (cA 0) 48 (fun _ => 0)), (xq58, .inr (0, [.ref xq59, .ref xq60, .int (0 : Int32)])), (xq59, ia (cA 0) 48 (fun _ => 0)), (xq60, ia (cA 0) 48 (fun _ => 0)), (xq61, .inr (0, [.ref xq62, .ref xq63, .int (0 : Int32)])), (xq62, ia (cA 0) 48 (fun _ => 0)), (xq63, ia (cA 0) 48 (fun _ => 0)), (xq64, ia (cA 0) 10 (fun _ => -1)), (xq65, ia (cA 0) 8 (fun _ => 0)), (xq66, .inr (9, [.ref xq67, .ref xq68, .ref xq69, .ref xq70, .int (0 : Int32)])), (xq67, qa (cA 1) 8 (fun i => if i < 8 then some (xr5 i) else none)), ((xr5 0), ia (cA 0) 8 (fun _ => 0)), ((xr5 1), ia (cA 0) 8 (fun _ => 0)), ((xr5 2), ia (cA 0) 8 (fun _ => 0)), ((xr5 3), ia (cA 0) 8 (fun _ => 0)), ((xr5 4), ia (cA 0) 8 (fun _ => 0)), ((xr5 5), ia (cA 0) 8 (fun _ => 0)), ((xr5 6), ia (cA 0) 8 (fun _ => 0)), ((xr5 7), ia (cA 0) 8 (fun _ => 0)), (xq68, qa (cA 1) 5 (fun i => if i < 5 then some (xr6 i) else none)), ((xr6 0), ia (cA 0) 6 (fun _ => 0)), ((xr6 1), ia (cA 0) 6 (fun _ => 0)), ((xr6 2), ia (cA 0) 6 (fun _ => 0)), ((xr6 3), ia (cA 0) 6 (fun _ => 0)), ((xr6 4), ia (cA 0) 6 (fun _ => 0)), (xq69, ia (cA 0) 6 (fun _ => 0)), (xq70, ia (cA 0) 6 (fun _ => 0)), (xq71, .inr (8, [.ref xq72, .ref xq73, .ref xq74, .ref xq75, .ref xq76, .ref xq77, .int (0 : Int32)])), (xq72, ia (cA 0) 5 (fun _ => 0)), (xq73, ja (cA 5) 341 (fun _ => 0)), (xq74, ja (cA 5) 341 (fun _ => 0)), (xq75, ia (cA 0) 341 (fun _ => 0)), (xq76, ia (cA 0) 341 (fun _ => 0)), (xq77, ia (cA 0) 341 (fun _ => 0)), (xq78, .inr (6, [.ref xq79, .int (0 : Int32), .int (0 : Int32), .int (1 : Int32)])), (xq79, ia (cA 0) 9 (fun _ => 0))]) hM hW hR (hCk (by decide) (by decide)) nyX12_init (kAW (v_4_2 (List.mem_of_getElem? (i := 9) rfl)) rfl) (k_X12_init _ _ cA m0) (i0 := 129) rfl [0, 1, 2, 3, 4, 5, 6, 7, 8, 9, 10, 11, 12, 13, 14, 15, 16, 17, 18, 19, 20, 21, 22, 23, 24, 25, 26, 27, 28, 29, 30, 31, 32, 33, 34, 35, 36, 37, 38, 39, 40, 41, 42, 43, 44, 45, 46, 47, 48, 49, 50, 51, 52, 53, 54, 55, 56, 57, 58, 59, 60, 61, 62, 63, 64, 65, 66, 67, 68, 69, 70, 71, 72, 73, 74, 75, 76, 77, 78, 79, 80, 81, 82, 83, 84, 85, 86, 87, 88, 89, 90, 91, 92, 93, 94, 95, 96, 97, 98, 99, 100, 101, 102, 103, 104, 105, 106, 107, 108, 109, 110, 111, 112, 113, 114, 115, 116, 117, 118, 119, 120, 121, 122, 123, 124, 125, 126, 127, 128] rfl rfl (by decide) (by decide) rfl rfl hl.1 (Nat.le_of_ble_eq_true rfl) dL_law_12 (fun ws1 H locs hws hW => ?_)
    refine Exists.elim hws (fun mq1 hws => ?_)
    refine Exists.elim hws (fun mq2 hws => ?_)
    refine Exists.elim hws (fun mq3 hws => ?_)
    refine Exists.elim hws (fun mq4 hws => ?_)
    refine Exists.elim hws (fun mq5 hws => ?_)
    refine Exists.elim hws (fun mq6 hws => ?_)
    refine Exists.elim hws (fun mq7 hws => ?_)
    refine Exists.elim hws (fun mq8 hws => ?_)
    refine Exists.elim hws (fun mq9 hws => ?_)
    refine Exists.elim hws (fun mq10 hws => ?_)
    refine Exists.elim hws (fun mq11 hws => ?_)
    refine Exists.elim hws (fun mq12 hws => ?_)
    refine Exists.elim hws (fun mq13 hws => ?_)
    refine Exists.elim hws (fun mq14 hws => ?_)
    refine Exists.elim hws (fun mq15 hws => ?_)
    refine Exists.elim hws (fun mq16 hws => ?_)
    refine Exists.elim hws (fun mq17 hws => ?_)
    refine Exists.elim hws (fun mq18 hws => ?_)
    refine Exists.elim hws (fun mq19 hws => ?_)
    refine Exists.elim hws (fun mq20 hws => ?_)
    refine Exists.elim hws (fun mq21 hws => ?_)
    refine Exists.elim hws (fun mq22 hws => ?_)
    refine Exists.elim hws (fun mq23 hws => ?_)
    refine Exists.elim hws (fun mq24 hws => ?_)
    refine Exists.elim hws (fun mq25 hws => ?_)
    refine Exists.elim hws (fun mq26 hws => ?_)
    refine Exists.elim hws (fun mq27 hws => ?_)
    refine Exists.elim hws (fun mq28 hws => ?_)
    refine Exists.elim hws (fun mq29 hws => ?_)
    refine Exists.elim hws (fun mq30 hws => ?_)
    refine Exists.elim hws (fun mq31 hws => ?_)
    refine Exists.elim hws (fun mq32 hws => ?_)
    refine Exists.elim hws (fun mq33 hws => ?_)
    refine Exists.elim hws (fun mq34 hws => ?_)
    refine Exists.elim hws (fun mq35 hws => ?_)
    refine Exists.elim hws (fun mq36 hws => ?_)
    refine Exists.elim hws (fun mq37 hws => ?_)
    refine Exists.elim hws (fun mq38 hws => ?_)
    refine Exists.elim hws (fun mq39 hws => ?_)
    refine Exists.elim hws (fun mq40 hws => ?_)
    refine Exists.elim hws (fun mq41 hws => ?_)
    refine Exists.elim hws (fun mq42 hws => ?_)
    refine Exists.elim hws (fun mq43 hws => ?_)
    refine Exists.elim hws (fun mq44 hws => ?_)
    refine Exists.elim hws (fun mq45 hws => ?_)
    refine Exists.elim hws (fun mq46 hws => ?_)
    refine Exists.elim hws (fun mq47 hws => ?_)
    refine Exists.elim hws (fun mq48 hws => ?_)
    refine Exists.elim hws (fun mq49 hws => ?_)
    refine Exists.elim hws (fun mq50 hws => ?_)
    subst hws
    have hW : WL K [(x0, .inr (11, [.ref xq1, .ref xq3, .ref xq44, .ref xq66, .ref xq71, .ref xq78, .ref xq42, .ref xq43, .ref xq39, .ref xq25, .ref xq6, .ref xq10, .ref xq14, .ref xq18, .ref xq32, .int (0 : Int32)])), (xq1, .inr (10, [.ref xq2, .int (0 : Int32)])), (xq2, ia (cA 0) 260 (fun _ => 0)), (xq3, .inr (5, [.ref xq4, .ref xq5, .int (0 : Int32)])), (xq4, ia (cA 0) 12 (fun _ => 0)), (xq5, qa (cA 1) 12 (fun i => if i < 12 then some (xr1 i) else none)), ((xr1 0), ia (cA 0) 12 (fun _ => 0)), ((xr1 1), ia (cA 0) 12 (fun _ => 0)), ((xr1 2), ia (cA 0) 12 (fun _ => 0)), ((xr1 3), ia (cA 0) 12 (fun _ => 0)), ((xr1 4), ia (cA 0) 12 (fun _ => 0)), ((xr1 5), ia (cA 0) 12 (fun _ => 0)), ((xr1 6), ia (cA 0) 12 (fun _ => 0)), ((xr1 7), ia (cA 0) 12 (fun _ => 0)), ((xr1 8), ia (cA 0) 12 (fun _ => 0)), ((xr1 9), ia (cA 0) 12 (fun _ => 0)), ((xr1 10), ia (cA 0) 12 (fun _ => 0)), ((xr1 11), ia (cA 0) 12 (fun _ => 0)), (xq6, .inr (7, [.ref xq7, .ref xq8, .ref xq9, .int (0 : Int32), .int (0 : Int32), .int (0 : Int32), .int (0 : Int32), .int (1 : Int32)])), (xq7, ia (cA 0) 8 (fun _ => 0)), (xq8, ia (cA 0) 8 (fun _ => 0)), (xq9, qa (cA 1) 8 (fun i => if i < 8 then some (xr2 i) else none)), ((xr2 0), ia (cA 0) 12 (fun _ => 0)), ((xr2 1), ia (cA 0) 12 (fun _ => 0)), ((xr2 2), ia (cA 0) 12 (fun _ => 0)), ((xr2 3), ia (cA 0) 12 (fun _ => 0)), ((xr2 4), ia (cA 0) 12 (fun _ => 0)), ((xr2 5), ia (cA 0) 12 (fun _ => 0)), ((xr2 6), ia (cA 0) 12 (fun _ => 0)), ((xr2 7), ia (cA 0) 12 (fun _ => 0)), (xq10, .inr (7, [.ref xq11, .ref xq12, .ref xq13, .int (0 : Int32), .int (0 : Int32), .int (0 : Int32), .int (0 : Int32), .int (1 : Int32)])), (xq11, ia (cA 0) 8 (fun _ => 0)), (xq12, ia (cA 0) 8 (fun _ => 0)), (xq13, qa (cA 1) 8 (fun i => if i < 8 then some (xr3 i) else none)), ((xr3 0), ia (cA 0) 12 (fun _ => 0)), ((xr3 1), ia (cA 0) 12 (fun _ => 0)), ((xr3 2), ia (cA 0) 12 (fun _ => 0)), ((xr3 3), ia (cA 0) 12 (fun _ => 0)), ((xr3 4), ia (cA 0) 12 (fun _ => 0)), ((xr3 5), ia (cA 0) 12 (fun _ => 0)), ((xr3 6), ia (cA 0) 12 (fun _ => 0)), ((xr3 7), ia (cA 0) 12 (fun _ => 0)), (xq14, .inr (7, [.ref xq15, .ref xq16, .ref xq17, .int (0 : Int32), .int (0 : Int32), .int (0 : Int32), .int (0 : Int32), .int (1 : Int32)])), (xq15, ia (cA 0) 8 (fun _ => 0)), (xq16, ia (cA 0) 8 (fun _ => 0)), (xq17, qa (cA 1) 8 (fun i => if i < 8 then some (xr4 i) else none)), ((xr4 0), ia (cA 0) 12 (fun _ => 0)), ((xr4 1), ia (cA 0) 12 (fun _ => 0)), ((xr4 2), ia (cA 0) 12 (fun _ => 0)), ((xr4 3), ia (cA 0) 12 (fun _ => 0)), ((xr4 4), ia (cA 0) 12 (fun _ => 0)), ((xr4 5), ia (cA 0) 12 (fun _ => 0)), ((xr4 6), ia (cA 0) 12 (fun _ => 0)), ((xr4 7), ia (cA 0) 12 (fun _ => 0)), (xq18, .inr (3, [.ref xq19, .ref xq20, .ref xq21, .ref xq22, .ref xq23, .ref xq24, .int (0 : Int32), .int (0 : Int32)])), (xq19, ia (cA 0) 16 (fun _ => 0)), (xq20, ia (cA 0) 16 (fun _ => 0)), (xq21, ia (cA 0) 16 (fun _ => 0)), (xq22, ia (cA 0) 256 (fun _ => 0)), (xq23, ia (cA 0) 256 (fun _ => 0)), (xq24, ia (cA 0) 64 (fun _ => 0)), (xq25, .inr (3, [.ref xq26, .ref xq27, .ref xq28, .ref xq29, .ref xq30, .ref xq31, .int (0 : Int32), .int (0 : Int32)])), (xq26, ia (cA 0) 16 (fun _ => 0)), (xq27, ia (cA 0) 16 (fun _ => 0)), (xq28, ia (cA 0) 16 (fun _ => 0)), (xq29, ia (cA 0) 256 (fun _ => 0)), (xq30, ia (cA 0) 256 (fun _ => 0)), (xq31, ia (cA 0) 64 (fun _ => 0)), (xq32, .inr (3, [.ref xq33, .ref xq34, .ref xq35, .ref xq36, .ref xq37, .ref xq38, .int (0 : Int32), .int (0 : Int32)])), (xq33, ia (cA 0) 16 (fun _ => 0)), (xq34, ia (cA 0) 16 (fun _ => 0)), (xq35, ia (cA 0) 16 (fun _ => 0)), (xq36, ia (cA 0) 256 (fun _ => 0)), (xq37, ia (cA 0) 256 (fun _ => 0)), (xq38, ia (cA 0) 64 (fun _ => 0)), (xq39, .inr (0, [.ref xq40, .ref xq41, .int (0 : Int32)])), (xq40, ia (cA 0) 48 (fun _ => 0)), (xq41, ia (cA 0) 48 (fun _ => 0)), (xq42, .inr (1, [.ref xq2, .int (0 : Int32), .int (0 : Int32), .int (0 : Int32), .ref xq39])), (xq43, .inr (4, [.ref xq2, .int (0 : Int32), .int (0 : Int32), .int (0 : Int32), .ref xq32])), (xq44, .inr (2, [.ref xq3, .ref xq45, .ref xq64, .ref xq65, .int (0 : Int32), .int (0 : Int32), .int (0 : Int32), .int (0 : Int32), .int (0 : Int32), .ref xq18, .ref xq6])), (xq45, qa (cA 2) 6 (fun j => some ([xq46, xq49, xq52, xq55, xq58, xq61].getD j 0))), (xq46, .inr (0, [.ref xq47, .ref xq48, .int (0 : Int32)])), (xq47, ia (cA 0) 48 (fun _ => 0)), (xq48, ia (cA 0) 48 (fun _ => 0)), (xq49, .inr (0, [.ref xq50, .ref xq51, .int (0 : Int32)])), (xq50, ia (cA 0) 48 (fun _ => 0)), (xq51, ia (cA 0) 48 (fun _ => 0)), (xq52, .inr (0, [.ref xq53, .ref xq54, .int (0 : Int32)])), (xq53, ia (cA 0) 48 (fun _ => 0)), (xq54, ia (cA 0) 48 (fun _ => 0)), (xq55, .inr (0, [.ref xq56, .ref xq57, .int (0 : Int32)])), (xq56, ia (cA 0) 48 (fun _ => 0)), (xq57, ia (cA 0) 48 (fun _ => 0)), (xq58, .inr (0, [.ref xq59, .ref xq60, .int (0 : Int32)])), (xq59, ia (cA 0) 48 (fun _ => 0)), (xq60, ia (cA 0) 48 (fun _ => 0)), (xq61, .inr (0, [.ref xq62, .ref xq63, .int (0 : Int32)])), (xq62, ia (cA 0) 48 (fun _ => 0)), (xq63, ia (cA 0) 48 (fun _ => 0)), (xq64, ia (cA 0) 10 (fun _ => -1)), (xq65, ia (cA 0) 8 (fun _ => 0)), (xq66, .inr (9, [.ref xq67, .ref xq68, .ref xq69, .ref xq70, .int (0 : Int32)])), (xq67, qa (cA 1) 8 (fun i => if i < 8 then some (xr5 i) else none)), ((xr5 0), ia (cA 0) 8 (fun _ => 0)), ((xr5 1), ia (cA 0) 8 (fun _ => 0)), ((xr5 2), ia (cA 0) 8 (fun _ => 0)), ((xr5 3), ia (cA 0) 8 (fun _ => 0)), ((xr5 4), ia (cA 0) 8 (fun _ => 0)), ((xr5 5), ia (cA 0) 8 (fun _ => 0)), ((xr5 6), ia (cA 0) 8 (fun _ => 0)), ((xr5 7), ia (cA 0) 8 (fun _ => 0)), (xq68, qa (cA 1) 5 (fun i => if i < 5 then some (xr6 i) else none)), ((xr6 0), ia (cA 0) 6 (fun _ => 0)), ((xr6 1), ia (cA 0) 6 (fun _ => 0)), ((xr6 2), ia (cA 0) 6 (fun _ => 0)), ((xr6 3), ia (cA 0) 6 (fun _ => 0)), ((xr6 4), ia (cA 0) 6 (fun _ => 0)), (xq69, ia (cA 0) 6 (fun _ => 0)), (xq70, ia (cA 0) 6 (fun _ => 0)), (xq71, .inr (8, [.ref xq72, .ref xq73, .ref xq74, .ref xq75, .ref xq76, .ref xq77, .int (0 : Int32)])), (xq72, ia (cA 0) 5 (fun _ => 0)), (xq73, ja (cA 5) 341 (fun _ => 0)), (xq74, ja (cA 5) 341 (fun _ => 0)), (xq75, ia (cA 0) 341 (fun _ => 0)), (xq76, ia (cA 0) 341 (fun _ => 0)), (xq77, ia (cA 0) 341 (fun _ => 0)), (xq78, .inr (6, [.ref xq79, .int (0 : Int32), .int (0 : Int32), .int (1 : Int32)])), (xq79, ia (cA 0) 9 (fun _ => 0)), (m0, .inr (12, [.ref mq1, .int (0 : Int32), .int (1 : Int32), .int (0 : Int32), .int (0 : Int32), .int (0 : Int32), .int (0 : Int32), .int (0 : Int32), .int (0 : Int32), .int (0 : Int32), .ref mq2, .ref mq3, .ref mq4, .ref mq5, .ref mq6, .ref mq7, .ref mq8, .ref mq9, .int (0 : Int32), .int (0 : Int32), .int (0 : Int32), .ref mq10, .ref mq11, .ref mq12, .ref mq13, .ref mq14, .ref mq15, .ref mq16, .ref mq17, .ref mq18, .ref mq19, .int (0 : Int32), .int (0 : Int32), .ref mq20, .ref mq21, .ref mq22, .ref mq23, .ref mq24, .ref mq25, .int (0 : Int32), .int (0 : Int32), .ref mq26, .int (0 : Int32), .int (0 : Int32), .int (0 : Int32), .int (0 : Int32), .int (0 : Int32), .int (0 : Int32), .int (0 : Int32), .int (0 : Int32), .ref mq27, .ref mq28, .ref mq29, .ref mq30, .ref mq31, .ref mq32, .int (0 : Int32), .int (0 : Int32), .int (0 : Int32), .int (0 : Int32), .int (0 : Int32), .int (0 : Int32), .int (0 : Int32), .int (0 : Int32), .int (0 : Int32), .int (0 : Int32), .int (0 : Int32), .ref mq33, .ref mq34, .ref mq35, .ref mq36, .ref mq37, .ref mq38, .ref mq39, .ref mq40, .int (0 : Int32), .ref mq41, .ref mq42, .ref mq43, .ref mq44, .ref mq45, .ref mq46, .ref mq47, .ref mq48, .ref mq49, .ref mq50])), (mq1, ia (cA 3) 260 (fun _ => 0)), (mq2, ia (cA 4) 12 (fun _ => 0)), (mq3, ia (cA 0) 12 (fun _ => 0)), (mq4, ia (cA 0) 144 (fun _ => 0)), (mq5, ia (cA 4) 6 (fun _ => 0)), (mq6, ia (cA 0) 6 (fun _ => 0)), (mq7, ia (cA 0) 288 (fun _ => 0)), (mq8, ia (cA 0) 48 (fun _ => 0)), (mq9, ia (cA 0) 10 (fun _ => -1)), (mq10, ia (cA 0) 2 (fun _ => 0)), (mq11, ia (cA 0) 2 (fun _ => 0)), (mq12, ia (cA 0) 2 (fun _ => 0)), (mq13, ia (cA 0) 32 (fun _ => 0)), (mq14, ia (cA 0) 32 (fun _ => 0)), (mq15, ia (cA 0) 32 (fun _ => 0)), (mq16, ia (cA 0) 32 (fun _ => 0)), (mq17, ia (cA 0) 480 (fun _ => 0)), (mq18, ia (cA 0) 480 (fun _ => 0)), (mq19, ia (cA 0) 2 (fun _ => 0)), (mq20, ia (cA 0) 16 (fun _ => 0)), (mq21, ia (cA 0) 16 (fun _ => 0)), (mq22, ia (cA 0) 16 (fun _ => 0)), (mq23, ia (cA 0) 16 (fun _ => 0)), (mq24, ia (cA 0) 240 (fun _ => 0)), (mq25, ia (cA 0) 240 (fun _ => 0)), (mq26, ia (cA 0) 240 (fun _ => 0)), (mq27, ia (cA 0) 240 (fun _ => 0)), (mq28, ia (cA 4) 240 (fun _ => 0)), (mq29, ia (cA 4) 8 (fun _ => 0)), (mq30, ia (cA 0) 8 (fun _ => 0)), (mq31, ia (cA 0) 8 (fun _ => 0)), (mq32, ia (cA 0) 96 (fun _ => 0)), (mq33, ia (cA 4) 16 (fun _ => 0)), (mq34, ia (cA 0) 16 (fun _ => 0)), (mq35, ia (cA 0) 16 (fun _ => 0)), (mq36, ia (cA 0) 192 (fun _ => 0)), (mq37, ia (cA 0) 2 (fun _ => 0)), (mq38, ia (cA 0) 2 (fun _ => 0)), (mq39, ia (cA 0) 2 (fun _ => 0)), (mq40, ia (cA 0) 2 (fun _ => 0)), (mq41, ia (cA 0) 12 (fun _ => 0)), (mq42, ia (cA 0) 12 (fun _ => 0)), (mq43, ia (cA 0) 8 (fun _ => 0)), (mq44, ia (cA 0) 8 (fun _ => 0)), (mq45, ia (cA 0) 12 (fun _ => 0)), (mq46, ia (cA 0) 64 (fun _ => 0)), (mq47, ia (cA 4) 5 (fun _ => 0)), (mq48, ia (cA 0) 30 (fun _ => 0)), (mq49, ia (cA 0) 6 (fun _ => 0)), (mq50, ia (cA 0) 9 (fun _ => 0))] H locs := hW
    refine (show XX K 180 9087 H locs 15 ls [.ref m0] from ?_)
    refine q_astore_n (lv9 := [(2, .ref m0), (1, .ref x0), (0, .ref b)]) hM dL_law_15 hl (by decide) rfl (fun ls hl => ?_)
    refine l_widen (k1 := 600000) (n1 := 7302250) (by decide) (by decide) ?_
    obtain ⟨ad, had0, had1, had4, hW⟩ := w_world kK kV hW
    rw [← had0, ← had1] at hl
    have hSB : SB ad (fun q : Nat => s.heap.size ≤ q) s := ⟨vk_S_cg hS9 (fun i hi => (had4 i hi).1) (fun i hi => (had4 i hi).2), by rw [show ad 400 = kK 0 from (had4 0 (by decide)).1]; exact hr60, by rw [show ad 401 = kK 1 from (had4 1 (by decide)).1]; exact hr105, hcs⟩
    have hW : WB NN ad K (gF ad cA) H locs := by rw [hK0] at hW ⊢; exact ⟨hW.1, hW.2.1, hW.2.2, hSB, rfl⟩
    refine q_iconst (v := (0 : Int32)) hM dL_law_16 (by decide) ?_
    refine q_istore_n (lv9 := [(3, .int (0 : Int32)), (2, .ref (ad 129)), (1, .ref (ad 0)), (0, .ref b)]) hM dL_law_17 hl (by decide) rfl (fun ls hl => ?_)
    exact law_loop hM hXB hL hR (hCk (by decide) (by decide)) (fun H locs pc ls hd ⟨g, hW⟩ => hend H locs pc ls hd (by rw [hK0] at hW ⊢; exact ⟨fun k q h => by simp at h, ⟨fun i j p q h => by simp at h, fun k q h => by simp at h⟩, hW.2.2.1⟩)) (L + 1) 0 _ _ _ _ (by rw [kc_0]; omega) (by decide) (by decide) (gF_PI ad cA) hW hl
  rw [hK0] at key; exact key
set_option maxHeartbeats 4000000 in
theorem lw_walk (l : Launch) (hflags : l.flags = flags0) (b : Addr) (xs : List Int32) : MetFree l x (headSpec (Jvm.Cond.code x code maxLocals ret :: tables_1) room_1) (lw_P b xs) (fun _ _ _ _ _ => True) lw_Q := by
  refine MetFree.of_bodyS (code := code) (maxLocals := maxLocals) (ret := ret) (by decide) ?_ ?_
  · intro args s m h hn
    obtain ⟨meth, c, h1, h2, h3, h4, h5, h6, -, -⟩ := Cond.code_spec hn (atoms_spec (ws := Jvm.Cond.code x code maxLocals ret :: tables_1) h _ List.mem_cons_self)
    exact ⟨meth, c, h1, h2, h3, h4, h5, h6⟩
  · intro p e s m args below meth c s₁ B hml0 hP _
    obtain ⟨rfl, hx, hbd, hgv⟩ := hP
    obtain ⟨scr, harrAt, hlist, hof, hsmall⟩ := hx
    obtain ⟨hcb, hkn, -, -⟩ := State.arrayAt?_spec harrAt
    have hown : s.vm.findClass R_law = some m.cls := findClass_of_methodNamed B.named
    have hts0 : ∀ c ∈ (Jvm.Cond.code x code maxLocals ret :: tables_1), c.before #[Value.ref b] s = true := atoms_spec (ws := Jvm.Cond.code x code maxLocals ret :: tables_1) B.pre
    have hts : ∀ w ∈ lw_tbl, w.before #[Value.ref b] s = true := k2_hts_sels lw_privs (fun w hw => hts0 w (List.mem_cons_of_mem _ hw)) lw_privs_ok
    have hml : c.maxLocals = 4 := B.maxLocals_eq (hts0 _ List.mem_cons_self)
    have X₀ : Stand p l e room_1 s m #[Value.ref b] below meth c s₁ [] 0 0 := Stand.of_body B
    have hh0 : s₁.heap = s.heap := by rw [B.state]; rfl
    have hsz : scr.slots.size = xs.length := by rw [← Array.length_toList, hlist, List.length_map]
    have hval : ∀ j : Nat, j < xs.length → scr.slots[j]? = some (.int (xs.getD j 0)) := fun j hj => by
      rw [← Array.getElem?_toList, hlist]
      simp [hj]
    have hbl : b < s.heap.size := (Array.getElem?_eq_some_iff.mp hcb).1
    have hX : va_X b xs.length (fun j => xs.getD j 0) s s.heap := ⟨scr, hcb, hof, hkn, hsz, hval⟩
    have K : W p l e room_1 s m #[Value.ref b] below meth c s₁.heap [] 0 0 (lw_Z below #[Value.ref b] s) (entryFrame m ([Value.ref b] : List Value).toArray 4) := by
      rw [hh0]
      exact whole_start l hflags hbd ⟨B.exec, B.bytes, B.returns, hml, hown, hts, hX, hbl, B.notSynchronized, hgv⟩
    obtain ⟨t, a1, o, b1, b2, b3⟩ := K s₁ rfl X₀
    exact ⟨t, o, a1, b1, b2, b3⟩
theorem lw_pre_spec {args : Array Value} {s : State} (h : (Jvm.Cond.and given_1 narrow_1).before args s = true) (hr : rest_1_c.before args s = true) : ∃ (b : Addr) (xs : List Int32), lw_P b xs args s := by
  have hs := flat_of_before _ h
  have hq := flat_of_before _ hr
  have hc : (Cond.count 1).before args s = true := hs _ (by decide +kernel)
  have harr : (Cond.arrayOf (.arg 0) .int).before args s = true := hs _ (by decide +kernel)
  have hle : (Cond.le (.length (.arg 0)) (.int 3072)).before args s = true := hs _ (by decide +kernel)
  have hlen : (Cond.isInt (.length (.arg 0))).before args s = true := hq _ (by decide +kernel)
  have hall : (Cond.all (.arg 0) (.isInt (.elem (.arg 0) (.index 0)))).before args s = true := hq _ (by decide +kernel)
  obtain ⟨b, xs, hb, hx⟩ := State.ints_of_pre rfl harr hlen hall
  have hsm : xs.length < 2 ^ 31 := hx.choose_spec.2.2.2
  have hev : (Term.length (.arg 0)).eval args s none [] s = some (.int xs.length.toInt32) := hx.length_eval hb
  have hv := Cond.le_ints hev (show (Term.int 3072).eval args s none [] s = some (.int 3072) from rfl)
  have hd : xs.length.toInt32 ≤ 3072 := by
    simpa [Cond.before, Cond.holds, hv] using hle
  have hN : xs.length ≤ 3072 := (Int32.ofNat_le_ofNat hsm (by decide)).mp (show Int32.ofNat xs.length ≤ Int32.ofNat 3072 from hd)
  exact ⟨b, xs, Cond.one_arg hc (show args[0]? = some (.ref b) from hb), hx, hN, h⟩
theorem lw_comes (l : Launch) (hflags : l.flags = flags0) : Comes l x (Jvm.Cond.code x code maxLocals ret :: tables_1) room_1 (fun tb e args s => Calls_1 tb e args s ∧ rest_1 tb e args s ∧ Pre_1 tb e args s)
    (fun _ _ args s o t => lw_Q args s o t) := by
  intro p e ha hc hk s m args below hf hfit hheap happ hpre
  obtain ⟨b, xs, hP⟩ := lw_pre_spec hpre.2.2 hpre.2.1
  obtain ⟨k, o, h1, h2, h3, hQ⟩ := lw_walk l hflags b xs p e ha hc hk s m args below hf ((Spec.applies_iff_loose hf).mp happ).1 hP trivial
  exact ⟨k, o, h1, h2, h3, hQ⟩
theorem lw_frame {s t : State} {o : Outcome} {args : Array Value} (h : Framed s o t [] 600000 7302250) :
    Framed s o t (fieldLocs frame_1_writes args s ++ arrayLocs frame_1_arrays args s ++ staticLocs frame_1_statics s) 600000 7302250 := h
theorem lw_limb (L : Cond) (hL : ∀ (args : Array Value) (s t : State), L.after args s (.returned (some (.int 1))) t = true) :
    ArmFor flags0 classFile x code maxLocals ret World_1 tables_1 room_1 Calls_1 rest_1 Pre_1
      (fun tb e a s o t => postC L tb e a s o t ∧ Framed s o t (fieldLocs frame_1_writes a s ++ arrayLocs frame_1_arrays a s ++ staticLocs frame_1_statics s) 600000 7302250) := by
  intro l hflags _ _ p e ha hc hk s m args below hf hfit hheap happ hpre
  obtain ⟨k, o, h1, h2, h3, rfl, hF⟩ := lw_comes l hflags p e ha hc hk s m args below hf hfit hheap happ hpre
  exact ⟨k, _, h1, h2, h3, hL args s _, lw_frame hF⟩
theorem i_vc : Claimed_1_1 ∧ Claimed_1_2 := ⟨lw_limb limb_1_1 (fun args s t => by simp [limb_1_1, Cond.after, Cond.holds, Cond.value]), lw_limb limb_1_2 (fun args s t => Cond.after_iff.mpr (by
  first | (rw [show limb_1_2 = Cond.eq .result (.int 1) from rfl, Cond.eq_ints (x := 1) (y := 1) rfl rfl]; simp; done) | (simp [limb_1_2, Cond.value, Term.eval]; done)))⟩
