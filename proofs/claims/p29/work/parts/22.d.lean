theorem VS_dummy : True := trivial
def isV (c : Int32) : Prop := c.toInt = 42 ∨ c.toInt = 47 ∨ c.toInt = 37 ∨ c.toInt = 43 ∨ c.toInt = 45 ∨ c.toInt = 91
/-- from lo on the pile holds signs of an E; below it is as it was -/
def VS (s s0 : Nat → Int32) (lo sk : Int) : Prop := lo ≤ sk ∧ (∀ j : Nat, (j : Int) < lo → s j = s0 j) ∧ ∀ j : Nat, lo ≤ (j : Int) → (j : Int) < sk → isV (s j)
theorem VS_0 {s : Nat → Int32} {sk : Int} : VS s s sk sk := ⟨Int.le_refl _, fun _ _ => rfl, fun j h1 h2 => absurd h2 (by omega)⟩
theorem VS_mono {s s0 : Nat → Int32} {lo sk sk1 : Int} (h : VS s s0 lo sk) (h1 : lo ≤ sk1) (h2 : sk1 ≤ sk) : VS s s0 lo sk1 := ⟨h1, h.2.1, fun j a b => h.2.2 j a (by omega)⟩
theorem VS_push {s s0 s1 : Nat → Int32} {lo sk sk1 : Int} {o c : Int32} (h : VS s s0 lo sk) (e : s1 = upd s o.toNatClampNeg c) (ho : o.toInt = sk) (hc : c.toInt = 42 ∨ c.toInt = 47 ∨ c.toInt = 37 ∨ c.toInt = 43 ∨ c.toInt = 45 ∨ c.toInt = 91) (e2 : sk1 = sk + 1) : VS s1 s0 lo sk1 := by
  subst e2
  have eo : o.toNatClampNeg = sk.toNat := by show o.toInt.toNat = _; rw [ho]
  have h0 := h.1
  refine ⟨by omega, fun j hj => ?_, fun j a b => ?_⟩
  · rw [e]
    unfold upd
    rw [if_neg (by omega)]
    exact h.2.1 j hj
  · rw [e]
    unfold upd
    by_cases q : j = o.toNatClampNeg
    · rw [if_pos q]; exact hc
    · rw [if_neg q]; exact h.2.2 j a (by omega)
theorem VS_top {s s0 : Nat → Int32} {lo sk : Int} {d : Int32} (h : VS s s0 lo sk) (hn : 1 ≤ lo → ¬ isV (s0 (lo - 1).toNat)) (h1 : 1 ≤ sk) (hd : d.toInt = (s (sk - 1).toNat).toInt) (hv : d.toInt = 42 ∨ d.toInt = 47 ∨ d.toInt = 37 ∨ d.toInt = 43 ∨ d.toInt = 45 ∨ d.toInt = 91) : lo + 1 ≤ sk := by
  by_cases q : sk = lo
  · refine absurd ?_ (hn (by omega))
    rw [← h.2.1 (lo - 1).toNat (by omega), ← q]
    unfold isV
    rw [← hd]
    exact hv
  · have := h.1
    omega
theorem VS_end {s s0 : Nat → Int32} {lo sk : Int} (h : VS s s0 lo sk) (h0 : 0 ≤ lo) (hn : 1 ≤ sk → ¬ isV (s (sk - 1).toNat)) : sk = lo := by
  have := h.1
  by_cases q : sk = lo
  · exact q
  · exact absurd (h.2.2 (sk - 1).toNat (by omega) (by omega)) (hn (by omega))
def isC (c : Int32) : Prop := c.toInt = 40 ∨ c.toInt = 33 ∨ c.toInt = 38 ∨ c.toInt = 124
/-- between two TESTS of a C -/
def CS (s : Nat → Int32) (sk : Int) : Prop := (s 0).toInt = 40 ∧ 1 ≤ sk ∧ ∀ j : Nat, (j : Int) < sk → isC (s j)
theorem CS_mono {s : Nat → Int32} {sk sk1 : Int} (h : CS s sk) (h1 : 1 ≤ sk1) (h2 : sk1 ≤ sk) : CS s sk1 := ⟨h.1, h1, fun j hj => h.2.2 j (by omega)⟩
theorem CS_push {s s1 : Nat → Int32} {sk sk1 : Int} {o c : Int32} (h : CS s sk) (e : s1 = upd s o.toNatClampNeg c) (ho : o.toInt = sk) (hc : c.toInt = 40 ∨ c.toInt = 33 ∨ c.toInt = 38 ∨ c.toInt = 124) (e2 : sk1 = sk + 1) : CS s1 sk1 := by
  subst e2
  have eo : o.toNatClampNeg = sk.toNat := by show o.toInt.toNat = _; rw [ho]
  have h0 := h.2.1
  refine ⟨?_, by omega, fun j b => ?_⟩
  · rw [e]
    unfold upd
    rw [if_neg (by omega)]
    exact h.1
  · rw [e]
    unfold upd
    by_cases q : j = o.toNatClampNeg
    · rw [if_pos q]; exact hc
    · rw [if_neg q]; exact h.2.2 j (by omega)
theorem CS_first {s s1 : Nat → Int32} {o c : Int32} (e : s1 = upd s o.toNatClampNeg c) (ho : o.toInt = 0) (hc : c.toInt = 40) : CS s1 1 := by
  have eo : o.toNatClampNeg = 0 := by show o.toInt.toNat = _; omega
  have e0 : s1 0 = c := by rw [e]; unfold upd; rw [if_pos eo.symm]
  refine ⟨by rw [e0]; exact hc, by omega, fun j hj => ?_⟩
  have : j = 0 := by omega
  rw [this, e0]
  exact Or.inl hc
theorem CS_eq {s s1 : Nat → Int32} {sk : Int} (h : CS s sk) (e : ∀ j : Nat, (j : Int) < sk → s1 j = s j) : CS s1 sk := by
  refine ⟨by rw [e 0 (by have := h.2.1; omega)]; exact h.1, h.2.1, fun j hj => ?_⟩
  rw [e j hj]
  exact h.2.2 j hj
theorem CS_two {s : Nat → Int32} {sk : Int} {d : Int32} (h : CS s sk) (hd : d.toInt = (s (sk - 1).toNat).toInt) (hv : d.toInt ≠ 40) : 2 ≤ sk := by
  have := h.2.1
  by_cases q : sk = 1
  · rw [q] at hd
    exact absurd (hd.trans h.1) hv
  · omega
theorem CS_top {s : Nat → Int32} {sk : Int} (h : CS s sk) : (s (sk - 1).toNat).toInt = 40 ∨ (s (sk - 1).toNat).toInt = 33 ∨ (s (sk - 1).toNat).toInt = 38 ∨ (s (sk - 1).toNat).toInt = 124 := h.2.2 _ (by have := h.2.1; omega)
theorem JJ_eqs {f s s1 : Nat → Int32} {a : Int × (Nat → Int32)} {co sk b : Int} (h : JJ f s a co sk b) (e : ∀ j : Nat, (j : Int) < sk → s1 j = s j) : JJ f s1 a co sk b := by
  obtain ⟨q1, q2, q3, q4, q5, q6⟩ := h
  exact ⟨q1, q2, q3, q4, by rw [cnt_eq _ (fun j hj => e j (by omega))]; exact q5, q6⟩

theorem dX12_top_0 : decode cX12_top 0 = .ok (.aload_n 0, 1) := by decide +kernel
theorem dX12_top_1 : decode cX12_top 1 = .ok (.getfield 281, 3) := by decide +kernel
theorem dX12_top_4 : decode cX12_top 4 = .ok (.ifCond .le 17, 3) := by decide +kernel
theorem dX12_top_7 : decode cX12_top 7 = .ok (.aload_n 0, 1) := by decide +kernel
theorem dX12_top_8 : decode cX12_top 8 = .ok (.getfield 91, 3) := by decide +kernel
theorem dX12_top_11 : decode cX12_top 11 = .ok (.aload_n 0, 1) := by decide +kernel
theorem dX12_top_12 : decode cX12_top 12 = .ok (.getfield 281, 3) := by decide +kernel
theorem dX12_top_15 : decode cX12_top 15 = .ok (.iconst 1, 1) := by decide +kernel
theorem dX12_top_16 : decode cX12_top 16 = .ok (.isub, 1) := by decide +kernel
theorem dX12_top_17 : decode cX12_top 17 = .ok (.iaload, 1) := by decide +kernel
theorem dX12_top_18 : decode cX12_top 18 = .ok (.goto 4, 3) := by decide +kernel
theorem dX12_top_21 : decode cX12_top 21 = .ok (.iconst 0, 1) := by decide +kernel
theorem dX12_top_22 : decode cX12_top 22 = .ok (.ireturn, 1) := by decide +kernel
theorem FG_X12_281 : FG RX12 281 12 86 9 := ⟨RX12, TX12, rfl, wX12, by decide, kAW (v_4_3 (List.mem_of_getElem? (i := 6) rfl)) rfl, rfl⟩
theorem FG_X12_91 : FG RX12 91 12 86 41 := ⟨RX12, TX12, rfl, wX12, by decide, kAW (v_4_5 (List.mem_of_getElem? (i := 6) rfl)) rfl, rfl⟩
set_option maxRecDepth 100000 in
set_option maxHeartbeats 4000000 in
theorem a_X12_top (l : Launch) (D : va_G) (cA : Nat → ClassId) (ad : Nat → Nat) (g0 : Nat → va_E)  (sk : Int32) (hSh : Shp ad cA g0) (hG : Rng g0) (h_sk : fld g0 129 9 = .int sk) (sk1 : sk.toInt ≤ 240) : CT l NN ad cA D yX12_top cX12_top 1 (some FieldType.int) (0, 0) [.ref (ad 129)] g0 (PU g0 (fun r => (1 ≤ sk.toInt ∧ r.toInt = (arI g0 155 (sk.toInt - 1).toNat).toInt) ∨ (sk.toInt ≤ 0 ∧ r.toInt = 0))) := by
  refine q_enterI (by decide) (Nat.le_of_ble_eq_true rfl) rfl (fun K H locs ls _ _ hM hW0 hR hC hE hl => ?_)
  have hl : lv_has ls 1 [(0, .ref (ad 129))] := hl
  have hW : WS ad cA (fun i k => False) g0 K g0 H locs := ⟨hW0, hSh, FR.rf⟩
  refine q_aload_n hM dX12_top_0 (lv_at hl 0 rfl) ?_
  refine w_get (v := .int sk) hM hW FG_X12_281 lb_129 ((hW.2.2.1 129 9 (fun h => h)).trans h_sk) dX12_top_1 ?_
  refine q_if_le (tgt := 21) hM dX12_top_4 (by decide) (rfl : sk.toInt = sk.toInt) (fun h4 => ?_) (fun h4 => ?_)
  · refine q_iconst (v := (0 : Int32)) hM dX12_top_21 (by decide) ?_
    exact hE _ _ _ _ _ _ hW.1 ⟨_, rfl, (Or.inr ⟨by omega, kc_0⟩), rfl⟩ dX12_top_22
  · refine q_aload_n hM dX12_top_7 (lv_at hl 0 rfl) ?_
    refine w_get (v := .ref (ad 155)) hM hW FG_X12_91 lb_129 (rf_129_41 hW.2.1) dX12_top_8 ?_
    refine q_aload_n hM dX12_top_11 (lv_at hl 0 rfl) ?_
    refine w_get (v := .int sk) hM hW FG_X12_281 lb_129 ((hW.2.2.1 129 9 (fun h => h)).trans h_sk) dX12_top_12 ?_
    refine q_iconst (v := (1 : Int32)) hM dX12_top_15 (by decide) ?_
    refine q_isub hM dX12_top_16 (fun z9353 hz9353 => ?_)
    first | have tz9353 := i_subT hz9353 (rfl : sk.toInt = sk.toInt) (kc_1 : (1 : Int32).toInt = 1) (by omega) (by omega) | skip
    refine w_iald hM hW lb_155 (i_in (by omega) (by omega)) dX12_top_17 ?_
    refine q_top (fun y9354 hy9354 => ?_)
    refine q_goto (tgt := 22) hM dX12_top_18 (by decide) ?_
    exact hE _ _ _ _ _ _ hW.1 ⟨_, rfl, (Or.inl ⟨by omega, by rw [hy9354]; show (arI g0 155 z9353.toInt.toNat).toInt = _; rw [show z9353.toInt = sk.toInt - 1 by omega]⟩), rfl⟩ dX12_top_22

theorem dX12_isTimes_0 : decode cX12_isTimes 0 = .ok (.iload_n 0, 1) := by decide +kernel
theorem dX12_isTimes_1 : decode cX12_isTimes 1 = .ok (.bipush 42, 2) := by decide +kernel
theorem dX12_isTimes_3 : decode cX12_isTimes 3 = .ok (.if_icmp .eq 15, 3) := by decide +kernel
theorem dX12_isTimes_6 : decode cX12_isTimes 6 = .ok (.iload_n 0, 1) := by decide +kernel
theorem dX12_isTimes_7 : decode cX12_isTimes 7 = .ok (.bipush 47, 2) := by decide +kernel
theorem dX12_isTimes_9 : decode cX12_isTimes 9 = .ok (.if_icmp .eq 9, 3) := by decide +kernel
theorem dX12_isTimes_12 : decode cX12_isTimes 12 = .ok (.iload_n 0, 1) := by decide +kernel
theorem dX12_isTimes_13 : decode cX12_isTimes 13 = .ok (.bipush 37, 2) := by decide +kernel
theorem dX12_isTimes_15 : decode cX12_isTimes 15 = .ok (.if_icmp .ne 7, 3) := by decide +kernel
theorem dX12_isTimes_18 : decode cX12_isTimes 18 = .ok (.iconst 1, 1) := by decide +kernel
theorem dX12_isTimes_19 : decode cX12_isTimes 19 = .ok (.goto 4, 3) := by decide +kernel
theorem dX12_isTimes_22 : decode cX12_isTimes 22 = .ok (.iconst 0, 1) := by decide +kernel
theorem dX12_isTimes_23 : decode cX12_isTimes 23 = .ok (.ireturn, 1) := by decide +kernel
set_option maxRecDepth 100000 in
set_option maxHeartbeats 4000000 in
theorem a_X12_isTimes (l : Launch) (D : va_G) (cA : Nat → ClassId) (ad : Nat → Nat) (g0 : Nat → va_E) (c : Int32) (hSh : Shp ad cA g0) (hG : Rng g0) : CT l NN ad cA D yX12_isTimes cX12_isTimes 1 (some FieldType.boolean) (0, 0) [.int c] g0 (PU g0 (fun r => (r.toInt = 1 ∧ (c.toInt = 42 ∨ c.toInt = 47 ∨ c.toInt = 37)) ∨ (r.toInt = 0 ∧ c.toInt ≠ 42 ∧ c.toInt ≠ 47 ∧ c.toInt ≠ 37))) := by
  refine q_enterZ (by decide) (Nat.le_of_ble_eq_true rfl) (fun K H locs ls _ _ hM hW0 hR hC hE hl => ?_)
  have hl : lv_has ls 1 [(0, .int c)] := hl
  have hW : WS ad cA (fun i k => False) g0 K g0 H locs := ⟨hW0, hSh, FR.rf⟩
  refine q_iload_n hM dX12_isTimes_0 (lv_at hl 0 rfl) ?_
  refine q_bipush (v := (42 : Int32)) hM dX12_isTimes_1 (by decide) ?_
  refine q_icmp_eq (tgt := 18) hM dX12_isTimes_3 (by decide) (rfl : c.toInt = c.toInt) (kc_42 : (42 : Int32).toInt = 42) (fun h3 => ?_) (fun h3 => ?_)
  · refine q_iconst (v := (1 : Int32)) hM dX12_isTimes_18 (by decide) ?_
    refine q_goto (tgt := 23) hM dX12_isTimes_19 (by decide) ?_
    exact hE _ _ _ _ _ _ hW.1 nz_1 ⟨_, rfl, (by have := kc_1; omega), rfl⟩ dX12_isTimes_23
  · refine q_iload_n hM dX12_isTimes_6 (lv_at hl 0 rfl) ?_
    refine q_bipush (v := (47 : Int32)) hM dX12_isTimes_7 (by decide) ?_
    refine q_icmp_eq (tgt := 18) hM dX12_isTimes_9 (by decide) (rfl : c.toInt = c.toInt) (kc_47 : (47 : Int32).toInt = 47) (fun h9 => ?_) (fun h9 => ?_)
    · refine q_iconst (v := (1 : Int32)) hM dX12_isTimes_18 (by decide) ?_
      refine q_goto (tgt := 23) hM dX12_isTimes_19 (by decide) ?_
      exact hE _ _ _ _ _ _ hW.1 nz_1 ⟨_, rfl, (by have := kc_1; omega), rfl⟩ dX12_isTimes_23
    · refine q_iload_n hM dX12_isTimes_12 (lv_at hl 0 rfl) ?_
      refine q_bipush (v := (37 : Int32)) hM dX12_isTimes_13 (by decide) ?_
      refine q_icmp_ne (tgt := 22) hM dX12_isTimes_15 (by decide) (rfl : c.toInt = c.toInt) (kc_37 : (37 : Int32).toInt = 37) (fun h15 => ?_) (fun h15 => ?_)
      · refine q_iconst (v := (0 : Int32)) hM dX12_isTimes_22 (by decide) ?_
        exact hE _ _ _ _ _ _ hW.1 nz_0 ⟨_, rfl, (by have := kc_0; omega), rfl⟩ dX12_isTimes_23
      · refine q_iconst (v := (1 : Int32)) hM dX12_isTimes_18 (by decide) ?_
        refine q_goto (tgt := 23) hM dX12_isTimes_19 (by decide) ?_
        exact hE _ _ _ _ _ _ hW.1 nz_1 ⟨_, rfl, (by have := kc_1; omega), rfl⟩ dX12_isTimes_23

theorem dX12_isPlus_0 : decode cX12_isPlus 0 = .ok (.iload_n 0, 1) := by decide +kernel
theorem dX12_isPlus_1 : decode cX12_isPlus 1 = .ok (.bipush 43, 2) := by decide +kernel
theorem dX12_isPlus_3 : decode cX12_isPlus 3 = .ok (.if_icmp .eq 9, 3) := by decide +kernel
theorem dX12_isPlus_6 : decode cX12_isPlus 6 = .ok (.iload_n 0, 1) := by decide +kernel
theorem dX12_isPlus_7 : decode cX12_isPlus 7 = .ok (.bipush 45, 2) := by decide +kernel
theorem dX12_isPlus_9 : decode cX12_isPlus 9 = .ok (.if_icmp .ne 7, 3) := by decide +kernel
theorem dX12_isPlus_12 : decode cX12_isPlus 12 = .ok (.iconst 1, 1) := by decide +kernel
theorem dX12_isPlus_13 : decode cX12_isPlus 13 = .ok (.goto 4, 3) := by decide +kernel
theorem dX12_isPlus_16 : decode cX12_isPlus 16 = .ok (.iconst 0, 1) := by decide +kernel
theorem dX12_isPlus_17 : decode cX12_isPlus 17 = .ok (.ireturn, 1) := by decide +kernel
set_option maxRecDepth 100000 in
set_option maxHeartbeats 4000000 in
theorem a_X12_isPlus (l : Launch) (D : va_G) (cA : Nat → ClassId) (ad : Nat → Nat) (g0 : Nat → va_E) (c : Int32) (hSh : Shp ad cA g0) (hG : Rng g0) : CT l NN ad cA D yX12_isPlus cX12_isPlus 1 (some FieldType.boolean) (0, 0) [.int c] g0 (PU g0 (fun r => (r.toInt = 1 ∧ (c.toInt = 43 ∨ c.toInt = 45)) ∨ (r.toInt = 0 ∧ c.toInt ≠ 43 ∧ c.toInt ≠ 45))) := by
  refine q_enterZ (by decide) (Nat.le_of_ble_eq_true rfl) (fun K H locs ls _ _ hM hW0 hR hC hE hl => ?_)
  have hl : lv_has ls 1 [(0, .int c)] := hl
  have hW : WS ad cA (fun i k => False) g0 K g0 H locs := ⟨hW0, hSh, FR.rf⟩
  refine q_iload_n hM dX12_isPlus_0 (lv_at hl 0 rfl) ?_
  refine q_bipush (v := (43 : Int32)) hM dX12_isPlus_1 (by decide) ?_
  refine q_icmp_eq (tgt := 12) hM dX12_isPlus_3 (by decide) (rfl : c.toInt = c.toInt) (kc_43 : (43 : Int32).toInt = 43) (fun h3 => ?_) (fun h3 => ?_)
  · refine q_iconst (v := (1 : Int32)) hM dX12_isPlus_12 (by decide) ?_
    refine q_goto (tgt := 17) hM dX12_isPlus_13 (by decide) ?_
    exact hE _ _ _ _ _ _ hW.1 nz_1 ⟨_, rfl, (by have := kc_1; omega), rfl⟩ dX12_isPlus_17
  · refine q_iload_n hM dX12_isPlus_6 (lv_at hl 0 rfl) ?_
    refine q_bipush (v := (45 : Int32)) hM dX12_isPlus_7 (by decide) ?_
    refine q_icmp_ne (tgt := 16) hM dX12_isPlus_9 (by decide) (rfl : c.toInt = c.toInt) (kc_45 : (45 : Int32).toInt = 45) (fun h9 => ?_) (fun h9 => ?_)
    · refine q_iconst (v := (0 : Int32)) hM dX12_isPlus_16 (by decide) ?_
      exact hE _ _ _ _ _ _ hW.1 nz_0 ⟨_, rfl, (by have := kc_0; omega), rfl⟩ dX12_isPlus_17
    · refine q_iconst (v := (1 : Int32)) hM dX12_isPlus_12 (by decide) ?_
      refine q_goto (tgt := 17) hM dX12_isPlus_13 (by decide) ?_
      exact hE _ _ _ _ _ _ hW.1 nz_1 ⟨_, rfl, (by have := kc_1; omega), rfl⟩ dX12_isPlus_17

theorem dX12_isCompared_0 : decode cX12_isCompared 0 = .ok (.iload_n 0, 1) := by decide +kernel
theorem dX12_isCompared_1 : decode cX12_isCompared 1 = .ok (.bipush 60, 2) := by decide +kernel
theorem dX12_isCompared_3 : decode cX12_isCompared 3 = .ok (.if_icmp .eq 15, 3) := by decide +kernel
theorem dX12_isCompared_6 : decode cX12_isCompared 6 = .ok (.iload_n 0, 1) := by decide +kernel
theorem dX12_isCompared_7 : decode cX12_isCompared 7 = .ok (.bipush 62, 2) := by decide +kernel
theorem dX12_isCompared_9 : decode cX12_isCompared 9 = .ok (.if_icmp .eq 9, 3) := by decide +kernel
theorem dX12_isCompared_12 : decode cX12_isCompared 12 = .ok (.iload_n 0, 1) := by decide +kernel
theorem dX12_isCompared_13 : decode cX12_isCompared 13 = .ok (.bipush 61, 2) := by decide +kernel
theorem dX12_isCompared_15 : decode cX12_isCompared 15 = .ok (.if_icmp .ne 7, 3) := by decide +kernel
theorem dX12_isCompared_18 : decode cX12_isCompared 18 = .ok (.iconst 1, 1) := by decide +kernel
theorem dX12_isCompared_19 : decode cX12_isCompared 19 = .ok (.goto 4, 3) := by decide +kernel
theorem dX12_isCompared_22 : decode cX12_isCompared 22 = .ok (.iconst 0, 1) := by decide +kernel
theorem dX12_isCompared_23 : decode cX12_isCompared 23 = .ok (.ireturn, 1) := by decide +kernel
set_option maxRecDepth 100000 in
set_option maxHeartbeats 4000000 in
theorem a_X12_isCompared (l : Launch) (D : va_G) (cA : Nat → ClassId) (ad : Nat → Nat) (g0 : Nat → va_E) (c : Int32) (hSh : Shp ad cA g0) (hG : Rng g0) : CT l NN ad cA D yX12_isCompared cX12_isCompared 1 (some FieldType.boolean) (0, 0) [.int c] g0 (PU g0 (fun r => (r.toInt = 1 ∧ (c.toInt = 60 ∨ c.toInt = 62 ∨ c.toInt = 61)) ∨ (r.toInt = 0 ∧ c.toInt ≠ 60 ∧ c.toInt ≠ 62 ∧ c.toInt ≠ 61))) := by
  refine q_enterZ (by decide) (Nat.le_of_ble_eq_true rfl) (fun K H locs ls _ _ hM hW0 hR hC hE hl => ?_)
  have hl : lv_has ls 1 [(0, .int c)] := hl
  have hW : WS ad cA (fun i k => False) g0 K g0 H locs := ⟨hW0, hSh, FR.rf⟩
  refine q_iload_n hM dX12_isCompared_0 (lv_at hl 0 rfl) ?_
  refine q_bipush (v := (60 : Int32)) hM dX12_isCompared_1 (by decide) ?_
  refine q_icmp_eq (tgt := 18) hM dX12_isCompared_3 (by decide) (rfl : c.toInt = c.toInt) (kc_60 : (60 : Int32).toInt = 60) (fun h3 => ?_) (fun h3 => ?_)
  · refine q_iconst (v := (1 : Int32)) hM dX12_isCompared_18 (by decide) ?_
    refine q_goto (tgt := 23) hM dX12_isCompared_19 (by decide) ?_
    exact hE _ _ _ _ _ _ hW.1 nz_1 ⟨_, rfl, (by have := kc_1; omega), rfl⟩ dX12_isCompared_23
  · refine q_iload_n hM dX12_isCompared_6 (lv_at hl 0 rfl) ?_
    refine q_bipush (v := (62 : Int32)) hM dX12_isCompared_7 (by decide) ?_
    refine q_icmp_eq (tgt := 18) hM dX12_isCompared_9 (by decide) (rfl : c.toInt = c.toInt) (kc_62 : (62 : Int32).toInt = 62) (fun h9 => ?_) (fun h9 => ?_)
    · refine q_iconst (v := (1 : Int32)) hM dX12_isCompared_18 (by decide) ?_
      refine q_goto (tgt := 23) hM dX12_isCompared_19 (by decide) ?_
      exact hE _ _ _ _ _ _ hW.1 nz_1 ⟨_, rfl, (by have := kc_1; omega), rfl⟩ dX12_isCompared_23
    · refine q_iload_n hM dX12_isCompared_12 (lv_at hl 0 rfl) ?_
      refine q_bipush (v := (61 : Int32)) hM dX12_isCompared_13 (by decide) ?_
      refine q_icmp_ne (tgt := 22) hM dX12_isCompared_15 (by decide) (rfl : c.toInt = c.toInt) (kc_61 : (61 : Int32).toInt = 61) (fun h15 => ?_) (fun h15 => ?_)
      · refine q_iconst (v := (0 : Int32)) hM dX12_isCompared_22 (by decide) ?_
        exact hE _ _ _ _ _ _ hW.1 nz_0 ⟨_, rfl, (by have := kc_0; omega), rfl⟩ dX12_isCompared_23
      · refine q_iconst (v := (1 : Int32)) hM dX12_isCompared_18 (by decide) ?_
        refine q_goto (tgt := 23) hM dX12_isCompared_19 (by decide) ?_
        exact hE _ _ _ _ _ _ hW.1 nz_1 ⟨_, rfl, (by have := kc_1; omega), rfl⟩ dX12_isCompared_23

theorem dX12_isValue_0 : decode cX12_isValue 0 = .ok (.iload_n 0, 1) := by decide +kernel
theorem dX12_isValue_1 : decode cX12_isValue 1 = .ok (.bipush 102, 2) := by decide +kernel
theorem dX12_isValue_3 : decode cX12_isValue 3 = .ok (.if_icmp .eq 45, 3) := by decide +kernel
theorem dX12_isValue_6 : decode cX12_isValue 6 = .ok (.iload_n 0, 1) := by decide +kernel
theorem dX12_isValue_7 : decode cX12_isValue 7 = .ok (.bipush 107, 2) := by decide +kernel
theorem dX12_isValue_9 : decode cX12_isValue 9 = .ok (.if_icmp .eq 39, 3) := by decide +kernel
theorem dX12_isValue_12 : decode cX12_isValue 12 = .ok (.iload_n 0, 1) := by decide +kernel
theorem dX12_isValue_13 : decode cX12_isValue 13 = .ok (.bipush 118, 2) := by decide +kernel
theorem dX12_isValue_15 : decode cX12_isValue 15 = .ok (.if_icmp .eq 33, 3) := by decide +kernel
theorem dX12_isValue_18 : decode cX12_isValue 18 = .ok (.iload_n 0, 1) := by decide +kernel
theorem dX12_isValue_19 : decode cX12_isValue 19 = .ok (.bipush 112, 2) := by decide +kernel
theorem dX12_isValue_21 : decode cX12_isValue 21 = .ok (.if_icmp .eq 27, 3) := by decide +kernel
theorem dX12_isValue_24 : decode cX12_isValue 24 = .ok (.iload_n 0, 1) := by decide +kernel
theorem dX12_isValue_25 : decode cX12_isValue 25 = .ok (.bipush 99, 2) := by decide +kernel
theorem dX12_isValue_27 : decode cX12_isValue 27 = .ok (.if_icmp .eq 21, 3) := by decide +kernel
theorem dX12_isValue_30 : decode cX12_isValue 30 = .ok (.iload_n 0, 1) := by decide +kernel
theorem dX12_isValue_31 : decode cX12_isValue 31 = .ok (.bipush 97, 2) := by decide +kernel
theorem dX12_isValue_33 : decode cX12_isValue 33 = .ok (.if_icmp .eq 15, 3) := by decide +kernel
theorem dX12_isValue_36 : decode cX12_isValue 36 = .ok (.iload_n 0, 1) := by decide +kernel
theorem dX12_isValue_37 : decode cX12_isValue 37 = .ok (.bipush 110, 2) := by decide +kernel
theorem dX12_isValue_39 : decode cX12_isValue 39 = .ok (.if_icmp .eq 9, 3) := by decide +kernel
theorem dX12_isValue_42 : decode cX12_isValue 42 = .ok (.iload_n 0, 1) := by decide +kernel
theorem dX12_isValue_43 : decode cX12_isValue 43 = .ok (.bipush 121, 2) := by decide +kernel
theorem dX12_isValue_45 : decode cX12_isValue 45 = .ok (.if_icmp .ne 7, 3) := by decide +kernel
theorem dX12_isValue_48 : decode cX12_isValue 48 = .ok (.iconst 1, 1) := by decide +kernel
theorem dX12_isValue_49 : decode cX12_isValue 49 = .ok (.goto 4, 3) := by decide +kernel
theorem dX12_isValue_52 : decode cX12_isValue 52 = .ok (.iconst 0, 1) := by decide +kernel
theorem dX12_isValue_53 : decode cX12_isValue 53 = .ok (.ireturn, 1) := by decide +kernel
set_option maxRecDepth 100000 in
set_option maxHeartbeats 4000000 in
theorem a_X12_isValue (l : Launch) (D : va_G) (cA : Nat → ClassId) (ad : Nat → Nat) (g0 : Nat → va_E) (c : Int32) (hSh : Shp ad cA g0) (hG : Rng g0) : CT l NN ad cA D yX12_isValue cX12_isValue 1 (some FieldType.boolean) (0, 0) [.int c] g0 (PU g0 (fun r => (r.toInt = 1 ∧ (c.toInt = 102 ∨ c.toInt = 107 ∨ c.toInt = 118 ∨ c.toInt = 112 ∨ c.toInt = 99 ∨ c.toInt = 97 ∨ c.toInt = 110 ∨ c.toInt = 121)) ∨ (r.toInt = 0 ∧ c.toInt ≠ 102 ∧ c.toInt ≠ 107 ∧ c.toInt ≠ 118 ∧ c.toInt ≠ 112 ∧ c.toInt ≠ 99 ∧ c.toInt ≠ 97 ∧ c.toInt ≠ 110 ∧ c.toInt ≠ 121))) := by
  refine q_enterZ (by decide) (Nat.le_of_ble_eq_true rfl) (fun K H locs ls _ _ hM hW0 hR hC hE hl => ?_)
  have hl : lv_has ls 1 [(0, .int c)] := hl
  have hW : WS ad cA (fun i k => False) g0 K g0 H locs := ⟨hW0, hSh, FR.rf⟩
  refine q_iload_n hM dX12_isValue_0 (lv_at hl 0 rfl) ?_
  refine q_bipush (v := (102 : Int32)) hM dX12_isValue_1 (by decide) ?_
  refine q_icmp_eq (tgt := 48) hM dX12_isValue_3 (by decide) (rfl : c.toInt = c.toInt) (kc_102 : (102 : Int32).toInt = 102) (fun h3 => ?_) (fun h3 => ?_)
  · refine q_iconst (v := (1 : Int32)) hM dX12_isValue_48 (by decide) ?_
    refine q_goto (tgt := 53) hM dX12_isValue_49 (by decide) ?_
    exact hE _ _ _ _ _ _ hW.1 nz_1 ⟨_, rfl, (by have := kc_1; omega), rfl⟩ dX12_isValue_53
  · refine q_iload_n hM dX12_isValue_6 (lv_at hl 0 rfl) ?_
    refine q_bipush (v := (107 : Int32)) hM dX12_isValue_7 (by decide) ?_
    refine q_icmp_eq (tgt := 48) hM dX12_isValue_9 (by decide) (rfl : c.toInt = c.toInt) (kc_107 : (107 : Int32).toInt = 107) (fun h9 => ?_) (fun h9 => ?_)
    · refine q_iconst (v := (1 : Int32)) hM dX12_isValue_48 (by decide) ?_
      refine q_goto (tgt := 53) hM dX12_isValue_49 (by decide) ?_
      exact hE _ _ _ _ _ _ hW.1 nz_1 ⟨_, rfl, (by have := kc_1; omega), rfl⟩ dX12_isValue_53
    · refine q_iload_n hM dX12_isValue_12 (lv_at hl 0 rfl) ?_
      refine q_bipush (v := (118 : Int32)) hM dX12_isValue_13 (by decide) ?_
      refine q_icmp_eq (tgt := 48) hM dX12_isValue_15 (by decide) (rfl : c.toInt = c.toInt) (kc_118 : (118 : Int32).toInt = 118) (fun h15 => ?_) (fun h15 => ?_)
      · refine q_iconst (v := (1 : Int32)) hM dX12_isValue_48 (by decide) ?_
        refine q_goto (tgt := 53) hM dX12_isValue_49 (by decide) ?_
        exact hE _ _ _ _ _ _ hW.1 nz_1 ⟨_, rfl, (by have := kc_1; omega), rfl⟩ dX12_isValue_53
      · refine q_iload_n hM dX12_isValue_18 (lv_at hl 0 rfl) ?_
        refine q_bipush (v := (112 : Int32)) hM dX12_isValue_19 (by decide) ?_
        refine q_icmp_eq (tgt := 48) hM dX12_isValue_21 (by decide) (rfl : c.toInt = c.toInt) (kc_112 : (112 : Int32).toInt = 112) (fun h21 => ?_) (fun h21 => ?_)
        · refine q_iconst (v := (1 : Int32)) hM dX12_isValue_48 (by decide) ?_
          refine q_goto (tgt := 53) hM dX12_isValue_49 (by decide) ?_
          exact hE _ _ _ _ _ _ hW.1 nz_1 ⟨_, rfl, (by have := kc_1; omega), rfl⟩ dX12_isValue_53
        · refine q_iload_n hM dX12_isValue_24 (lv_at hl 0 rfl) ?_
          refine q_bipush (v := (99 : Int32)) hM dX12_isValue_25 (by decide) ?_
          refine q_icmp_eq (tgt := 48) hM dX12_isValue_27 (by decide) (rfl : c.toInt = c.toInt) (kc_99 : (99 : Int32).toInt = 99) (fun h27 => ?_) (fun h27 => ?_)
          · refine q_iconst (v := (1 : Int32)) hM dX12_isValue_48 (by decide) ?_
            refine q_goto (tgt := 53) hM dX12_isValue_49 (by decide) ?_
            exact hE _ _ _ _ _ _ hW.1 nz_1 ⟨_, rfl, (by have := kc_1; omega), rfl⟩ dX12_isValue_53
          · refine q_iload_n hM dX12_isValue_30 (lv_at hl 0 rfl) ?_
            refine q_bipush (v := (97 : Int32)) hM dX12_isValue_31 (by decide) ?_
            refine q_icmp_eq (tgt := 48) hM dX12_isValue_33 (by decide) (rfl : c.toInt = c.toInt) (kc_97 : (97 : Int32).toInt = 97) (fun h33 => ?_) (fun h33 => ?_)
            · refine q_iconst (v := (1 : Int32)) hM dX12_isValue_48 (by decide) ?_
              refine q_goto (tgt := 53) hM dX12_isValue_49 (by decide) ?_
              exact hE _ _ _ _ _ _ hW.1 nz_1 ⟨_, rfl, (by have := kc_1; omega), rfl⟩ dX12_isValue_53
            · refine q_iload_n hM dX12_isValue_36 (lv_at hl 0 rfl) ?_
              refine q_bipush (v := (110 : Int32)) hM dX12_isValue_37 (by decide) ?_
              refine q_icmp_eq (tgt := 48) hM dX12_isValue_39 (by decide) (rfl : c.toInt = c.toInt) (kc_110 : (110 : Int32).toInt = 110) (fun h39 => ?_) (fun h39 => ?_)
              · refine q_iconst (v := (1 : Int32)) hM dX12_isValue_48 (by decide) ?_
                refine q_goto (tgt := 53) hM dX12_isValue_49 (by decide) ?_
                exact hE _ _ _ _ _ _ hW.1 nz_1 ⟨_, rfl, (by have := kc_1; omega), rfl⟩ dX12_isValue_53
              · refine q_iload_n hM dX12_isValue_42 (lv_at hl 0 rfl) ?_
                refine q_bipush (v := (121 : Int32)) hM dX12_isValue_43 (by decide) ?_
                refine q_icmp_ne (tgt := 52) hM dX12_isValue_45 (by decide) (rfl : c.toInt = c.toInt) (kc_121 : (121 : Int32).toInt = 121) (fun h45 => ?_) (fun h45 => ?_)
                · refine q_iconst (v := (0 : Int32)) hM dX12_isValue_52 (by decide) ?_
                  exact hE _ _ _ _ _ _ hW.1 nz_0 ⟨_, rfl, (by have := kc_0; omega), rfl⟩ dX12_isValue_53
                · refine q_iconst (v := (1 : Int32)) hM dX12_isValue_48 (by decide) ?_
                  refine q_goto (tgt := 53) hM dX12_isValue_49 (by decide) ?_
                  exact hE _ _ _ _ _ _ hW.1 nz_1 ⟨_, rfl, (by have := kc_1; omega), rfl⟩ dX12_isValue_53

theorem dX12_isClause_0 : decode cX12_isClause 0 = .ok (.iload_n 0, 1) := by decide +kernel
theorem dX12_isClause_1 : decode cX12_isClause 1 = .ok (.bipush 119, 2) := by decide +kernel
theorem dX12_isClause_3 : decode cX12_isClause 3 = .ok (.if_icmp .eq 27, 3) := by decide +kernel
theorem dX12_isClause_6 : decode cX12_isClause 6 = .ok (.iload_n 0, 1) := by decide +kernel
theorem dX12_isClause_7 : decode cX12_isClause 7 = .ok (.bipush 115, 2) := by decide +kernel
theorem dX12_isClause_9 : decode cX12_isClause 9 = .ok (.if_icmp .eq 21, 3) := by decide +kernel
theorem dX12_isClause_12 : decode cX12_isClause 12 = .ok (.iload_n 0, 1) := by decide +kernel
theorem dX12_isClause_13 : decode cX12_isClause 13 = .ok (.bipush 114, 2) := by decide +kernel
theorem dX12_isClause_15 : decode cX12_isClause 15 = .ok (.if_icmp .eq 15, 3) := by decide +kernel
theorem dX12_isClause_18 : decode cX12_isClause 18 = .ok (.iload_n 0, 1) := by decide +kernel
theorem dX12_isClause_19 : decode cX12_isClause 19 = .ok (.bipush 104, 2) := by decide +kernel
theorem dX12_isClause_21 : decode cX12_isClause 21 = .ok (.if_icmp .eq 9, 3) := by decide +kernel
theorem dX12_isClause_24 : decode cX12_isClause 24 = .ok (.iload_n 0, 1) := by decide +kernel
theorem dX12_isClause_25 : decode cX12_isClause 25 = .ok (.bipush 120, 2) := by decide +kernel
theorem dX12_isClause_27 : decode cX12_isClause 27 = .ok (.if_icmp .ne 7, 3) := by decide +kernel
theorem dX12_isClause_30 : decode cX12_isClause 30 = .ok (.iconst 1, 1) := by decide +kernel
theorem dX12_isClause_31 : decode cX12_isClause 31 = .ok (.goto 4, 3) := by decide +kernel
theorem dX12_isClause_34 : decode cX12_isClause 34 = .ok (.iconst 0, 1) := by decide +kernel
theorem dX12_isClause_35 : decode cX12_isClause 35 = .ok (.ireturn, 1) := by decide +kernel
set_option maxRecDepth 100000 in
set_option maxHeartbeats 4000000 in
theorem a_X12_isClause (l : Launch) (D : va_G) (cA : Nat → ClassId) (ad : Nat → Nat) (g0 : Nat → va_E) (c : Int32) (hSh : Shp ad cA g0) (hG : Rng g0) : CT l NN ad cA D yX12_isClause cX12_isClause 1 (some FieldType.boolean) (0, 0) [.int c] g0 (PU g0 (fun r => (r.toInt = 1 ∧ (c.toInt = 119 ∨ c.toInt = 115 ∨ c.toInt = 114 ∨ c.toInt = 104 ∨ c.toInt = 120)) ∨ (r.toInt = 0 ∧ c.toInt ≠ 119 ∧ c.toInt ≠ 115 ∧ c.toInt ≠ 114 ∧ c.toInt ≠ 104 ∧ c.toInt ≠ 120))) := by
  refine q_enterZ (by decide) (Nat.le_of_ble_eq_true rfl) (fun K H locs ls _ _ hM hW0 hR hC hE hl => ?_)
  have hl : lv_has ls 1 [(0, .int c)] := hl
  have hW : WS ad cA (fun i k => False) g0 K g0 H locs := ⟨hW0, hSh, FR.rf⟩
  refine q_iload_n hM dX12_isClause_0 (lv_at hl 0 rfl) ?_
  refine q_bipush (v := (119 : Int32)) hM dX12_isClause_1 (by decide) ?_
  refine q_icmp_eq (tgt := 30) hM dX12_isClause_3 (by decide) (rfl : c.toInt = c.toInt) (kc_119 : (119 : Int32).toInt = 119) (fun h3 => ?_) (fun h3 => ?_)
  · refine q_iconst (v := (1 : Int32)) hM dX12_isClause_30 (by decide) ?_
    refine q_goto (tgt := 35) hM dX12_isClause_31 (by decide) ?_
    exact hE _ _ _ _ _ _ hW.1 nz_1 ⟨_, rfl, (by have := kc_1; omega), rfl⟩ dX12_isClause_35
  · refine q_iload_n hM dX12_isClause_6 (lv_at hl 0 rfl) ?_
    refine q_bipush (v := (115 : Int32)) hM dX12_isClause_7 (by decide) ?_
    refine q_icmp_eq (tgt := 30) hM dX12_isClause_9 (by decide) (rfl : c.toInt = c.toInt) (kc_115 : (115 : Int32).toInt = 115) (fun h9 => ?_) (fun h9 => ?_)
    · refine q_iconst (v := (1 : Int32)) hM dX12_isClause_30 (by decide) ?_
      refine q_goto (tgt := 35) hM dX12_isClause_31 (by decide) ?_
      exact hE _ _ _ _ _ _ hW.1 nz_1 ⟨_, rfl, (by have := kc_1; omega), rfl⟩ dX12_isClause_35
    · refine q_iload_n hM dX12_isClause_12 (lv_at hl 0 rfl) ?_
      refine q_bipush (v := (114 : Int32)) hM dX12_isClause_13 (by decide) ?_
      refine q_icmp_eq (tgt := 30) hM dX12_isClause_15 (by decide) (rfl : c.toInt = c.toInt) (kc_114 : (114 : Int32).toInt = 114) (fun h15 => ?_) (fun h15 => ?_)
      · refine q_iconst (v := (1 : Int32)) hM dX12_isClause_30 (by decide) ?_
        refine q_goto (tgt := 35) hM dX12_isClause_31 (by decide) ?_
        exact hE _ _ _ _ _ _ hW.1 nz_1 ⟨_, rfl, (by have := kc_1; omega), rfl⟩ dX12_isClause_35
      · refine q_iload_n hM dX12_isClause_18 (lv_at hl 0 rfl) ?_
        refine q_bipush (v := (104 : Int32)) hM dX12_isClause_19 (by decide) ?_
        refine q_icmp_eq (tgt := 30) hM dX12_isClause_21 (by decide) (rfl : c.toInt = c.toInt) (kc_104 : (104 : Int32).toInt = 104) (fun h21 => ?_) (fun h21 => ?_)
        · refine q_iconst (v := (1 : Int32)) hM dX12_isClause_30 (by decide) ?_
          refine q_goto (tgt := 35) hM dX12_isClause_31 (by decide) ?_
          exact hE _ _ _ _ _ _ hW.1 nz_1 ⟨_, rfl, (by have := kc_1; omega), rfl⟩ dX12_isClause_35
        · refine q_iload_n hM dX12_isClause_24 (lv_at hl 0 rfl) ?_
          refine q_bipush (v := (120 : Int32)) hM dX12_isClause_25 (by decide) ?_
          refine q_icmp_ne (tgt := 34) hM dX12_isClause_27 (by decide) (rfl : c.toInt = c.toInt) (kc_120 : (120 : Int32).toInt = 120) (fun h27 => ?_) (fun h27 => ?_)
          · refine q_iconst (v := (0 : Int32)) hM dX12_isClause_34 (by decide) ?_
            exact hE _ _ _ _ _ _ hW.1 nz_0 ⟨_, rfl, (by have := kc_0; omega), rfl⟩ dX12_isClause_35
          · refine q_iconst (v := (1 : Int32)) hM dX12_isClause_30 (by decide) ?_
            refine q_goto (tgt := 35) hM dX12_isClause_31 (by decide) ?_
            exact hE _ _ _ _ _ _ hW.1 nz_1 ⟨_, rfl, (by have := kc_1; omega), rfl⟩ dX12_isClause_35

theorem dX12_emit_0 : decode cX12_emit 0 = .ok (.aload_n 0, 1) := by decide +kernel
theorem dX12_emit_1 : decode cX12_emit 1 = .ok (.invokevirtual 234, 3) := by decide +kernel
theorem dX12_emit_4 : decode cX12_emit 4 = .ok (.ifCond .ne 4, 3) := by decide +kernel
theorem dX12_emit_7 : decode cX12_emit 7 = .ok (.return_, 1) := by decide +kernel
theorem dX12_emit_8 : decode cX12_emit 8 = .ok (.aload_n 0, 1) := by decide +kernel
theorem dX12_emit_9 : decode cX12_emit 9 = .ok (.getfield 85, 3) := by decide +kernel
theorem dX12_emit_12 : decode cX12_emit 12 = .ok (.aload_n 0, 1) := by decide +kernel
theorem dX12_emit_13 : decode cX12_emit 13 = .ok (.getfield 278, 3) := by decide +kernel
theorem dX12_emit_16 : decode cX12_emit 16 = .ok (.iload_n 1, 1) := by decide +kernel
theorem dX12_emit_17 : decode cX12_emit 17 = .ok (.iastore, 1) := by decide +kernel
theorem dX12_emit_18 : decode cX12_emit 18 = .ok (.aload_n 0, 1) := by decide +kernel
theorem dX12_emit_19 : decode cX12_emit 19 = .ok (.getfield 88, 3) := by decide +kernel
theorem dX12_emit_22 : decode cX12_emit 22 = .ok (.aload_n 0, 1) := by decide +kernel
theorem dX12_emit_23 : decode cX12_emit 23 = .ok (.getfield 278, 3) := by decide +kernel
theorem dX12_emit_26 : decode cX12_emit 26 = .ok (.iload_n 2, 1) := by decide +kernel
theorem dX12_emit_27 : decode cX12_emit 27 = .ok (.iastore, 1) := by decide +kernel
theorem dX12_emit_28 : decode cX12_emit 28 = .ok (.aload_n 0, 1) := by decide +kernel
theorem dX12_emit_29 : decode cX12_emit 29 = .ok (.dup, 1) := by decide +kernel
theorem dX12_emit_30 : decode cX12_emit 30 = .ok (.getfield 278, 3) := by decide +kernel
theorem dX12_emit_33 : decode cX12_emit 33 = .ok (.iconst 1, 1) := by decide +kernel
theorem dX12_emit_34 : decode cX12_emit 34 = .ok (.iadd, 1) := by decide +kernel
theorem dX12_emit_35 : decode cX12_emit 35 = .ok (.putfield 278, 3) := by decide +kernel
theorem dX12_emit_38 : decode cX12_emit 38 = .ok (.return_, 1) := by decide +kernel
theorem FG_X12_85 : FG RX12 85 12 86 37 := ⟨RX12, TX12, rfl, wX12, by decide, kAW (v_4_5 (List.mem_of_getElem? (i := 2) rfl)) rfl, rfl⟩
theorem FG_X12_278 : FG RX12 278 12 86 7 := ⟨RX12, TX12, rfl, wX12, by decide, kAW (v_4_3 (List.mem_of_getElem? (i := 4) rfl)) rfl, rfl⟩
theorem FG_X12_88 : FG RX12 88 12 86 38 := ⟨RX12, TX12, rfl, wX12, by decide, kAW (v_4_5 (List.mem_of_getElem? (i := 3) rfl)) rfl, rfl⟩
theorem FP_X12_278 : FPX RX12 278 12 86 7 .int := ⟨⟨RX12, TX12, tyX12, rfl, wX12, by decide, kAW (v_4_3 (List.mem_of_getElem? (i := 4) rfl)) rfl, rfl, tyX12_ok, nmX12, by decide +kernel, rfl⟩, by decide +kernel⟩
set_option maxRecDepth 100000 in
set_option maxHeartbeats 4000000 in
theorem a_X12_emit (l : Launch) (D : va_G) (cA : Nat → ClassId) (ad : Nat → Nat) (g0 : Nat → va_E) (c : Int32) (ag : Int32) (bd : Int32) (co : Int32)  (hSh : Shp ad cA g0) (hG : Rng g0) (h_bd : fld g0 129 5 = .int bd) (h_co : fld g0 129 7 = .int co) (co1 : co.toInt ≤ 239) : CT l NN ad cA D yX12_emit cX12_emit 3 none (1, 20) [.ref (ad 129), .int c, .int ag] g0 (fun v g' => ∃ (c9 : Int32), v = none ∧ Shp ad cA g' ∧ Rng g' ∧ FR (fun i k => (i = 129 ∧ (k = 7)) ∨ i = 153 ∨ i = 154) g0 g' ∧ fld g' 129 7 = .int c9 ∧ ((bd.toInt = 0 ∧ c9.toInt = co.toInt + 1 ∧ arI g' 153 = upd (arI g0 153) co.toNatClampNeg c) ∨ (bd.toInt ≠ 0 ∧ c9.toInt = co.toInt ∧ arI g' 153 = arI g0 153))) := by
  refine q_enterV (by decide) (Nat.le_of_ble_eq_true rfl) (fun K H locs ls _ _ hM hW0 hR hC hE hl => ?_)
  have hl : lv_has ls 3 [(0, .ref (ad 129)), (1, .int c), (2, .int ag)] := hl
  have hW : WS ad cA (fun i k => (i = 129 ∧ (k = 7)) ∨ i = 153 ∨ i = 154) g0 K g0 H locs := ⟨hW0, hSh, FR.rf⟩
  have b_bd := hG.f h_bd rF_129_5 (by decide)
  have b_co := hG.f h_co rF_129_7 (by decide)
  have f9397 : fld g0 129 7 = .int co := h_co
  refine q_aload_n hM dX12_emit_0 (lv_at hl 0 rfl) ?_
  refine q_callV (As := []) (rest := []) hM hW.1 hR hC myX12_isGood (kAW (v_5_8 (List.mem_of_getElem? (i := 11) rfl)) rfl) (rfl : vwCl[12]? = some (RX12, TX12, 86)) rfl lb_129.1 (shO hW.2.1 lb_129) (a_X12_isGood _ _ cA ad g0 bd hW.2.1 hG ((hW.2.2.1 129 5 (by omega)).trans h_bd)) ⟨by decide, by decide⟩ rfl rfl hl.1 (Nat.le_of_ble_eq_true rfl) dX12_emit_1 (fun v g9399 H locs hp hW1 => ?_)
  obtain ⟨r9398, rfl, hr9398, rfl⟩ := hp
  have hW : WS ad cA (fun i k => (i = 129 ∧ (k = 7)) ∨ i = 153 ∨ i = 154) g0 K g0 H locs := ⟨hW1, hW.2.1, hW.2.2⟩
  refine q_if_ne (tgt := 8) hM dX12_emit_4 (by decide) (rfl : r9398.toInt = r9398.toInt) (fun h4 => ?_) (fun h4 => ?_)
  · refine q_aload_n hM dX12_emit_8 (lv_at hl 0 rfl) ?_
    refine w_get (v := .ref (ad 153)) hM hW FG_X12_85 lb_129 (rf_129_37 hW.2.1) dX12_emit_9 ?_
    refine q_aload_n hM dX12_emit_12 (lv_at hl 0 rfl) ?_
    refine w_get (v := .int co) hM hW FG_X12_278 lb_129 f9397 dX12_emit_13 ?_
    have bco := hG.f f9397 rF_129_7 (by decide)
    refine q_iload_n hM dX12_emit_16 (lv_at hl 1 rfl) ?_
    refine w_iast hM hW lb_153 (by omega) (i_in (by omega) (by omega)) dX12_emit_17 (fun g9401 H locs hW e1 e2 => ?_)
    have f9402 : fld g9401 129 7 = .int co := (e2.1 129 7 (by unfold Only; omega)).trans f9397
    have hG := hG.st e1 e2 (rfl : rA 153 = (-2147483648, 2147483647)) (by have := i_rng c; omega) (by have := i_rng c; omega)
    have f9403 := e1
    refine q_aload_n hM dX12_emit_18 (lv_at hl 0 rfl) ?_
    refine w_get (v := .ref (ad 154)) hM hW FG_X12_88 lb_129 (rf_129_38 hW.2.1) dX12_emit_19 ?_
    refine q_aload_n hM dX12_emit_22 (lv_at hl 0 rfl) ?_
    refine w_get (v := .int co) hM hW FG_X12_278 lb_129 f9402 dX12_emit_23 ?_
    have bco := hG.f f9402 rF_129_7 (by decide)
    refine q_iload_n hM dX12_emit_26 (lv_at hl 2 rfl) ?_
    refine w_iast hM hW lb_154 (by omega) (i_in (by omega) (by omega)) dX12_emit_27 (fun g9404 H locs hW e1 e2 => ?_)
    have f9405 : fld g9404 129 7 = .int co := (e2.1 129 7 (by unfold Only; omega)).trans f9402
    have f9406 : arI g9404 153 = upd (arI g0 153) co.toNatClampNeg c := (e2.2.1 153 (by unfold Only; omega)).trans f9403
    have hG := hG.st e1 e2 (rfl : rA 154 = (-2147483648, 2147483647)) (by have := i_rng ag; omega) (by have := i_rng ag; omega)
    refine q_aload_n hM dX12_emit_28 (lv_at hl 0 rfl) ?_
    refine q_dup hM dX12_emit_29 rfl ?_
    refine w_get (v := .int co) hM hW FG_X12_278 lb_129 f9405 dX12_emit_30 ?_
    have bco := hG.f f9405 rF_129_7 (by decide)
    refine q_iconst (v := (1 : Int32)) hM dX12_emit_33 (by decide) ?_
    refine q_iadd hM dX12_emit_34 (fun z9407 hz9407 => ?_)
    first | have tz9407 := i_addT hz9407 (rfl : co.toInt = co.toInt) (kc_1 : (1 : Int32).toInt = 1) (by omega) (by omega) | skip
    refine w_put hM hW FP_X12_278 lb_129 (by omega) (Or.inl ⟨_, rfl⟩) rfl rfl dX12_emit_35 (fun g9408 H locs hW e1 e2 => ?_)
    have f9409 : arI g9408 153 = upd (arI g0 153) co.toNatClampNeg c := (e2.2.1 153 (by unfold Only; omega)).trans f9406
    have f9410 : fld g9408 129 7 = .int z9407 := e1
    have hG := hG.put e1 e2 rF_129_7 (by decide) (by have := i_rng z9407; omega) (by have := i_rng z9407; omega)
    exact hE _ _ _ _ _ hW.1 ⟨z9407, rfl, hW.2.1, hG, hW.2.2, f9410, (Or.inl ⟨by omega, by omega, f9409⟩)⟩ dX12_emit_38
  · exact hE _ _ _ _ _ hW.1 ⟨co, rfl, hW.2.1, hG, hW.2.2, f9397, (Or.inr ⟨by omega, rfl, rfl⟩)⟩ dX12_emit_7

theorem dX12_sums_0 : decode cX12_sums 0 = .ok (.aload_n 0, 1) := by decide +kernel
theorem dX12_sums_1 : decode cX12_sums 1 = .ok (.invokevirtual 293, 3) := by decide +kernel
theorem dX12_sums_4 : decode cX12_sums 4 = .ok (.invokestatic 296, 3) := by decide +kernel
theorem dX12_sums_7 : decode cX12_sums 7 = .ok (.ifCond .ne 17, 3) := by decide +kernel
theorem dX12_sums_10 : decode cX12_sums 10 = .ok (.iload_n 1, 1) := by decide +kernel
theorem dX12_sums_11 : decode cX12_sums 11 = .ok (.ifCond .eq 35, 3) := by decide +kernel
theorem dX12_sums_14 : decode cX12_sums 14 = .ok (.aload_n 0, 1) := by decide +kernel
theorem dX12_sums_15 : decode cX12_sums 15 = .ok (.invokevirtual 293, 3) := by decide +kernel
theorem dX12_sums_18 : decode cX12_sums 18 = .ok (.invokestatic 299, 3) := by decide +kernel
theorem dX12_sums_21 : decode cX12_sums 21 = .ok (.ifCond .eq 25, 3) := by decide +kernel
theorem dX12_sums_24 : decode cX12_sums 24 = .ok (.aload_n 0, 1) := by decide +kernel
theorem dX12_sums_25 : decode cX12_sums 25 = .ok (.aload_n 0, 1) := by decide +kernel
theorem dX12_sums_26 : decode cX12_sums 26 = .ok (.invokevirtual 293, 3) := by decide +kernel
theorem dX12_sums_29 : decode cX12_sums 29 = .ok (.iconst 0, 1) := by decide +kernel
theorem dX12_sums_30 : decode cX12_sums 30 = .ok (.invokevirtual 302, 3) := by decide +kernel
theorem dX12_sums_33 : decode cX12_sums 33 = .ok (.aload_n 0, 1) := by decide +kernel
theorem dX12_sums_34 : decode cX12_sums 34 = .ok (.dup, 1) := by decide +kernel
theorem dX12_sums_35 : decode cX12_sums 35 = .ok (.getfield 281, 3) := by decide +kernel
theorem dX12_sums_38 : decode cX12_sums 38 = .ok (.iconst 1, 1) := by decide +kernel
theorem dX12_sums_39 : decode cX12_sums 39 = .ok (.isub, 1) := by decide +kernel
theorem dX12_sums_40 : decode cX12_sums 40 = .ok (.putfield 281, 3) := by decide +kernel
theorem dX12_sums_43 : decode cX12_sums 43 = .ok (.goto (-43), 3) := by decide +kernel
theorem dX12_sums_46 : decode cX12_sums 46 = .ok (.return_, 1) := by decide +kernel
theorem myX12_top : MI yX12_top cX12_top 1 (some FieldType.int) 0 := ⟨kAW (v_6_0 (List.mem_of_getElem? (i := 3) rfl)) rfl, kAW (v_0_0 (List.mem_of_getElem? (i := 13) rfl)) rfl, kAW (v_6_0 (List.mem_of_getElem? (i := 2) rfl)) rfl, kAW (tp_t3 (List.mem_of_getElem? (i := 9) rfl)) rfl, by decide, by decide, by decide +kernel⟩
theorem myX12_isTimes : MS yX12_isTimes cX12_isTimes 1 (some FieldType.boolean) 1 := ⟨kAW (v_5_14 (List.mem_of_getElem? (i := 8) rfl)) rfl, kAW (v_0_0 (List.mem_of_getElem? (i := 13) rfl)) rfl, kAW (v_5_14 (List.mem_of_getElem? (i := 7) rfl)) rfl, by decide, by decide, by decide +kernel⟩
theorem myX12_emit : MI yX12_emit cX12_emit 3 none 2 := ⟨kAW (v_5_13 (List.mem_of_getElem? (i := 14) rfl)) rfl, kAW (v_0_0 (List.mem_of_getElem? (i := 13) rfl)) rfl, kAW (v_5_13 (List.mem_of_getElem? (i := 13) rfl)) rfl, kAW (tp_t3 (List.mem_of_getElem? (i := 6) rfl)) rfl, by decide, by decide, by decide +kernel⟩
theorem FP_X12_281 : FPX RX12 281 12 86 9 .int := ⟨⟨RX12, TX12, tyX12, rfl, wX12, by decide, kAW (v_4_3 (List.mem_of_getElem? (i := 6) rfl)) rfl, rfl, tyX12_ok, nmX12, by decide +kernel, rfl⟩, by decide +kernel⟩
theorem myX12_isPlus : MS yX12_isPlus cX12_isPlus 1 (some FieldType.boolean) 1 := ⟨kAW (v_5_14 (List.mem_of_getElem? (i := 11) rfl)) rfl, kAW (v_0_0 (List.mem_of_getElem? (i := 13) rfl)) rfl, kAW (v_5_14 (List.mem_of_getElem? (i := 10) rfl)) rfl, by decide, by decide, by decide +kernel⟩
set_option maxRecDepth 100000 in
set_option maxHeartbeats 4000000 in
theorem a_X12_sums (l : Launch) (D : va_G) (cA : Nat → ClassId) (ad : Nat → Nat) (g0 : Nat → va_E) (pm : Int32) (bd : Int32) (co : Int32) (sk : Int32)  (sa : Int × (Nat → Int32)) (lo : Int) (s0 : Nat → Int32) (hSh : Shp ad cA g0) (hG : Rng g0) (h_bd : fld g0 129 5 = .int bd) (h_co : fld g0 129 7 = .int co) (h_sk : fld g0 129 9 = .int sk) (bd0 : bd.toInt = 0) (cs : co.toInt + sk.toInt ≤ 240) (hJ : JJ (arI g0 153) (arI g0 155) sa co.toInt sk.toInt 1) (hV : VS (arI g0 155) s0 lo sk.toInt) (hN : 1 ≤ lo → ¬ isV (s0 (lo - 1).toNat)) : CT l NN ad cA D yX12_sums cX12_sums 2 none (2, 42) [.ref (ad 129), .int pm] g0 (fun v g' => ∃ (c9 : Int32) (s9 : Int32), v = none ∧ Shp ad cA g' ∧ Rng g' ∧ FR (fun i k => (i = 129 ∧ (k = 7 ∨ k = 9)) ∨ i = 153 ∨ i = 154) g0 g' ∧ fld g' 129 7 = .int c9 ∧ fld g' 129 9 = .int s9 ∧ (c9.toInt + s9.toInt = co.toInt + sk.toInt) ∧ (s9.toInt ≤ sk.toInt) ∧ (0 ≤ s9.toInt) ∧ (co.toInt ≤ c9.toInt) ∧ (JJ (arI g' 153) (arI g0 155) sa c9.toInt s9.toInt 1) ∧ (VS (arI g0 155) s0 lo s9.toInt) ∧ (1 ≤ s9.toInt → (arI g0 155 (s9.toInt - 1).toNat).toInt ≠ 42 ∧ (arI g0 155 (s9.toInt - 1).toNat).toInt ≠ 47 ∧ (arI g0 155 (s9.toInt - 1).toNat).toInt ≠ 37) ∧ (pm.toInt ≠ 0 → 1 ≤ s9.toInt → (arI g0 155 (s9.toInt - 1).toNat).toInt ≠ 43 ∧ (arI g0 155 (s9.toInt - 1).toNat).toInt ≠ 45)) := by
  refine q_enterV (by decide) (Nat.le_of_ble_eq_true rfl) (fun K H locs ls _ _ hM hW0 hR hC hE hl => ?_)
  have hl : lv_has ls 2 [(0, .ref (ad 129)), (1, .int pm)] := hl
  have hW : WS ad cA (fun i k => (i = 129 ∧ (k = 7 ∨ k = 9)) ∨ i = 153 ∨ i = 154) g0 K g0 H locs := ⟨hW0, hSh, FR.rf⟩
  have b_bd := hG.f h_bd rF_129_5 (by decide)
  have b_co := hG.f h_co rF_129_7 (by decide)
  have b_sk := hG.f h_sk rF_129_9 (by decide)
  have f9412 : fld g0 129 7 = .int co := h_co
  have f9413 : fld g0 129 9 = .int sk := h_sk
  have L0 : ∀ (fu0 : Nat) (cc : Int32) (ss : Int32) (g9 : Nat → va_E) (H : Heap) (locs : List Loc) (ls : Array Slot), (ss.toInt + 1).toNat < fu0 → (Rng g9) → (cc.toInt + ss.toInt = co.toInt + sk.toInt) → (ss.toInt ≤ sk.toInt) → (0 ≤ ss.toInt) → (co.toInt ≤ cc.toInt) → (JJ (arI g9 153) (arI g0 155) sa cc.toInt ss.toInt 1) → (VS (arI g0 155) s0 lo ss.toInt) → (fld g9 129 7 = .int cc) → (fld g9 129 9 = .int ss) → lv_has ls 2 [(0, .ref (ad 129)), (1, .int pm)] → WS ad cA (fun i k => (i = 129 ∧ (k = 7 ∨ k = 9)) ∨ i = 153 ∨ i = 154) g0 K g9 H locs → XX K 0 0 H locs 0 ls [] := by
    intro fu0
    induction fu0 with
    | zero => intro cc ss g9 H locs ls h0; omega
    | succ fu0 ih0 =>
      intro cc ss g9 H locs ls hm0 i0_0 i0_1 i0_2 i0_3 i0_4 i0_5 i0_6 c0_129_7 c0_129_9 hl hW
      have hG := i0_0
      refine q_aload_n hM dX12_sums_0 (lv_at hl 0 rfl) ?_
      refine q_callV (As := []) (rest := []) hM hW.1 hR hC myX12_top (kAW (v_6_0 (List.mem_of_getElem? (i := 0) rfl)) rfl) (rfl : vwCl[12]? = some (RX12, TX12, 86)) rfl lb_129.1 (shO hW.2.1 lb_129) (a_X12_top _ _ cA ad g9 ss hW.2.1 hG c0_129_9 (by  omega)) ⟨by decide, by decide⟩ rfl rfl hl.1 (Nat.le_of_ble_eq_true rfl) dX12_sums_1 (fun v g9416 H locs hp hW1 => ?_)
      obtain ⟨r9415, rfl, hr9415, rfl⟩ := hp
      have hW : WS ad cA (fun i k => (i = 129 ∧ (k = 7 ∨ k = 9)) ∨ i = 153 ∨ i = 154) g0 K g9 H locs := ⟨hW1, hW.2.1, hW.2.2⟩
      rw [hW.2.2.2.1 155 (by omega)] at hr9415
      refine q_callS (As := [.int r9415]) (rest := []) hM hW.1 hR hC myX12_isTimes (kAW (v_5_14 (List.mem_of_getElem? (i := 6) rfl)) rfl) (a_X12_isTimes _ _ cA ad g9 r9415 hW.2.1 hG) ⟨by decide, by decide⟩ rfl rfl hl.1 (Nat.le_of_ble_eq_true rfl) dX12_sums_4 (fun v g9418 H locs hp hW1 => ?_)
      obtain ⟨r9417, rfl, hr9417, rfl⟩ := hp
      have hW : WS ad cA (fun i k => (i = 129 ∧ (k = 7 ∨ k = 9)) ∨ i = 153 ∨ i = 154) g0 K g9 H locs := ⟨hW1, hW.2.1, hW.2.2⟩
      refine q_if_ne (tgt := 24) hM dX12_sums_7 (by decide) (rfl : r9417.toInt = r9417.toInt) (fun h7 => ?_) (fun h7 => ?_)
      · refine q_aload_n hM dX12_sums_24 (lv_at hl 0 rfl) ?_
        refine q_aload_n hM dX12_sums_25 (lv_at hl 0 rfl) ?_
        refine q_callV (As := []) (rest := [.ref (ad 129)]) hM hW.1 hR hC myX12_top (kAW (v_6_0 (List.mem_of_getElem? (i := 0) rfl)) rfl) (rfl : vwCl[12]? = some (RX12, TX12, 86)) rfl lb_129.1 (shO hW.2.1 lb_129) (a_X12_top _ _ cA ad g9 ss hW.2.1 hG c0_129_9 (by  omega)) ⟨by decide, by decide⟩ rfl rfl hl.1 (Nat.le_of_ble_eq_true rfl) dX12_sums_26 (fun v g9421 H locs hp hW1 => ?_)
        obtain ⟨r9420, rfl, hr9420, rfl⟩ := hp
        have hW : WS ad cA (fun i k => (i = 129 ∧ (k = 7 ∨ k = 9)) ∨ i = 153 ∨ i = 154) g0 K g9 H locs := ⟨hW1, hW.2.1, hW.2.2⟩
        rw [hW.2.2.2.1 155 (by omega)] at hr9420
        refine q_iconst (v := (0 : Int32)) hM dX12_sums_29 (by decide) ?_
        refine q_callV (As := [.int r9420, .int (0 : Int32)]) (rest := []) hM hW.1 hR hC myX12_emit (kAW (v_5_13 (List.mem_of_getElem? (i := 11) rfl)) rfl) (rfl : vwCl[12]? = some (RX12, TX12, 86)) rfl lb_129.1 (shO hW.2.1 lb_129) (a_X12_emit _ _ cA ad g9 r9420 (0 : Int32) bd cc hW.2.1 hG ((hW.2.2.1 129 5 (by omega)).trans h_bd) c0_129_7 (by have := kc_0; omega)) ⟨by decide, by decide⟩ rfl rfl hl.1 (Nat.le_of_ble_eq_true rfl) dX12_sums_30 (fun v g9425 H locs hp hW1 => ?_)
        obtain ⟨v9422, rfl, hs1, hG, hf1, q9423, e9424⟩ := hp
        have f9426 : fld g9425 129 9 = .int ss := (hf1.1 129 9 (by omega)).trans c0_129_9
        have hW : WS ad cA (fun i k => (i = 129 ∧ (k = 7 ∨ k = 9)) ∨ i = 153 ∨ i = 154) g0 K g9425 H locs := ⟨hW1, hs1, hW.2.2.tr hf1 (fun i k h => h.elim (fun h => (Or.inl (by omega))) (fun h => h.elim (fun h => (Or.inr (Or.inl h))) (fun h => (Or.inr (Or.inr h)))))⟩
        have em9427 := e9424.resolve_right (fun h9 => h9.1 (by omega))
        have f9428 := em9427.2.2
        have em94279 := em9427.2.1
        rw [(rfl : arI g9 153 = arI g9 153)] at f9428
        refine q_aload_n hM dX12_sums_33 (lv_at hl 0 rfl) ?_
        refine q_dup hM dX12_sums_34 rfl ?_
        refine w_get (v := .int ss) hM hW FG_X12_281 lb_129 f9426 dX12_sums_35 ?_
        have bss := hG.f f9426 rF_129_9 (by decide)
        refine q_iconst (v := (1 : Int32)) hM dX12_sums_38 (by decide) ?_
        refine q_isub hM dX12_sums_39 (fun z9429 hz9429 => ?_)
        first | have tz9429 := i_subT hz9429 (rfl : ss.toInt = ss.toInt) (kc_1 : (1 : Int32).toInt = 1) (by omega) (by omega) | skip
        refine w_put hM hW FP_X12_281 lb_129 (by omega) (Or.inl ⟨_, rfl⟩) rfl rfl dX12_sums_40 (fun g9430 H locs hW e1 e2 => ?_)
        have f9431 : fld g9430 129 7 = .int v9422 := (e2.1 129 7 (by unfold Only; omega)).trans q9423
        have f9432 : arI g9430 153 = upd (arI g9 153) cc.toNatClampNeg r9420 := (e2.2.1 153 (by unfold Only; omega)).trans f9428
        have f9433 : fld g9430 129 9 = .int z9429 := e1
        have hG := hG.put e1 e2 rF_129_9 (by decide) (by have := i_rng z9429; omega) (by have := i_rng z9429; omega)
        refine q_goto (tgt := 0) hM dX12_sums_43 (by decide) ?_
        exact ih0 v9422 z9429 _ _ _ _ (by omega) hG (by omega) (by omega) (by omega) (by omega) (by rw [f9432]; exact JJ_bin i0_5 rfl rfl (by omega) (by omega) (by omega) (by omega) (by omega)) (VS_mono i0_6 (by have := VS_top (d := r9420) i0_6 hN (by omega) (by omega) (by omega); omega) (by omega)) f9431 f9433 (lv_sub hl [0, 1] rfl) hW
      · refine q_iload_n hM dX12_sums_10 (lv_at hl 1 rfl) ?_
        refine q_if_eq (tgt := 46) hM dX12_sums_11 (by decide) (rfl : pm.toInt = pm.toInt) (fun h11 => ?_) (fun h11 => ?_)
        · exact hE _ _ _ _ _ hW.1 ⟨cc, ss, rfl, hW.2.1, hG, hW.2.2, c0_129_7, c0_129_9, (by omega), (by omega), (by omega), (by omega), i0_5, i0_6, (by omega), (by omega)⟩ dX12_sums_46
        · refine q_aload_n hM dX12_sums_14 (lv_at hl 0 rfl) ?_
          refine q_callV (As := []) (rest := []) hM hW.1 hR hC myX12_top (kAW (v_6_0 (List.mem_of_getElem? (i := 0) rfl)) rfl) (rfl : vwCl[12]? = some (RX12, TX12, 86)) rfl lb_129.1 (shO hW.2.1 lb_129) (a_X12_top _ _ cA ad g9 ss hW.2.1 hG c0_129_9 (by  omega)) ⟨by decide, by decide⟩ rfl rfl hl.1 (Nat.le_of_ble_eq_true rfl) dX12_sums_15 (fun v g9438 H locs hp hW1 => ?_)
          obtain ⟨r9437, rfl, hr9437, rfl⟩ := hp
          have hW : WS ad cA (fun i k => (i = 129 ∧ (k = 7 ∨ k = 9)) ∨ i = 153 ∨ i = 154) g0 K g9 H locs := ⟨hW1, hW.2.1, hW.2.2⟩
          rw [hW.2.2.2.1 155 (by omega)] at hr9437
          refine q_callS (As := [.int r9437]) (rest := []) hM hW.1 hR hC myX12_isPlus (kAW (v_5_14 (List.mem_of_getElem? (i := 9) rfl)) rfl) (a_X12_isPlus _ _ cA ad g9 r9437 hW.2.1 hG) ⟨by decide, by decide⟩ rfl rfl hl.1 (Nat.le_of_ble_eq_true rfl) dX12_sums_18 (fun v g9440 H locs hp hW1 => ?_)
          obtain ⟨r9439, rfl, hr9439, rfl⟩ := hp
          have hW : WS ad cA (fun i k => (i = 129 ∧ (k = 7 ∨ k = 9)) ∨ i = 153 ∨ i = 154) g0 K g9 H locs := ⟨hW1, hW.2.1, hW.2.2⟩
          refine q_if_eq (tgt := 46) hM dX12_sums_21 (by decide) (rfl : r9439.toInt = r9439.toInt) (fun h21 => ?_) (fun h21 => ?_)
          · exact hE _ _ _ _ _ hW.1 ⟨cc, ss, rfl, hW.2.1, hG, hW.2.2, c0_129_7, c0_129_9, (by omega), (by omega), (by omega), (by omega), i0_5, i0_6, (by omega), (by omega)⟩ dX12_sums_46
          · refine q_aload_n hM dX12_sums_24 (lv_at hl 0 rfl) ?_
            refine q_aload_n hM dX12_sums_25 (lv_at hl 0 rfl) ?_
            refine q_callV (As := []) (rest := [.ref (ad 129)]) hM hW.1 hR hC myX12_top (kAW (v_6_0 (List.mem_of_getElem? (i := 0) rfl)) rfl) (rfl : vwCl[12]? = some (RX12, TX12, 86)) rfl lb_129.1 (shO hW.2.1 lb_129) (a_X12_top _ _ cA ad g9 ss hW.2.1 hG c0_129_9 (by  omega)) ⟨by decide, by decide⟩ rfl rfl hl.1 (Nat.le_of_ble_eq_true rfl) dX12_sums_26 (fun v g9444 H locs hp hW1 => ?_)
            obtain ⟨r9443, rfl, hr9443, rfl⟩ := hp
            have hW : WS ad cA (fun i k => (i = 129 ∧ (k = 7 ∨ k = 9)) ∨ i = 153 ∨ i = 154) g0 K g9 H locs := ⟨hW1, hW.2.1, hW.2.2⟩
            rw [hW.2.2.2.1 155 (by omega)] at hr9443
            refine q_iconst (v := (0 : Int32)) hM dX12_sums_29 (by decide) ?_
            refine q_callV (As := [.int r9443, .int (0 : Int32)]) (rest := []) hM hW.1 hR hC myX12_emit (kAW (v_5_13 (List.mem_of_getElem? (i := 11) rfl)) rfl) (rfl : vwCl[12]? = some (RX12, TX12, 86)) rfl lb_129.1 (shO hW.2.1 lb_129) (a_X12_emit _ _ cA ad g9 r9443 (0 : Int32) bd cc hW.2.1 hG ((hW.2.2.1 129 5 (by omega)).trans h_bd) c0_129_7 (by have := kc_0; omega)) ⟨by decide, by decide⟩ rfl rfl hl.1 (Nat.le_of_ble_eq_true rfl) dX12_sums_30 (fun v g9448 H locs hp hW1 => ?_)
            obtain ⟨v9445, rfl, hs1, hG, hf1, q9446, e9447⟩ := hp
            have f9449 : fld g9448 129 9 = .int ss := (hf1.1 129 9 (by omega)).trans c0_129_9
            have hW : WS ad cA (fun i k => (i = 129 ∧ (k = 7 ∨ k = 9)) ∨ i = 153 ∨ i = 154) g0 K g9448 H locs := ⟨hW1, hs1, hW.2.2.tr hf1 (fun i k h => h.elim (fun h => (Or.inl (by omega))) (fun h => h.elim (fun h => (Or.inr (Or.inl h))) (fun h => (Or.inr (Or.inr h)))))⟩
            have em9450 := e9447.resolve_right (fun h9 => h9.1 (by omega))
            have f9451 := em9450.2.2
            have em94509 := em9450.2.1
            rw [(rfl : arI g9 153 = arI g9 153)] at f9451
            refine q_aload_n hM dX12_sums_33 (lv_at hl 0 rfl) ?_
            refine q_dup hM dX12_sums_34 rfl ?_
            refine w_get (v := .int ss) hM hW FG_X12_281 lb_129 f9449 dX12_sums_35 ?_
            have bss := hG.f f9449 rF_129_9 (by decide)
            refine q_iconst (v := (1 : Int32)) hM dX12_sums_38 (by decide) ?_
            refine q_isub hM dX12_sums_39 (fun z9452 hz9452 => ?_)
            first | have tz9452 := i_subT hz9452 (rfl : ss.toInt = ss.toInt) (kc_1 : (1 : Int32).toInt = 1) (by omega) (by omega) | skip
            refine w_put hM hW FP_X12_281 lb_129 (by omega) (Or.inl ⟨_, rfl⟩) rfl rfl dX12_sums_40 (fun g9453 H locs hW e1 e2 => ?_)
            have f9454 : fld g9453 129 7 = .int v9445 := (e2.1 129 7 (by unfold Only; omega)).trans q9446
            have f9455 : arI g9453 153 = upd (arI g9 153) cc.toNatClampNeg r9443 := (e2.2.1 153 (by unfold Only; omega)).trans f9451
            have f9456 : fld g9453 129 9 = .int z9452 := e1
            have hG := hG.put e1 e2 rF_129_9 (by decide) (by have := i_rng z9452; omega) (by have := i_rng z9452; omega)
            refine q_goto (tgt := 0) hM dX12_sums_43 (by decide) ?_
            exact ih0 v9445 z9452 _ _ _ _ (by omega) hG (by omega) (by omega) (by omega) (by omega) (by rw [f9455]; exact JJ_bin i0_5 rfl rfl (by omega) (by omega) (by omega) (by omega) (by omega)) (VS_mono i0_6 (by have := VS_top (d := r9443) i0_6 hN (by omega) (by omega) (by omega); omega) (by omega)) f9454 f9456 (lv_sub hl [0, 1] rfl) hW
  exact L0 _ co sk _ _ _ _ (Nat.lt_succ_self _) hG (by omega) (by omega) (by omega) (by omega) hJ hV f9412 f9413 (lv_sub hl [0, 1] rfl) hW

theorem dX12_joins_0 : decode cX12_joins 0 = .ok (.aload_n 0, 1) := by decide +kernel
theorem dX12_joins_1 : decode cX12_joins 1 = .ok (.invokevirtual 293, 3) := by decide +kernel
theorem dX12_joins_4 : decode cX12_joins 4 = .ok (.bipush 38, 2) := by decide +kernel
theorem dX12_joins_6 : decode cX12_joins 6 = .ok (.if_icmp .eq 16, 3) := by decide +kernel
theorem dX12_joins_9 : decode cX12_joins 9 = .ok (.iload_n 1, 1) := by decide +kernel
theorem dX12_joins_10 : decode cX12_joins 10 = .ok (.ifCond .eq 34, 3) := by decide +kernel
theorem dX12_joins_13 : decode cX12_joins 13 = .ok (.aload_n 0, 1) := by decide +kernel
theorem dX12_joins_14 : decode cX12_joins 14 = .ok (.invokevirtual 293, 3) := by decide +kernel
theorem dX12_joins_17 : decode cX12_joins 17 = .ok (.bipush 124, 2) := by decide +kernel
theorem dX12_joins_19 : decode cX12_joins 19 = .ok (.if_icmp .ne 25, 3) := by decide +kernel
theorem dX12_joins_22 : decode cX12_joins 22 = .ok (.aload_n 0, 1) := by decide +kernel
theorem dX12_joins_23 : decode cX12_joins 23 = .ok (.aload_n 0, 1) := by decide +kernel
theorem dX12_joins_24 : decode cX12_joins 24 = .ok (.invokevirtual 293, 3) := by decide +kernel
theorem dX12_joins_27 : decode cX12_joins 27 = .ok (.iconst 0, 1) := by decide +kernel
theorem dX12_joins_28 : decode cX12_joins 28 = .ok (.invokevirtual 302, 3) := by decide +kernel
theorem dX12_joins_31 : decode cX12_joins 31 = .ok (.aload_n 0, 1) := by decide +kernel
theorem dX12_joins_32 : decode cX12_joins 32 = .ok (.dup, 1) := by decide +kernel
theorem dX12_joins_33 : decode cX12_joins 33 = .ok (.getfield 281, 3) := by decide +kernel
theorem dX12_joins_36 : decode cX12_joins 36 = .ok (.iconst 1, 1) := by decide +kernel
theorem dX12_joins_37 : decode cX12_joins 37 = .ok (.isub, 1) := by decide +kernel
theorem dX12_joins_38 : decode cX12_joins 38 = .ok (.putfield 281, 3) := by decide +kernel
theorem dX12_joins_41 : decode cX12_joins 41 = .ok (.goto (-41), 3) := by decide +kernel
theorem dX12_joins_44 : decode cX12_joins 44 = .ok (.return_, 1) := by decide +kernel
set_option maxRecDepth 100000 in
set_option maxHeartbeats 4000000 in
theorem a_X12_joins (l : Launch) (D : va_G) (cA : Nat → ClassId) (ad : Nat → Nat) (g0 : Nat → va_E) (pm : Int32) (bd : Int32) (co : Int32) (sk : Int32)  (sa : Int × (Nat → Int32)) (hSh : Shp ad cA g0) (hG : Rng g0) (h_bd : fld g0 129 5 = .int bd) (h_co : fld g0 129 7 = .int co) (h_sk : fld g0 129 9 = .int sk) (bd0 : bd.toInt = 0) (cs : co.toInt + sk.toInt ≤ 240) (hJ : JJ (arI g0 153) (arI g0 155) sa co.toInt sk.toInt 1) (hK9 : CS (arI g0 155) sk.toInt) : CT l NN ad cA D yX12_joins cX12_joins 2 none (2, 42) [.ref (ad 129), .int pm] g0 (fun v g' => ∃ (c9 : Int32) (s9 : Int32), v = none ∧ Shp ad cA g' ∧ Rng g' ∧ FR (fun i k => (i = 129 ∧ (k = 7 ∨ k = 9)) ∨ i = 153 ∨ i = 154) g0 g' ∧ fld g' 129 7 = .int c9 ∧ fld g' 129 9 = .int s9 ∧ (c9.toInt + s9.toInt = co.toInt + sk.toInt) ∧ (s9.toInt ≤ sk.toInt) ∧ (0 ≤ s9.toInt) ∧ (co.toInt ≤ c9.toInt) ∧ (JJ (arI g' 153) (arI g0 155) sa c9.toInt s9.toInt 1) ∧ (CS (arI g0 155) s9.toInt) ∧ (1 ≤ s9.toInt → (arI g0 155 (s9.toInt - 1).toNat).toInt ≠ 38) ∧ (pm.toInt ≠ 0 → 1 ≤ s9.toInt → (arI g0 155 (s9.toInt - 1).toNat).toInt ≠ 124)) := by
  refine q_enterV (by decide) (Nat.le_of_ble_eq_true rfl) (fun K H locs ls _ _ hM hW0 hR hC hE hl => ?_)
  have hl : lv_has ls 2 [(0, .ref (ad 129)), (1, .int pm)] := hl
  have hW : WS ad cA (fun i k => (i = 129 ∧ (k = 7 ∨ k = 9)) ∨ i = 153 ∨ i = 154) g0 K g0 H locs := ⟨hW0, hSh, FR.rf⟩
  have b_bd := hG.f h_bd rF_129_5 (by decide)
  have b_co := hG.f h_co rF_129_7 (by decide)
  have b_sk := hG.f h_sk rF_129_9 (by decide)
  have f9457 : fld g0 129 7 = .int co := h_co
  have f9458 : fld g0 129 9 = .int sk := h_sk
  have L0 : ∀ (fu0 : Nat) (cc : Int32) (ss : Int32) (g9 : Nat → va_E) (H : Heap) (locs : List Loc) (ls : Array Slot), (ss.toInt + 1).toNat < fu0 → (Rng g9) → (cc.toInt + ss.toInt = co.toInt + sk.toInt) → (ss.toInt ≤ sk.toInt) → (0 ≤ ss.toInt) → (co.toInt ≤ cc.toInt) → (JJ (arI g9 153) (arI g0 155) sa cc.toInt ss.toInt 1) → (CS (arI g0 155) ss.toInt) → (fld g9 129 7 = .int cc) → (fld g9 129 9 = .int ss) → lv_has ls 2 [(0, .ref (ad 129)), (1, .int pm)] → WS ad cA (fun i k => (i = 129 ∧ (k = 7 ∨ k = 9)) ∨ i = 153 ∨ i = 154) g0 K g9 H locs → XX K 0 0 H locs 0 ls [] := by
    intro fu0
    induction fu0 with
    | zero => intro cc ss g9 H locs ls h0; omega
    | succ fu0 ih0 =>
      intro cc ss g9 H locs ls hm0 i0_0 i0_1 i0_2 i0_3 i0_4 i0_5 i0_6 c0_129_7 c0_129_9 hl hW
      have hG := i0_0
      refine q_aload_n hM dX12_joins_0 (lv_at hl 0 rfl) ?_
      refine q_callV (As := []) (rest := []) hM hW.1 hR hC myX12_top (kAW (v_6_0 (List.mem_of_getElem? (i := 0) rfl)) rfl) (rfl : vwCl[12]? = some (RX12, TX12, 86)) rfl lb_129.1 (shO hW.2.1 lb_129) (a_X12_top _ _ cA ad g9 ss hW.2.1 hG c0_129_9 (by  omega)) ⟨by decide, by decide⟩ rfl rfl hl.1 (Nat.le_of_ble_eq_true rfl) dX12_joins_1 (fun v g9461 H locs hp hW1 => ?_)
      obtain ⟨r9460, rfl, hr9460, rfl⟩ := hp
      have hW : WS ad cA (fun i k => (i = 129 ∧ (k = 7 ∨ k = 9)) ∨ i = 153 ∨ i = 154) g0 K g9 H locs := ⟨hW1, hW.2.1, hW.2.2⟩
      rw [hW.2.2.2.1 155 (by omega)] at hr9460
      refine q_bipush (v := (38 : Int32)) hM dX12_joins_4 (by decide) ?_
      refine q_icmp_eq (tgt := 22) hM dX12_joins_6 (by decide) (rfl : r9460.toInt = r9460.toInt) (kc_38 : (38 : Int32).toInt = 38) (fun h6 => ?_) (fun h6 => ?_)
      · refine q_aload_n hM dX12_joins_22 (lv_at hl 0 rfl) ?_
        refine q_aload_n hM dX12_joins_23 (lv_at hl 0 rfl) ?_
        refine q_callV (As := []) (rest := [.ref (ad 129)]) hM hW.1 hR hC myX12_top (kAW (v_6_0 (List.mem_of_getElem? (i := 0) rfl)) rfl) (rfl : vwCl[12]? = some (RX12, TX12, 86)) rfl lb_129.1 (shO hW.2.1 lb_129) (a_X12_top _ _ cA ad g9 ss hW.2.1 hG c0_129_9 (by  omega)) ⟨by decide, by decide⟩ rfl rfl hl.1 (Nat.le_of_ble_eq_true rfl) dX12_joins_24 (fun v g9464 H locs hp hW1 => ?_)
        obtain ⟨r9463, rfl, hr9463, rfl⟩ := hp
        have hW : WS ad cA (fun i k => (i = 129 ∧ (k = 7 ∨ k = 9)) ∨ i = 153 ∨ i = 154) g0 K g9 H locs := ⟨hW1, hW.2.1, hW.2.2⟩
        rw [hW.2.2.2.1 155 (by omega)] at hr9463
        refine q_iconst (v := (0 : Int32)) hM dX12_joins_27 (by decide) ?_
        refine q_callV (As := [.int r9463, .int (0 : Int32)]) (rest := []) hM hW.1 hR hC myX12_emit (kAW (v_5_13 (List.mem_of_getElem? (i := 11) rfl)) rfl) (rfl : vwCl[12]? = some (RX12, TX12, 86)) rfl lb_129.1 (shO hW.2.1 lb_129) (a_X12_emit _ _ cA ad g9 r9463 (0 : Int32) bd cc hW.2.1 hG ((hW.2.2.1 129 5 (by omega)).trans h_bd) c0_129_7 (by have := kc_0; omega)) ⟨by decide, by decide⟩ rfl rfl hl.1 (Nat.le_of_ble_eq_true rfl) dX12_joins_28 (fun v g9468 H locs hp hW1 => ?_)
        obtain ⟨v9465, rfl, hs1, hG, hf1, q9466, e9467⟩ := hp
        have f9469 : fld g9468 129 9 = .int ss := (hf1.1 129 9 (by omega)).trans c0_129_9
        have hW : WS ad cA (fun i k => (i = 129 ∧ (k = 7 ∨ k = 9)) ∨ i = 153 ∨ i = 154) g0 K g9468 H locs := ⟨hW1, hs1, hW.2.2.tr hf1 (fun i k h => h.elim (fun h => (Or.inl (by omega))) (fun h => h.elim (fun h => (Or.inr (Or.inl h))) (fun h => (Or.inr (Or.inr h)))))⟩
        have em9470 := e9467.resolve_right (fun h9 => h9.1 (by omega))
        have f9471 := em9470.2.2
        have em94709 := em9470.2.1
        rw [(rfl : arI g9 153 = arI g9 153)] at f9471
        refine q_aload_n hM dX12_joins_31 (lv_at hl 0 rfl) ?_
        refine q_dup hM dX12_joins_32 rfl ?_
        refine w_get (v := .int ss) hM hW FG_X12_281 lb_129 f9469 dX12_joins_33 ?_
        have bss := hG.f f9469 rF_129_9 (by decide)
        refine q_iconst (v := (1 : Int32)) hM dX12_joins_36 (by decide) ?_
        refine q_isub hM dX12_joins_37 (fun z9472 hz9472 => ?_)
        first | have tz9472 := i_subT hz9472 (rfl : ss.toInt = ss.toInt) (kc_1 : (1 : Int32).toInt = 1) (by omega) (by omega) | skip
        refine w_put hM hW FP_X12_281 lb_129 (by omega) (Or.inl ⟨_, rfl⟩) rfl rfl dX12_joins_38 (fun g9473 H locs hW e1 e2 => ?_)
        have f9474 : fld g9473 129 7 = .int v9465 := (e2.1 129 7 (by unfold Only; omega)).trans q9466
        have f9475 : arI g9473 153 = upd (arI g9 153) cc.toNatClampNeg r9463 := (e2.2.1 153 (by unfold Only; omega)).trans f9471
        have f9476 : fld g9473 129 9 = .int z9472 := e1
        have hG := hG.put e1 e2 rF_129_9 (by decide) (by have := i_rng z9472; omega) (by have := i_rng z9472; omega)
        refine q_goto (tgt := 0) hM dX12_joins_41 (by decide) ?_
        exact ih0 v9465 z9472 _ _ _ _ (by omega) hG (by omega) (by omega) (by omega) (by omega) (by rw [f9475]; exact JJ_bin i0_5 rfl rfl (by omega) (by omega) (by omega) (by omega) (by omega)) (CS_mono i0_6 (by have := CS_two (d := r9463) i0_6 (by omega) (by omega); omega) (by omega)) f9474 f9476 (lv_sub hl [0, 1] rfl) hW
      · refine q_iload_n hM dX12_joins_9 (lv_at hl 1 rfl) ?_
        refine q_if_eq (tgt := 44) hM dX12_joins_10 (by decide) (rfl : pm.toInt = pm.toInt) (fun h10 => ?_) (fun h10 => ?_)
        · exact hE _ _ _ _ _ hW.1 ⟨cc, ss, rfl, hW.2.1, hG, hW.2.2, c0_129_7, c0_129_9, (by omega), (by omega), (by omega), (by omega), i0_5, i0_6, (by omega), (by omega)⟩ dX12_joins_44
        · refine q_aload_n hM dX12_joins_13 (lv_at hl 0 rfl) ?_
          refine q_callV (As := []) (rest := []) hM hW.1 hR hC myX12_top (kAW (v_6_0 (List.mem_of_getElem? (i := 0) rfl)) rfl) (rfl : vwCl[12]? = some (RX12, TX12, 86)) rfl lb_129.1 (shO hW.2.1 lb_129) (a_X12_top _ _ cA ad g9 ss hW.2.1 hG c0_129_9 (by  omega)) ⟨by decide, by decide⟩ rfl rfl hl.1 (Nat.le_of_ble_eq_true rfl) dX12_joins_14 (fun v g9481 H locs hp hW1 => ?_)
          obtain ⟨r9480, rfl, hr9480, rfl⟩ := hp
          have hW : WS ad cA (fun i k => (i = 129 ∧ (k = 7 ∨ k = 9)) ∨ i = 153 ∨ i = 154) g0 K g9 H locs := ⟨hW1, hW.2.1, hW.2.2⟩
          rw [hW.2.2.2.1 155 (by omega)] at hr9480
          refine q_bipush (v := (124 : Int32)) hM dX12_joins_17 (by decide) ?_
          refine q_icmp_ne (tgt := 44) hM dX12_joins_19 (by decide) (rfl : r9480.toInt = r9480.toInt) (kc_124 : (124 : Int32).toInt = 124) (fun h19 => ?_) (fun h19 => ?_)
          · exact hE _ _ _ _ _ hW.1 ⟨cc, ss, rfl, hW.2.1, hG, hW.2.2, c0_129_7, c0_129_9, (by omega), (by omega), (by omega), (by omega), i0_5, i0_6, (by omega), (by omega)⟩ dX12_joins_44
          · refine q_aload_n hM dX12_joins_22 (lv_at hl 0 rfl) ?_
            refine q_aload_n hM dX12_joins_23 (lv_at hl 0 rfl) ?_
            refine q_callV (As := []) (rest := [.ref (ad 129)]) hM hW.1 hR hC myX12_top (kAW (v_6_0 (List.mem_of_getElem? (i := 0) rfl)) rfl) (rfl : vwCl[12]? = some (RX12, TX12, 86)) rfl lb_129.1 (shO hW.2.1 lb_129) (a_X12_top _ _ cA ad g9 ss hW.2.1 hG c0_129_9 (by  omega)) ⟨by decide, by decide⟩ rfl rfl hl.1 (Nat.le_of_ble_eq_true rfl) dX12_joins_24 (fun v g9485 H locs hp hW1 => ?_)
            obtain ⟨r9484, rfl, hr9484, rfl⟩ := hp
            have hW : WS ad cA (fun i k => (i = 129 ∧ (k = 7 ∨ k = 9)) ∨ i = 153 ∨ i = 154) g0 K g9 H locs := ⟨hW1, hW.2.1, hW.2.2⟩
            rw [hW.2.2.2.1 155 (by omega)] at hr9484
            refine q_iconst (v := (0 : Int32)) hM dX12_joins_27 (by decide) ?_
            refine q_callV (As := [.int r9484, .int (0 : Int32)]) (rest := []) hM hW.1 hR hC myX12_emit (kAW (v_5_13 (List.mem_of_getElem? (i := 11) rfl)) rfl) (rfl : vwCl[12]? = some (RX12, TX12, 86)) rfl lb_129.1 (shO hW.2.1 lb_129) (a_X12_emit _ _ cA ad g9 r9484 (0 : Int32) bd cc hW.2.1 hG ((hW.2.2.1 129 5 (by omega)).trans h_bd) c0_129_7 (by have := kc_0; omega)) ⟨by decide, by decide⟩ rfl rfl hl.1 (Nat.le_of_ble_eq_true rfl) dX12_joins_28 (fun v g9489 H locs hp hW1 => ?_)
            obtain ⟨v9486, rfl, hs1, hG, hf1, q9487, e9488⟩ := hp
            have f9490 : fld g9489 129 9 = .int ss := (hf1.1 129 9 (by omega)).trans c0_129_9
            have hW : WS ad cA (fun i k => (i = 129 ∧ (k = 7 ∨ k = 9)) ∨ i = 153 ∨ i = 154) g0 K g9489 H locs := ⟨hW1, hs1, hW.2.2.tr hf1 (fun i k h => h.elim (fun h => (Or.inl (by omega))) (fun h => h.elim (fun h => (Or.inr (Or.inl h))) (fun h => (Or.inr (Or.inr h)))))⟩
            have em9491 := e9488.resolve_right (fun h9 => h9.1 (by omega))
            have f9492 := em9491.2.2
            have em94919 := em9491.2.1
            rw [(rfl : arI g9 153 = arI g9 153)] at f9492
            refine q_aload_n hM dX12_joins_31 (lv_at hl 0 rfl) ?_
            refine q_dup hM dX12_joins_32 rfl ?_
            refine w_get (v := .int ss) hM hW FG_X12_281 lb_129 f9490 dX12_joins_33 ?_
            have bss := hG.f f9490 rF_129_9 (by decide)
            refine q_iconst (v := (1 : Int32)) hM dX12_joins_36 (by decide) ?_
            refine q_isub hM dX12_joins_37 (fun z9493 hz9493 => ?_)
            first | have tz9493 := i_subT hz9493 (rfl : ss.toInt = ss.toInt) (kc_1 : (1 : Int32).toInt = 1) (by omega) (by omega) | skip
            refine w_put hM hW FP_X12_281 lb_129 (by omega) (Or.inl ⟨_, rfl⟩) rfl rfl dX12_joins_38 (fun g9494 H locs hW e1 e2 => ?_)
            have f9495 : fld g9494 129 7 = .int v9486 := (e2.1 129 7 (by unfold Only; omega)).trans q9487
            have f9496 : arI g9494 153 = upd (arI g9 153) cc.toNatClampNeg r9484 := (e2.2.1 153 (by unfold Only; omega)).trans f9492
            have f9497 : fld g9494 129 9 = .int z9493 := e1
            have hG := hG.put e1 e2 rF_129_9 (by decide) (by have := i_rng z9493; omega) (by have := i_rng z9493; omega)
            refine q_goto (tgt := 0) hM dX12_joins_41 (by decide) ?_
            exact ih0 v9486 z9493 _ _ _ _ (by omega) hG (by omega) (by omega) (by omega) (by omega) (by rw [f9496]; exact JJ_bin i0_5 rfl rfl (by omega) (by omega) (by omega) (by omega) (by omega)) (CS_mono i0_6 (by have := CS_two (d := r9484) i0_6 (by omega) (by omega); omega) (by omega)) f9495 f9497 (lv_sub hl [0, 1] rfl) hW
  exact L0 _ co sk _ _ _ _ (Nat.lt_succ_self _) hG (by omega) (by omega) (by omega) (by omega) hJ hK9 f9457 f9458 (lv_sub hl [0, 1] rfl) hW

theorem dX12_ends_0 : decode cX12_ends 0 = .ok (.aload_n 0, 1) := by decide +kernel
theorem dX12_ends_1 : decode cX12_ends 1 = .ok (.invokevirtual 293, 3) := by decide +kernel
theorem dX12_ends_4 : decode cX12_ends 4 = .ok (.bipush 33, 2) := by decide +kernel
theorem dX12_ends_6 : decode cX12_ends 6 = .ok (.if_icmp .ne 32, 3) := by decide +kernel
theorem dX12_ends_9 : decode cX12_ends 9 = .ok (.aload_n 0, 1) := by decide +kernel
theorem dX12_ends_10 : decode cX12_ends 10 = .ok (.iconst 2, 1) := by decide +kernel
theorem dX12_ends_11 : decode cX12_ends 11 = .ok (.iconst 0, 1) := by decide +kernel
theorem dX12_ends_12 : decode cX12_ends 12 = .ok (.invokevirtual 302, 3) := by decide +kernel
theorem dX12_ends_15 : decode cX12_ends 15 = .ok (.aload_n 0, 1) := by decide +kernel
theorem dX12_ends_16 : decode cX12_ends 16 = .ok (.dup, 1) := by decide +kernel
theorem dX12_ends_17 : decode cX12_ends 17 = .ok (.getfield 281, 3) := by decide +kernel
theorem dX12_ends_20 : decode cX12_ends 20 = .ok (.iconst 1, 1) := by decide +kernel
theorem dX12_ends_21 : decode cX12_ends 21 = .ok (.isub, 1) := by decide +kernel
theorem dX12_ends_22 : decode cX12_ends 22 = .ok (.putfield 281, 3) := by decide +kernel
theorem dX12_ends_25 : decode cX12_ends 25 = .ok (.aload_n 0, 1) := by decide +kernel
theorem dX12_ends_26 : decode cX12_ends 26 = .ok (.dup, 1) := by decide +kernel
theorem dX12_ends_27 : decode cX12_ends 27 = .ok (.getfield 284, 3) := by decide +kernel
theorem dX12_ends_30 : decode cX12_ends 30 = .ok (.iconst 1, 1) := by decide +kernel
theorem dX12_ends_31 : decode cX12_ends 31 = .ok (.isub, 1) := by decide +kernel
theorem dX12_ends_32 : decode cX12_ends 32 = .ok (.putfield 284, 3) := by decide +kernel
theorem dX12_ends_35 : decode cX12_ends 35 = .ok (.goto (-35), 3) := by decide +kernel
theorem dX12_ends_38 : decode cX12_ends 38 = .ok (.return_, 1) := by decide +kernel
theorem FG_X12_284 : FG RX12 284 12 86 8 := ⟨RX12, TX12, rfl, wX12, by decide, kAW (v_4_3 (List.mem_of_getElem? (i := 5) rfl)) rfl, rfl⟩
theorem FP_X12_284 : FPX RX12 284 12 86 8 .int := ⟨⟨RX12, TX12, tyX12, rfl, wX12, by decide, kAW (v_4_3 (List.mem_of_getElem? (i := 5) rfl)) rfl, rfl, tyX12_ok, nmX12, by decide +kernel, rfl⟩, by decide +kernel⟩
set_option maxRecDepth 100000 in
set_option maxHeartbeats 4000000 in
theorem a_X12_ends (l : Launch) (D : va_G) (cA : Nat → ClassId) (ad : Nat → Nat) (g0 : Nat → va_E)  (bd : Int32) (co : Int32) (sk : Int32) (op : Int32)  (sa : Int × (Nat → Int32)) (hSh : Shp ad cA g0) (hG : Rng g0) (h_bd : fld g0 129 5 = .int bd) (h_co : fld g0 129 7 = .int co) (h_sk : fld g0 129 9 = .int sk) (h_op : fld g0 129 8 = .int op) (bd0 : bd.toInt = 0) (cs : co.toInt + sk.toInt ≤ 240) (op0 : sk.toInt - 240 ≤ op.toInt) (hJ : JJ (arI g0 153) (arI g0 155) sa co.toInt sk.toInt 1) (hK9 : CS (arI g0 155) sk.toInt) : CT l NN ad cA D yX12_ends cX12_ends 1 none (2, 42) [.ref (ad 129)] g0 (fun v g' => ∃ (c9 : Int32) (s9 : Int32) (o9 : Int32), v = none ∧ Shp ad cA g' ∧ Rng g' ∧ FR (fun i k => (i = 129 ∧ (k = 7 ∨ k = 8 ∨ k = 9)) ∨ i = 153 ∨ i = 154) g0 g' ∧ fld g' 129 7 = .int c9 ∧ fld g' 129 9 = .int s9 ∧ fld g' 129 8 = .int o9 ∧ (c9.toInt + s9.toInt = co.toInt + sk.toInt) ∧ (s9.toInt ≤ sk.toInt) ∧ (0 ≤ s9.toInt) ∧ (co.toInt ≤ c9.toInt) ∧ (o9.toInt = op.toInt - (sk.toInt - s9.toInt)) ∧ (JJ (arI g' 153) (arI g0 155) sa c9.toInt s9.toInt 1) ∧ (CS (arI g0 155) s9.toInt)) := by
  refine q_enterV (by decide) (Nat.le_of_ble_eq_true rfl) (fun K H locs ls _ _ hM hW0 hR hC hE hl => ?_)
  have hl : lv_has ls 1 [(0, .ref (ad 129))] := hl
  have hW : WS ad cA (fun i k => (i = 129 ∧ (k = 7 ∨ k = 8 ∨ k = 9)) ∨ i = 153 ∨ i = 154) g0 K g0 H locs := ⟨hW0, hSh, FR.rf⟩
  have b_bd := hG.f h_bd rF_129_5 (by decide)
  have b_co := hG.f h_co rF_129_7 (by decide)
  have b_sk := hG.f h_sk rF_129_9 (by decide)
  have b_op := hG.f h_op rF_129_8 (by decide)
  have f9498 : fld g0 129 7 = .int co := h_co
  have f9499 : fld g0 129 8 = .int op := h_op
  have f9500 : fld g0 129 9 = .int sk := h_sk
  have L0 : ∀ (fu0 : Nat) (cc : Int32) (ss : Int32) (oo : Int32) (g9 : Nat → va_E) (H : Heap) (locs : List Loc) (ls : Array Slot), (ss.toInt + 1).toNat < fu0 → (Rng g9) → (cc.toInt + ss.toInt = co.toInt + sk.toInt) → (ss.toInt ≤ sk.toInt) → (0 ≤ ss.toInt) → (co.toInt ≤ cc.toInt) → (oo.toInt = op.toInt - (sk.toInt - ss.toInt)) → (JJ (arI g9 153) (arI g0 155) sa cc.toInt ss.toInt 1) → (CS (arI g0 155) ss.toInt) → (fld g9 129 7 = .int cc) → (fld g9 129 9 = .int ss) → (fld g9 129 8 = .int oo) → lv_has ls 1 [(0, .ref (ad 129))] → WS ad cA (fun i k => (i = 129 ∧ (k = 7 ∨ k = 8 ∨ k = 9)) ∨ i = 153 ∨ i = 154) g0 K g9 H locs → XX K 0 0 H locs 0 ls [] := by
    intro fu0
    induction fu0 with
    | zero => intro cc ss oo g9 H locs ls h0; omega
    | succ fu0 ih0 =>
      intro cc ss oo g9 H locs ls hm0 i0_0 i0_1 i0_2 i0_3 i0_4 i0_5 i0_6 i0_7 c0_129_7 c0_129_9 c0_129_8 hl hW
      have hG := i0_0
      refine q_aload_n hM dX12_ends_0 (lv_at hl 0 rfl) ?_
      refine q_callV (As := []) (rest := []) hM hW.1 hR hC myX12_top (kAW (v_6_0 (List.mem_of_getElem? (i := 0) rfl)) rfl) (rfl : vwCl[12]? = some (RX12, TX12, 86)) rfl lb_129.1 (shO hW.2.1 lb_129) (a_X12_top _ _ cA ad g9 ss hW.2.1 hG c0_129_9 (by  omega)) ⟨by decide, by decide⟩ rfl rfl hl.1 (Nat.le_of_ble_eq_true rfl) dX12_ends_1 (fun v g9503 H locs hp hW1 => ?_)
      obtain ⟨r9502, rfl, hr9502, rfl⟩ := hp
      have hW : WS ad cA (fun i k => (i = 129 ∧ (k = 7 ∨ k = 8 ∨ k = 9)) ∨ i = 153 ∨ i = 154) g0 K g9 H locs := ⟨hW1, hW.2.1, hW.2.2⟩
      rw [hW.2.2.2.1 155 (by omega)] at hr9502
      refine q_bipush (v := (33 : Int32)) hM dX12_ends_4 (by decide) ?_
      refine q_icmp_ne (tgt := 38) hM dX12_ends_6 (by decide) (rfl : r9502.toInt = r9502.toInt) (kc_33 : (33 : Int32).toInt = 33) (fun h6 => ?_) (fun h6 => ?_)
      · exact hE _ _ _ _ _ hW.1 ⟨cc, ss, oo, rfl, hW.2.1, hG, hW.2.2, c0_129_7, c0_129_9, c0_129_8, (by omega), (by omega), (by omega), (by omega), (by omega), i0_6, i0_7⟩ dX12_ends_38
      · refine q_aload_n hM dX12_ends_9 (lv_at hl 0 rfl) ?_
        refine q_iconst (v := (2 : Int32)) hM dX12_ends_10 (by decide) ?_
        refine q_iconst (v := (0 : Int32)) hM dX12_ends_11 (by decide) ?_
        refine q_callV (As := [.int (2 : Int32), .int (0 : Int32)]) (rest := []) hM hW.1 hR hC myX12_emit (kAW (v_5_13 (List.mem_of_getElem? (i := 11) rfl)) rfl) (rfl : vwCl[12]? = some (RX12, TX12, 86)) rfl lb_129.1 (shO hW.2.1 lb_129) (a_X12_emit _ _ cA ad g9 (2 : Int32) (0 : Int32) bd cc hW.2.1 hG ((hW.2.2.1 129 5 (by omega)).trans h_bd) c0_129_7 (by have := kc_2; have := kc_0; omega)) ⟨by decide, by decide⟩ rfl rfl hl.1 (Nat.le_of_ble_eq_true rfl) dX12_ends_12 (fun v g9509 H locs hp hW1 => ?_)
        obtain ⟨v9506, rfl, hs1, hG, hf1, q9507, e9508⟩ := hp
        have f9510 : fld g9509 129 9 = .int ss := (hf1.1 129 9 (by omega)).trans c0_129_9
        have f9511 : fld g9509 129 8 = .int oo := (hf1.1 129 8 (by omega)).trans c0_129_8
        have hW : WS ad cA (fun i k => (i = 129 ∧ (k = 7 ∨ k = 8 ∨ k = 9)) ∨ i = 153 ∨ i = 154) g0 K g9509 H locs := ⟨hW1, hs1, hW.2.2.tr hf1 (fun i k h => h.elim (fun h => (Or.inl (by omega))) (fun h => h.elim (fun h => (Or.inr (Or.inl h))) (fun h => (Or.inr (Or.inr h)))))⟩
        have em9512 := e9508.resolve_right (fun h9 => h9.1 (by omega))
        have f9513 := em9512.2.2
        have em95129 := em9512.2.1
        rw [(rfl : arI g9 153 = arI g9 153)] at f9513
        refine q_aload_n hM dX12_ends_15 (lv_at hl 0 rfl) ?_
        refine q_dup hM dX12_ends_16 rfl ?_
        refine w_get (v := .int ss) hM hW FG_X12_281 lb_129 f9510 dX12_ends_17 ?_
        have bss := hG.f f9510 rF_129_9 (by decide)
        refine q_iconst (v := (1 : Int32)) hM dX12_ends_20 (by decide) ?_
        refine q_isub hM dX12_ends_21 (fun z9514 hz9514 => ?_)
        first | have tz9514 := i_subT hz9514 (rfl : ss.toInt = ss.toInt) (kc_1 : (1 : Int32).toInt = 1) (by omega) (by omega) | skip
        refine w_put hM hW FP_X12_281 lb_129 (by omega) (Or.inl ⟨_, rfl⟩) rfl rfl dX12_ends_22 (fun g9515 H locs hW e1 e2 => ?_)
        have f9516 : fld g9515 129 8 = .int oo := (e2.1 129 8 (by unfold Only; omega)).trans f9511
        have f9517 : fld g9515 129 7 = .int v9506 := (e2.1 129 7 (by unfold Only; omega)).trans q9507
        have f9518 : arI g9515 153 = upd (arI g9 153) cc.toNatClampNeg (2 : Int32) := (e2.2.1 153 (by unfold Only; omega)).trans f9513
        have f9519 : fld g9515 129 9 = .int z9514 := e1
        have hG := hG.put e1 e2 rF_129_9 (by decide) (by have := i_rng z9514; omega) (by have := i_rng z9514; omega)
        refine q_aload_n hM dX12_ends_25 (lv_at hl 0 rfl) ?_
        refine q_dup hM dX12_ends_26 rfl ?_
        refine w_get (v := .int oo) hM hW FG_X12_284 lb_129 f9516 dX12_ends_27 ?_
        have boo := hG.f f9516 rF_129_8 (by decide)
        refine q_iconst (v := (1 : Int32)) hM dX12_ends_30 (by decide) ?_
        refine q_isub hM dX12_ends_31 (fun z9520 hz9520 => ?_)
        first | have tz9520 := i_subT hz9520 (rfl : oo.toInt = oo.toInt) (kc_1 : (1 : Int32).toInt = 1) (by omega) (by omega) | skip
        refine w_put hM hW FP_X12_284 lb_129 (by omega) (Or.inl ⟨_, rfl⟩) rfl rfl dX12_ends_32 (fun g9521 H locs hW e1 e2 => ?_)
        have f9522 : fld g9521 129 7 = .int v9506 := (e2.1 129 7 (by unfold Only; omega)).trans f9517
        have f9523 : arI g9521 153 = upd (arI g9 153) cc.toNatClampNeg (2 : Int32) := (e2.2.1 153 (by unfold Only; omega)).trans f9518
        have f9524 : fld g9521 129 9 = .int z9514 := (e2.1 129 9 (by unfold Only; omega)).trans f9519
        have f9525 : fld g9521 129 8 = .int z9520 := e1
        have hG := hG.put e1 e2 rF_129_8 (by decide) (by have := i_rng z9520; omega) (by have := i_rng z9520; omega)
        refine q_goto (tgt := 0) hM dX12_ends_35 (by decide) ?_
        exact ih0 v9506 z9514 z9520 _ _ _ _ (by omega) hG (by omega) (by omega) (by omega) (by omega) (by omega) (by rw [f9523]; exact JJ_not (d := r9502) i0_6 rfl rfl (by omega) (by omega) (by omega) kc_2 (by omega) (by omega)) (CS_mono i0_7 (by have := CS_two (d := r9502) i0_7 (by omega) (by omega); omega) (by omega)) f9522 f9524 f9525 (lv_sub hl [0] rfl) hW
  exact L0 _ co sk op _ _ _ _ (Nat.lt_succ_self _) hG (by omega) (by omega) (by omega) (by omega) (by omega) hJ hK9 f9498 f9500 f9499 (lv_sub hl [0] rfl) hW
