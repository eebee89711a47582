theorem dX11_within_0 : decode cX11_within 0 = .ok (.iload_n 0, 1) := by decide +kernel
theorem dX11_within_1 : decode cX11_within 1 = .ok (.iload_n 1, 1) := by decide +kernel
theorem dX11_within_2 : decode cX11_within 2 = .ok (.if_icmp .lt 12, 3) := by decide +kernel
theorem dX11_within_5 : decode cX11_within 5 = .ok (.iload_n 0, 1) := by decide +kernel
theorem dX11_within_6 : decode cX11_within 6 = .ok (.iload_n 2, 1) := by decide +kernel
theorem dX11_within_7 : decode cX11_within 7 = .ok (.if_icmp .gt 7, 3) := by decide +kernel
theorem dX11_within_10 : decode cX11_within 10 = .ok (.iconst 1, 1) := by decide +kernel
theorem dX11_within_11 : decode cX11_within 11 = .ok (.goto 4, 3) := by decide +kernel
theorem dX11_within_14 : decode cX11_within 14 = .ok (.iconst 0, 1) := by decide +kernel
theorem dX11_within_15 : decode cX11_within 15 = .ok (.ireturn, 1) := by decide +kernel
set_option maxRecDepth 100000 in
set_option maxHeartbeats 4000000 in
theorem c_X11_within (l : Launch) (D : va_G) (cA : Nat → ClassId) (ad : Nat → Nat) (g0 : Nat → va_E) (n a b : Int32) (hSh : Shp ad cA g0) : CT l NN ad cA D yX11_within cX11_within 3 (some FieldType.boolean) (0, 0) [.int n, .int a, .int b] g0 (PU g0 (fun r => (r.toInt = 1 ∧ a.toInt ≤ n.toInt ∧ n.toInt ≤ b.toInt) ∨ (r.toInt = 0 ∧ (n.toInt < a.toInt ∨ b.toInt < n.toInt)))) := by
  refine q_enterZ (by decide) (Nat.le_of_ble_eq_true rfl) (fun K H locs ls _ _ hM hW0 hR hC hE hl => ?_)
  have hl : lv_has ls 3 [(0, .int n), (1, .int a), (2, .int b)] := hl
  have hW : WS ad cA (fun i k => False) g0 K g0 H locs := ⟨hW0, hSh, FR.rf⟩
  refine q_iload_n hM dX11_within_0 (lv_at hl 0 rfl) ?_
  refine q_iload_n hM dX11_within_1 (lv_at hl 1 rfl) ?_
  refine q_icmp_lt (tgt := 14) hM dX11_within_2 (by decide) (rfl : n.toInt = n.toInt) (rfl : a.toInt = a.toInt) (fun h2 => ?_) (fun h2 => ?_)
  · refine q_iconst (v := (0 : Int32)) hM dX11_within_14 (by decide) ?_
    exact hE _ _ _ _ _ _ hW.1 nz_0 ⟨_, rfl, (by have := kc_0; omega), rfl⟩ dX11_within_15
  · refine q_iload_n hM dX11_within_5 (lv_at hl 0 rfl) ?_
    refine q_iload_n hM dX11_within_6 (lv_at hl 2 rfl) ?_
    refine q_icmp_gt (tgt := 14) hM dX11_within_7 (by decide) (rfl : n.toInt = n.toInt) (rfl : b.toInt = b.toInt) (fun h7 => ?_) (fun h7 => ?_)
    · refine q_iconst (v := (0 : Int32)) hM dX11_within_14 (by decide) ?_
      exact hE _ _ _ _ _ _ hW.1 nz_0 ⟨_, rfl, (by have := kc_0; omega), rfl⟩ dX11_within_15
    · refine q_iconst (v := (1 : Int32)) hM dX11_within_10 (by decide) ?_
      refine q_goto (tgt := 15) hM dX11_within_11 (by decide) ?_
      exact hE _ _ _ _ _ _ hW.1 nz_1 ⟨_, rfl, (by have := kc_1; omega), rfl⟩ dX11_within_15

theorem dX11_has_0 : decode cX11_has 0 = .ok (.iload_n 1, 1) := by decide +kernel
theorem dX11_has_1 : decode cX11_has 1 = .ok (.ifCond .lt 22, 3) := by decide +kernel
theorem dX11_has_4 : decode cX11_has 4 = .ok (.iload_n 1, 1) := by decide +kernel
theorem dX11_has_5 : decode cX11_has 5 = .ok (.bipush 31, 2) := by decide +kernel
theorem dX11_has_7 : decode cX11_has 7 = .ok (.if_icmp .ge 16, 3) := by decide +kernel
theorem dX11_has_10 : decode cX11_has 10 = .ok (.iload_n 0, 1) := by decide +kernel
theorem dX11_has_11 : decode cX11_has 11 = .ok (.iload_n 1, 1) := by decide +kernel
theorem dX11_has_12 : decode cX11_has 12 = .ok (.ishr, 1) := by decide +kernel
theorem dX11_has_13 : decode cX11_has 13 = .ok (.iconst 1, 1) := by decide +kernel
theorem dX11_has_14 : decode cX11_has 14 = .ok (.iand, 1) := by decide +kernel
theorem dX11_has_15 : decode cX11_has 15 = .ok (.iconst 1, 1) := by decide +kernel
theorem dX11_has_16 : decode cX11_has 16 = .ok (.if_icmp .ne 7, 3) := by decide +kernel
theorem dX11_has_19 : decode cX11_has 19 = .ok (.iconst 1, 1) := by decide +kernel
theorem dX11_has_20 : decode cX11_has 20 = .ok (.goto 4, 3) := by decide +kernel
theorem dX11_has_23 : decode cX11_has 23 = .ok (.iconst 0, 1) := by decide +kernel
theorem dX11_has_24 : decode cX11_has 24 = .ok (.ireturn, 1) := by decide +kernel
set_option maxRecDepth 100000 in
set_option maxHeartbeats 4000000 in
theorem c_X11_has (l : Launch) (D : va_G) (cA : Nat → ClassId) (ad : Nat → Nat) (g0 : Nat → va_E) (b i : Int32) (hSh : Shp ad cA g0) : CT l NN ad cA D yX11_has cX11_has 2 (some FieldType.boolean) (0, 0) [.int b, .int i] g0 (PU g0 (fun r => (r.toInt = 1 ∧ 0 ≤ i.toInt ∧ i.toInt < 31 ∧ bt b i.toInt.toNat = true) ∨ (r.toInt = 0 ∧ (i.toInt < 0 ∨ 31 ≤ i.toInt ∨ bt b i.toInt.toNat = false)))) := by
  refine q_enterZ (by decide) (Nat.le_of_ble_eq_true rfl) (fun K H locs ls _ _ hM hW0 hR hC hE hl => ?_)
  have hl : lv_has ls 2 [(0, .int b), (1, .int i)] := hl
  have hW : WS ad cA (fun i k => False) g0 K g0 H locs := ⟨hW0, hSh, FR.rf⟩
  refine q_iload_n hM dX11_has_0 (lv_at hl 1 rfl) ?_
  refine q_if_lt (tgt := 23) hM dX11_has_1 (by decide) (rfl : i.toInt = i.toInt) (fun h1 => ?_) (fun h1 => ?_)
  · refine q_iconst (v := (0 : Int32)) hM dX11_has_23 (by decide) ?_
    exact hE _ _ _ _ _ _ hW.1 nz_0 ⟨_, rfl, (Or.inr ⟨kc_0, by first | exact Or.inl (by omega) | exact Or.inr (Or.inl (by omega)) | exact Or.inr (Or.inr (has_is0 (by omega) (by omega) (by subst_vars; assumption)))⟩), rfl⟩ dX11_has_24
  · refine q_iload_n hM dX11_has_4 (lv_at hl 1 rfl) ?_
    refine q_bipush (v := (31 : Int32)) hM dX11_has_5 (by decide) ?_
    refine q_icmp_ge (tgt := 23) hM dX11_has_7 (by decide) (rfl : i.toInt = i.toInt) (kc_31 : (31 : Int32).toInt = 31) (fun h7 => ?_) (fun h7 => ?_)
    · refine q_iconst (v := (0 : Int32)) hM dX11_has_23 (by decide) ?_
      exact hE _ _ _ _ _ _ hW.1 nz_0 ⟨_, rfl, (Or.inr ⟨kc_0, by first | exact Or.inl (by omega) | exact Or.inr (Or.inl (by omega)) | exact Or.inr (Or.inr (has_is0 (by omega) (by omega) (by subst_vars; assumption)))⟩), rfl⟩ dX11_has_24
    · refine q_iload_n hM dX11_has_10 (lv_at hl 0 rfl) ?_
      refine q_iload_n hM dX11_has_11 (lv_at hl 1 rfl) ?_
      refine q_ishr hM dX11_has_12 (fun z9 hz9 => ?_)
      refine q_iconst (v := (1 : Int32)) hM dX11_has_13 (by decide) ?_
      refine q_iand hM dX11_has_14 (fun z10 hz10 => ?_)
      refine q_iconst (v := (1 : Int32)) hM dX11_has_15 (by decide) ?_
      refine q_icmp_ne (tgt := 23) hM dX11_has_16 (by decide) (rfl : z10.toInt = z10.toInt) (kc_1 : (1 : Int32).toInt = 1) (fun h16 => ?_) (fun h16 => ?_)
      · refine q_iconst (v := (0 : Int32)) hM dX11_has_23 (by decide) ?_
        exact hE _ _ _ _ _ _ hW.1 nz_0 ⟨_, rfl, (Or.inr ⟨kc_0, by first | exact Or.inl (by omega) | exact Or.inr (Or.inl (by omega)) | exact Or.inr (Or.inr (has_is0 (by omega) (by omega) (by subst_vars; assumption)))⟩), rfl⟩ dX11_has_24
      · refine q_iconst (v := (1 : Int32)) hM dX11_has_19 (by decide) ?_
        refine q_goto (tgt := 24) hM dX11_has_20 (by decide) ?_
        exact hE _ _ _ _ _ _ hW.1 nz_1 ⟨_, rfl, (Or.inl ⟨kc_1, by omega, by omega, has_is1 (by omega) (by omega) (by subst_vars; assumption)⟩), rfl⟩ dX11_has_24

theorem dX11_areOf_0 : decode cX11_areOf 0 = .ok (.iload_n 0, 1) := by decide +kernel
theorem dX11_areOf_1 : decode cX11_areOf 1 = .ok (.iload_n 1, 1) := by decide +kernel
theorem dX11_areOf_2 : decode cX11_areOf 2 = .ok (.iconst (-1), 1) := by decide +kernel
theorem dX11_areOf_3 : decode cX11_areOf 3 = .ok (.ixor, 1) := by decide +kernel
theorem dX11_areOf_4 : decode cX11_areOf 4 = .ok (.iand, 1) := by decide +kernel
theorem dX11_areOf_5 : decode cX11_areOf 5 = .ok (.ifCond .ne 7, 3) := by decide +kernel
theorem dX11_areOf_8 : decode cX11_areOf 8 = .ok (.iconst 1, 1) := by decide +kernel
theorem dX11_areOf_9 : decode cX11_areOf 9 = .ok (.goto 4, 3) := by decide +kernel
theorem dX11_areOf_12 : decode cX11_areOf 12 = .ok (.iconst 0, 1) := by decide +kernel
theorem dX11_areOf_13 : decode cX11_areOf 13 = .ok (.ireturn, 1) := by decide +kernel
set_option maxRecDepth 100000 in
set_option maxHeartbeats 4000000 in
theorem c_X11_areOf (l : Launch) (D : va_G) (cA : Nat → ClassId) (ad : Nat → Nat) (g0 : Nat → va_E) (b t : Int32) (hSh : Shp ad cA g0) : CT l NN ad cA D yX11_areOf cX11_areOf 2 (some FieldType.boolean) (0, 0) [.int b, .int t] g0 (PU g0 (fun r => (r.toInt = 1 ∧ b &&& (t ^^^ (-1)) = 0) ∨ (r.toInt = 0 ∧ ¬ b &&& (t ^^^ (-1)) = 0))) := by
  refine q_enterZ (by decide) (Nat.le_of_ble_eq_true rfl) (fun K H locs ls _ _ hM hW0 hR hC hE hl => ?_)
  have hl : lv_has ls 2 [(0, .int b), (1, .int t)] := hl
  have hW : WS ad cA (fun i k => False) g0 K g0 H locs := ⟨hW0, hSh, FR.rf⟩
  refine q_iload_n hM dX11_areOf_0 (lv_at hl 0 rfl) ?_
  refine q_iload_n hM dX11_areOf_1 (lv_at hl 1 rfl) ?_
  refine q_iconst (v := ((-1) : Int32)) hM dX11_areOf_2 (by decide) ?_
  refine q_ixor hM dX11_areOf_3 (fun z13 hz13 => ?_)
  refine q_iand hM dX11_areOf_4 (fun z14 hz14 => ?_)
  refine q_if_ne (tgt := 12) hM dX11_areOf_5 (by decide) (rfl : z14.toInt = z14.toInt) (fun h5 => ?_) (fun h5 => ?_)
  · refine q_iconst (v := (0 : Int32)) hM dX11_areOf_12 (by decide) ?_
    exact hE _ _ _ _ _ _ hW.1 nz_0 ⟨_, rfl, (Or.inr ⟨kc_0, fun hh => h5 (by subst_vars; rw [hh]; rfl)⟩), rfl⟩ dX11_areOf_13
  · refine q_iconst (v := (1 : Int32)) hM dX11_areOf_8 (by decide) ?_
    refine q_goto (tgt := 13) hM dX11_areOf_9 (by decide) ?_
    exact hE _ _ _ _ _ _ hW.1 nz_1 ⟨_, rfl, (Or.inl ⟨kc_1, Int32.toInt_inj.mp (by subst_vars; exact h5.trans kc_0.symm)⟩), rfl⟩ dX11_areOf_13

def bcF (i : Int32) : Int32 :=
  let sh (x s : Int32) : Int32 := (x.toUInt32 >>> (s.toUInt32 &&& Int32.toUInt32 31)).toInt32
  let a := i - (sh i 1 &&& 1431655765)
  let b := (a &&& 858993459) + (sh a 2 &&& 858993459)
  let c := (b + sh b 4) &&& 252645135
  let d := c + sh c 8
  let e := d + sh d 16
  e &&& 63
theorem bcF_0 : bcF 0 = 0 := by decide +kernel
theorem bcF_pos : ∀ n : Nat, n < 64 → n ≠ 0 → bcF (nI n) ≠ 0 := by decide +kernel

theorem dJ6_bitCount_0f7a4_0 : decode cJ6_bitCount_0f7a4 0 = .ok (.iload_n 0, 1) := by decide +kernel
theorem dJ6_bitCount_0f7a4_1 : decode cJ6_bitCount_0f7a4 1 = .ok (.iload_n 0, 1) := by decide +kernel
theorem dJ6_bitCount_0f7a4_2 : decode cJ6_bitCount_0f7a4 2 = .ok (.iconst 1, 1) := by decide +kernel
theorem dJ6_bitCount_0f7a4_3 : decode cJ6_bitCount_0f7a4 3 = .ok (.iushr, 1) := by decide +kernel
theorem dJ6_bitCount_0f7a4_4 : decode cJ6_bitCount_0f7a4 4 = .ok (.ldc_w 265, 3) := by decide +kernel
theorem dJ6_bitCount_0f7a4_7 : decode cJ6_bitCount_0f7a4 7 = .ok (.iand, 1) := by decide +kernel
theorem dJ6_bitCount_0f7a4_8 : decode cJ6_bitCount_0f7a4 8 = .ok (.isub, 1) := by decide +kernel
theorem dJ6_bitCount_0f7a4_9 : decode cJ6_bitCount_0f7a4 9 = .ok (.istore_n 0, 1) := by decide +kernel
theorem dJ6_bitCount_0f7a4_10 : decode cJ6_bitCount_0f7a4 10 = .ok (.iload_n 0, 1) := by decide +kernel
theorem dJ6_bitCount_0f7a4_11 : decode cJ6_bitCount_0f7a4 11 = .ok (.ldc_w 266, 3) := by decide +kernel
theorem dJ6_bitCount_0f7a4_14 : decode cJ6_bitCount_0f7a4 14 = .ok (.iand, 1) := by decide +kernel
theorem dJ6_bitCount_0f7a4_15 : decode cJ6_bitCount_0f7a4 15 = .ok (.iload_n 0, 1) := by decide +kernel
theorem dJ6_bitCount_0f7a4_16 : decode cJ6_bitCount_0f7a4 16 = .ok (.iconst 2, 1) := by decide +kernel
theorem dJ6_bitCount_0f7a4_17 : decode cJ6_bitCount_0f7a4 17 = .ok (.iushr, 1) := by decide +kernel
theorem dJ6_bitCount_0f7a4_18 : decode cJ6_bitCount_0f7a4 18 = .ok (.ldc_w 266, 3) := by decide +kernel
theorem dJ6_bitCount_0f7a4_21 : decode cJ6_bitCount_0f7a4 21 = .ok (.iand, 1) := by decide +kernel
theorem dJ6_bitCount_0f7a4_22 : decode cJ6_bitCount_0f7a4 22 = .ok (.iadd, 1) := by decide +kernel
theorem dJ6_bitCount_0f7a4_23 : decode cJ6_bitCount_0f7a4 23 = .ok (.istore_n 0, 1) := by decide +kernel
theorem dJ6_bitCount_0f7a4_24 : decode cJ6_bitCount_0f7a4 24 = .ok (.iload_n 0, 1) := by decide +kernel
theorem dJ6_bitCount_0f7a4_25 : decode cJ6_bitCount_0f7a4 25 = .ok (.iload_n 0, 1) := by decide +kernel
theorem dJ6_bitCount_0f7a4_26 : decode cJ6_bitCount_0f7a4 26 = .ok (.iconst 4, 1) := by decide +kernel
theorem dJ6_bitCount_0f7a4_27 : decode cJ6_bitCount_0f7a4 27 = .ok (.iushr, 1) := by decide +kernel
theorem dJ6_bitCount_0f7a4_28 : decode cJ6_bitCount_0f7a4 28 = .ok (.iadd, 1) := by decide +kernel
theorem dJ6_bitCount_0f7a4_29 : decode cJ6_bitCount_0f7a4 29 = .ok (.ldc_w 267, 3) := by decide +kernel
theorem dJ6_bitCount_0f7a4_32 : decode cJ6_bitCount_0f7a4 32 = .ok (.iand, 1) := by decide +kernel
theorem dJ6_bitCount_0f7a4_33 : decode cJ6_bitCount_0f7a4 33 = .ok (.istore_n 0, 1) := by decide +kernel
theorem dJ6_bitCount_0f7a4_34 : decode cJ6_bitCount_0f7a4 34 = .ok (.iload_n 0, 1) := by decide +kernel
theorem dJ6_bitCount_0f7a4_35 : decode cJ6_bitCount_0f7a4 35 = .ok (.iload_n 0, 1) := by decide +kernel
theorem dJ6_bitCount_0f7a4_36 : decode cJ6_bitCount_0f7a4 36 = .ok (.bipush 8, 2) := by decide +kernel
theorem dJ6_bitCount_0f7a4_38 : decode cJ6_bitCount_0f7a4 38 = .ok (.iushr, 1) := by decide +kernel
theorem dJ6_bitCount_0f7a4_39 : decode cJ6_bitCount_0f7a4 39 = .ok (.iadd, 1) := by decide +kernel
theorem dJ6_bitCount_0f7a4_40 : decode cJ6_bitCount_0f7a4 40 = .ok (.istore_n 0, 1) := by decide +kernel
theorem dJ6_bitCount_0f7a4_41 : decode cJ6_bitCount_0f7a4 41 = .ok (.iload_n 0, 1) := by decide +kernel
theorem dJ6_bitCount_0f7a4_42 : decode cJ6_bitCount_0f7a4 42 = .ok (.iload_n 0, 1) := by decide +kernel
theorem dJ6_bitCount_0f7a4_43 : decode cJ6_bitCount_0f7a4 43 = .ok (.bipush 16, 2) := by decide +kernel
theorem dJ6_bitCount_0f7a4_45 : decode cJ6_bitCount_0f7a4 45 = .ok (.iushr, 1) := by decide +kernel
theorem dJ6_bitCount_0f7a4_46 : decode cJ6_bitCount_0f7a4 46 = .ok (.iadd, 1) := by decide +kernel
theorem dJ6_bitCount_0f7a4_47 : decode cJ6_bitCount_0f7a4 47 = .ok (.istore_n 0, 1) := by decide +kernel
theorem dJ6_bitCount_0f7a4_48 : decode cJ6_bitCount_0f7a4 48 = .ok (.iload_n 0, 1) := by decide +kernel
theorem dJ6_bitCount_0f7a4_49 : decode cJ6_bitCount_0f7a4 49 = .ok (.bipush 63, 2) := by decide +kernel
theorem dJ6_bitCount_0f7a4_51 : decode cJ6_bitCount_0f7a4 51 = .ok (.iand, 1) := by decide +kernel
theorem dJ6_bitCount_0f7a4_52 : decode cJ6_bitCount_0f7a4 52 = .ok (.ireturn, 1) := by decide +kernel
set_option maxRecDepth 100000 in
set_option maxHeartbeats 4000000 in
theorem c_J6_bitCount_0f7a4 (l : Launch) (D : va_G) (cA : Nat → ClassId) (ad : Nat → Nat) (g0 : Nat → va_E) (i : Int32) (hSh : Shp ad cA g0) : CT l NN ad cA D yJ6_bitCount_0f7a4 cJ6_bitCount_0f7a4 1 (some FieldType.int) (0, 0) [.int i] g0 (PU g0 (fun r => r = bcF i)) := by
  refine q_enterI (by decide) (Nat.le_of_ble_eq_true rfl) rfl (fun K H locs ls _ _ hM hW0 hR hC hE hl => ?_)
  have hl : lv_has ls 1 [(0, .int i)] := hl
  have hW : WS ad cA (fun i k => False) g0 K g0 H locs := ⟨hW0, hSh, FR.rf⟩
  refine q_iload_n hM dJ6_bitCount_0f7a4_0 (lv_at hl 0 rfl) ?_
  refine q_iload_n hM dJ6_bitCount_0f7a4_1 (lv_at hl 0 rfl) ?_
  refine q_iconst (v := (1 : Int32)) hM dJ6_bitCount_0f7a4_2 (by decide) ?_
  refine q_iushr hM dJ6_bitCount_0f7a4_3 (fun z17 hz17 => ?_)
  refine q_ldcw (v := (1431655765 : Int32)) hM (kAW (v_2_11 (List.mem_of_getElem? (i := 7) rfl)) rfl) dJ6_bitCount_0f7a4_4 ?_
  refine q_iand hM dJ6_bitCount_0f7a4_7 (fun z18 hz18 => ?_)
  refine q_isub hM dJ6_bitCount_0f7a4_8 (fun z19 hz19 => ?_)
  refine q_istore_n (lv9 := [(0, .int z19)]) hM dJ6_bitCount_0f7a4_9 hl (by decide) rfl (fun ls hl => ?_)
  refine q_iload_n hM dJ6_bitCount_0f7a4_10 (lv_at hl 0 rfl) ?_
  refine q_ldcw (v := (858993459 : Int32)) hM (kAW (v_2_11 (List.mem_of_getElem? (i := 8) rfl)) rfl) dJ6_bitCount_0f7a4_11 ?_
  refine q_iand hM dJ6_bitCount_0f7a4_14 (fun z20 hz20 => ?_)
  refine q_iload_n hM dJ6_bitCount_0f7a4_15 (lv_at hl 0 rfl) ?_
  refine q_iconst (v := (2 : Int32)) hM dJ6_bitCount_0f7a4_16 (by decide) ?_
  refine q_iushr hM dJ6_bitCount_0f7a4_17 (fun z21 hz21 => ?_)
  refine q_ldcw (v := (858993459 : Int32)) hM (kAW (v_2_11 (List.mem_of_getElem? (i := 8) rfl)) rfl) dJ6_bitCount_0f7a4_18 ?_
  refine q_iand hM dJ6_bitCount_0f7a4_21 (fun z22 hz22 => ?_)
  refine q_iadd hM dJ6_bitCount_0f7a4_22 (fun z23 hz23 => ?_)
  refine q_istore_n (lv9 := [(0, .int z23)]) hM dJ6_bitCount_0f7a4_23 hl (by decide) rfl (fun ls hl => ?_)
  refine q_iload_n hM dJ6_bitCount_0f7a4_24 (lv_at hl 0 rfl) ?_
  refine q_iload_n hM dJ6_bitCount_0f7a4_25 (lv_at hl 0 rfl) ?_
  refine q_iconst (v := (4 : Int32)) hM dJ6_bitCount_0f7a4_26 (by decide) ?_
  refine q_iushr hM dJ6_bitCount_0f7a4_27 (fun z24 hz24 => ?_)
  refine q_iadd hM dJ6_bitCount_0f7a4_28 (fun z25 hz25 => ?_)
  refine q_ldcw (v := (252645135 : Int32)) hM (kAW (v_2_11 (List.mem_of_getElem? (i := 9) rfl)) rfl) dJ6_bitCount_0f7a4_29 ?_
  refine q_iand hM dJ6_bitCount_0f7a4_32 (fun z26 hz26 => ?_)
  refine q_istore_n (lv9 := [(0, .int z26)]) hM dJ6_bitCount_0f7a4_33 hl (by decide) rfl (fun ls hl => ?_)
  refine q_iload_n hM dJ6_bitCount_0f7a4_34 (lv_at hl 0 rfl) ?_
  refine q_iload_n hM dJ6_bitCount_0f7a4_35 (lv_at hl 0 rfl) ?_
  refine q_bipush (v := (8 : Int32)) hM dJ6_bitCount_0f7a4_36 (by decide) ?_
  refine q_iushr hM dJ6_bitCount_0f7a4_38 (fun z27 hz27 => ?_)
  refine q_iadd hM dJ6_bitCount_0f7a4_39 (fun z28 hz28 => ?_)
  refine q_istore_n (lv9 := [(0, .int z28)]) hM dJ6_bitCount_0f7a4_40 hl (by decide) rfl (fun ls hl => ?_)
  refine q_iload_n hM dJ6_bitCount_0f7a4_41 (lv_at hl 0 rfl) ?_
  refine q_iload_n hM dJ6_bitCount_0f7a4_42 (lv_at hl 0 rfl) ?_
  refine q_bipush (v := (16 : Int32)) hM dJ6_bitCount_0f7a4_43 (by decide) ?_
  refine q_iushr hM dJ6_bitCount_0f7a4_45 (fun z29 hz29 => ?_)
  refine q_iadd hM dJ6_bitCount_0f7a4_46 (fun z30 hz30 => ?_)
  refine q_istore_n (lv9 := [(0, .int z30)]) hM dJ6_bitCount_0f7a4_47 hl (by decide) rfl (fun ls hl => ?_)
  refine q_iload_n hM dJ6_bitCount_0f7a4_48 (lv_at hl 0 rfl) ?_
  refine q_bipush (v := (63 : Int32)) hM dJ6_bitCount_0f7a4_49 (by decide) ?_
  refine q_iand hM dJ6_bitCount_0f7a4_51 (fun z31 hz31 => ?_)
  exact hE _ _ _ _ _ _ hW.1 ⟨_, rfl, (by subst_vars; rfl), rfl⟩ dJ6_bitCount_0f7a4_52

theorem dX12_lies_0 : decode cX12_lies 0 = .ok (.lload_n 0, 1) := by decide +kernel
theorem dX12_lies_1 : decode cX12_lies 1 = .ok (.lload_n 2, 1) := by decide +kernel
theorem dX12_lies_2 : decode cX12_lies 2 = .ok (.lcmp, 1) := by decide +kernel
theorem dX12_lies_3 : decode cX12_lies 3 = .ok (.ifCond .lt 14, 3) := by decide +kernel
theorem dX12_lies_6 : decode cX12_lies 6 = .ok (.lload_n 0, 1) := by decide +kernel
theorem dX12_lies_7 : decode cX12_lies 7 = .ok (.lload 4, 2) := by decide +kernel
theorem dX12_lies_9 : decode cX12_lies 9 = .ok (.lcmp, 1) := by decide +kernel
theorem dX12_lies_10 : decode cX12_lies 10 = .ok (.ifCond .gt 7, 3) := by decide +kernel
theorem dX12_lies_13 : decode cX12_lies 13 = .ok (.iconst 1, 1) := by decide +kernel
theorem dX12_lies_14 : decode cX12_lies 14 = .ok (.goto 4, 3) := by decide +kernel
theorem dX12_lies_17 : decode cX12_lies 17 = .ok (.iconst 0, 1) := by decide +kernel
theorem dX12_lies_18 : decode cX12_lies 18 = .ok (.ireturn, 1) := by decide +kernel
set_option maxRecDepth 100000 in
set_option maxHeartbeats 4000000 in
theorem c_X12_lies (l : Launch) (D : va_G) (cA : Nat → ClassId) (ad : Nat → Nat) (g0 : Nat → va_E) (v a b : Int64) (hSh : Shp ad cA g0) : CT l NN ad cA D yX12_lies cX12_lies 6 (some FieldType.boolean) (0, 0) [.long v, .long a, .long b] g0 (PU g0 (fun r => (r.toInt = 1 ∧ a.toInt ≤ v.toInt ∧ v.toInt ≤ b.toInt) ∨ (r.toInt = 0 ∧ (v.toInt < a.toInt ∨ b.toInt < v.toInt)))) := by
  refine q_enterZ (by decide) (Nat.le_of_ble_eq_true rfl) (fun K H locs ls _ _ hM hW0 hR hC hE hl => ?_)
  have hl : lv_has ls 6 [(0, .long v), (2, .long a), (4, .long b)] := hl
  have hW : WS ad cA (fun i k => False) g0 K g0 H locs := ⟨hW0, hSh, FR.rf⟩
  refine q_lload_n hM dX12_lies_0 (lv_at hl 0 rfl) ?_
  refine q_lload_n hM dX12_lies_1 (lv_at hl 1 rfl) ?_
  have := lc_all v a
  refine q_lcmp hM dX12_lies_2 ?_
  refine q_if_lt (tgt := 17) hM dX12_lies_3 (by decide) (rfl : (lg_cmp v a).toInt = (lg_cmp v a).toInt) (fun h3 => ?_) (fun h3 => ?_)
  · refine q_iconst (v := (0 : Int32)) hM dX12_lies_17 (by decide) ?_
    exact hE _ _ _ _ _ _ hW.1 nz_0 ⟨_, rfl, (by have := kc_0; omega), rfl⟩ dX12_lies_18
  · refine q_lload_n hM dX12_lies_6 (lv_at hl 0 rfl) ?_
    refine q_lload hM dX12_lies_7 (lv_at hl 2 rfl) ?_
    have := lc_all v b
    refine q_lcmp hM dX12_lies_9 ?_
    refine q_if_gt (tgt := 17) hM dX12_lies_10 (by decide) (rfl : (lg_cmp v b).toInt = (lg_cmp v b).toInt) (fun h10 => ?_) (fun h10 => ?_)
    · refine q_iconst (v := (0 : Int32)) hM dX12_lies_17 (by decide) ?_
      exact hE _ _ _ _ _ _ hW.1 nz_0 ⟨_, rfl, (by have := kc_0; omega), rfl⟩ dX12_lies_18
    · refine q_iconst (v := (1 : Int32)) hM dX12_lies_13 (by decide) ?_
      refine q_goto (tgt := 18) hM dX12_lies_14 (by decide) ?_
      exact hE _ _ _ _ _ _ hW.1 nz_1 ⟨_, rfl, (by have := kc_1; omega), rfl⟩ dX12_lies_18

theorem dX12_has_0 : decode cX12_has 0 = .ok (.iload_n 0, 1) := by decide +kernel
theorem dX12_has_1 : decode cX12_has 1 = .ok (.iload_n 1, 1) := by decide +kernel
theorem dX12_has_2 : decode cX12_has 2 = .ok (.ishr, 1) := by decide +kernel
theorem dX12_has_3 : decode cX12_has 3 = .ok (.iconst 1, 1) := by decide +kernel
theorem dX12_has_4 : decode cX12_has 4 = .ok (.iand, 1) := by decide +kernel
theorem dX12_has_5 : decode cX12_has 5 = .ok (.iconst 1, 1) := by decide +kernel
theorem dX12_has_6 : decode cX12_has 6 = .ok (.if_icmp .ne 7, 3) := by decide +kernel
theorem dX12_has_9 : decode cX12_has 9 = .ok (.iconst 1, 1) := by decide +kernel
theorem dX12_has_10 : decode cX12_has 10 = .ok (.goto 4, 3) := by decide +kernel
theorem dX12_has_13 : decode cX12_has 13 = .ok (.iconst 0, 1) := by decide +kernel
theorem dX12_has_14 : decode cX12_has 14 = .ok (.ireturn, 1) := by decide +kernel
set_option maxRecDepth 100000 in
set_option maxHeartbeats 4000000 in
theorem c_X12_has (l : Launch) (D : va_G) (cA : Nat → ClassId) (ad : Nat → Nat) (g0 : Nat → va_E) (b i : Int32) (hSh : Shp ad cA g0) (hi0 : 0 ≤ i.toInt) (hi1 : i.toInt < 31) : CT l NN ad cA D yX12_has cX12_has 2 (some FieldType.boolean) (0, 0) [.int b, .int i] g0 (PU g0 (fun r => (r.toInt = 1 ∧ bt b i.toInt.toNat = true) ∨ (r.toInt = 0 ∧ bt b i.toInt.toNat = false))) := by
  refine q_enterZ (by decide) (Nat.le_of_ble_eq_true rfl) (fun K H locs ls _ _ hM hW0 hR hC hE hl => ?_)
  have hl : lv_has ls 2 [(0, .int b), (1, .int i)] := hl
  have hW : WS ad cA (fun i k => False) g0 K g0 H locs := ⟨hW0, hSh, FR.rf⟩
  refine q_iload_n hM dX12_has_0 (lv_at hl 0 rfl) ?_
  refine q_iload_n hM dX12_has_1 (lv_at hl 1 rfl) ?_
  refine q_ishr hM dX12_has_2 (fun z36 hz36 => ?_)
  refine q_iconst (v := (1 : Int32)) hM dX12_has_3 (by decide) ?_
  refine q_iand hM dX12_has_4 (fun z37 hz37 => ?_)
  refine q_iconst (v := (1 : Int32)) hM dX12_has_5 (by decide) ?_
  refine q_icmp_ne (tgt := 13) hM dX12_has_6 (by decide) (rfl : z37.toInt = z37.toInt) (kc_1 : (1 : Int32).toInt = 1) (fun h6 => ?_) (fun h6 => ?_)
  · refine q_iconst (v := (0 : Int32)) hM dX12_has_13 (by decide) ?_
    exact hE _ _ _ _ _ _ hW.1 nz_0 ⟨_, rfl, (Or.inr ⟨kc_0, has_is0 (by omega) (by omega) (by subst_vars; assumption)⟩), rfl⟩ dX12_has_14
  · refine q_iconst (v := (1 : Int32)) hM dX12_has_9 (by decide) ?_
    refine q_goto (tgt := 14) hM dX12_has_10 (by decide) ?_
    exact hE _ _ _ _ _ _ hW.1 nz_1 ⟨_, rfl, (Or.inl ⟨kc_1, has_is1 (by omega) (by omega) (by subst_vars; assumption)⟩), rfl⟩ dX12_has_14

theorem has_r0 {r i : Int32} (h : (r.toInt = 1 ∧ 0 ≤ i.toInt ∧ i.toInt < 31 ∧ bt 0 i.toInt.toNat = true) ∨ (r.toInt = 0 ∧ (i.toInt < 0 ∨ 31 ≤ i.toInt ∨ bt 0 i.toInt.toNat = false))) : r.toInt = 0 := by
  rcases h with h | h
  · rw [b_0] at h
    exact absurd h.2.2.2 (by decide)
  · exact h.1
