theorem JJ_0 {f s : Nat → Int32} {co : Int} (h : 0 ≤ co) : JJ f s (co, f) co 0 0 := by
  refine ⟨h, Int.le_refl _, Int.le_refl _, ?_, ?_, fun _ _ => rfl⟩
  · show vok f co.toNat (co - co).toNat
    rw [Int.sub_self]
    exact fun j hj => absurd hj (by show ¬ j < 0; omega)
  · show dpt f co.toNat (co - co).toNat = _
    rw [Int.sub_self]
    rfl
/-- a new clause's two texts stand in the new code -/
def NL (s f t c : Nat → Int32) (k : Nat) (co : Int) : Prop := 0 ≤ (s k).toInt ∧ (s k).toInt ≤ (f k).toInt ∧ (f k).toInt ≤ (t k).toInt ∧ (t k).toInt ≤ co ∧ vok c (s k).toInt.toNat ((f k).toInt - (s k).toInt).toNat ∧ vok c (f k).toInt.toNat ((t k).toInt - (f k).toInt).toNat
def NA (s f t c : Nat → Int32) (n co : Int) : Prop := ∀ k : Nat, (k : Int) < n → NL s f t c k co
theorem NA_step {s f t c s1 f1 t1 c1 : Nat → Int32} {n n1 co co1 : Int} {o x y z : Int32} (h : NA s f t c n co) (es : s1 = upd s o.toNatClampNeg x) (ef : f1 = upd f o.toNatClampNeg y) (et : t1 = upd t o.toNatClampNeg z) (ho : o.toInt = n) (h0 : 0 ≤ n) (hn : n1 = n + 1) (hx : x.toInt = co) (hco : 0 ≤ co) (hxy : co ≤ y.toInt) (hyz : y.toInt ≤ z.toInt) (hz : z.toInt = co1) (hv1 : vok c1 co.toNat (y.toInt - co).toNat) (hv2 : vok c1 y.toInt.toNat (z.toInt - y.toInt).toNat) (hp : ∀ j : Nat, (j : Int) < co → c1 j = c j) : NA s1 f1 t1 c1 n1 co1 := by
  intro k hk
  have eo : o.toNatClampNeg = o.toInt.toNat := rfl
  unfold NL
  by_cases q : k = o.toNatClampNeg
  · have a1 : s1 k = x := by rw [es]; unfold upd; rw [if_pos q]
    have a2 : f1 k = y := by rw [ef]; unfold upd; rw [if_pos q]
    have a3 : t1 k = z := by rw [et]; unfold upd; rw [if_pos q]
    rw [a1, a2, a3, hx]
    exact ⟨hco, hxy, hyz, by omega, hv1, hv2⟩
  · have a1 : s1 k = s k := by rw [es]; unfold upd; rw [if_neg q]
    have a2 : f1 k = f k := by rw [ef]; unfold upd; rw [if_neg q]
    have a3 : t1 k = t k := by rw [et]; unfold upd; rw [if_neg q]
    obtain ⟨b1, b2, b3, b4, b5, b6⟩ := h k (by omega)
    rw [a1, a2, a3]
    exact ⟨b1, b2, b3, by omega, vok_eq (fun j hj => hp _ (by omega)) b5, vok_eq (fun j hj => hp _ (by omega)) b6⟩
theorem vok_0 {f : Nat → Int32} {a : Nat} {x : Int} : vok f a (x - x).toNat := by
  rw [Int.sub_self]
  exact fun j hj => absurd hj (by show ¬ j < 0; omega)

theorem dX12_clause_0 : decode cX12_clause 0 = .ok (.aload_n 0, 1) := by decide +kernel
theorem dX12_clause_1 : decode cX12_clause 1 = .ok (.invokevirtual 182, 3) := by decide +kernel
theorem dX12_clause_4 : decode cX12_clause 4 = .ok (.istore_n 1, 1) := by decide +kernel
theorem dX12_clause_5 : decode cX12_clause 5 = .ok (.iload_n 1, 1) := by decide +kernel
theorem dX12_clause_6 : decode cX12_clause 6 = .ok (.invokestatic 348, 3) := by decide +kernel
theorem dX12_clause_9 : decode cX12_clause 9 = .ok (.ifCond .ne 15, 3) := by decide +kernel
theorem dX12_clause_12 : decode cX12_clause 12 = .ok (.aload_n 0, 1) := by decide +kernel
theorem dX12_clause_13 : decode cX12_clause 13 = .ok (.iconst 1, 1) := by decide +kernel
theorem dX12_clause_14 : decode cX12_clause 14 = .ok (.aload_n 0, 1) := by decide +kernel
theorem dX12_clause_15 : decode cX12_clause 15 = .ok (.getfield 173, 3) := by decide +kernel
theorem dX12_clause_18 : decode cX12_clause 18 = .ok (.invokevirtual 230, 3) := by decide +kernel
theorem dX12_clause_21 : decode cX12_clause 21 = .ok (.goto 21, 3) := by decide +kernel
theorem dX12_clause_24 : decode cX12_clause 24 = .ok (.aload_n 0, 1) := by decide +kernel
theorem dX12_clause_25 : decode cX12_clause 25 = .ok (.getfield 351, 3) := by decide +kernel
theorem dX12_clause_28 : decode cX12_clause 28 = .ok (.bipush 16, 2) := by decide +kernel
theorem dX12_clause_30 : decode cX12_clause 30 = .ok (.if_icmp .ne 12, 3) := by decide +kernel
theorem dX12_clause_33 : decode cX12_clause 33 = .ok (.aload_n 0, 1) := by decide +kernel
theorem dX12_clause_34 : decode cX12_clause 34 = .ok (.iconst 4, 1) := by decide +kernel
theorem dX12_clause_35 : decode cX12_clause 35 = .ok (.aload_n 0, 1) := by decide +kernel
theorem dX12_clause_36 : decode cX12_clause 36 = .ok (.getfield 173, 3) := by decide +kernel
theorem dX12_clause_39 : decode cX12_clause 39 = .ok (.invokevirtual 230, 3) := by decide +kernel
theorem dX12_clause_42 : decode cX12_clause 42 = .ok (.aload_n 0, 1) := by decide +kernel
theorem dX12_clause_43 : decode cX12_clause 43 = .ok (.invokevirtual 234, 3) := by decide +kernel
theorem dX12_clause_46 : decode cX12_clause 46 = .ok (.ifCond .ne 4, 3) := by decide +kernel
theorem dX12_clause_49 : decode cX12_clause 49 = .ok (.return_, 1) := by decide +kernel
theorem dX12_clause_50 : decode cX12_clause 50 = .ok (.aload_n 0, 1) := by decide +kernel
theorem dX12_clause_51 : decode cX12_clause 51 = .ok (.getfield 73, 3) := by decide +kernel
theorem dX12_clause_54 : decode cX12_clause 54 = .ok (.aload_n 0, 1) := by decide +kernel
theorem dX12_clause_55 : decode cX12_clause 55 = .ok (.getfield 351, 3) := by decide +kernel
theorem dX12_clause_58 : decode cX12_clause 58 = .ok (.iload_n 1, 1) := by decide +kernel
theorem dX12_clause_59 : decode cX12_clause 59 = .ok (.iastore, 1) := by decide +kernel
theorem dX12_clause_60 : decode cX12_clause 60 = .ok (.aload_n 0, 1) := by decide +kernel
theorem dX12_clause_61 : decode cX12_clause 61 = .ok (.getfield 76, 3) := by decide +kernel
theorem dX12_clause_64 : decode cX12_clause 64 = .ok (.aload_n 0, 1) := by decide +kernel
theorem dX12_clause_65 : decode cX12_clause 65 = .ok (.getfield 351, 3) := by decide +kernel
theorem dX12_clause_68 : decode cX12_clause 68 = .ok (.aload_n 0, 1) := by decide +kernel
theorem dX12_clause_69 : decode cX12_clause 69 = .ok (.getfield 278, 3) := by decide +kernel
theorem dX12_clause_72 : decode cX12_clause 72 = .ok (.iastore, 1) := by decide +kernel
theorem dX12_clause_73 : decode cX12_clause 73 = .ok (.aload_n 0, 1) := by decide +kernel
theorem dX12_clause_74 : decode cX12_clause 74 = .ok (.dup, 1) := by decide +kernel
theorem dX12_clause_75 : decode cX12_clause 75 = .ok (.getfield 173, 3) := by decide +kernel
theorem dX12_clause_78 : decode cX12_clause 78 = .ok (.iconst 1, 1) := by decide +kernel
theorem dX12_clause_79 : decode cX12_clause 79 = .ok (.iadd, 1) := by decide +kernel
theorem dX12_clause_80 : decode cX12_clause 80 = .ok (.putfield 173, 3) := by decide +kernel
theorem dX12_clause_83 : decode cX12_clause 83 = .ok (.aload_n 0, 1) := by decide +kernel
theorem dX12_clause_84 : decode cX12_clause 84 = .ok (.iconst 0, 1) := by decide +kernel
theorem dX12_clause_85 : decode cX12_clause 85 = .ok (.putfield 281, 3) := by decide +kernel
theorem dX12_clause_88 : decode cX12_clause 88 = .ok (.aload_n 0, 1) := by decide +kernel
theorem dX12_clause_89 : decode cX12_clause 89 = .ok (.iconst 0, 1) := by decide +kernel
theorem dX12_clause_90 : decode cX12_clause 90 = .ok (.putfield 284, 3) := by decide +kernel
theorem dX12_clause_93 : decode cX12_clause 93 = .ok (.iload_n 1, 1) := by decide +kernel
theorem dX12_clause_94 : decode cX12_clause 94 = .ok (.bipush 120, 2) := by decide +kernel
theorem dX12_clause_96 : decode cX12_clause 96 = .ok (.if_icmp .eq 7, 3) := by decide +kernel
theorem dX12_clause_99 : decode cX12_clause 99 = .ok (.aload_n 0, 1) := by decide +kernel
theorem dX12_clause_100 : decode cX12_clause 100 = .ok (.invokevirtual 327, 3) := by decide +kernel
theorem dX12_clause_103 : decode cX12_clause 103 = .ok (.aload_n 0, 1) := by decide +kernel
theorem dX12_clause_104 : decode cX12_clause 104 = .ok (.getfield 79, 3) := by decide +kernel
theorem dX12_clause_107 : decode cX12_clause 107 = .ok (.aload_n 0, 1) := by decide +kernel
theorem dX12_clause_108 : decode cX12_clause 108 = .ok (.getfield 351, 3) := by decide +kernel
theorem dX12_clause_111 : decode cX12_clause 111 = .ok (.aload_n 0, 1) := by decide +kernel
theorem dX12_clause_112 : decode cX12_clause 112 = .ok (.getfield 278, 3) := by decide +kernel
theorem dX12_clause_115 : decode cX12_clause 115 = .ok (.iastore, 1) := by decide +kernel
theorem dX12_clause_116 : decode cX12_clause 116 = .ok (.aload_n 0, 1) := by decide +kernel
theorem dX12_clause_117 : decode cX12_clause 117 = .ok (.invokevirtual 234, 3) := by decide +kernel
theorem dX12_clause_120 : decode cX12_clause 120 = .ok (.ifCond .eq 7, 3) := by decide +kernel
theorem dX12_clause_123 : decode cX12_clause 123 = .ok (.aload_n 0, 1) := by decide +kernel
theorem dX12_clause_124 : decode cX12_clause 124 = .ok (.invokevirtual 354, 3) := by decide +kernel
theorem dX12_clause_127 : decode cX12_clause 127 = .ok (.aload_n 0, 1) := by decide +kernel
theorem dX12_clause_128 : decode cX12_clause 128 = .ok (.getfield 82, 3) := by decide +kernel
theorem dX12_clause_131 : decode cX12_clause 131 = .ok (.aload_n 0, 1) := by decide +kernel
theorem dX12_clause_132 : decode cX12_clause 132 = .ok (.getfield 351, 3) := by decide +kernel
theorem dX12_clause_135 : decode cX12_clause 135 = .ok (.aload_n 0, 1) := by decide +kernel
theorem dX12_clause_136 : decode cX12_clause 136 = .ok (.getfield 278, 3) := by decide +kernel
theorem dX12_clause_139 : decode cX12_clause 139 = .ok (.iastore, 1) := by decide +kernel
theorem dX12_clause_140 : decode cX12_clause 140 = .ok (.aload_n 0, 1) := by decide +kernel
theorem dX12_clause_141 : decode cX12_clause 141 = .ok (.dup, 1) := by decide +kernel
theorem dX12_clause_142 : decode cX12_clause 142 = .ok (.getfield 351, 3) := by decide +kernel
theorem dX12_clause_145 : decode cX12_clause 145 = .ok (.iconst 1, 1) := by decide +kernel
theorem dX12_clause_146 : decode cX12_clause 146 = .ok (.iadd, 1) := by decide +kernel
theorem dX12_clause_147 : decode cX12_clause 147 = .ok (.putfield 351, 3) := by decide +kernel
theorem dX12_clause_150 : decode cX12_clause 150 = .ok (.return_, 1) := by decide +kernel
theorem myX12_isClause : MS yX12_isClause cX12_isClause 1 (some FieldType.boolean) 1 := ⟨kAW (v_5_12 (List.mem_of_getElem? (i := 1) rfl)) rfl, kAW (v_0_0 (List.mem_of_getElem? (i := 13) rfl)) rfl, kAW (v_5_12 (List.mem_of_getElem? (i := 0) rfl)) rfl, by decide, by decide, by decide +kernel⟩
theorem FG_X12_351 : FG RX12 351 12 86 6 := ⟨RX12, TX12, rfl, wX12, by decide, kAW (v_4_3 (List.mem_of_getElem? (i := 3) rfl)) rfl, rfl⟩
theorem FG_X12_73 : FG RX12 73 12 86 33 := ⟨RX12, TX12, rfl, wX12, by decide, kAW (v_4_4 (List.mem_of_getElem? (i := 14) rfl)) rfl, rfl⟩
theorem FG_X12_76 : FG RX12 76 12 86 34 := ⟨RX12, TX12, rfl, wX12, by decide, kAW (v_4_4 (List.mem_of_getElem? (i := 15) rfl)) rfl, rfl⟩
theorem FG_X12_79 : FG RX12 79 12 86 35 := ⟨RX12, TX12, rfl, wX12, by decide, kAW (v_4_5 (List.mem_of_getElem? (i := 0) rfl)) rfl, rfl⟩
theorem FG_X12_82 : FG RX12 82 12 86 36 := ⟨RX12, TX12, rfl, wX12, by decide, kAW (v_4_5 (List.mem_of_getElem? (i := 1) rfl)) rfl, rfl⟩
theorem FP_X12_351 : FPX RX12 351 12 86 6 .int := ⟨⟨RX12, TX12, tyX12, rfl, wX12, by decide, kAW (v_4_3 (List.mem_of_getElem? (i := 3) rfl)) rfl, rfl, tyX12_ok, nmX12, by decide +kernel, rfl⟩, by decide +kernel⟩
theorem myX12_condition : MI yX12_condition cX12_condition 2 none 0 := ⟨kAW (v_6_0 (List.mem_of_getElem? (i := 7) rfl)) rfl, kAW (v_0_0 (List.mem_of_getElem? (i := 13) rfl)) rfl, kAW (v_6_0 (List.mem_of_getElem? (i := 6) rfl)) rfl, kAW (tp_t3 (List.mem_of_getElem? (i := 10) rfl)) rfl, by decide, by decide, by decide +kernel⟩
set_option maxRecDepth 100000 in
set_option maxHeartbeats 4000000 in
theorem a_X12_clause (l : Launch) (D : va_G) (cA : Nat → ClassId) (ad : Nat → Nat) (g0 : Nat → va_E)  (pl : Int32) (en : Int32) (bd : Int32) (co : Int32) (cl : Int32)  (hSh : Shp ad cA g0) (hG : Rng g0) (h_pl : fld g0 129 3 = .int pl) (h_en : fld g0 129 4 = .int en) (h_bd : fld g0 129 5 = .int bd) (h_co : fld g0 129 7 = .int co) (h_cl : fld g0 129 6 = .int cl) (pl0 : 0 ≤ pl.toInt) (pl1 : pl.toInt ≤ en.toInt) (en1 : en.toInt ≤ 240) (bd0 : bd.toInt = 0) (cp : co.toInt ≤ pl.toInt) (hNA : NA (arI g0 150) (arI g0 151) (arI g0 152) (arI g0 153) cl.toInt co.toInt) : CT l NN ad cA D yX12_clause cX12_clause 2 none (7, 150) [.ref (ad 129)] g0 (fun v g' => ∃ (p9 : Int32) (b9 : Int32) (c9 : Int32) (n9 : Int32), v = none ∧ Shp ad cA g' ∧ Rng g' ∧ FR (fun i k => (i = 129 ∧ (k = 3 ∨ k = 5 ∨ k = 6 ∨ k = 7 ∨ k = 8 ∨ k = 9 ∨ k = 39 ∨ k = 40)) ∨ (149 ≤ i ∧ i < 156)) g0 g' ∧ fld g' 129 3 = .int p9 ∧ fld g' 129 5 = .int b9 ∧ fld g' 129 7 = .int c9 ∧ fld g' 129 6 = .int n9 ∧ (pl.toInt ≤ p9.toInt) ∧ (p9.toInt ≤ en.toInt) ∧ (b9.toInt ≤ 0) ∧ (0 ≤ c9.toInt) ∧ (c9.toInt ≤ p9.toInt) ∧ (b9.toInt = 0 → pl.toInt < p9.toInt) ∧ (b9.toInt = 0 → NA (arI g' 150) (arI g' 151) (arI g' 152) (arI g' 153) n9.toInt c9.toInt)) := by
  refine q_enterV (by decide) (Nat.le_of_ble_eq_true rfl) (fun K H locs ls _ _ hM hW0 hR hC hE hl => ?_)
  have hl : lv_has ls 2 [(0, .ref (ad 129))] := hl
  have hW : WS ad cA (fun i k => (i = 129 ∧ (k = 3 ∨ k = 5 ∨ k = 6 ∨ k = 7 ∨ k = 8 ∨ k = 9 ∨ k = 39 ∨ k = 40)) ∨ (149 ≤ i ∧ i < 156)) g0 K g0 H locs := ⟨hW0, hSh, FR.rf⟩
  have b_pl := hG.f h_pl rF_129_3 (by decide)
  have b_en := hG.f h_en rF_129_4 (by decide)
  have b_bd := hG.f h_bd rF_129_5 (by decide)
  have b_co := hG.f h_co rF_129_7 (by decide)
  have b_cl := hG.f h_cl rF_129_6 (by decide)
  have f10910 : fld g0 129 3 = .int pl := h_pl
  have f10911 : fld g0 129 5 = .int bd := h_bd
  have f10912 : fld g0 129 6 = .int cl := h_cl
  have f10913 : fld g0 129 7 = .int co := h_co
  refine q_aload_n hM dX12_clause_0 (lv_at hl 0 rfl) ?_
  refine q_callV (As := []) (rest := []) hM hW.1 hR hC myX12_here (kAW (v_5_9 (List.mem_of_getElem? (i := 3) rfl)) rfl) (rfl : vwCl[12]? = some (RX12, TX12, 86)) rfl lb_129.1 (shO hW.2.1 lb_129) (a_X12_here _ _ cA ad g0 pl en hW.2.1 hG f10910 ((hW.2.2.1 129 4 (by omega)).trans h_en) (by  omega) (by  omega)) ⟨by decide, by decide⟩ rfl rfl hl.1 (Nat.le_of_ble_eq_true rfl) dX12_clause_1 (fun v g10915 H locs hp hW1 => ?_)
  obtain ⟨r10914, rfl, hr10914, rfl⟩ := hp
  have hW : WS ad cA (fun i k => (i = 129 ∧ (k = 3 ∨ k = 5 ∨ k = 6 ∨ k = 7 ∨ k = 8 ∨ k = 9 ∨ k = 39 ∨ k = 40)) ∨ (149 ≤ i ∧ i < 156)) g0 K g0 H locs := ⟨hW1, hW.2.1, hW.2.2⟩
  rw [hW.2.2.2.1 130 (by omega)] at hr10914
  refine q_istore_n (lv9 := [(1, .int r10914), (0, .ref (ad 129))]) hM dX12_clause_4 hl (by decide) rfl (fun ls hl => ?_)
  refine q_iload_n hM dX12_clause_5 (lv_at hl 0 rfl) ?_
  refine q_callS (As := [.int r10914]) (rest := []) hM hW.1 hR hC myX12_isClause (kAW (v_5_11 (List.mem_of_getElem? (i := 15) rfl)) rfl) (a_X12_isClause _ _ cA ad g0 r10914 hW.2.1 hG) ⟨by decide, by decide⟩ rfl rfl hl.1 (Nat.le_of_ble_eq_true rfl) dX12_clause_6 (fun v g10917 H locs hp hW1 => ?_)
  obtain ⟨r10916, rfl, hr10916, rfl⟩ := hp
  have hW : WS ad cA (fun i k => (i = 129 ∧ (k = 3 ∨ k = 5 ∨ k = 6 ∨ k = 7 ∨ k = 8 ∨ k = 9 ∨ k = 39 ∨ k = 40)) ∨ (149 ≤ i ∧ i < 156)) g0 K g0 H locs := ⟨hW1, hW.2.1, hW.2.2⟩
  refine q_if_ne (tgt := 24) hM dX12_clause_9 (by decide) (rfl : r10916.toInt = r10916.toInt) (fun h9 => ?_) (fun h9 => ?_)
  · refine q_aload_n hM dX12_clause_24 (lv_at hl 1 rfl) ?_
    refine w_get (v := .int cl) hM hW FG_X12_351 lb_129 f10912 dX12_clause_25 ?_
    have bcl := hG.f f10912 rF_129_6 (by decide)
    refine q_bipush (v := (16 : Int32)) hM dX12_clause_28 (by decide) ?_
    refine q_icmp_ne (tgt := 42) hM dX12_clause_30 (by decide) (rfl : cl.toInt = cl.toInt) (kc_16 : (16 : Int32).toInt = 16) (fun h30 => ?_) (fun h30 => ?_)
    · refine q_aload_n hM dX12_clause_42 (lv_at hl 1 rfl) ?_
      refine q_callV (As := []) (rest := []) hM hW.1 hR hC myX12_isGood (kAW (v_5_8 (List.mem_of_getElem? (i := 11) rfl)) rfl) (rfl : vwCl[12]? = some (RX12, TX12, 86)) rfl lb_129.1 (shO hW.2.1 lb_129) (a_X12_isGood _ _ cA ad g0 bd hW.2.1 hG f10911) ⟨by decide, by decide⟩ rfl rfl hl.1 (Nat.le_of_ble_eq_true rfl) dX12_clause_43 (fun v g10921 H locs hp hW1 => ?_)
      obtain ⟨r10920, rfl, hr10920, rfl⟩ := hp
      have hW : WS ad cA (fun i k => (i = 129 ∧ (k = 3 ∨ k = 5 ∨ k = 6 ∨ k = 7 ∨ k = 8 ∨ k = 9 ∨ k = 39 ∨ k = 40)) ∨ (149 ≤ i ∧ i < 156)) g0 K g0 H locs := ⟨hW1, hW.2.1, hW.2.2⟩
      refine q_if_ne (tgt := 50) hM dX12_clause_46 (by decide) (rfl : r10920.toInt = r10920.toInt) (fun h46 => ?_) (fun h46 => ?_)
      · refine q_aload_n hM dX12_clause_50 (lv_at hl 1 rfl) ?_
        refine w_get (v := .ref (ad 149)) hM hW FG_X12_73 lb_129 (rf_129_33 hW.2.1) dX12_clause_51 ?_
        refine q_aload_n hM dX12_clause_54 (lv_at hl 1 rfl) ?_
        refine w_get (v := .int cl) hM hW FG_X12_351 lb_129 f10912 dX12_clause_55 ?_
        have bcl := hG.f f10912 rF_129_6 (by decide)
        refine q_iload_n hM dX12_clause_58 (lv_at hl 0 rfl) ?_
        refine w_iast hM hW lb_149 (by omega) (i_in (by omega) (by omega)) dX12_clause_59 (fun g10923 H locs hW e1 e2 => ?_)
        have f10924 : arI g10923 150 = arI g0 150 := (e2.2.1 150 (by unfold Only; omega)).trans (rfl : arI g0 150 = arI g0 150)
        have f10925 : arI g10923 151 = arI g0 151 := (e2.2.1 151 (by unfold Only; omega)).trans (rfl : arI g0 151 = arI g0 151)
        have f10926 : arI g10923 152 = arI g0 152 := (e2.2.1 152 (by unfold Only; omega)).trans (rfl : arI g0 152 = arI g0 152)
        have f10927 : arI g10923 153 = arI g0 153 := (e2.2.1 153 (by unfold Only; omega)).trans (rfl : arI g0 153 = arI g0 153)
        have f10928 : fld g10923 129 3 = .int pl := (e2.1 129 3 (by unfold Only; omega)).trans f10910
        have f10929 : fld g10923 129 5 = .int bd := (e2.1 129 5 (by unfold Only; omega)).trans f10911
        have f10930 : fld g10923 129 6 = .int cl := (e2.1 129 6 (by unfold Only; omega)).trans f10912
        have f10931 : fld g10923 129 7 = .int co := (e2.1 129 7 (by unfold Only; omega)).trans f10913
        have hG := hG.st e1 e2 (rfl : rA 149 = (-2147483648, 2147483647)) (by have := i_rng r10914; omega) (by have := i_rng r10914; omega)
        refine q_aload_n hM dX12_clause_60 (lv_at hl 1 rfl) ?_
        refine w_get (v := .ref (ad 150)) hM hW FG_X12_76 lb_129 (rf_129_34 hW.2.1) dX12_clause_61 ?_
        refine q_aload_n hM dX12_clause_64 (lv_at hl 1 rfl) ?_
        refine w_get (v := .int cl) hM hW FG_X12_351 lb_129 f10930 dX12_clause_65 ?_
        have bcl := hG.f f10930 rF_129_6 (by decide)
        refine q_aload_n hM dX12_clause_68 (lv_at hl 1 rfl) ?_
        refine w_get (v := .int co) hM hW FG_X12_278 lb_129 f10931 dX12_clause_69 ?_
        have bco := hG.f f10931 rF_129_7 (by decide)
        refine w_iast hM hW lb_150 (by omega) (i_in (by omega) (by omega)) dX12_clause_72 (fun g10932 H locs hW e1 e2 => ?_)
        have f10933 : arI g10932 151 = arI g0 151 := (e2.2.1 151 (by unfold Only; omega)).trans f10925
        have f10934 : arI g10932 152 = arI g0 152 := (e2.2.1 152 (by unfold Only; omega)).trans f10926
        have f10935 : arI g10932 153 = arI g0 153 := (e2.2.1 153 (by unfold Only; omega)).trans f10927
        have f10936 : fld g10932 129 3 = .int pl := (e2.1 129 3 (by unfold Only; omega)).trans f10928
        have f10937 : fld g10932 129 5 = .int bd := (e2.1 129 5 (by unfold Only; omega)).trans f10929
        have f10938 : fld g10932 129 6 = .int cl := (e2.1 129 6 (by unfold Only; omega)).trans f10930
        have f10939 : fld g10932 129 7 = .int co := (e2.1 129 7 (by unfold Only; omega)).trans f10931
        have f10940 := e1
        rw [f10924] at f10940
        have hG := hG.st e1 e2 (rfl : rA 150 = (-2147483648, 2147483647)) (by have := i_rng co; omega) (by have := i_rng co; omega)
        refine q_aload_n hM dX12_clause_73 (lv_at hl 1 rfl) ?_
        refine q_dup hM dX12_clause_74 rfl ?_
        refine w_get (v := .int pl) hM hW FG_X12_173 lb_129 f10936 dX12_clause_75 ?_
        have bpl := hG.f f10936 rF_129_3 (by decide)
        refine q_iconst (v := (1 : Int32)) hM dX12_clause_78 (by decide) ?_
        refine q_iadd hM dX12_clause_79 (fun z10941 hz10941 => ?_)
        first | have tz10941 := i_addT hz10941 (rfl : pl.toInt = pl.toInt) (kc_1 : (1 : Int32).toInt = 1) (by omega) (by omega) | skip
        refine w_put hM hW FP_X12_173 lb_129 (by omega) (Or.inl ⟨_, rfl⟩) rfl rfl dX12_clause_80 (fun g10942 H locs hW e1 e2 => ?_)
        have f10943 : arI g10942 151 = arI g0 151 := (e2.2.1 151 (by unfold Only; omega)).trans f10933
        have f10944 : arI g10942 152 = arI g0 152 := (e2.2.1 152 (by unfold Only; omega)).trans f10934
        have f10945 : arI g10942 153 = arI g0 153 := (e2.2.1 153 (by unfold Only; omega)).trans f10935
        have f10946 : fld g10942 129 5 = .int bd := (e2.1 129 5 (by unfold Only; omega)).trans f10937
        have f10947 : fld g10942 129 6 = .int cl := (e2.1 129 6 (by unfold Only; omega)).trans f10938
        have f10948 : fld g10942 129 7 = .int co := (e2.1 129 7 (by unfold Only; omega)).trans f10939
        have f10949 : arI g10942 150 = upd (arI g0 150) cl.toNatClampNeg co := (e2.2.1 150 (by unfold Only; omega)).trans f10940
        have f10950 : fld g10942 129 3 = .int z10941 := e1
        have hG := hG.put e1 e2 rF_129_3 (by decide) (by have := i_rng z10941; omega) (by have := i_rng z10941; omega)
        refine q_aload_n hM dX12_clause_83 (lv_at hl 1 rfl) ?_
        refine q_iconst (v := (0 : Int32)) hM dX12_clause_84 (by decide) ?_
        refine w_put hM hW FP_X12_281 lb_129 (by omega) (Or.inl ⟨_, rfl⟩) rfl rfl dX12_clause_85 (fun g10951 H locs hW e1 e2 => ?_)
        have f10952 : arI g10951 151 = arI g0 151 := (e2.2.1 151 (by unfold Only; omega)).trans f10943
        have f10953 : arI g10951 152 = arI g0 152 := (e2.2.1 152 (by unfold Only; omega)).trans f10944
        have f10954 : arI g10951 153 = arI g0 153 := (e2.2.1 153 (by unfold Only; omega)).trans f10945
        have f10955 : fld g10951 129 5 = .int bd := (e2.1 129 5 (by unfold Only; omega)).trans f10946
        have f10956 : fld g10951 129 6 = .int cl := (e2.1 129 6 (by unfold Only; omega)).trans f10947
        have f10957 : fld g10951 129 7 = .int co := (e2.1 129 7 (by unfold Only; omega)).trans f10948
        have f10958 : arI g10951 150 = upd (arI g0 150) cl.toNatClampNeg co := (e2.2.1 150 (by unfold Only; omega)).trans f10949
        have f10959 : fld g10951 129 3 = .int z10941 := (e2.1 129 3 (by unfold Only; omega)).trans f10950
        have f10960 : fld g10951 129 9 = .int (0 : Int32) := e1
        have hG := hG.put e1 e2 rF_129_9 (by decide) (by have := kc_0; have := i_rng (0 : Int32); omega) (by have := kc_0; have := i_rng (0 : Int32); omega)
        refine q_aload_n hM dX12_clause_88 (lv_at hl 1 rfl) ?_
        refine q_iconst (v := (0 : Int32)) hM dX12_clause_89 (by decide) ?_
        refine w_put hM hW FP_X12_284 lb_129 (by omega) (Or.inl ⟨_, rfl⟩) rfl rfl dX12_clause_90 (fun g10961 H locs hW e1 e2 => ?_)
        have f10962 : arI g10961 151 = arI g0 151 := (e2.2.1 151 (by unfold Only; omega)).trans f10952
        have f10963 : arI g10961 152 = arI g0 152 := (e2.2.1 152 (by unfold Only; omega)).trans f10953
        have f10964 : arI g10961 153 = arI g0 153 := (e2.2.1 153 (by unfold Only; omega)).trans f10954
        have f10965 : fld g10961 129 5 = .int bd := (e2.1 129 5 (by unfold Only; omega)).trans f10955
        have f10966 : fld g10961 129 6 = .int cl := (e2.1 129 6 (by unfold Only; omega)).trans f10956
        have f10967 : fld g10961 129 7 = .int co := (e2.1 129 7 (by unfold Only; omega)).trans f10957
        have f10968 : arI g10961 150 = upd (arI g0 150) cl.toNatClampNeg co := (e2.2.1 150 (by unfold Only; omega)).trans f10958
        have f10969 : fld g10961 129 3 = .int z10941 := (e2.1 129 3 (by unfold Only; omega)).trans f10959
        have f10970 : fld g10961 129 9 = .int (0 : Int32) := (e2.1 129 9 (by unfold Only; omega)).trans f10960
        have f10971 : fld g10961 129 8 = .int (0 : Int32) := e1
        have hG := hG.put e1 e2 rF_129_8 (by decide) (by have := kc_0; have := i_rng (0 : Int32); omega) (by have := kc_0; have := i_rng (0 : Int32); omega)
        refine q_iload_n hM dX12_clause_93 (lv_at hl 0 rfl) ?_
        refine q_bipush (v := (120 : Int32)) hM dX12_clause_94 (by decide) ?_
        refine q_icmp_eq (tgt := 103) hM dX12_clause_96 (by decide) (rfl : r10914.toInt = r10914.toInt) (kc_120 : (120 : Int32).toInt = 120) (fun h96 => ?_) (fun h96 => ?_)
        · refine q_aload_n hM dX12_clause_103 (lv_at hl 1 rfl) ?_
          refine w_get (v := .ref (ad 151)) hM hW FG_X12_79 lb_129 (rf_129_35 hW.2.1) dX12_clause_104 ?_
          refine q_aload_n hM dX12_clause_107 (lv_at hl 1 rfl) ?_
          refine w_get (v := .int cl) hM hW FG_X12_351 lb_129 f10966 dX12_clause_108 ?_
          have bcl := hG.f f10966 rF_129_6 (by decide)
          refine q_aload_n hM dX12_clause_111 (lv_at hl 1 rfl) ?_
          refine w_get (v := .int co) hM hW FG_X12_278 lb_129 f10967 dX12_clause_112 ?_
          have bco := hG.f f10967 rF_129_7 (by decide)
          refine w_iast hM hW lb_151 (by omega) (i_in (by omega) (by omega)) dX12_clause_115 (fun g10973 H locs hW e1 e2 => ?_)
          have f10974 : arI g10973 152 = arI g0 152 := (e2.2.1 152 (by unfold Only; omega)).trans f10963
          have f10975 : arI g10973 153 = arI g0 153 := (e2.2.1 153 (by unfold Only; omega)).trans f10964
          have f10976 : fld g10973 129 5 = .int bd := (e2.1 129 5 (by unfold Only; omega)).trans f10965
          have f10977 : fld g10973 129 6 = .int cl := (e2.1 129 6 (by unfold Only; omega)).trans f10966
          have f10978 : fld g10973 129 7 = .int co := (e2.1 129 7 (by unfold Only; omega)).trans f10967
          have f10979 : arI g10973 150 = upd (arI g0 150) cl.toNatClampNeg co := (e2.2.1 150 (by unfold Only; omega)).trans f10968
          have f10980 : fld g10973 129 3 = .int z10941 := (e2.1 129 3 (by unfold Only; omega)).trans f10969
          have f10981 : fld g10973 129 9 = .int (0 : Int32) := (e2.1 129 9 (by unfold Only; omega)).trans f10970
          have f10982 : fld g10973 129 8 = .int (0 : Int32) := (e2.1 129 8 (by unfold Only; omega)).trans f10971
          have f10983 := e1
          rw [f10962] at f10983
          have hG := hG.st e1 e2 (rfl : rA 151 = (-2147483648, 2147483647)) (by have := i_rng co; omega) (by have := i_rng co; omega)
          refine q_aload_n hM dX12_clause_116 (lv_at hl 1 rfl) ?_
          refine q_callV (As := []) (rest := []) hM hW.1 hR hC myX12_isGood (kAW (v_5_8 (List.mem_of_getElem? (i := 11) rfl)) rfl) (rfl : vwCl[12]? = some (RX12, TX12, 86)) rfl lb_129.1 (shO hW.2.1 lb_129) (a_X12_isGood _ _ cA ad g10973 bd hW.2.1 hG f10976) ⟨by decide, by decide⟩ rfl rfl hl.1 (Nat.le_of_ble_eq_true rfl) dX12_clause_117 (fun v g10985 H locs hp hW1 => ?_)
          obtain ⟨r10984, rfl, hr10984, rfl⟩ := hp
          have hW : WS ad cA (fun i k => (i = 129 ∧ (k = 3 ∨ k = 5 ∨ k = 6 ∨ k = 7 ∨ k = 8 ∨ k = 9 ∨ k = 39 ∨ k = 40)) ∨ (149 ≤ i ∧ i < 156)) g0 K g10973 H locs := ⟨hW1, hW.2.1, hW.2.2⟩
          refine q_if_eq (tgt := 127) hM dX12_clause_120 (by decide) (rfl : r10984.toInt = r10984.toInt) (fun h120 => ?_) (fun h120 => ?_)
          · refine q_aload_n hM dX12_clause_127 (lv_at hl 1 rfl) ?_
            refine w_get (v := .ref (ad 152)) hM hW FG_X12_82 lb_129 (rf_129_36 hW.2.1) dX12_clause_128 ?_
            refine q_aload_n hM dX12_clause_131 (lv_at hl 1 rfl) ?_
            refine w_get (v := .int cl) hM hW FG_X12_351 lb_129 f10977 dX12_clause_132 ?_
            have bcl := hG.f f10977 rF_129_6 (by decide)
            refine q_aload_n hM dX12_clause_135 (lv_at hl 1 rfl) ?_
            refine w_get (v := .int co) hM hW FG_X12_278 lb_129 f10978 dX12_clause_136 ?_
            have bco := hG.f f10978 rF_129_7 (by decide)
            refine w_iast hM hW lb_152 (by omega) (i_in (by omega) (by omega)) dX12_clause_139 (fun g10987 H locs hW e1 e2 => ?_)
            have f10988 : arI g10987 153 = arI g0 153 := (e2.2.1 153 (by unfold Only; omega)).trans f10975
            have f10989 : fld g10987 129 5 = .int bd := (e2.1 129 5 (by unfold Only; omega)).trans f10976
            have f10990 : fld g10987 129 6 = .int cl := (e2.1 129 6 (by unfold Only; omega)).trans f10977
            have f10991 : fld g10987 129 7 = .int co := (e2.1 129 7 (by unfold Only; omega)).trans f10978
            have f10992 : arI g10987 150 = upd (arI g0 150) cl.toNatClampNeg co := (e2.2.1 150 (by unfold Only; omega)).trans f10979
            have f10993 : fld g10987 129 3 = .int z10941 := (e2.1 129 3 (by unfold Only; omega)).trans f10980
            have f10994 : fld g10987 129 9 = .int (0 : Int32) := (e2.1 129 9 (by unfold Only; omega)).trans f10981
            have f10995 : fld g10987 129 8 = .int (0 : Int32) := (e2.1 129 8 (by unfold Only; omega)).trans f10982
            have f10996 : arI g10987 151 = upd (arI g0 151) cl.toNatClampNeg co := (e2.2.1 151 (by unfold Only; omega)).trans f10983
            have f10997 := e1
            rw [f10974] at f10997
            have hG := hG.st e1 e2 (rfl : rA 152 = (-2147483648, 2147483647)) (by have := i_rng co; omega) (by have := i_rng co; omega)
            refine q_aload_n hM dX12_clause_140 (lv_at hl 1 rfl) ?_
            refine q_dup hM dX12_clause_141 rfl ?_
            refine w_get (v := .int cl) hM hW FG_X12_351 lb_129 f10990 dX12_clause_142 ?_
            have bcl := hG.f f10990 rF_129_6 (by decide)
            refine q_iconst (v := (1 : Int32)) hM dX12_clause_145 (by decide) ?_
            refine q_iadd hM dX12_clause_146 (fun z10998 hz10998 => ?_)
            first | have tz10998 := i_addT hz10998 (rfl : cl.toInt = cl.toInt) (kc_1 : (1 : Int32).toInt = 1) (by omega) (by omega) | skip
            refine w_put hM hW FP_X12_351 lb_129 (by omega) (Or.inl ⟨_, rfl⟩) rfl rfl dX12_clause_147 (fun g10999 H locs hW e1 e2 => ?_)
            have f11000 : arI g10999 153 = arI g0 153 := (e2.2.1 153 (by unfold Only; omega)).trans f10988
            have f11001 : fld g10999 129 5 = .int bd := (e2.1 129 5 (by unfold Only; omega)).trans f10989
            have f11002 : fld g10999 129 7 = .int co := (e2.1 129 7 (by unfold Only; omega)).trans f10991
            have f11003 : arI g10999 150 = upd (arI g0 150) cl.toNatClampNeg co := (e2.2.1 150 (by unfold Only; omega)).trans f10992
            have f11004 : fld g10999 129 3 = .int z10941 := (e2.1 129 3 (by unfold Only; omega)).trans f10993
            have f11005 : fld g10999 129 9 = .int (0 : Int32) := (e2.1 129 9 (by unfold Only; omega)).trans f10994
            have f11006 : fld g10999 129 8 = .int (0 : Int32) := (e2.1 129 8 (by unfold Only; omega)).trans f10995
            have f11007 : arI g10999 151 = upd (arI g0 151) cl.toNatClampNeg co := (e2.2.1 151 (by unfold Only; omega)).trans f10996
            have f11008 : arI g10999 152 = upd (arI g0 152) cl.toNatClampNeg co := (e2.2.1 152 (by unfold Only; omega)).trans f10997
            have f11009 : fld g10999 129 6 = .int z10998 := e1
            have hG := hG.put e1 e2 rF_129_6 (by decide) (by have := i_rng z10998; omega) (by have := i_rng z10998; omega)
            exact hE _ _ _ _ _ hW.1 ⟨z10941, bd, co, z10998, rfl, hW.2.1, hG, hW.2.2, f11004, f11001, f11002, f11009, (by omega), (by omega), (by omega), (by omega), (by omega), (by omega), (fun q => absurd q (by omega))⟩ dX12_clause_150
          · refine q_aload_n hM dX12_clause_123 (lv_at hl 1 rfl) ?_
            refine q_callV (As := []) (rest := []) hM hW.1 hR hC myX12_condition (kAW (v_6_0 (List.mem_of_getElem? (i := 4) rfl)) rfl) (rfl : vwCl[12]? = some (RX12, TX12, 86)) rfl lb_129.1 (shO hW.2.1 lb_129) (a_X12_condition _ _ cA ad g10973 z10941 en bd co (0 : Int32) (0 : Int32) (co.toInt, arI g0 153) hW.2.1 hG f10980 ((hW.2.2.1 129 4 (by omega)).trans h_en) f10976 f10978 f10981 f10982 (by have := kc_0; have := kc_0; omega) (by have := kc_0; have := kc_0; omega) (by have := kc_0; have := kc_0; omega) (by have := kc_0; have := kc_0; omega) (by have := kc_0; have := kc_0; omega) (by have := kc_0; have := kc_0; omega) (by have := kc_0; have := kc_0; omega) (by have := kc_0; have := kc_0; omega) (by rw [f10975, kc_0]; exact JJ_0 (by omega))) ⟨by decide, by decide⟩ rfl rfl hl.1 (Nat.le_of_ble_eq_true rfl) dX12_clause_124 (fun v g11030 H locs hp hW1 => ?_)
            obtain ⟨v11011, v11012, v11013, v11014, v11015, rfl, hs1, hG, hf1, q11016, q11017, q11018, q11019, q11020, e11021, e11022, e11023, e11024, e11025, e11026, e11027, e11028, e11029⟩ := hp
            have f11031 : arI g11030 152 = arI g0 152 := (hf1.2.1 152 (by omega)).trans f10974
            have f11032 : fld g11030 129 6 = .int cl := (hf1.1 129 6 (by omega)).trans f10977
            have f11033 : arI g11030 150 = upd (arI g0 150) cl.toNatClampNeg co := (hf1.2.1 150 (by omega)).trans f10979
            have f11034 : arI g11030 151 = upd (arI g0 151) cl.toNatClampNeg co := (hf1.2.1 151 (by omega)).trans f10983
            have hW : WS ad cA (fun i k => (i = 129 ∧ (k = 3 ∨ k = 5 ∨ k = 6 ∨ k = 7 ∨ k = 8 ∨ k = 9 ∨ k = 39 ∨ k = 40)) ∨ (149 ≤ i ∧ i < 156)) g0 K g11030 H locs := ⟨hW1, hs1, hW.2.2.tr hf1 (fun i k h => h.elim (fun h => (Or.inl (by omega))) (fun h => h.elim (fun h => (Or.inr (by omega))) (fun h => h.elim (fun h => (Or.inr (by omega))) (fun h => (Or.inr (by omega))))))⟩
            refine q_aload_n hM dX12_clause_127 (lv_at hl 1 rfl) ?_
            refine w_get (v := .ref (ad 152)) hM hW FG_X12_82 lb_129 (rf_129_36 hW.2.1) dX12_clause_128 ?_
            refine q_aload_n hM dX12_clause_131 (lv_at hl 1 rfl) ?_
            refine w_get (v := .int cl) hM hW FG_X12_351 lb_129 f11032 dX12_clause_132 ?_
            have bcl := hG.f f11032 rF_129_6 (by decide)
            refine q_aload_n hM dX12_clause_135 (lv_at hl 1 rfl) ?_
            refine w_get (v := .int v11013) hM hW FG_X12_278 lb_129 q11018 dX12_clause_136 ?_
            have bv11013 := hG.f q11018 rF_129_7 (by decide)
            refine w_iast hM hW lb_152 (by omega) (i_in (by omega) (by omega)) dX12_clause_139 (fun g11035 H locs hW e1 e2 => ?_)
            have f11036 : fld g11035 129 6 = .int cl := (e2.1 129 6 (by unfold Only; omega)).trans f11032
            have f11037 : arI g11035 150 = upd (arI g0 150) cl.toNatClampNeg co := (e2.2.1 150 (by unfold Only; omega)).trans f11033
            have f11038 : arI g11035 151 = upd (arI g0 151) cl.toNatClampNeg co := (e2.2.1 151 (by unfold Only; omega)).trans f11034
            have f11039 : fld g11035 129 3 = .int v11011 := (e2.1 129 3 (by unfold Only; omega)).trans q11016
            have f11040 : fld g11035 129 5 = .int v11012 := (e2.1 129 5 (by unfold Only; omega)).trans q11017
            have f11041 : fld g11035 129 7 = .int v11013 := (e2.1 129 7 (by unfold Only; omega)).trans q11018
            have f11042 : fld g11035 129 9 = .int v11014 := (e2.1 129 9 (by unfold Only; omega)).trans q11019
            have f11043 : fld g11035 129 8 = .int v11015 := (e2.1 129 8 (by unfold Only; omega)).trans q11020
            have f11044 : arI g11035 153 = arI g11030 153 := (e2.2.1 153 (by unfold Only; omega)).trans (rfl : arI g11030 153 = arI g11030 153)
            have f11045 := e1
            rw [f11031] at f11045
            have hG := hG.st e1 e2 (rfl : rA 152 = (-2147483648, 2147483647)) (by have := i_rng v11013; omega) (by have := i_rng v11013; omega)
            refine q_aload_n hM dX12_clause_140 (lv_at hl 1 rfl) ?_
            refine q_dup hM dX12_clause_141 rfl ?_
            refine w_get (v := .int cl) hM hW FG_X12_351 lb_129 f11036 dX12_clause_142 ?_
            have bcl := hG.f f11036 rF_129_6 (by decide)
            refine q_iconst (v := (1 : Int32)) hM dX12_clause_145 (by decide) ?_
            refine q_iadd hM dX12_clause_146 (fun z11046 hz11046 => ?_)
            first | have tz11046 := i_addT hz11046 (rfl : cl.toInt = cl.toInt) (kc_1 : (1 : Int32).toInt = 1) (by omega) (by omega) | skip
            refine w_put hM hW FP_X12_351 lb_129 (by omega) (Or.inl ⟨_, rfl⟩) rfl rfl dX12_clause_147 (fun g11047 H locs hW e1 e2 => ?_)
            have f11048 : arI g11047 150 = upd (arI g0 150) cl.toNatClampNeg co := (e2.2.1 150 (by unfold Only; omega)).trans f11037
            have f11049 : arI g11047 151 = upd (arI g0 151) cl.toNatClampNeg co := (e2.2.1 151 (by unfold Only; omega)).trans f11038
            have f11050 : fld g11047 129 3 = .int v11011 := (e2.1 129 3 (by unfold Only; omega)).trans f11039
            have f11051 : fld g11047 129 5 = .int v11012 := (e2.1 129 5 (by unfold Only; omega)).trans f11040
            have f11052 : fld g11047 129 7 = .int v11013 := (e2.1 129 7 (by unfold Only; omega)).trans f11041
            have f11053 : fld g11047 129 9 = .int v11014 := (e2.1 129 9 (by unfold Only; omega)).trans f11042
            have f11054 : fld g11047 129 8 = .int v11015 := (e2.1 129 8 (by unfold Only; omega)).trans f11043
            have f11055 : arI g11047 153 = arI g11030 153 := (e2.2.1 153 (by unfold Only; omega)).trans f11044
            have f11056 : arI g11047 152 = upd (arI g0 152) cl.toNatClampNeg v11013 := (e2.2.1 152 (by unfold Only; omega)).trans f11045
            have f11057 : fld g11047 129 6 = .int z11046 := e1
            have hG := hG.put e1 e2 rF_129_6 (by decide) (by have := i_rng z11046; omega) (by have := i_rng z11046; omega)
            exact hE _ _ _ _ _ hW.1 ⟨v11011, v11012, v11013, z11046, rfl, hW.2.1, hG, hW.2.2, f11050, f11051, f11052, f11057, (by omega), (by omega), (by omega), (by omega), (by omega), (by omega), (fun q => by rw [f11048, f11049, f11056, f11055]; exact NA_step hNA rfl rfl rfl rfl (by omega) (by omega) rfl (by omega) (Int.le_refl _) (e11029 (by omega)).2.1 rfl vok_0 (e11029 (by omega)).2.2.2.1 (fun j hj => (e11029 (by omega)).2.2.2.2.2 j hj))⟩ dX12_clause_150
        · refine q_aload_n hM dX12_clause_99 (lv_at hl 1 rfl) ?_
          refine q_callV (As := []) (rest := []) hM hW.1 hR hC myX12_value (kAW (v_5_12 (List.mem_of_getElem? (i := 2) rfl)) rfl) (rfl : vwCl[12]? = some (RX12, TX12, 86)) rfl lb_129.1 (shO hW.2.1 lb_129) (a_X12_value _ _ cA ad g10961 z10941 en bd co (0 : Int32) (0 : Int32) (co.toInt, arI g0 153) hW.2.1 hG f10969 ((hW.2.2.1 129 4 (by omega)).trans h_en) f10965 f10967 f10970 f10971 (by have := kc_0; have := kc_0; omega) (by have := kc_0; have := kc_0; omega) (by have := kc_0; have := kc_0; omega) (by have := kc_0; have := kc_0; omega) (by have := kc_0; have := kc_0; omega) (by have := kc_0; have := kc_0; omega) (by have := kc_0; have := kc_0; omega) (by rw [f10964, kc_0]; exact JJ_0 (by omega)) (fun h9 _ => absurd h9 (by have := kc_0; omega))) ⟨by decide, by decide⟩ rfl rfl hl.1 (Nat.le_of_ble_eq_true rfl) dX12_clause_100 (fun v g11080 H locs hp hW1 => ?_)
          obtain ⟨v11059, v11060, v11061, v11062, v11063, rfl, hs1, hG, hf1, q11064, q11065, q11066, q11067, q11068, e11069, e11070, e11071, e11072, e11073, e11074, e11075, e11076, e11077, e11078, e11079⟩ := hp
          have f11081 : arI g11080 151 = arI g0 151 := (hf1.2.1 151 (by omega)).trans f10962
          have f11082 : arI g11080 152 = arI g0 152 := (hf1.2.1 152 (by omega)).trans f10963
          have f11083 : fld g11080 129 6 = .int cl := (hf1.1 129 6 (by omega)).trans f10966
          have f11084 : arI g11080 150 = upd (arI g0 150) cl.toNatClampNeg co := (hf1.2.1 150 (by omega)).trans f10968
          have hW : WS ad cA (fun i k => (i = 129 ∧ (k = 3 ∨ k = 5 ∨ k = 6 ∨ k = 7 ∨ k = 8 ∨ k = 9 ∨ k = 39 ∨ k = 40)) ∨ (149 ≤ i ∧ i < 156)) g0 K g11080 H locs := ⟨hW1, hs1, hW.2.2.tr hf1 (fun i k h => h.elim (fun h => (Or.inl (by omega))) (fun h => h.elim (fun h => (Or.inr (by omega))) (fun h => h.elim (fun h => (Or.inr (by omega))) (fun h => (Or.inr (by omega))))))⟩
          have := kc_0
          refine q_aload_n hM dX12_clause_103 (lv_at hl 1 rfl) ?_
          refine w_get (v := .ref (ad 151)) hM hW FG_X12_79 lb_129 (rf_129_35 hW.2.1) dX12_clause_104 ?_
          refine q_aload_n hM dX12_clause_107 (lv_at hl 1 rfl) ?_
          refine w_get (v := .int cl) hM hW FG_X12_351 lb_129 f11083 dX12_clause_108 ?_
          have bcl := hG.f f11083 rF_129_6 (by decide)
          refine q_aload_n hM dX12_clause_111 (lv_at hl 1 rfl) ?_
          refine w_get (v := .int v11061) hM hW FG_X12_278 lb_129 q11066 dX12_clause_112 ?_
          have bv11061 := hG.f q11066 rF_129_7 (by decide)
          refine w_iast hM hW lb_151 (by omega) (i_in (by omega) (by omega)) dX12_clause_115 (fun g11085 H locs hW e1 e2 => ?_)
          have f11086 : arI g11085 152 = arI g0 152 := (e2.2.1 152 (by unfold Only; omega)).trans f11082
          have f11087 : fld g11085 129 6 = .int cl := (e2.1 129 6 (by unfold Only; omega)).trans f11083
          have f11088 : arI g11085 150 = upd (arI g0 150) cl.toNatClampNeg co := (e2.2.1 150 (by unfold Only; omega)).trans f11084
          have f11089 : fld g11085 129 3 = .int v11059 := (e2.1 129 3 (by unfold Only; omega)).trans q11064
          have f11090 : fld g11085 129 5 = .int v11060 := (e2.1 129 5 (by unfold Only; omega)).trans q11065
          have f11091 : fld g11085 129 7 = .int v11061 := (e2.1 129 7 (by unfold Only; omega)).trans q11066
          have f11092 : fld g11085 129 9 = .int v11062 := (e2.1 129 9 (by unfold Only; omega)).trans q11067
          have f11093 : fld g11085 129 8 = .int v11063 := (e2.1 129 8 (by unfold Only; omega)).trans q11068
          have f11094 : arI g11085 153 = arI g11080 153 := (e2.2.1 153 (by unfold Only; omega)).trans (rfl : arI g11080 153 = arI g11080 153)
          have f11095 := e1
          rw [f11081] at f11095
          have hG := hG.st e1 e2 (rfl : rA 151 = (-2147483648, 2147483647)) (by have := i_rng v11061; omega) (by have := i_rng v11061; omega)
          refine q_aload_n hM dX12_clause_116 (lv_at hl 1 rfl) ?_
          refine q_callV (As := []) (rest := []) hM hW.1 hR hC myX12_isGood (kAW (v_5_8 (List.mem_of_getElem? (i := 11) rfl)) rfl) (rfl : vwCl[12]? = some (RX12, TX12, 86)) rfl lb_129.1 (shO hW.2.1 lb_129) (a_X12_isGood _ _ cA ad g11085 v11060 hW.2.1 hG f11090) ⟨by decide, by decide⟩ rfl rfl hl.1 (Nat.le_of_ble_eq_true rfl) dX12_clause_117 (fun v g11097 H locs hp hW1 => ?_)
          obtain ⟨r11096, rfl, hr11096, rfl⟩ := hp
          have hW : WS ad cA (fun i k => (i = 129 ∧ (k = 3 ∨ k = 5 ∨ k = 6 ∨ k = 7 ∨ k = 8 ∨ k = 9 ∨ k = 39 ∨ k = 40)) ∨ (149 ≤ i ∧ i < 156)) g0 K g11085 H locs := ⟨hW1, hW.2.1, hW.2.2⟩
          refine q_if_eq (tgt := 127) hM dX12_clause_120 (by decide) (rfl : r11096.toInt = r11096.toInt) (fun h120 => ?_) (fun h120 => ?_)
          · refine q_aload_n hM dX12_clause_127 (lv_at hl 1 rfl) ?_
            refine w_get (v := .ref (ad 152)) hM hW FG_X12_82 lb_129 (rf_129_36 hW.2.1) dX12_clause_128 ?_
            refine q_aload_n hM dX12_clause_131 (lv_at hl 1 rfl) ?_
            refine w_get (v := .int cl) hM hW FG_X12_351 lb_129 f11087 dX12_clause_132 ?_
            have bcl := hG.f f11087 rF_129_6 (by decide)
            refine q_aload_n hM dX12_clause_135 (lv_at hl 1 rfl) ?_
            refine w_get (v := .int v11061) hM hW FG_X12_278 lb_129 f11091 dX12_clause_136 ?_
            have bv11061 := hG.f f11091 rF_129_7 (by decide)
            refine w_iast hM hW lb_152 (by omega) (i_in (by omega) (by omega)) dX12_clause_139 (fun g11099 H locs hW e1 e2 => ?_)
            have f11100 : fld g11099 129 6 = .int cl := (e2.1 129 6 (by unfold Only; omega)).trans f11087
            have f11101 : arI g11099 150 = upd (arI g0 150) cl.toNatClampNeg co := (e2.2.1 150 (by unfold Only; omega)).trans f11088
            have f11102 : fld g11099 129 3 = .int v11059 := (e2.1 129 3 (by unfold Only; omega)).trans f11089
            have f11103 : fld g11099 129 5 = .int v11060 := (e2.1 129 5 (by unfold Only; omega)).trans f11090
            have f11104 : fld g11099 129 7 = .int v11061 := (e2.1 129 7 (by unfold Only; omega)).trans f11091
            have f11105 : fld g11099 129 9 = .int v11062 := (e2.1 129 9 (by unfold Only; omega)).trans f11092
            have f11106 : fld g11099 129 8 = .int v11063 := (e2.1 129 8 (by unfold Only; omega)).trans f11093
            have f11107 : arI g11099 153 = arI g11080 153 := (e2.2.1 153 (by unfold Only; omega)).trans f11094
            have f11108 : arI g11099 151 = upd (arI g0 151) cl.toNatClampNeg v11061 := (e2.2.1 151 (by unfold Only; omega)).trans f11095
            have f11109 := e1
            rw [f11086] at f11109
            have hG := hG.st e1 e2 (rfl : rA 152 = (-2147483648, 2147483647)) (by have := i_rng v11061; omega) (by have := i_rng v11061; omega)
            refine q_aload_n hM dX12_clause_140 (lv_at hl 1 rfl) ?_
            refine q_dup hM dX12_clause_141 rfl ?_
            refine w_get (v := .int cl) hM hW FG_X12_351 lb_129 f11100 dX12_clause_142 ?_
            have bcl := hG.f f11100 rF_129_6 (by decide)
            refine q_iconst (v := (1 : Int32)) hM dX12_clause_145 (by decide) ?_
            refine q_iadd hM dX12_clause_146 (fun z11110 hz11110 => ?_)
            first | have tz11110 := i_addT hz11110 (rfl : cl.toInt = cl.toInt) (kc_1 : (1 : Int32).toInt = 1) (by omega) (by omega) | skip
            refine w_put hM hW FP_X12_351 lb_129 (by omega) (Or.inl ⟨_, rfl⟩) rfl rfl dX12_clause_147 (fun g11111 H locs hW e1 e2 => ?_)
            have f11112 : arI g11111 150 = upd (arI g0 150) cl.toNatClampNeg co := (e2.2.1 150 (by unfold Only; omega)).trans f11101
            have f11113 : fld g11111 129 3 = .int v11059 := (e2.1 129 3 (by unfold Only; omega)).trans f11102
            have f11114 : fld g11111 129 5 = .int v11060 := (e2.1 129 5 (by unfold Only; omega)).trans f11103
            have f11115 : fld g11111 129 7 = .int v11061 := (e2.1 129 7 (by unfold Only; omega)).trans f11104
            have f11116 : fld g11111 129 9 = .int v11062 := (e2.1 129 9 (by unfold Only; omega)).trans f11105
            have f11117 : fld g11111 129 8 = .int v11063 := (e2.1 129 8 (by unfold Only; omega)).trans f11106
            have f11118 : arI g11111 153 = arI g11080 153 := (e2.2.1 153 (by unfold Only; omega)).trans f11107
            have f11119 : arI g11111 151 = upd (arI g0 151) cl.toNatClampNeg v11061 := (e2.2.1 151 (by unfold Only; omega)).trans f11108
            have f11120 : arI g11111 152 = upd (arI g0 152) cl.toNatClampNeg v11061 := (e2.2.1 152 (by unfold Only; omega)).trans f11109
            have f11121 : fld g11111 129 6 = .int z11110 := e1
            have hG := hG.put e1 e2 rF_129_6 (by decide) (by have := i_rng z11110; omega) (by have := i_rng z11110; omega)
            exact hE _ _ _ _ _ hW.1 ⟨v11059, v11060, v11061, z11110, rfl, hW.2.1, hG, hW.2.2, f11113, f11114, f11115, f11121, (by omega), (by omega), (by omega), (by omega), (by omega), (by omega), (fun q => absurd q (by omega))⟩ dX12_clause_150
          · refine q_aload_n hM dX12_clause_123 (lv_at hl 1 rfl) ?_
            refine q_callV (As := []) (rest := []) hM hW.1 hR hC myX12_condition (kAW (v_6_0 (List.mem_of_getElem? (i := 4) rfl)) rfl) (rfl : vwCl[12]? = some (RX12, TX12, 86)) rfl lb_129.1 (shO hW.2.1 lb_129) (a_X12_condition _ _ cA ad g11085 v11059 en v11060 v11061 v11062 v11063 (v11061.toInt, arI g11080 153) hW.2.1 hG f11089 ((hW.2.2.1 129 4 (by omega)).trans h_en) f11090 f11091 f11092 f11093 (by  omega) (by  omega) (by  omega) (by  omega) (by  omega) (by  omega) (by  omega) (by  omega) (by rw [f11094, show v11062.toInt = 0 by omega]; exact JJ_0 (by omega))) ⟨by decide, by decide⟩ rfl rfl hl.1 (Nat.le_of_ble_eq_true rfl) dX12_clause_124 (fun v g11142 H locs hp hW1 => ?_)
            obtain ⟨v11123, v11124, v11125, v11126, v11127, rfl, hs1, hG, hf1, q11128, q11129, q11130, q11131, q11132, e11133, e11134, e11135, e11136, e11137, e11138, e11139, e11140, e11141⟩ := hp
            have f11143 : arI g11142 152 = arI g0 152 := (hf1.2.1 152 (by omega)).trans f11086
            have f11144 : fld g11142 129 6 = .int cl := (hf1.1 129 6 (by omega)).trans f11087
            have f11145 : arI g11142 150 = upd (arI g0 150) cl.toNatClampNeg co := (hf1.2.1 150 (by omega)).trans f11088
            have f11146 : arI g11142 151 = upd (arI g0 151) cl.toNatClampNeg v11061 := (hf1.2.1 151 (by omega)).trans f11095
            have hW : WS ad cA (fun i k => (i = 129 ∧ (k = 3 ∨ k = 5 ∨ k = 6 ∨ k = 7 ∨ k = 8 ∨ k = 9 ∨ k = 39 ∨ k = 40)) ∨ (149 ≤ i ∧ i < 156)) g0 K g11142 H locs := ⟨hW1, hs1, hW.2.2.tr hf1 (fun i k h => h.elim (fun h => (Or.inl (by omega))) (fun h => h.elim (fun h => (Or.inr (by omega))) (fun h => h.elim (fun h => (Or.inr (by omega))) (fun h => (Or.inr (by omega))))))⟩
            refine q_aload_n hM dX12_clause_127 (lv_at hl 1 rfl) ?_
            refine w_get (v := .ref (ad 152)) hM hW FG_X12_82 lb_129 (rf_129_36 hW.2.1) dX12_clause_128 ?_
            refine q_aload_n hM dX12_clause_131 (lv_at hl 1 rfl) ?_
            refine w_get (v := .int cl) hM hW FG_X12_351 lb_129 f11144 dX12_clause_132 ?_
            have bcl := hG.f f11144 rF_129_6 (by decide)
            refine q_aload_n hM dX12_clause_135 (lv_at hl 1 rfl) ?_
            refine w_get (v := .int v11125) hM hW FG_X12_278 lb_129 q11130 dX12_clause_136 ?_
            have bv11125 := hG.f q11130 rF_129_7 (by decide)
            refine w_iast hM hW lb_152 (by omega) (i_in (by omega) (by omega)) dX12_clause_139 (fun g11147 H locs hW e1 e2 => ?_)
            have f11148 : fld g11147 129 6 = .int cl := (e2.1 129 6 (by unfold Only; omega)).trans f11144
            have f11149 : arI g11147 150 = upd (arI g0 150) cl.toNatClampNeg co := (e2.2.1 150 (by unfold Only; omega)).trans f11145
            have f11150 : arI g11147 151 = upd (arI g0 151) cl.toNatClampNeg v11061 := (e2.2.1 151 (by unfold Only; omega)).trans f11146
            have f11151 : fld g11147 129 3 = .int v11123 := (e2.1 129 3 (by unfold Only; omega)).trans q11128
            have f11152 : fld g11147 129 5 = .int v11124 := (e2.1 129 5 (by unfold Only; omega)).trans q11129
            have f11153 : fld g11147 129 7 = .int v11125 := (e2.1 129 7 (by unfold Only; omega)).trans q11130
            have f11154 : fld g11147 129 9 = .int v11126 := (e2.1 129 9 (by unfold Only; omega)).trans q11131
            have f11155 : fld g11147 129 8 = .int v11127 := (e2.1 129 8 (by unfold Only; omega)).trans q11132
            have f11156 : arI g11147 153 = arI g11142 153 := (e2.2.1 153 (by unfold Only; omega)).trans (rfl : arI g11142 153 = arI g11142 153)
            have f11157 := e1
            rw [f11143] at f11157
            have hG := hG.st e1 e2 (rfl : rA 152 = (-2147483648, 2147483647)) (by have := i_rng v11125; omega) (by have := i_rng v11125; omega)
            refine q_aload_n hM dX12_clause_140 (lv_at hl 1 rfl) ?_
            refine q_dup hM dX12_clause_141 rfl ?_
            refine w_get (v := .int cl) hM hW FG_X12_351 lb_129 f11148 dX12_clause_142 ?_
            have bcl := hG.f f11148 rF_129_6 (by decide)
            refine q_iconst (v := (1 : Int32)) hM dX12_clause_145 (by decide) ?_
            refine q_iadd hM dX12_clause_146 (fun z11158 hz11158 => ?_)
            first | have tz11158 := i_addT hz11158 (rfl : cl.toInt = cl.toInt) (kc_1 : (1 : Int32).toInt = 1) (by omega) (by omega) | skip
            refine w_put hM hW FP_X12_351 lb_129 (by omega) (Or.inl ⟨_, rfl⟩) rfl rfl dX12_clause_147 (fun g11159 H locs hW e1 e2 => ?_)
            have f11160 : arI g11159 150 = upd (arI g0 150) cl.toNatClampNeg co := (e2.2.1 150 (by unfold Only; omega)).trans f11149
            have f11161 : arI g11159 151 = upd (arI g0 151) cl.toNatClampNeg v11061 := (e2.2.1 151 (by unfold Only; omega)).trans f11150
            have f11162 : fld g11159 129 3 = .int v11123 := (e2.1 129 3 (by unfold Only; omega)).trans f11151
            have f11163 : fld g11159 129 5 = .int v11124 := (e2.1 129 5 (by unfold Only; omega)).trans f11152
            have f11164 : fld g11159 129 7 = .int v11125 := (e2.1 129 7 (by unfold Only; omega)).trans f11153
            have f11165 : fld g11159 129 9 = .int v11126 := (e2.1 129 9 (by unfold Only; omega)).trans f11154
            have f11166 : fld g11159 129 8 = .int v11127 := (e2.1 129 8 (by unfold Only; omega)).trans f11155
            have f11167 : arI g11159 153 = arI g11142 153 := (e2.2.1 153 (by unfold Only; omega)).trans f11156
            have f11168 : arI g11159 152 = upd (arI g0 152) cl.toNatClampNeg v11125 := (e2.2.1 152 (by unfold Only; omega)).trans f11157
            have f11169 : fld g11159 129 6 = .int z11158 := e1
            have hG := hG.put e1 e2 rF_129_6 (by decide) (by have := i_rng z11158; omega) (by have := i_rng z11158; omega)
            exact hE _ _ _ _ _ hW.1 ⟨v11123, v11124, v11125, z11158, rfl, hW.2.1, hG, hW.2.2, f11162, f11163, f11164, f11169, (by omega), (by omega), (by omega), (by omega), (by omega), (by omega), (fun q => by rw [f11160, f11161, f11168, f11167]; exact NA_step hNA rfl rfl rfl rfl (by omega) (by omega) rfl (by omega) (e11078 (by omega)).2.1 (e11141 (by omega)).2.1 rfl (vok_eq (fun j hj => (e11141 (by omega)).2.2.2.2.2 _ (by show ((_ : Nat) : Int) < v11061.toInt; have := (e11078 (by omega)).2.1; omega)) (e11078 (by omega)).2.2.2.1) (e11141 (by omega)).2.2.2.1 (fun j hj => ((e11141 (by omega)).2.2.2.2.2 j (by show ((_ : Nat) : Int) < v11061.toInt; have z9 : co.toInt ≤ v11061.toInt := (e11078 (by omega)).2.1; omega)).trans ((e11078 (by omega)).2.2.2.2.2 j hj)))⟩ dX12_clause_150
      · exact hE _ _ _ _ _ hW.1 ⟨pl, bd, co, cl, rfl, hW.2.1, hG, hW.2.2, f10910, f10911, f10913, f10912, (by omega), (by omega), (by omega), (by omega), (by omega), (by omega), (fun q => absurd q (by omega))⟩ dX12_clause_49
    · refine q_aload_n hM dX12_clause_33 (lv_at hl 1 rfl) ?_
      refine q_iconst (v := (4 : Int32)) hM dX12_clause_34 (by decide) ?_
      refine q_aload_n hM dX12_clause_35 (lv_at hl 1 rfl) ?_
      refine w_get (v := .int pl) hM hW FG_X12_173 lb_129 f10910 dX12_clause_36 ?_
      have bpl := hG.f f10910 rF_129_3 (by decide)
      refine q_callV (As := [.int (4 : Int32), .int pl]) (rest := []) hM hW.1 hR hC myX12_wrongs (kAW (v_5_9 (List.mem_of_getElem? (i := 11) rfl)) rfl) (rfl : vwCl[12]? = some (RX12, TX12, 86)) rfl lb_129.1 (shO hW.2.1 lb_129) (a_X12_wrongs _ _ cA ad g0 (4 : Int32) pl bd hW.2.1 hG f10911 (by have := kc_4; omega) (by have := kc_4; omega) (by have := kc_4; omega) (by have := kc_4; omega)) ⟨by decide, by decide⟩ rfl rfl hl.1 (Nat.le_of_ble_eq_true rfl) dX12_clause_39 (fun v g11175 H locs hp hW1 => ?_)
      obtain ⟨v11172, rfl, hs1, hG, hf1, q11173, e11174⟩ := hp
      have f11176 : arI g11175 150 = arI g0 150 := (hf1.2.1 150 (by omega)).trans (rfl : arI g0 150 = arI g0 150)
      have f11177 : arI g11175 151 = arI g0 151 := (hf1.2.1 151 (by omega)).trans (rfl : arI g0 151 = arI g0 151)
      have f11178 : arI g11175 152 = arI g0 152 := (hf1.2.1 152 (by omega)).trans (rfl : arI g0 152 = arI g0 152)
      have f11179 : arI g11175 153 = arI g0 153 := (hf1.2.1 153 (by omega)).trans (rfl : arI g0 153 = arI g0 153)
      have f11180 : fld g11175 129 3 = .int pl := (hf1.1 129 3 (by omega)).trans f10910
      have f11181 : fld g11175 129 6 = .int cl := (hf1.1 129 6 (by omega)).trans f10912
      have f11182 : fld g11175 129 7 = .int co := (hf1.1 129 7 (by omega)).trans f10913
      have hW : WS ad cA (fun i k => (i = 129 ∧ (k = 3 ∨ k = 5 ∨ k = 6 ∨ k = 7 ∨ k = 8 ∨ k = 9 ∨ k = 39 ∨ k = 40)) ∨ (149 ≤ i ∧ i < 156)) g0 K g11175 H locs := ⟨hW1, hs1, hW.2.2.tr hf1 (fun i k h => (Or.inl (by omega)))⟩
      refine q_aload_n hM dX12_clause_42 (lv_at hl 1 rfl) ?_
      refine q_callV (As := []) (rest := []) hM hW.1 hR hC myX12_isGood (kAW (v_5_8 (List.mem_of_getElem? (i := 11) rfl)) rfl) (rfl : vwCl[12]? = some (RX12, TX12, 86)) rfl lb_129.1 (shO hW.2.1 lb_129) (a_X12_isGood _ _ cA ad g11175 v11172 hW.2.1 hG q11173) ⟨by decide, by decide⟩ rfl rfl hl.1 (Nat.le_of_ble_eq_true rfl) dX12_clause_43 (fun v g11184 H locs hp hW1 => ?_)
      obtain ⟨r11183, rfl, hr11183, rfl⟩ := hp
      have hW : WS ad cA (fun i k => (i = 129 ∧ (k = 3 ∨ k = 5 ∨ k = 6 ∨ k = 7 ∨ k = 8 ∨ k = 9 ∨ k = 39 ∨ k = 40)) ∨ (149 ≤ i ∧ i < 156)) g0 K g11175 H locs := ⟨hW1, hW.2.1, hW.2.2⟩
      refine q_if_ne (tgt := 50) hM dX12_clause_46 (by decide) (rfl : r11183.toInt = r11183.toInt) (fun h46 => ?_) (fun h46 => ?_)
      · refine q_aload_n hM dX12_clause_50 (lv_at hl 1 rfl) ?_
        refine w_get (v := .ref (ad 149)) hM hW FG_X12_73 lb_129 (rf_129_33 hW.2.1) dX12_clause_51 ?_
        refine q_aload_n hM dX12_clause_54 (lv_at hl 1 rfl) ?_
        refine w_get (v := .int cl) hM hW FG_X12_351 lb_129 f11181 dX12_clause_55 ?_
        have bcl := hG.f f11181 rF_129_6 (by decide)
        refine q_iload_n hM dX12_clause_58 (lv_at hl 0 rfl) ?_
        refine w_iast hM hW lb_149 (by omega) (i_in (by omega) (by omega)) dX12_clause_59 (fun g11186 H locs hW e1 e2 => ?_)
        have f11187 : arI g11186 150 = arI g0 150 := (e2.2.1 150 (by unfold Only; omega)).trans f11176
        have f11188 : arI g11186 151 = arI g0 151 := (e2.2.1 151 (by unfold Only; omega)).trans f11177
        have f11189 : arI g11186 152 = arI g0 152 := (e2.2.1 152 (by unfold Only; omega)).trans f11178
        have f11190 : arI g11186 153 = arI g0 153 := (e2.2.1 153 (by unfold Only; omega)).trans f11179
        have f11191 : fld g11186 129 3 = .int pl := (e2.1 129 3 (by unfold Only; omega)).trans f11180
        have f11192 : fld g11186 129 6 = .int cl := (e2.1 129 6 (by unfold Only; omega)).trans f11181
        have f11193 : fld g11186 129 7 = .int co := (e2.1 129 7 (by unfold Only; omega)).trans f11182
        have f11194 : fld g11186 129 5 = .int v11172 := (e2.1 129 5 (by unfold Only; omega)).trans q11173
        have hG := hG.st e1 e2 (rfl : rA 149 = (-2147483648, 2147483647)) (by have := i_rng r10914; omega) (by have := i_rng r10914; omega)
        refine q_aload_n hM dX12_clause_60 (lv_at hl 1 rfl) ?_
        refine w_get (v := .ref (ad 150)) hM hW FG_X12_76 lb_129 (rf_129_34 hW.2.1) dX12_clause_61 ?_
        refine q_aload_n hM dX12_clause_64 (lv_at hl 1 rfl) ?_
        refine w_get (v := .int cl) hM hW FG_X12_351 lb_129 f11192 dX12_clause_65 ?_
        have bcl := hG.f f11192 rF_129_6 (by decide)
        refine q_aload_n hM dX12_clause_68 (lv_at hl 1 rfl) ?_
        refine w_get (v := .int co) hM hW FG_X12_278 lb_129 f11193 dX12_clause_69 ?_
        have bco := hG.f f11193 rF_129_7 (by decide)
        refine w_iast hM hW lb_150 (by omega) (i_in (by omega) (by omega)) dX12_clause_72 (fun g11195 H locs hW e1 e2 => ?_)
        have f11196 : arI g11195 151 = arI g0 151 := (e2.2.1 151 (by unfold Only; omega)).trans f11188
        have f11197 : arI g11195 152 = arI g0 152 := (e2.2.1 152 (by unfold Only; omega)).trans f11189
        have f11198 : arI g11195 153 = arI g0 153 := (e2.2.1 153 (by unfold Only; omega)).trans f11190
        have f11199 : fld g11195 129 3 = .int pl := (e2.1 129 3 (by unfold Only; omega)).trans f11191
        have f11200 : fld g11195 129 6 = .int cl := (e2.1 129 6 (by unfold Only; omega)).trans f11192
        have f11201 : fld g11195 129 7 = .int co := (e2.1 129 7 (by unfold Only; omega)).trans f11193
        have f11202 : fld g11195 129 5 = .int v11172 := (e2.1 129 5 (by unfold Only; omega)).trans f11194
        have f11203 := e1
        rw [f11187] at f11203
        have hG := hG.st e1 e2 (rfl : rA 150 = (-2147483648, 2147483647)) (by have := i_rng co; omega) (by have := i_rng co; omega)
        refine q_aload_n hM dX12_clause_73 (lv_at hl 1 rfl) ?_
        refine q_dup hM dX12_clause_74 rfl ?_
        refine w_get (v := .int pl) hM hW FG_X12_173 lb_129 f11199 dX12_clause_75 ?_
        have bpl := hG.f f11199 rF_129_3 (by decide)
        refine q_iconst (v := (1 : Int32)) hM dX12_clause_78 (by decide) ?_
        refine q_iadd hM dX12_clause_79 (fun z11204 hz11204 => ?_)
        first | have tz11204 := i_addT hz11204 (rfl : pl.toInt = pl.toInt) (kc_1 : (1 : Int32).toInt = 1) (by omega) (by omega) | skip
        refine w_put hM hW FP_X12_173 lb_129 (by omega) (Or.inl ⟨_, rfl⟩) rfl rfl dX12_clause_80 (fun g11205 H locs hW e1 e2 => ?_)
        have f11206 : arI g11205 151 = arI g0 151 := (e2.2.1 151 (by unfold Only; omega)).trans f11196
        have f11207 : arI g11205 152 = arI g0 152 := (e2.2.1 152 (by unfold Only; omega)).trans f11197
        have f11208 : arI g11205 153 = arI g0 153 := (e2.2.1 153 (by unfold Only; omega)).trans f11198
        have f11209 : fld g11205 129 6 = .int cl := (e2.1 129 6 (by unfold Only; omega)).trans f11200
        have f11210 : fld g11205 129 7 = .int co := (e2.1 129 7 (by unfold Only; omega)).trans f11201
        have f11211 : fld g11205 129 5 = .int v11172 := (e2.1 129 5 (by unfold Only; omega)).trans f11202
        have f11212 : arI g11205 150 = upd (arI g0 150) cl.toNatClampNeg co := (e2.2.1 150 (by unfold Only; omega)).trans f11203
        have f11213 : fld g11205 129 3 = .int z11204 := e1
        have hG := hG.put e1 e2 rF_129_3 (by decide) (by have := i_rng z11204; omega) (by have := i_rng z11204; omega)
        refine q_aload_n hM dX12_clause_83 (lv_at hl 1 rfl) ?_
        refine q_iconst (v := (0 : Int32)) hM dX12_clause_84 (by decide) ?_
        refine w_put hM hW FP_X12_281 lb_129 (by omega) (Or.inl ⟨_, rfl⟩) rfl rfl dX12_clause_85 (fun g11214 H locs hW e1 e2 => ?_)
        have f11215 : arI g11214 151 = arI g0 151 := (e2.2.1 151 (by unfold Only; omega)).trans f11206
        have f11216 : arI g11214 152 = arI g0 152 := (e2.2.1 152 (by unfold Only; omega)).trans f11207
        have f11217 : arI g11214 153 = arI g0 153 := (e2.2.1 153 (by unfold Only; omega)).trans f11208
        have f11218 : fld g11214 129 6 = .int cl := (e2.1 129 6 (by unfold Only; omega)).trans f11209
        have f11219 : fld g11214 129 7 = .int co := (e2.1 129 7 (by unfold Only; omega)).trans f11210
        have f11220 : fld g11214 129 5 = .int v11172 := (e2.1 129 5 (by unfold Only; omega)).trans f11211
        have f11221 : arI g11214 150 = upd (arI g0 150) cl.toNatClampNeg co := (e2.2.1 150 (by unfold Only; omega)).trans f11212
        have f11222 : fld g11214 129 3 = .int z11204 := (e2.1 129 3 (by unfold Only; omega)).trans f11213
        have f11223 : fld g11214 129 9 = .int (0 : Int32) := e1
        have hG := hG.put e1 e2 rF_129_9 (by decide) (by have := kc_0; have := i_rng (0 : Int32); omega) (by have := kc_0; have := i_rng (0 : Int32); omega)
        refine q_aload_n hM dX12_clause_88 (lv_at hl 1 rfl) ?_
        refine q_iconst (v := (0 : Int32)) hM dX12_clause_89 (by decide) ?_
        refine w_put hM hW FP_X12_284 lb_129 (by omega) (Or.inl ⟨_, rfl⟩) rfl rfl dX12_clause_90 (fun g11224 H locs hW e1 e2 => ?_)
        have f11225 : arI g11224 151 = arI g0 151 := (e2.2.1 151 (by unfold Only; omega)).trans f11215
        have f11226 : arI g11224 152 = arI g0 152 := (e2.2.1 152 (by unfold Only; omega)).trans f11216
        have f11227 : arI g11224 153 = arI g0 153 := (e2.2.1 153 (by unfold Only; omega)).trans f11217
        have f11228 : fld g11224 129 6 = .int cl := (e2.1 129 6 (by unfold Only; omega)).trans f11218
        have f11229 : fld g11224 129 7 = .int co := (e2.1 129 7 (by unfold Only; omega)).trans f11219
        have f11230 : fld g11224 129 5 = .int v11172 := (e2.1 129 5 (by unfold Only; omega)).trans f11220
        have f11231 : arI g11224 150 = upd (arI g0 150) cl.toNatClampNeg co := (e2.2.1 150 (by unfold Only; omega)).trans f11221
        have f11232 : fld g11224 129 3 = .int z11204 := (e2.1 129 3 (by unfold Only; omega)).trans f11222
        have f11233 : fld g11224 129 9 = .int (0 : Int32) := (e2.1 129 9 (by unfold Only; omega)).trans f11223
        have f11234 : fld g11224 129 8 = .int (0 : Int32) := e1
        have hG := hG.put e1 e2 rF_129_8 (by decide) (by have := kc_0; have := i_rng (0 : Int32); omega) (by have := kc_0; have := i_rng (0 : Int32); omega)
        refine q_iload_n hM dX12_clause_93 (lv_at hl 0 rfl) ?_
        refine q_bipush (v := (120 : Int32)) hM dX12_clause_94 (by decide) ?_
        refine q_icmp_eq (tgt := 103) hM dX12_clause_96 (by decide) (rfl : r10914.toInt = r10914.toInt) (kc_120 : (120 : Int32).toInt = 120) (fun h96 => ?_) (fun h96 => ?_)
        · refine q_aload_n hM dX12_clause_103 (lv_at hl 1 rfl) ?_
          refine w_get (v := .ref (ad 151)) hM hW FG_X12_79 lb_129 (rf_129_35 hW.2.1) dX12_clause_104 ?_
          refine q_aload_n hM dX12_clause_107 (lv_at hl 1 rfl) ?_
          refine w_get (v := .int cl) hM hW FG_X12_351 lb_129 f11228 dX12_clause_108 ?_
          have bcl := hG.f f11228 rF_129_6 (by decide)
          refine q_aload_n hM dX12_clause_111 (lv_at hl 1 rfl) ?_
          refine w_get (v := .int co) hM hW FG_X12_278 lb_129 f11229 dX12_clause_112 ?_
          have bco := hG.f f11229 rF_129_7 (by decide)
          refine w_iast hM hW lb_151 (by omega) (i_in (by omega) (by omega)) dX12_clause_115 (fun g11236 H locs hW e1 e2 => ?_)
          have f11237 : arI g11236 152 = arI g0 152 := (e2.2.1 152 (by unfold Only; omega)).trans f11226
          have f11238 : arI g11236 153 = arI g0 153 := (e2.2.1 153 (by unfold Only; omega)).trans f11227
          have f11239 : fld g11236 129 6 = .int cl := (e2.1 129 6 (by unfold Only; omega)).trans f11228
          have f11240 : fld g11236 129 7 = .int co := (e2.1 129 7 (by unfold Only; omega)).trans f11229
          have f11241 : fld g11236 129 5 = .int v11172 := (e2.1 129 5 (by unfold Only; omega)).trans f11230
          have f11242 : arI g11236 150 = upd (arI g0 150) cl.toNatClampNeg co := (e2.2.1 150 (by unfold Only; omega)).trans f11231
          have f11243 : fld g11236 129 3 = .int z11204 := (e2.1 129 3 (by unfold Only; omega)).trans f11232
          have f11244 : fld g11236 129 9 = .int (0 : Int32) := (e2.1 129 9 (by unfold Only; omega)).trans f11233
          have f11245 : fld g11236 129 8 = .int (0 : Int32) := (e2.1 129 8 (by unfold Only; omega)).trans f11234
          have f11246 := e1
          rw [f11225] at f11246
          have hG := hG.st e1 e2 (rfl : rA 151 = (-2147483648, 2147483647)) (by have := i_rng co; omega) (by have := i_rng co; omega)
          refine q_aload_n hM dX12_clause_116 (lv_at hl 1 rfl) ?_
          refine q_callV (As := []) (rest := []) hM hW.1 hR hC myX12_isGood (kAW (v_5_8 (List.mem_of_getElem? (i := 11) rfl)) rfl) (rfl : vwCl[12]? = some (RX12, TX12, 86)) rfl lb_129.1 (shO hW.2.1 lb_129) (a_X12_isGood _ _ cA ad g11236 v11172 hW.2.1 hG f11241) ⟨by decide, by decide⟩ rfl rfl hl.1 (Nat.le_of_ble_eq_true rfl) dX12_clause_117 (fun v g11248 H locs hp hW1 => ?_)
          obtain ⟨r11247, rfl, hr11247, rfl⟩ := hp
          have hW : WS ad cA (fun i k => (i = 129 ∧ (k = 3 ∨ k = 5 ∨ k = 6 ∨ k = 7 ∨ k = 8 ∨ k = 9 ∨ k = 39 ∨ k = 40)) ∨ (149 ≤ i ∧ i < 156)) g0 K g11236 H locs := ⟨hW1, hW.2.1, hW.2.2⟩
          refine q_if_eq (tgt := 127) hM dX12_clause_120 (by decide) (rfl : r11247.toInt = r11247.toInt) (fun h120 => ?_) (fun h120 => ?_)
          · refine q_aload_n hM dX12_clause_127 (lv_at hl 1 rfl) ?_
            refine w_get (v := .ref (ad 152)) hM hW FG_X12_82 lb_129 (rf_129_36 hW.2.1) dX12_clause_128 ?_
            refine q_aload_n hM dX12_clause_131 (lv_at hl 1 rfl) ?_
            refine w_get (v := .int cl) hM hW FG_X12_351 lb_129 f11239 dX12_clause_132 ?_
            have bcl := hG.f f11239 rF_129_6 (by decide)
            refine q_aload_n hM dX12_clause_135 (lv_at hl 1 rfl) ?_
            refine w_get (v := .int co) hM hW FG_X12_278 lb_129 f11240 dX12_clause_136 ?_
            have bco := hG.f f11240 rF_129_7 (by decide)
            refine w_iast hM hW lb_152 (by omega) (i_in (by omega) (by omega)) dX12_clause_139 (fun g11250 H locs hW e1 e2 => ?_)
            have f11251 : arI g11250 153 = arI g0 153 := (e2.2.1 153 (by unfold Only; omega)).trans f11238
            have f11252 : fld g11250 129 6 = .int cl := (e2.1 129 6 (by unfold Only; omega)).trans f11239
            have f11253 : fld g11250 129 7 = .int co := (e2.1 129 7 (by unfold Only; omega)).trans f11240
            have f11254 : fld g11250 129 5 = .int v11172 := (e2.1 129 5 (by unfold Only; omega)).trans f11241
            have f11255 : arI g11250 150 = upd (arI g0 150) cl.toNatClampNeg co := (e2.2.1 150 (by unfold Only; omega)).trans f11242
            have f11256 : fld g11250 129 3 = .int z11204 := (e2.1 129 3 (by unfold Only; omega)).trans f11243
            have f11257 : fld g11250 129 9 = .int (0 : Int32) := (e2.1 129 9 (by unfold Only; omega)).trans f11244
            have f11258 : fld g11250 129 8 = .int (0 : Int32) := (e2.1 129 8 (by unfold Only; omega)).trans f11245
            have f11259 : arI g11250 151 = upd (arI g0 151) cl.toNatClampNeg co := (e2.2.1 151 (by unfold Only; omega)).trans f11246
            have f11260 := e1
            rw [f11237] at f11260
            have hG := hG.st e1 e2 (rfl : rA 152 = (-2147483648, 2147483647)) (by have := i_rng co; omega) (by have := i_rng co; omega)
            refine q_aload_n hM dX12_clause_140 (lv_at hl 1 rfl) ?_
            refine q_dup hM dX12_clause_141 rfl ?_
            refine w_get (v := .int cl) hM hW FG_X12_351 lb_129 f11252 dX12_clause_142 ?_
            have bcl := hG.f f11252 rF_129_6 (by decide)
            refine q_iconst (v := (1 : Int32)) hM dX12_clause_145 (by decide) ?_
            refine q_iadd hM dX12_clause_146 (fun z11261 hz11261 => ?_)
            first | have tz11261 := i_addT hz11261 (rfl : cl.toInt = cl.toInt) (kc_1 : (1 : Int32).toInt = 1) (by omega) (by omega) | skip
            refine w_put hM hW FP_X12_351 lb_129 (by omega) (Or.inl ⟨_, rfl⟩) rfl rfl dX12_clause_147 (fun g11262 H locs hW e1 e2 => ?_)
            have f11263 : arI g11262 153 = arI g0 153 := (e2.2.1 153 (by unfold Only; omega)).trans f11251
            have f11264 : fld g11262 129 7 = .int co := (e2.1 129 7 (by unfold Only; omega)).trans f11253
            have f11265 : fld g11262 129 5 = .int v11172 := (e2.1 129 5 (by unfold Only; omega)).trans f11254
            have f11266 : arI g11262 150 = upd (arI g0 150) cl.toNatClampNeg co := (e2.2.1 150 (by unfold Only; omega)).trans f11255
            have f11267 : fld g11262 129 3 = .int z11204 := (e2.1 129 3 (by unfold Only; omega)).trans f11256
            have f11268 : fld g11262 129 9 = .int (0 : Int32) := (e2.1 129 9 (by unfold Only; omega)).trans f11257
            have f11269 : fld g11262 129 8 = .int (0 : Int32) := (e2.1 129 8 (by unfold Only; omega)).trans f11258
            have f11270 : arI g11262 151 = upd (arI g0 151) cl.toNatClampNeg co := (e2.2.1 151 (by unfold Only; omega)).trans f11259
            have f11271 : arI g11262 152 = upd (arI g0 152) cl.toNatClampNeg co := (e2.2.1 152 (by unfold Only; omega)).trans f11260
            have f11272 : fld g11262 129 6 = .int z11261 := e1
            have hG := hG.put e1 e2 rF_129_6 (by decide) (by have := i_rng z11261; omega) (by have := i_rng z11261; omega)
            exact hE _ _ _ _ _ hW.1 ⟨z11204, v11172, co, z11261, rfl, hW.2.1, hG, hW.2.2, f11267, f11265, f11264, f11272, (by omega), (by omega), (by omega), (by omega), (by omega), (by omega), (fun q => absurd q (by omega))⟩ dX12_clause_150
          · refine q_aload_n hM dX12_clause_123 (lv_at hl 1 rfl) ?_
            refine q_callV (As := []) (rest := []) hM hW.1 hR hC myX12_condition (kAW (v_6_0 (List.mem_of_getElem? (i := 4) rfl)) rfl) (rfl : vwCl[12]? = some (RX12, TX12, 86)) rfl lb_129.1 (shO hW.2.1 lb_129) (a_X12_condition _ _ cA ad g11236 z11204 en v11172 co (0 : Int32) (0 : Int32) (co.toInt, arI g0 153) hW.2.1 hG f11243 ((hW.2.2.1 129 4 (by omega)).trans h_en) f11241 f11240 f11244 f11245 (by have := kc_0; have := kc_0; omega) (by have := kc_0; have := kc_0; omega) (by have := kc_0; have := kc_0; omega) (by have := kc_0; have := kc_0; omega) (by have := kc_0; have := kc_0; omega) (by have := kc_0; have := kc_0; omega) (by have := kc_0; have := kc_0; omega) (by have := kc_0; have := kc_0; omega) (by rw [f11238, kc_0]; exact JJ_0 (by omega))) ⟨by decide, by decide⟩ rfl rfl hl.1 (Nat.le_of_ble_eq_true rfl) dX12_clause_124 (fun v g11293 H locs hp hW1 => ?_)
            obtain ⟨v11274, v11275, v11276, v11277, v11278, rfl, hs1, hG, hf1, q11279, q11280, q11281, q11282, q11283, e11284, e11285, e11286, e11287, e11288, e11289, e11290, e11291, e11292⟩ := hp
            have f11294 : arI g11293 152 = arI g0 152 := (hf1.2.1 152 (by omega)).trans f11237
            have f11295 : fld g11293 129 6 = .int cl := (hf1.1 129 6 (by omega)).trans f11239
            have f11296 : arI g11293 150 = upd (arI g0 150) cl.toNatClampNeg co := (hf1.2.1 150 (by omega)).trans f11242
            have f11297 : arI g11293 151 = upd (arI g0 151) cl.toNatClampNeg co := (hf1.2.1 151 (by omega)).trans f11246
            have hW : WS ad cA (fun i k => (i = 129 ∧ (k = 3 ∨ k = 5 ∨ k = 6 ∨ k = 7 ∨ k = 8 ∨ k = 9 ∨ k = 39 ∨ k = 40)) ∨ (149 ≤ i ∧ i < 156)) g0 K g11293 H locs := ⟨hW1, hs1, hW.2.2.tr hf1 (fun i k h => h.elim (fun h => (Or.inl (by omega))) (fun h => h.elim (fun h => (Or.inr (by omega))) (fun h => h.elim (fun h => (Or.inr (by omega))) (fun h => (Or.inr (by omega))))))⟩
            refine q_aload_n hM dX12_clause_127 (lv_at hl 1 rfl) ?_
            refine w_get (v := .ref (ad 152)) hM hW FG_X12_82 lb_129 (rf_129_36 hW.2.1) dX12_clause_128 ?_
            refine q_aload_n hM dX12_clause_131 (lv_at hl 1 rfl) ?_
            refine w_get (v := .int cl) hM hW FG_X12_351 lb_129 f11295 dX12_clause_132 ?_
            have bcl := hG.f f11295 rF_129_6 (by decide)
            refine q_aload_n hM dX12_clause_135 (lv_at hl 1 rfl) ?_
            refine w_get (v := .int v11276) hM hW FG_X12_278 lb_129 q11281 dX12_clause_136 ?_
            have bv11276 := hG.f q11281 rF_129_7 (by decide)
            refine w_iast hM hW lb_152 (by omega) (i_in (by omega) (by omega)) dX12_clause_139 (fun g11298 H locs hW e1 e2 => ?_)
            have f11299 : fld g11298 129 6 = .int cl := (e2.1 129 6 (by unfold Only; omega)).trans f11295
            have f11300 : arI g11298 150 = upd (arI g0 150) cl.toNatClampNeg co := (e2.2.1 150 (by unfold Only; omega)).trans f11296
            have f11301 : arI g11298 151 = upd (arI g0 151) cl.toNatClampNeg co := (e2.2.1 151 (by unfold Only; omega)).trans f11297
            have f11302 : fld g11298 129 3 = .int v11274 := (e2.1 129 3 (by unfold Only; omega)).trans q11279
            have f11303 : fld g11298 129 5 = .int v11275 := (e2.1 129 5 (by unfold Only; omega)).trans q11280
            have f11304 : fld g11298 129 7 = .int v11276 := (e2.1 129 7 (by unfold Only; omega)).trans q11281
            have f11305 : fld g11298 129 9 = .int v11277 := (e2.1 129 9 (by unfold Only; omega)).trans q11282
            have f11306 : fld g11298 129 8 = .int v11278 := (e2.1 129 8 (by unfold Only; omega)).trans q11283
            have f11307 : arI g11298 153 = arI g11293 153 := (e2.2.1 153 (by unfold Only; omega)).trans (rfl : arI g11293 153 = arI g11293 153)
            have f11308 := e1
            rw [f11294] at f11308
            have hG := hG.st e1 e2 (rfl : rA 152 = (-2147483648, 2147483647)) (by have := i_rng v11276; omega) (by have := i_rng v11276; omega)
            refine q_aload_n hM dX12_clause_140 (lv_at hl 1 rfl) ?_
            refine q_dup hM dX12_clause_141 rfl ?_
            refine w_get (v := .int cl) hM hW FG_X12_351 lb_129 f11299 dX12_clause_142 ?_
            have bcl := hG.f f11299 rF_129_6 (by decide)
            refine q_iconst (v := (1 : Int32)) hM dX12_clause_145 (by decide) ?_
            refine q_iadd hM dX12_clause_146 (fun z11309 hz11309 => ?_)
            first | have tz11309 := i_addT hz11309 (rfl : cl.toInt = cl.toInt) (kc_1 : (1 : Int32).toInt = 1) (by omega) (by omega) | skip
            refine w_put hM hW FP_X12_351 lb_129 (by omega) (Or.inl ⟨_, rfl⟩) rfl rfl dX12_clause_147 (fun g11310 H locs hW e1 e2 => ?_)
            have f11311 : arI g11310 150 = upd (arI g0 150) cl.toNatClampNeg co := (e2.2.1 150 (by unfold Only; omega)).trans f11300
            have f11312 : arI g11310 151 = upd (arI g0 151) cl.toNatClampNeg co := (e2.2.1 151 (by unfold Only; omega)).trans f11301
            have f11313 : fld g11310 129 3 = .int v11274 := (e2.1 129 3 (by unfold Only; omega)).trans f11302
            have f11314 : fld g11310 129 5 = .int v11275 := (e2.1 129 5 (by unfold Only; omega)).trans f11303
            have f11315 : fld g11310 129 7 = .int v11276 := (e2.1 129 7 (by unfold Only; omega)).trans f11304
            have f11316 : fld g11310 129 9 = .int v11277 := (e2.1 129 9 (by unfold Only; omega)).trans f11305
            have f11317 : fld g11310 129 8 = .int v11278 := (e2.1 129 8 (by unfold Only; omega)).trans f11306
            have f11318 : arI g11310 153 = arI g11293 153 := (e2.2.1 153 (by unfold Only; omega)).trans f11307
            have f11319 : arI g11310 152 = upd (arI g0 152) cl.toNatClampNeg v11276 := (e2.2.1 152 (by unfold Only; omega)).trans f11308
            have f11320 : fld g11310 129 6 = .int z11309 := e1
            have hG := hG.put e1 e2 rF_129_6 (by decide) (by have := i_rng z11309; omega) (by have := i_rng z11309; omega)
            exact hE _ _ _ _ _ hW.1 ⟨v11274, v11275, v11276, z11309, rfl, hW.2.1, hG, hW.2.2, f11313, f11314, f11315, f11320, (by omega), (by omega), (by omega), (by omega), (by omega), (by omega), (fun q => by rw [f11311, f11312, f11319, f11318]; exact NA_step hNA rfl rfl rfl rfl (by omega) (by omega) rfl (by omega) (Int.le_refl _) (e11292 (by omega)).2.1 rfl vok_0 (e11292 (by omega)).2.2.2.1 (fun j hj => (e11292 (by omega)).2.2.2.2.2 j hj))⟩ dX12_clause_150
        · refine q_aload_n hM dX12_clause_99 (lv_at hl 1 rfl) ?_
          refine q_callV (As := []) (rest := []) hM hW.1 hR hC myX12_value (kAW (v_5_12 (List.mem_of_getElem? (i := 2) rfl)) rfl) (rfl : vwCl[12]? = some (RX12, TX12, 86)) rfl lb_129.1 (shO hW.2.1 lb_129) (a_X12_value _ _ cA ad g11224 z11204 en v11172 co (0 : Int32) (0 : Int32) (co.toInt, arI g0 153) hW.2.1 hG f11232 ((hW.2.2.1 129 4 (by omega)).trans h_en) f11230 f11229 f11233 f11234 (by have := kc_0; have := kc_0; omega) (by have := kc_0; have := kc_0; omega) (by have := kc_0; have := kc_0; omega) (by have := kc_0; have := kc_0; omega) (by have := kc_0; have := kc_0; omega) (by have := kc_0; have := kc_0; omega) (by have := kc_0; have := kc_0; omega) (by rw [f11227, kc_0]; exact JJ_0 (by omega)) (fun h9 _ => absurd h9 (by have := kc_0; omega))) ⟨by decide, by decide⟩ rfl rfl hl.1 (Nat.le_of_ble_eq_true rfl) dX12_clause_100 (fun v g11343 H locs hp hW1 => ?_)
          obtain ⟨v11322, v11323, v11324, v11325, v11326, rfl, hs1, hG, hf1, q11327, q11328, q11329, q11330, q11331, e11332, e11333, e11334, e11335, e11336, e11337, e11338, e11339, e11340, e11341, e11342⟩ := hp
          have f11344 : arI g11343 151 = arI g0 151 := (hf1.2.1 151 (by omega)).trans f11225
          have f11345 : arI g11343 152 = arI g0 152 := (hf1.2.1 152 (by omega)).trans f11226
          have f11346 : fld g11343 129 6 = .int cl := (hf1.1 129 6 (by omega)).trans f11228
          have f11347 : arI g11343 150 = upd (arI g0 150) cl.toNatClampNeg co := (hf1.2.1 150 (by omega)).trans f11231
          have hW : WS ad cA (fun i k => (i = 129 ∧ (k = 3 ∨ k = 5 ∨ k = 6 ∨ k = 7 ∨ k = 8 ∨ k = 9 ∨ k = 39 ∨ k = 40)) ∨ (149 ≤ i ∧ i < 156)) g0 K g11343 H locs := ⟨hW1, hs1, hW.2.2.tr hf1 (fun i k h => h.elim (fun h => (Or.inl (by omega))) (fun h => h.elim (fun h => (Or.inr (by omega))) (fun h => h.elim (fun h => (Or.inr (by omega))) (fun h => (Or.inr (by omega))))))⟩
          have := kc_0
          refine q_aload_n hM dX12_clause_103 (lv_at hl 1 rfl) ?_
          refine w_get (v := .ref (ad 151)) hM hW FG_X12_79 lb_129 (rf_129_35 hW.2.1) dX12_clause_104 ?_
          refine q_aload_n hM dX12_clause_107 (lv_at hl 1 rfl) ?_
          refine w_get (v := .int cl) hM hW FG_X12_351 lb_129 f11346 dX12_clause_108 ?_
          have bcl := hG.f f11346 rF_129_6 (by decide)
          refine q_aload_n hM dX12_clause_111 (lv_at hl 1 rfl) ?_
          refine w_get (v := .int v11324) hM hW FG_X12_278 lb_129 q11329 dX12_clause_112 ?_
          have bv11324 := hG.f q11329 rF_129_7 (by decide)
          refine w_iast hM hW lb_151 (by omega) (i_in (by omega) (by omega)) dX12_clause_115 (fun g11348 H locs hW e1 e2 => ?_)
          have f11349 : arI g11348 152 = arI g0 152 := (e2.2.1 152 (by unfold Only; omega)).trans f11345
          have f11350 : fld g11348 129 6 = .int cl := (e2.1 129 6 (by unfold Only; omega)).trans f11346
          have f11351 : arI g11348 150 = upd (arI g0 150) cl.toNatClampNeg co := (e2.2.1 150 (by unfold Only; omega)).trans f11347
          have f11352 : fld g11348 129 3 = .int v11322 := (e2.1 129 3 (by unfold Only; omega)).trans q11327
          have f11353 : fld g11348 129 5 = .int v11323 := (e2.1 129 5 (by unfold Only; omega)).trans q11328
          have f11354 : fld g11348 129 7 = .int v11324 := (e2.1 129 7 (by unfold Only; omega)).trans q11329
          have f11355 : fld g11348 129 9 = .int v11325 := (e2.1 129 9 (by unfold Only; omega)).trans q11330
          have f11356 : fld g11348 129 8 = .int v11326 := (e2.1 129 8 (by unfold Only; omega)).trans q11331
          have f11357 : arI g11348 153 = arI g11343 153 := (e2.2.1 153 (by unfold Only; omega)).trans (rfl : arI g11343 153 = arI g11343 153)
          have f11358 := e1
          rw [f11344] at f11358
          have hG := hG.st e1 e2 (rfl : rA 151 = (-2147483648, 2147483647)) (by have := i_rng v11324; omega) (by have := i_rng v11324; omega)
          refine q_aload_n hM dX12_clause_116 (lv_at hl 1 rfl) ?_
          refine q_callV (As := []) (rest := []) hM hW.1 hR hC myX12_isGood (kAW (v_5_8 (List.mem_of_getElem? (i := 11) rfl)) rfl) (rfl : vwCl[12]? = some (RX12, TX12, 86)) rfl lb_129.1 (shO hW.2.1 lb_129) (a_X12_isGood _ _ cA ad g11348 v11323 hW.2.1 hG f11353) ⟨by decide, by decide⟩ rfl rfl hl.1 (Nat.le_of_ble_eq_true rfl) dX12_clause_117 (fun v g11360 H locs hp hW1 => ?_)
          obtain ⟨r11359, rfl, hr11359, rfl⟩ := hp
          have hW : WS ad cA (fun i k => (i = 129 ∧ (k = 3 ∨ k = 5 ∨ k = 6 ∨ k = 7 ∨ k = 8 ∨ k = 9 ∨ k = 39 ∨ k = 40)) ∨ (149 ≤ i ∧ i < 156)) g0 K g11348 H locs := ⟨hW1, hW.2.1, hW.2.2⟩
          refine q_if_eq (tgt := 127) hM dX12_clause_120 (by decide) (rfl : r11359.toInt = r11359.toInt) (fun h120 => ?_) (fun h120 => ?_)
          · refine q_aload_n hM dX12_clause_127 (lv_at hl 1 rfl) ?_
            refine w_get (v := .ref (ad 152)) hM hW FG_X12_82 lb_129 (rf_129_36 hW.2.1) dX12_clause_128 ?_
            refine q_aload_n hM dX12_clause_131 (lv_at hl 1 rfl) ?_
            refine w_get (v := .int cl) hM hW FG_X12_351 lb_129 f11350 dX12_clause_132 ?_
            have bcl := hG.f f11350 rF_129_6 (by decide)
            refine q_aload_n hM dX12_clause_135 (lv_at hl 1 rfl) ?_
            refine w_get (v := .int v11324) hM hW FG_X12_278 lb_129 f11354 dX12_clause_136 ?_
            have bv11324 := hG.f f11354 rF_129_7 (by decide)
            refine w_iast hM hW lb_152 (by omega) (i_in (by omega) (by omega)) dX12_clause_139 (fun g11362 H locs hW e1 e2 => ?_)
            have f11363 : fld g11362 129 6 = .int cl := (e2.1 129 6 (by unfold Only; omega)).trans f11350
            have f11364 : arI g11362 150 = upd (arI g0 150) cl.toNatClampNeg co := (e2.2.1 150 (by unfold Only; omega)).trans f11351
            have f11365 : fld g11362 129 3 = .int v11322 := (e2.1 129 3 (by unfold Only; omega)).trans f11352
            have f11366 : fld g11362 129 5 = .int v11323 := (e2.1 129 5 (by unfold Only; omega)).trans f11353
            have f11367 : fld g11362 129 7 = .int v11324 := (e2.1 129 7 (by unfold Only; omega)).trans f11354
            have f11368 : fld g11362 129 9 = .int v11325 := (e2.1 129 9 (by unfold Only; omega)).trans f11355
            have f11369 : fld g11362 129 8 = .int v11326 := (e2.1 129 8 (by unfold Only; omega)).trans f11356
            have f11370 : arI g11362 153 = arI g11343 153 := (e2.2.1 153 (by unfold Only; omega)).trans f11357
            have f11371 : arI g11362 151 = upd (arI g0 151) cl.toNatClampNeg v11324 := (e2.2.1 151 (by unfold Only; omega)).trans f11358
            have f11372 := e1
            rw [f11349] at f11372
            have hG := hG.st e1 e2 (rfl : rA 152 = (-2147483648, 2147483647)) (by have := i_rng v11324; omega) (by have := i_rng v11324; omega)
            refine q_aload_n hM dX12_clause_140 (lv_at hl 1 rfl) ?_
            refine q_dup hM dX12_clause_141 rfl ?_
            refine w_get (v := .int cl) hM hW FG_X12_351 lb_129 f11363 dX12_clause_142 ?_
            have bcl := hG.f f11363 rF_129_6 (by decide)
            refine q_iconst (v := (1 : Int32)) hM dX12_clause_145 (by decide) ?_
            refine q_iadd hM dX12_clause_146 (fun z11373 hz11373 => ?_)
            first | have tz11373 := i_addT hz11373 (rfl : cl.toInt = cl.toInt) (kc_1 : (1 : Int32).toInt = 1) (by omega) (by omega) | skip
            refine w_put hM hW FP_X12_351 lb_129 (by omega) (Or.inl ⟨_, rfl⟩) rfl rfl dX12_clause_147 (fun g11374 H locs hW e1 e2 => ?_)
            have f11375 : arI g11374 150 = upd (arI g0 150) cl.toNatClampNeg co := (e2.2.1 150 (by unfold Only; omega)).trans f11364
            have f11376 : fld g11374 129 3 = .int v11322 := (e2.1 129 3 (by unfold Only; omega)).trans f11365
            have f11377 : fld g11374 129 5 = .int v11323 := (e2.1 129 5 (by unfold Only; omega)).trans f11366
            have f11378 : fld g11374 129 7 = .int v11324 := (e2.1 129 7 (by unfold Only; omega)).trans f11367
            have f11379 : fld g11374 129 9 = .int v11325 := (e2.1 129 9 (by unfold Only; omega)).trans f11368
            have f11380 : fld g11374 129 8 = .int v11326 := (e2.1 129 8 (by unfold Only; omega)).trans f11369
            have f11381 : arI g11374 153 = arI g11343 153 := (e2.2.1 153 (by unfold Only; omega)).trans f11370
            have f11382 : arI g11374 151 = upd (arI g0 151) cl.toNatClampNeg v11324 := (e2.2.1 151 (by unfold Only; omega)).trans f11371
            have f11383 : arI g11374 152 = upd (arI g0 152) cl.toNatClampNeg v11324 := (e2.2.1 152 (by unfold Only; omega)).trans f11372
            have f11384 : fld g11374 129 6 = .int z11373 := e1
            have hG := hG.put e1 e2 rF_129_6 (by decide) (by have := i_rng z11373; omega) (by have := i_rng z11373; omega)
            exact hE _ _ _ _ _ hW.1 ⟨v11322, v11323, v11324, z11373, rfl, hW.2.1, hG, hW.2.2, f11376, f11377, f11378, f11384, (by omega), (by omega), (by omega), (by omega), (by omega), (by omega), (fun q => absurd q (by omega))⟩ dX12_clause_150
          · refine q_aload_n hM dX12_clause_123 (lv_at hl 1 rfl) ?_
            refine q_callV (As := []) (rest := []) hM hW.1 hR hC myX12_condition (kAW (v_6_0 (List.mem_of_getElem? (i := 4) rfl)) rfl) (rfl : vwCl[12]? = some (RX12, TX12, 86)) rfl lb_129.1 (shO hW.2.1 lb_129) (a_X12_condition _ _ cA ad g11348 v11322 en v11323 v11324 v11325 v11326 (v11324.toInt, arI g11343 153) hW.2.1 hG f11352 ((hW.2.2.1 129 4 (by omega)).trans h_en) f11353 f11354 f11355 f11356 (by  omega) (by  omega) (by  omega) (by  omega) (by  omega) (by  omega) (by  omega) (by  omega) (by rw [f11357, show v11325.toInt = 0 by omega]; exact JJ_0 (by omega))) ⟨by decide, by decide⟩ rfl rfl hl.1 (Nat.le_of_ble_eq_true rfl) dX12_clause_124 (fun v g11405 H locs hp hW1 => ?_)
            obtain ⟨v11386, v11387, v11388, v11389, v11390, rfl, hs1, hG, hf1, q11391, q11392, q11393, q11394, q11395, e11396, e11397, e11398, e11399, e11400, e11401, e11402, e11403, e11404⟩ := hp
            have f11406 : arI g11405 152 = arI g0 152 := (hf1.2.1 152 (by omega)).trans f11349
            have f11407 : fld g11405 129 6 = .int cl := (hf1.1 129 6 (by omega)).trans f11350
            have f11408 : arI g11405 150 = upd (arI g0 150) cl.toNatClampNeg co := (hf1.2.1 150 (by omega)).trans f11351
            have f11409 : arI g11405 151 = upd (arI g0 151) cl.toNatClampNeg v11324 := (hf1.2.1 151 (by omega)).trans f11358
            have hW : WS ad cA (fun i k => (i = 129 ∧ (k = 3 ∨ k = 5 ∨ k = 6 ∨ k = 7 ∨ k = 8 ∨ k = 9 ∨ k = 39 ∨ k = 40)) ∨ (149 ≤ i ∧ i < 156)) g0 K g11405 H locs := ⟨hW1, hs1, hW.2.2.tr hf1 (fun i k h => h.elim (fun h => (Or.inl (by omega))) (fun h => h.elim (fun h => (Or.inr (by omega))) (fun h => h.elim (fun h => (Or.inr (by omega))) (fun h => (Or.inr (by omega))))))⟩
            refine q_aload_n hM dX12_clause_127 (lv_at hl 1 rfl) ?_
            refine w_get (v := .ref (ad 152)) hM hW FG_X12_82 lb_129 (rf_129_36 hW.2.1) dX12_clause_128 ?_
            refine q_aload_n hM dX12_clause_131 (lv_at hl 1 rfl) ?_
            refine w_get (v := .int cl) hM hW FG_X12_351 lb_129 f11407 dX12_clause_132 ?_
            have bcl := hG.f f11407 rF_129_6 (by decide)
            refine q_aload_n hM dX12_clause_135 (lv_at hl 1 rfl) ?_
            refine w_get (v := .int v11388) hM hW FG_X12_278 lb_129 q11393 dX12_clause_136 ?_
            have bv11388 := hG.f q11393 rF_129_7 (by decide)
            refine w_iast hM hW lb_152 (by omega) (i_in (by omega) (by omega)) dX12_clause_139 (fun g11410 H locs hW e1 e2 => ?_)
            have f11411 : fld g11410 129 6 = .int cl := (e2.1 129 6 (by unfold Only; omega)).trans f11407
            have f11412 : arI g11410 150 = upd (arI g0 150) cl.toNatClampNeg co := (e2.2.1 150 (by unfold Only; omega)).trans f11408
            have f11413 : arI g11410 151 = upd (arI g0 151) cl.toNatClampNeg v11324 := (e2.2.1 151 (by unfold Only; omega)).trans f11409
            have f11414 : fld g11410 129 3 = .int v11386 := (e2.1 129 3 (by unfold Only; omega)).trans q11391
            have f11415 : fld g11410 129 5 = .int v11387 := (e2.1 129 5 (by unfold Only; omega)).trans q11392
            have f11416 : fld g11410 129 7 = .int v11388 := (e2.1 129 7 (by unfold Only; omega)).trans q11393
            have f11417 : fld g11410 129 9 = .int v11389 := (e2.1 129 9 (by unfold Only; omega)).trans q11394
            have f11418 : fld g11410 129 8 = .int v11390 := (e2.1 129 8 (by unfold Only; omega)).trans q11395
            have f11419 : arI g11410 153 = arI g11405 153 := (e2.2.1 153 (by unfold Only; omega)).trans (rfl : arI g11405 153 = arI g11405 153)
            have f11420 := e1
            rw [f11406] at f11420
            have hG := hG.st e1 e2 (rfl : rA 152 = (-2147483648, 2147483647)) (by have := i_rng v11388; omega) (by have := i_rng v11388; omega)
            refine q_aload_n hM dX12_clause_140 (lv_at hl 1 rfl) ?_
            refine q_dup hM dX12_clause_141 rfl ?_
            refine w_get (v := .int cl) hM hW FG_X12_351 lb_129 f11411 dX12_clause_142 ?_
            have bcl := hG.f f11411 rF_129_6 (by decide)
            refine q_iconst (v := (1 : Int32)) hM dX12_clause_145 (by decide) ?_
            refine q_iadd hM dX12_clause_146 (fun z11421 hz11421 => ?_)
            first | have tz11421 := i_addT hz11421 (rfl : cl.toInt = cl.toInt) (kc_1 : (1 : Int32).toInt = 1) (by omega) (by omega) | skip
            refine w_put hM hW FP_X12_351 lb_129 (by omega) (Or.inl ⟨_, rfl⟩) rfl rfl dX12_clause_147 (fun g11422 H locs hW e1 e2 => ?_)
            have f11423 : arI g11422 150 = upd (arI g0 150) cl.toNatClampNeg co := (e2.2.1 150 (by unfold Only; omega)).trans f11412
            have f11424 : arI g11422 151 = upd (arI g0 151) cl.toNatClampNeg v11324 := (e2.2.1 151 (by unfold Only; omega)).trans f11413
            have f11425 : fld g11422 129 3 = .int v11386 := (e2.1 129 3 (by unfold Only; omega)).trans f11414
            have f11426 : fld g11422 129 5 = .int v11387 := (e2.1 129 5 (by unfold Only; omega)).trans f11415
            have f11427 : fld g11422 129 7 = .int v11388 := (e2.1 129 7 (by unfold Only; omega)).trans f11416
            have f11428 : fld g11422 129 9 = .int v11389 := (e2.1 129 9 (by unfold Only; omega)).trans f11417
            have f11429 : fld g11422 129 8 = .int v11390 := (e2.1 129 8 (by unfold Only; omega)).trans f11418
            have f11430 : arI g11422 153 = arI g11405 153 := (e2.2.1 153 (by unfold Only; omega)).trans f11419
            have f11431 : arI g11422 152 = upd (arI g0 152) cl.toNatClampNeg v11388 := (e2.2.1 152 (by unfold Only; omega)).trans f11420
            have f11432 : fld g11422 129 6 = .int z11421 := e1
            have hG := hG.put e1 e2 rF_129_6 (by decide) (by have := i_rng z11421; omega) (by have := i_rng z11421; omega)
            exact hE _ _ _ _ _ hW.1 ⟨v11386, v11387, v11388, z11421, rfl, hW.2.1, hG, hW.2.2, f11425, f11426, f11427, f11432, (by omega), (by omega), (by omega), (by omega), (by omega), (by omega), (fun q => by rw [f11423, f11424, f11431, f11430]; exact NA_step hNA rfl rfl rfl rfl (by omega) (by omega) rfl (by omega) (e11341 (by omega)).2.1 (e11404 (by omega)).2.1 rfl (vok_eq (fun j hj => (e11404 (by omega)).2.2.2.2.2 _ (by show ((_ : Nat) : Int) < v11324.toInt; have := (e11341 (by omega)).2.1; omega)) (e11341 (by omega)).2.2.2.1) (e11404 (by omega)).2.2.2.1 (fun j hj => ((e11404 (by omega)).2.2.2.2.2 j (by show ((_ : Nat) : Int) < v11324.toInt; have z9 : co.toInt ≤ v11324.toInt := (e11341 (by omega)).2.1; omega)).trans ((e11341 (by omega)).2.2.2.2.2 j hj)))⟩ dX12_clause_150
      · exact hE _ _ _ _ _ hW.1 ⟨pl, v11172, co, cl, rfl, hW.2.1, hG, hW.2.2, f11180, q11173, f11182, f11181, (by omega), (by omega), (by omega), (by omega), (by omega), (by omega), (fun q => absurd q (by omega))⟩ dX12_clause_49
  · refine q_aload_n hM dX12_clause_12 (lv_at hl 1 rfl) ?_
    refine q_iconst (v := (1 : Int32)) hM dX12_clause_13 (by decide) ?_
    refine q_aload_n hM dX12_clause_14 (lv_at hl 1 rfl) ?_
    refine w_get (v := .int pl) hM hW FG_X12_173 lb_129 f10910 dX12_clause_15 ?_
    have bpl := hG.f f10910 rF_129_3 (by decide)
    refine q_callV (As := [.int (1 : Int32), .int pl]) (rest := []) hM hW.1 hR hC myX12_wrongs (kAW (v_5_9 (List.mem_of_getElem? (i := 11) rfl)) rfl) (rfl : vwCl[12]? = some (RX12, TX12, 86)) rfl lb_129.1 (shO hW.2.1 lb_129) (a_X12_wrongs _ _ cA ad g0 (1 : Int32) pl bd hW.2.1 hG f10911 (by have := kc_1; omega) (by have := kc_1; omega) (by have := kc_1; omega) (by have := kc_1; omega)) ⟨by decide, by decide⟩ rfl rfl hl.1 (Nat.le_of_ble_eq_true rfl) dX12_clause_18 (fun v g11438 H locs hp hW1 => ?_)
    obtain ⟨v11435, rfl, hs1, hG, hf1, q11436, e11437⟩ := hp
    have f11439 : arI g11438 150 = arI g0 150 := (hf1.2.1 150 (by omega)).trans (rfl : arI g0 150 = arI g0 150)
    have f11440 : arI g11438 151 = arI g0 151 := (hf1.2.1 151 (by omega)).trans (rfl : arI g0 151 = arI g0 151)
    have f11441 : arI g11438 152 = arI g0 152 := (hf1.2.1 152 (by omega)).trans (rfl : arI g0 152 = arI g0 152)
    have f11442 : arI g11438 153 = arI g0 153 := (hf1.2.1 153 (by omega)).trans (rfl : arI g0 153 = arI g0 153)
    have f11443 : fld g11438 129 3 = .int pl := (hf1.1 129 3 (by omega)).trans f10910
    have f11444 : fld g11438 129 6 = .int cl := (hf1.1 129 6 (by omega)).trans f10912
    have f11445 : fld g11438 129 7 = .int co := (hf1.1 129 7 (by omega)).trans f10913
    have hW : WS ad cA (fun i k => (i = 129 ∧ (k = 3 ∨ k = 5 ∨ k = 6 ∨ k = 7 ∨ k = 8 ∨ k = 9 ∨ k = 39 ∨ k = 40)) ∨ (149 ≤ i ∧ i < 156)) g0 K g11438 H locs := ⟨hW1, hs1, hW.2.2.tr hf1 (fun i k h => (Or.inl (by omega)))⟩
    refine q_goto (tgt := 42) hM dX12_clause_21 (by decide) ?_
    refine q_aload_n hM dX12_clause_42 (lv_at hl 1 rfl) ?_
    refine q_callV (As := []) (rest := []) hM hW.1 hR hC myX12_isGood (kAW (v_5_8 (List.mem_of_getElem? (i := 11) rfl)) rfl) (rfl : vwCl[12]? = some (RX12, TX12, 86)) rfl lb_129.1 (shO hW.2.1 lb_129) (a_X12_isGood _ _ cA ad g11438 v11435 hW.2.1 hG q11436) ⟨by decide, by decide⟩ rfl rfl hl.1 (Nat.le_of_ble_eq_true rfl) dX12_clause_43 (fun v g11447 H locs hp hW1 => ?_)
    obtain ⟨r11446, rfl, hr11446, rfl⟩ := hp
    have hW : WS ad cA (fun i k => (i = 129 ∧ (k = 3 ∨ k = 5 ∨ k = 6 ∨ k = 7 ∨ k = 8 ∨ k = 9 ∨ k = 39 ∨ k = 40)) ∨ (149 ≤ i ∧ i < 156)) g0 K g11438 H locs := ⟨hW1, hW.2.1, hW.2.2⟩
    refine q_if_ne (tgt := 50) hM dX12_clause_46 (by decide) (rfl : r11446.toInt = r11446.toInt) (fun h46 => ?_) (fun h46 => ?_)
    · refine q_aload_n hM dX12_clause_50 (lv_at hl 1 rfl) ?_
      refine w_get (v := .ref (ad 149)) hM hW FG_X12_73 lb_129 (rf_129_33 hW.2.1) dX12_clause_51 ?_
      refine q_aload_n hM dX12_clause_54 (lv_at hl 1 rfl) ?_
      refine w_get (v := .int cl) hM hW FG_X12_351 lb_129 f11444 dX12_clause_55 ?_
      have bcl := hG.f f11444 rF_129_6 (by decide)
      refine q_iload_n hM dX12_clause_58 (lv_at hl 0 rfl) ?_
      refine w_iast hM hW lb_149 (by omega) (i_in (by omega) (by omega)) dX12_clause_59 (fun g11449 H locs hW e1 e2 => ?_)
      have f11450 : arI g11449 150 = arI g0 150 := (e2.2.1 150 (by unfold Only; omega)).trans f11439
      have f11451 : arI g11449 151 = arI g0 151 := (e2.2.1 151 (by unfold Only; omega)).trans f11440
      have f11452 : arI g11449 152 = arI g0 152 := (e2.2.1 152 (by unfold Only; omega)).trans f11441
      have f11453 : arI g11449 153 = arI g0 153 := (e2.2.1 153 (by unfold Only; omega)).trans f11442
      have f11454 : fld g11449 129 3 = .int pl := (e2.1 129 3 (by unfold Only; omega)).trans f11443
      have f11455 : fld g11449 129 6 = .int cl := (e2.1 129 6 (by unfold Only; omega)).trans f11444
      have f11456 : fld g11449 129 7 = .int co := (e2.1 129 7 (by unfold Only; omega)).trans f11445
      have f11457 : fld g11449 129 5 = .int v11435 := (e2.1 129 5 (by unfold Only; omega)).trans q11436
      have hG := hG.st e1 e2 (rfl : rA 149 = (-2147483648, 2147483647)) (by have := i_rng r10914; omega) (by have := i_rng r10914; omega)
      refine q_aload_n hM dX12_clause_60 (lv_at hl 1 rfl) ?_
      refine w_get (v := .ref (ad 150)) hM hW FG_X12_76 lb_129 (rf_129_34 hW.2.1) dX12_clause_61 ?_
      refine q_aload_n hM dX12_clause_64 (lv_at hl 1 rfl) ?_
      refine w_get (v := .int cl) hM hW FG_X12_351 lb_129 f11455 dX12_clause_65 ?_
      have bcl := hG.f f11455 rF_129_6 (by decide)
      refine q_aload_n hM dX12_clause_68 (lv_at hl 1 rfl) ?_
      refine w_get (v := .int co) hM hW FG_X12_278 lb_129 f11456 dX12_clause_69 ?_
      have bco := hG.f f11456 rF_129_7 (by decide)
      refine w_iast hM hW lb_150 (by omega) (i_in (by omega) (by omega)) dX12_clause_72 (fun g11458 H locs hW e1 e2 => ?_)
      have f11459 : arI g11458 151 = arI g0 151 := (e2.2.1 151 (by unfold Only; omega)).trans f11451
      have f11460 : arI g11458 152 = arI g0 152 := (e2.2.1 152 (by unfold Only; omega)).trans f11452
      have f11461 : arI g11458 153 = arI g0 153 := (e2.2.1 153 (by unfold Only; omega)).trans f11453
      have f11462 : fld g11458 129 3 = .int pl := (e2.1 129 3 (by unfold Only; omega)).trans f11454
      have f11463 : fld g11458 129 6 = .int cl := (e2.1 129 6 (by unfold Only; omega)).trans f11455
      have f11464 : fld g11458 129 7 = .int co := (e2.1 129 7 (by unfold Only; omega)).trans f11456
      have f11465 : fld g11458 129 5 = .int v11435 := (e2.1 129 5 (by unfold Only; omega)).trans f11457
      have f11466 := e1
      rw [f11450] at f11466
      have hG := hG.st e1 e2 (rfl : rA 150 = (-2147483648, 2147483647)) (by have := i_rng co; omega) (by have := i_rng co; omega)
      refine q_aload_n hM dX12_clause_73 (lv_at hl 1 rfl) ?_
      refine q_dup hM dX12_clause_74 rfl ?_
      refine w_get (v := .int pl) hM hW FG_X12_173 lb_129 f11462 dX12_clause_75 ?_
      have bpl := hG.f f11462 rF_129_3 (by decide)
      refine q_iconst (v := (1 : Int32)) hM dX12_clause_78 (by decide) ?_
      refine q_iadd hM dX12_clause_79 (fun z11467 hz11467 => ?_)
      first | have tz11467 := i_addT hz11467 (rfl : pl.toInt = pl.toInt) (kc_1 : (1 : Int32).toInt = 1) (by omega) (by omega) | skip
      refine w_put hM hW FP_X12_173 lb_129 (by omega) (Or.inl ⟨_, rfl⟩) rfl rfl dX12_clause_80 (fun g11468 H locs hW e1 e2 => ?_)
      have f11469 : arI g11468 151 = arI g0 151 := (e2.2.1 151 (by unfold Only; omega)).trans f11459
      have f11470 : arI g11468 152 = arI g0 152 := (e2.2.1 152 (by unfold Only; omega)).trans f11460
      have f11471 : arI g11468 153 = arI g0 153 := (e2.2.1 153 (by unfold Only; omega)).trans f11461
      have f11472 : fld g11468 129 6 = .int cl := (e2.1 129 6 (by unfold Only; omega)).trans f11463
      have f11473 : fld g11468 129 7 = .int co := (e2.1 129 7 (by unfold Only; omega)).trans f11464
      have f11474 : fld g11468 129 5 = .int v11435 := (e2.1 129 5 (by unfold Only; omega)).trans f11465
      have f11475 : arI g11468 150 = upd (arI g0 150) cl.toNatClampNeg co := (e2.2.1 150 (by unfold Only; omega)).trans f11466
      have f11476 : fld g11468 129 3 = .int z11467 := e1
      have hG := hG.put e1 e2 rF_129_3 (by decide) (by have := i_rng z11467; omega) (by have := i_rng z11467; omega)
      refine q_aload_n hM dX12_clause_83 (lv_at hl 1 rfl) ?_
      refine q_iconst (v := (0 : Int32)) hM dX12_clause_84 (by decide) ?_
      refine w_put hM hW FP_X12_281 lb_129 (by omega) (Or.inl ⟨_, rfl⟩) rfl rfl dX12_clause_85 (fun g11477 H locs hW e1 e2 => ?_)
      have f11478 : arI g11477 151 = arI g0 151 := (e2.2.1 151 (by unfold Only; omega)).trans f11469
      have f11479 : arI g11477 152 = arI g0 152 := (e2.2.1 152 (by unfold Only; omega)).trans f11470
      have f11480 : arI g11477 153 = arI g0 153 := (e2.2.1 153 (by unfold Only; omega)).trans f11471
      have f11481 : fld g11477 129 6 = .int cl := (e2.1 129 6 (by unfold Only; omega)).trans f11472
      have f11482 : fld g11477 129 7 = .int co := (e2.1 129 7 (by unfold Only; omega)).trans f11473
      have f11483 : fld g11477 129 5 = .int v11435 := (e2.1 129 5 (by unfold Only; omega)).trans f11474
      have f11484 : arI g11477 150 = upd (arI g0 150) cl.toNatClampNeg co := (e2.2.1 150 (by unfold Only; omega)).trans f11475
      have f11485 : fld g11477 129 3 = .int z11467 := (e2.1 129 3 (by unfold Only; omega)).trans f11476
      have f11486 : fld g11477 129 9 = .int (0 : Int32) := e1
      have hG := hG.put e1 e2 rF_129_9 (by decide) (by have := kc_0; have := i_rng (0 : Int32); omega) (by have := kc_0; have := i_rng (0 : Int32); omega)
      refine q_aload_n hM dX12_clause_88 (lv_at hl 1 rfl) ?_
      refine q_iconst (v := (0 : Int32)) hM dX12_clause_89 (by decide) ?_
      refine w_put hM hW FP_X12_284 lb_129 (by omega) (Or.inl ⟨_, rfl⟩) rfl rfl dX12_clause_90 (fun g11487 H locs hW e1 e2 => ?_)
      have f11488 : arI g11487 151 = arI g0 151 := (e2.2.1 151 (by unfold Only; omega)).trans f11478
      have f11489 : arI g11487 152 = arI g0 152 := (e2.2.1 152 (by unfold Only; omega)).trans f11479
      have f11490 : arI g11487 153 = arI g0 153 := (e2.2.1 153 (by unfold Only; omega)).trans f11480
      have f11491 : fld g11487 129 6 = .int cl := (e2.1 129 6 (by unfold Only; omega)).trans f11481
      have f11492 : fld g11487 129 7 = .int co := (e2.1 129 7 (by unfold Only; omega)).trans f11482
      have f11493 : fld g11487 129 5 = .int v11435 := (e2.1 129 5 (by unfold Only; omega)).trans f11483
      have f11494 : arI g11487 150 = upd (arI g0 150) cl.toNatClampNeg co := (e2.2.1 150 (by unfold Only; omega)).trans f11484
      have f11495 : fld g11487 129 3 = .int z11467 := (e2.1 129 3 (by unfold Only; omega)).trans f11485
      have f11496 : fld g11487 129 9 = .int (0 : Int32) := (e2.1 129 9 (by unfold Only; omega)).trans f11486
      have f11497 : fld g11487 129 8 = .int (0 : Int32) := e1
      have hG := hG.put e1 e2 rF_129_8 (by decide) (by have := kc_0; have := i_rng (0 : Int32); omega) (by have := kc_0; have := i_rng (0 : Int32); omega)
      refine q_iload_n hM dX12_clause_93 (lv_at hl 0 rfl) ?_
      refine q_bipush (v := (120 : Int32)) hM dX12_clause_94 (by decide) ?_
      refine q_icmp_eq (tgt := 103) hM dX12_clause_96 (by decide) (rfl : r10914.toInt = r10914.toInt) (kc_120 : (120 : Int32).toInt = 120) (fun h96 => ?_) (fun h96 => ?_)
      · refine q_aload_n hM dX12_clause_103 (lv_at hl 1 rfl) ?_
        refine w_get (v := .ref (ad 151)) hM hW FG_X12_79 lb_129 (rf_129_35 hW.2.1) dX12_clause_104 ?_
        refine q_aload_n hM dX12_clause_107 (lv_at hl 1 rfl) ?_
        refine w_get (v := .int cl) hM hW FG_X12_351 lb_129 f11491 dX12_clause_108 ?_
        have bcl := hG.f f11491 rF_129_6 (by decide)
        refine q_aload_n hM dX12_clause_111 (lv_at hl 1 rfl) ?_
        refine w_get (v := .int co) hM hW FG_X12_278 lb_129 f11492 dX12_clause_112 ?_
        have bco := hG.f f11492 rF_129_7 (by decide)
        refine w_iast hM hW lb_151 (by omega) (i_in (by omega) (by omega)) dX12_clause_115 (fun g11499 H locs hW e1 e2 => ?_)
        have f11500 : arI g11499 152 = arI g0 152 := (e2.2.1 152 (by unfold Only; omega)).trans f11489
        have f11501 : arI g11499 153 = arI g0 153 := (e2.2.1 153 (by unfold Only; omega)).trans f11490
        have f11502 : fld g11499 129 6 = .int cl := (e2.1 129 6 (by unfold Only; omega)).trans f11491
        have f11503 : fld g11499 129 7 = .int co := (e2.1 129 7 (by unfold Only; omega)).trans f11492
        have f11504 : fld g11499 129 5 = .int v11435 := (e2.1 129 5 (by unfold Only; omega)).trans f11493
        have f11505 : arI g11499 150 = upd (arI g0 150) cl.toNatClampNeg co := (e2.2.1 150 (by unfold Only; omega)).trans f11494
        have f11506 : fld g11499 129 3 = .int z11467 := (e2.1 129 3 (by unfold Only; omega)).trans f11495
        have f11507 : fld g11499 129 9 = .int (0 : Int32) := (e2.1 129 9 (by unfold Only; omega)).trans f11496
        have f11508 : fld g11499 129 8 = .int (0 : Int32) := (e2.1 129 8 (by unfold Only; omega)).trans f11497
        have f11509 := e1
        rw [f11488] at f11509
        have hG := hG.st e1 e2 (rfl : rA 151 = (-2147483648, 2147483647)) (by have := i_rng co; omega) (by have := i_rng co; omega)
        refine q_aload_n hM dX12_clause_116 (lv_at hl 1 rfl) ?_
        refine q_callV (As := []) (rest := []) hM hW.1 hR hC myX12_isGood (kAW (v_5_8 (List.mem_of_getElem? (i := 11) rfl)) rfl) (rfl : vwCl[12]? = some (RX12, TX12, 86)) rfl lb_129.1 (shO hW.2.1 lb_129) (a_X12_isGood _ _ cA ad g11499 v11435 hW.2.1 hG f11504) ⟨by decide, by decide⟩ rfl rfl hl.1 (Nat.le_of_ble_eq_true rfl) dX12_clause_117 (fun v g11511 H locs hp hW1 => ?_)
        obtain ⟨r11510, rfl, hr11510, rfl⟩ := hp
        have hW : WS ad cA (fun i k => (i = 129 ∧ (k = 3 ∨ k = 5 ∨ k = 6 ∨ k = 7 ∨ k = 8 ∨ k = 9 ∨ k = 39 ∨ k = 40)) ∨ (149 ≤ i ∧ i < 156)) g0 K g11499 H locs := ⟨hW1, hW.2.1, hW.2.2⟩
        refine q_if_eq (tgt := 127) hM dX12_clause_120 (by decide) (rfl : r11510.toInt = r11510.toInt) (fun h120 => ?_) (fun h120 => ?_)
        · refine q_aload_n hM dX12_clause_127 (lv_at hl 1 rfl) ?_
          refine w_get (v := .ref (ad 152)) hM hW FG_X12_82 lb_129 (rf_129_36 hW.2.1) dX12_clause_128 ?_
          refine q_aload_n hM dX12_clause_131 (lv_at hl 1 rfl) ?_
          refine w_get (v := .int cl) hM hW FG_X12_351 lb_129 f11502 dX12_clause_132 ?_
          have bcl := hG.f f11502 rF_129_6 (by decide)
          refine q_aload_n hM dX12_clause_135 (lv_at hl 1 rfl) ?_
          refine w_get (v := .int co) hM hW FG_X12_278 lb_129 f11503 dX12_clause_136 ?_
          have bco := hG.f f11503 rF_129_7 (by decide)
          refine w_iast hM hW lb_152 (by omega) (i_in (by omega) (by omega)) dX12_clause_139 (fun g11513 H locs hW e1 e2 => ?_)
          have f11514 : arI g11513 153 = arI g0 153 := (e2.2.1 153 (by unfold Only; omega)).trans f11501
          have f11515 : fld g11513 129 6 = .int cl := (e2.1 129 6 (by unfold Only; omega)).trans f11502
          have f11516 : fld g11513 129 7 = .int co := (e2.1 129 7 (by unfold Only; omega)).trans f11503
          have f11517 : fld g11513 129 5 = .int v11435 := (e2.1 129 5 (by unfold Only; omega)).trans f11504
          have f11518 : arI g11513 150 = upd (arI g0 150) cl.toNatClampNeg co := (e2.2.1 150 (by unfold Only; omega)).trans f11505
          have f11519 : fld g11513 129 3 = .int z11467 := (e2.1 129 3 (by unfold Only; omega)).trans f11506
          have f11520 : fld g11513 129 9 = .int (0 : Int32) := (e2.1 129 9 (by unfold Only; omega)).trans f11507
          have f11521 : fld g11513 129 8 = .int (0 : Int32) := (e2.1 129 8 (by unfold Only; omega)).trans f11508
          have f11522 : arI g11513 151 = upd (arI g0 151) cl.toNatClampNeg co := (e2.2.1 151 (by unfold Only; omega)).trans f11509
          have f11523 := e1
          rw [f11500] at f11523
          have hG := hG.st e1 e2 (rfl : rA 152 = (-2147483648, 2147483647)) (by have := i_rng co; omega) (by have := i_rng co; omega)
          refine q_aload_n hM dX12_clause_140 (lv_at hl 1 rfl) ?_
          refine q_dup hM dX12_clause_141 rfl ?_
          refine w_get (v := .int cl) hM hW FG_X12_351 lb_129 f11515 dX12_clause_142 ?_
          have bcl := hG.f f11515 rF_129_6 (by decide)
          refine q_iconst (v := (1 : Int32)) hM dX12_clause_145 (by decide) ?_
          refine q_iadd hM dX12_clause_146 (fun z11524 hz11524 => ?_)
          first | have tz11524 := i_addT hz11524 (rfl : cl.toInt = cl.toInt) (kc_1 : (1 : Int32).toInt = 1) (by omega) (by omega) | skip
          refine w_put hM hW FP_X12_351 lb_129 (by omega) (Or.inl ⟨_, rfl⟩) rfl rfl dX12_clause_147 (fun g11525 H locs hW e1 e2 => ?_)
          have f11526 : arI g11525 153 = arI g0 153 := (e2.2.1 153 (by unfold Only; omega)).trans f11514
          have f11527 : fld g11525 129 7 = .int co := (e2.1 129 7 (by unfold Only; omega)).trans f11516
          have f11528 : fld g11525 129 5 = .int v11435 := (e2.1 129 5 (by unfold Only; omega)).trans f11517
          have f11529 : arI g11525 150 = upd (arI g0 150) cl.toNatClampNeg co := (e2.2.1 150 (by unfold Only; omega)).trans f11518
          have f11530 : fld g11525 129 3 = .int z11467 := (e2.1 129 3 (by unfold Only; omega)).trans f11519
          have f11531 : fld g11525 129 9 = .int (0 : Int32) := (e2.1 129 9 (by unfold Only; omega)).trans f11520
          have f11532 : fld g11525 129 8 = .int (0 : Int32) := (e2.1 129 8 (by unfold Only; omega)).trans f11521
          have f11533 : arI g11525 151 = upd (arI g0 151) cl.toNatClampNeg co := (e2.2.1 151 (by unfold Only; omega)).trans f11522
          have f11534 : arI g11525 152 = upd (arI g0 152) cl.toNatClampNeg co := (e2.2.1 152 (by unfold Only; omega)).trans f11523
          have f11535 : fld g11525 129 6 = .int z11524 := e1
          have hG := hG.put e1 e2 rF_129_6 (by decide) (by have := i_rng z11524; omega) (by have := i_rng z11524; omega)
          exact hE _ _ _ _ _ hW.1 ⟨z11467, v11435, co, z11524, rfl, hW.2.1, hG, hW.2.2, f11530, f11528, f11527, f11535, (by omega), (by omega), (by omega), (by omega), (by omega), (by omega), (fun q => absurd q (by omega))⟩ dX12_clause_150
        · refine q_aload_n hM dX12_clause_123 (lv_at hl 1 rfl) ?_
          refine q_callV (As := []) (rest := []) hM hW.1 hR hC myX12_condition (kAW (v_6_0 (List.mem_of_getElem? (i := 4) rfl)) rfl) (rfl : vwCl[12]? = some (RX12, TX12, 86)) rfl lb_129.1 (shO hW.2.1 lb_129) (a_X12_condition _ _ cA ad g11499 z11467 en v11435 co (0 : Int32) (0 : Int32) (co.toInt, arI g0 153) hW.2.1 hG f11506 ((hW.2.2.1 129 4 (by omega)).trans h_en) f11504 f11503 f11507 f11508 (by have := kc_0; have := kc_0; omega) (by have := kc_0; have := kc_0; omega) (by have := kc_0; have := kc_0; omega) (by have := kc_0; have := kc_0; omega) (by have := kc_0; have := kc_0; omega) (by have := kc_0; have := kc_0; omega) (by have := kc_0; have := kc_0; omega) (by have := kc_0; have := kc_0; omega) (by rw [f11501, kc_0]; exact JJ_0 (by omega))) ⟨by decide, by decide⟩ rfl rfl hl.1 (Nat.le_of_ble_eq_true rfl) dX12_clause_124 (fun v g11556 H locs hp hW1 => ?_)
          obtain ⟨v11537, v11538, v11539, v11540, v11541, rfl, hs1, hG, hf1, q11542, q11543, q11544, q11545, q11546, e11547, e11548, e11549, e11550, e11551, e11552, e11553, e11554, e11555⟩ := hp
          have f11557 : arI g11556 152 = arI g0 152 := (hf1.2.1 152 (by omega)).trans f11500
          have f11558 : fld g11556 129 6 = .int cl := (hf1.1 129 6 (by omega)).trans f11502
          have f11559 : arI g11556 150 = upd (arI g0 150) cl.toNatClampNeg co := (hf1.2.1 150 (by omega)).trans f11505
          have f11560 : arI g11556 151 = upd (arI g0 151) cl.toNatClampNeg co := (hf1.2.1 151 (by omega)).trans f11509
          have hW : WS ad cA (fun i k => (i = 129 ∧ (k = 3 ∨ k = 5 ∨ k = 6 ∨ k = 7 ∨ k = 8 ∨ k = 9 ∨ k = 39 ∨ k = 40)) ∨ (149 ≤ i ∧ i < 156)) g0 K g11556 H locs := ⟨hW1, hs1, hW.2.2.tr hf1 (fun i k h => h.elim (fun h => (Or.inl (by omega))) (fun h => h.elim (fun h => (Or.inr (by omega))) (fun h => h.elim (fun h => (Or.inr (by omega))) (fun h => (Or.inr (by omega))))))⟩
          refine q_aload_n hM dX12_clause_127 (lv_at hl 1 rfl) ?_
          refine w_get (v := .ref (ad 152)) hM hW FG_X12_82 lb_129 (rf_129_36 hW.2.1) dX12_clause_128 ?_
          refine q_aload_n hM dX12_clause_131 (lv_at hl 1 rfl) ?_
          refine w_get (v := .int cl) hM hW FG_X12_351 lb_129 f11558 dX12_clause_132 ?_
          have bcl := hG.f f11558 rF_129_6 (by decide)
          refine q_aload_n hM dX12_clause_135 (lv_at hl 1 rfl) ?_
          refine w_get (v := .int v11539) hM hW FG_X12_278 lb_129 q11544 dX12_clause_136 ?_
          have bv11539 := hG.f q11544 rF_129_7 (by decide)
          refine w_iast hM hW lb_152 (by omega) (i_in (by omega) (by omega)) dX12_clause_139 (fun g11561 H locs hW e1 e2 => ?_)
          have f11562 : fld g11561 129 6 = .int cl := (e2.1 129 6 (by unfold Only; omega)).trans f11558
          have f11563 : arI g11561 150 = upd (arI g0 150) cl.toNatClampNeg co := (e2.2.1 150 (by unfold Only; omega)).trans f11559
          have f11564 : arI g11561 151 = upd (arI g0 151) cl.toNatClampNeg co := (e2.2.1 151 (by unfold Only; omega)).trans f11560
          have f11565 : fld g11561 129 3 = .int v11537 := (e2.1 129 3 (by unfold Only; omega)).trans q11542
          have f11566 : fld g11561 129 5 = .int v11538 := (e2.1 129 5 (by unfold Only; omega)).trans q11543
          have f11567 : fld g11561 129 7 = .int v11539 := (e2.1 129 7 (by unfold Only; omega)).trans q11544
          have f11568 : fld g11561 129 9 = .int v11540 := (e2.1 129 9 (by unfold Only; omega)).trans q11545
          have f11569 : fld g11561 129 8 = .int v11541 := (e2.1 129 8 (by unfold Only; omega)).trans q11546
          have f11570 : arI g11561 153 = arI g11556 153 := (e2.2.1 153 (by unfold Only; omega)).trans (rfl : arI g11556 153 = arI g11556 153)
          have f11571 := e1
          rw [f11557] at f11571
          have hG := hG.st e1 e2 (rfl : rA 152 = (-2147483648, 2147483647)) (by have := i_rng v11539; omega) (by have := i_rng v11539; omega)
          refine q_aload_n hM dX12_clause_140 (lv_at hl 1 rfl) ?_
          refine q_dup hM dX12_clause_141 rfl ?_
          refine w_get (v := .int cl) hM hW FG_X12_351 lb_129 f11562 dX12_clause_142 ?_
          have bcl := hG.f f11562 rF_129_6 (by decide)
          refine q_iconst (v := (1 : Int32)) hM dX12_clause_145 (by decide) ?_
          refine q_iadd hM dX12_clause_146 (fun z11572 hz11572 => ?_)
          first | have tz11572 := i_addT hz11572 (rfl : cl.toInt = cl.toInt) (kc_1 : (1 : Int32).toInt = 1) (by omega) (by omega) | skip
          refine w_put hM hW FP_X12_351 lb_129 (by omega) (Or.inl ⟨_, rfl⟩) rfl rfl dX12_clause_147 (fun g11573 H locs hW e1 e2 => ?_)
          have f11574 : arI g11573 150 = upd (arI g0 150) cl.toNatClampNeg co := (e2.2.1 150 (by unfold Only; omega)).trans f11563
          have f11575 : arI g11573 151 = upd (arI g0 151) cl.toNatClampNeg co := (e2.2.1 151 (by unfold Only; omega)).trans f11564
          have f11576 : fld g11573 129 3 = .int v11537 := (e2.1 129 3 (by unfold Only; omega)).trans f11565
          have f11577 : fld g11573 129 5 = .int v11538 := (e2.1 129 5 (by unfold Only; omega)).trans f11566
          have f11578 : fld g11573 129 7 = .int v11539 := (e2.1 129 7 (by unfold Only; omega)).trans f11567
          have f11579 : fld g11573 129 9 = .int v11540 := (e2.1 129 9 (by unfold Only; omega)).trans f11568
          have f11580 : fld g11573 129 8 = .int v11541 := (e2.1 129 8 (by unfold Only; omega)).trans f11569
          have f11581 : arI g11573 153 = arI g11556 153 := (e2.2.1 153 (by unfold Only; omega)).trans f11570
          have f11582 : arI g11573 152 = upd (arI g0 152) cl.toNatClampNeg v11539 := (e2.2.1 152 (by unfold Only; omega)).trans f11571
          have f11583 : fld g11573 129 6 = .int z11572 := e1
          have hG := hG.put e1 e2 rF_129_6 (by decide) (by have := i_rng z11572; omega) (by have := i_rng z11572; omega)
          exact hE _ _ _ _ _ hW.1 ⟨v11537, v11538, v11539, z11572, rfl, hW.2.1, hG, hW.2.2, f11576, f11577, f11578, f11583, (by omega), (by omega), (by omega), (by omega), (by omega), (by omega), (fun q => by rw [f11574, f11575, f11582, f11581]; exact NA_step hNA rfl rfl rfl rfl (by omega) (by omega) rfl (by omega) (Int.le_refl _) (e11555 (by omega)).2.1 rfl vok_0 (e11555 (by omega)).2.2.2.1 (fun j hj => (e11555 (by omega)).2.2.2.2.2 j hj))⟩ dX12_clause_150
      · refine q_aload_n hM dX12_clause_99 (lv_at hl 1 rfl) ?_
        refine q_callV (As := []) (rest := []) hM hW.1 hR hC myX12_value (kAW (v_5_12 (List.mem_of_getElem? (i := 2) rfl)) rfl) (rfl : vwCl[12]? = some (RX12, TX12, 86)) rfl lb_129.1 (shO hW.2.1 lb_129) (a_X12_value _ _ cA ad g11487 z11467 en v11435 co (0 : Int32) (0 : Int32) (co.toInt, arI g0 153) hW.2.1 hG f11495 ((hW.2.2.1 129 4 (by omega)).trans h_en) f11493 f11492 f11496 f11497 (by have := kc_0; have := kc_0; omega) (by have := kc_0; have := kc_0; omega) (by have := kc_0; have := kc_0; omega) (by have := kc_0; have := kc_0; omega) (by have := kc_0; have := kc_0; omega) (by have := kc_0; have := kc_0; omega) (by have := kc_0; have := kc_0; omega) (by rw [f11490, kc_0]; exact JJ_0 (by omega)) (fun h9 _ => absurd h9 (by have := kc_0; omega))) ⟨by decide, by decide⟩ rfl rfl hl.1 (Nat.le_of_ble_eq_true rfl) dX12_clause_100 (fun v g11606 H locs hp hW1 => ?_)
        obtain ⟨v11585, v11586, v11587, v11588, v11589, rfl, hs1, hG, hf1, q11590, q11591, q11592, q11593, q11594, e11595, e11596, e11597, e11598, e11599, e11600, e11601, e11602, e11603, e11604, e11605⟩ := hp
        have f11607 : arI g11606 151 = arI g0 151 := (hf1.2.1 151 (by omega)).trans f11488
        have f11608 : arI g11606 152 = arI g0 152 := (hf1.2.1 152 (by omega)).trans f11489
        have f11609 : fld g11606 129 6 = .int cl := (hf1.1 129 6 (by omega)).trans f11491
        have f11610 : arI g11606 150 = upd (arI g0 150) cl.toNatClampNeg co := (hf1.2.1 150 (by omega)).trans f11494
        have hW : WS ad cA (fun i k => (i = 129 ∧ (k = 3 ∨ k = 5 ∨ k = 6 ∨ k = 7 ∨ k = 8 ∨ k = 9 ∨ k = 39 ∨ k = 40)) ∨ (149 ≤ i ∧ i < 156)) g0 K g11606 H locs := ⟨hW1, hs1, hW.2.2.tr hf1 (fun i k h => h.elim (fun h => (Or.inl (by omega))) (fun h => h.elim (fun h => (Or.inr (by omega))) (fun h => h.elim (fun h => (Or.inr (by omega))) (fun h => (Or.inr (by omega))))))⟩
        have := kc_0
        refine q_aload_n hM dX12_clause_103 (lv_at hl 1 rfl) ?_
        refine w_get (v := .ref (ad 151)) hM hW FG_X12_79 lb_129 (rf_129_35 hW.2.1) dX12_clause_104 ?_
        refine q_aload_n hM dX12_clause_107 (lv_at hl 1 rfl) ?_
        refine w_get (v := .int cl) hM hW FG_X12_351 lb_129 f11609 dX12_clause_108 ?_
        have bcl := hG.f f11609 rF_129_6 (by decide)
        refine q_aload_n hM dX12_clause_111 (lv_at hl 1 rfl) ?_
        refine w_get (v := .int v11587) hM hW FG_X12_278 lb_129 q11592 dX12_clause_112 ?_
        have bv11587 := hG.f q11592 rF_129_7 (by decide)
        refine w_iast hM hW lb_151 (by omega) (i_in (by omega) (by omega)) dX12_clause_115 (fun g11611 H locs hW e1 e2 => ?_)
        have f11612 : arI g11611 152 = arI g0 152 := (e2.2.1 152 (by unfold Only; omega)).trans f11608
        have f11613 : fld g11611 129 6 = .int cl := (e2.1 129 6 (by unfold Only; omega)).trans f11609
        have f11614 : arI g11611 150 = upd (arI g0 150) cl.toNatClampNeg co := (e2.2.1 150 (by unfold Only; omega)).trans f11610
        have f11615 : fld g11611 129 3 = .int v11585 := (e2.1 129 3 (by unfold Only; omega)).trans q11590
        have f11616 : fld g11611 129 5 = .int v11586 := (e2.1 129 5 (by unfold Only; omega)).trans q11591
        have f11617 : fld g11611 129 7 = .int v11587 := (e2.1 129 7 (by unfold Only; omega)).trans q11592
        have f11618 : fld g11611 129 9 = .int v11588 := (e2.1 129 9 (by unfold Only; omega)).trans q11593
        have f11619 : fld g11611 129 8 = .int v11589 := (e2.1 129 8 (by unfold Only; omega)).trans q11594
        have f11620 : arI g11611 153 = arI g11606 153 := (e2.2.1 153 (by unfold Only; omega)).trans (rfl : arI g11606 153 = arI g11606 153)
        have f11621 := e1
        rw [f11607] at f11621
        have hG := hG.st e1 e2 (rfl : rA 151 = (-2147483648, 2147483647)) (by have := i_rng v11587; omega) (by have := i_rng v11587; omega)
        refine q_aload_n hM dX12_clause_116 (lv_at hl 1 rfl) ?_
        refine q_callV (As := []) (rest := []) hM hW.1 hR hC myX12_isGood (kAW (v_5_8 (List.mem_of_getElem? (i := 11) rfl)) rfl) (rfl : vwCl[12]? = some (RX12, TX12, 86)) rfl lb_129.1 (shO hW.2.1 lb_129) (a_X12_isGood _ _ cA ad g11611 v11586 hW.2.1 hG f11616) ⟨by decide, by decide⟩ rfl rfl hl.1 (Nat.le_of_ble_eq_true rfl) dX12_clause_117 (fun v g11623 H locs hp hW1 => ?_)
        obtain ⟨r11622, rfl, hr11622, rfl⟩ := hp
        have hW : WS ad cA (fun i k => (i = 129 ∧ (k = 3 ∨ k = 5 ∨ k = 6 ∨ k = 7 ∨ k = 8 ∨ k = 9 ∨ k = 39 ∨ k = 40)) ∨ (149 ≤ i ∧ i < 156)) g0 K g11611 H locs := ⟨hW1, hW.2.1, hW.2.2⟩
        refine q_if_eq (tgt := 127) hM dX12_clause_120 (by decide) (rfl : r11622.toInt = r11622.toInt) (fun h120 => ?_) (fun h120 => ?_)
        · refine q_aload_n hM dX12_clause_127 (lv_at hl 1 rfl) ?_
          refine w_get (v := .ref (ad 152)) hM hW FG_X12_82 lb_129 (rf_129_36 hW.2.1) dX12_clause_128 ?_
          refine q_aload_n hM dX12_clause_131 (lv_at hl 1 rfl) ?_
          refine w_get (v := .int cl) hM hW FG_X12_351 lb_129 f11613 dX12_clause_132 ?_
          have bcl := hG.f f11613 rF_129_6 (by decide)
          refine q_aload_n hM dX12_clause_135 (lv_at hl 1 rfl) ?_
          refine w_get (v := .int v11587) hM hW FG_X12_278 lb_129 f11617 dX12_clause_136 ?_
          have bv11587 := hG.f f11617 rF_129_7 (by decide)
          refine w_iast hM hW lb_152 (by omega) (i_in (by omega) (by omega)) dX12_clause_139 (fun g11625 H locs hW e1 e2 => ?_)
          have f11626 : fld g11625 129 6 = .int cl := (e2.1 129 6 (by unfold Only; omega)).trans f11613
          have f11627 : arI g11625 150 = upd (arI g0 150) cl.toNatClampNeg co := (e2.2.1 150 (by unfold Only; omega)).trans f11614
          have f11628 : fld g11625 129 3 = .int v11585 := (e2.1 129 3 (by unfold Only; omega)).trans f11615
          have f11629 : fld g11625 129 5 = .int v11586 := (e2.1 129 5 (by unfold Only; omega)).trans f11616
          have f11630 : fld g11625 129 7 = .int v11587 := (e2.1 129 7 (by unfold Only; omega)).trans f11617
          have f11631 : fld g11625 129 9 = .int v11588 := (e2.1 129 9 (by unfold Only; omega)).trans f11618
          have f11632 : fld g11625 129 8 = .int v11589 := (e2.1 129 8 (by unfold Only; omega)).trans f11619
          have f11633 : arI g11625 153 = arI g11606 153 := (e2.2.1 153 (by unfold Only; omega)).trans f11620
          have f11634 : arI g11625 151 = upd (arI g0 151) cl.toNatClampNeg v11587 := (e2.2.1 151 (by unfold Only; omega)).trans f11621
          have f11635 := e1
          rw [f11612] at f11635
          have hG := hG.st e1 e2 (rfl : rA 152 = (-2147483648, 2147483647)) (by have := i_rng v11587; omega) (by have := i_rng v11587; omega)
          refine q_aload_n hM dX12_clause_140 (lv_at hl 1 rfl) ?_
          refine q_dup hM dX12_clause_141 rfl ?_
          refine w_get (v := .int cl) hM hW FG_X12_351 lb_129 f11626 dX12_clause_142 ?_
          have bcl := hG.f f11626 rF_129_6 (by decide)
          refine q_iconst (v := (1 : Int32)) hM dX12_clause_145 (by decide) ?_
          refine q_iadd hM dX12_clause_146 (fun z11636 hz11636 => ?_)
          first | have tz11636 := i_addT hz11636 (rfl : cl.toInt = cl.toInt) (kc_1 : (1 : Int32).toInt = 1) (by omega) (by omega) | skip
          refine w_put hM hW FP_X12_351 lb_129 (by omega) (Or.inl ⟨_, rfl⟩) rfl rfl dX12_clause_147 (fun g11637 H locs hW e1 e2 => ?_)
          have f11638 : arI g11637 150 = upd (arI g0 150) cl.toNatClampNeg co := (e2.2.1 150 (by unfold Only; omega)).trans f11627
          have f11639 : fld g11637 129 3 = .int v11585 := (e2.1 129 3 (by unfold Only; omega)).trans f11628
          have f11640 : fld g11637 129 5 = .int v11586 := (e2.1 129 5 (by unfold Only; omega)).trans f11629
          have f11641 : fld g11637 129 7 = .int v11587 := (e2.1 129 7 (by unfold Only; omega)).trans f11630
          have f11642 : fld g11637 129 9 = .int v11588 := (e2.1 129 9 (by unfold Only; omega)).trans f11631
          have f11643 : fld g11637 129 8 = .int v11589 := (e2.1 129 8 (by unfold Only; omega)).trans f11632
          have f11644 : arI g11637 153 = arI g11606 153 := (e2.2.1 153 (by unfold Only; omega)).trans f11633
          have f11645 : arI g11637 151 = upd (arI g0 151) cl.toNatClampNeg v11587 := (e2.2.1 151 (by unfold Only; omega)).trans f11634
          have f11646 : arI g11637 152 = upd (arI g0 152) cl.toNatClampNeg v11587 := (e2.2.1 152 (by unfold Only; omega)).trans f11635
          have f11647 : fld g11637 129 6 = .int z11636 := e1
          have hG := hG.put e1 e2 rF_129_6 (by decide) (by have := i_rng z11636; omega) (by have := i_rng z11636; omega)
          exact hE _ _ _ _ _ hW.1 ⟨v11585, v11586, v11587, z11636, rfl, hW.2.1, hG, hW.2.2, f11639, f11640, f11641, f11647, (by omega), (by omega), (by omega), (by omega), (by omega), (by omega), (fun q => absurd q (by omega))⟩ dX12_clause_150
        · refine q_aload_n hM dX12_clause_123 (lv_at hl 1 rfl) ?_
          refine q_callV (As := []) (rest := []) hM hW.1 hR hC myX12_condition (kAW (v_6_0 (List.mem_of_getElem? (i := 4) rfl)) rfl) (rfl : vwCl[12]? = some (RX12, TX12, 86)) rfl lb_129.1 (shO hW.2.1 lb_129) (a_X12_condition _ _ cA ad g11611 v11585 en v11586 v11587 v11588 v11589 (v11587.toInt, arI g11606 153) hW.2.1 hG f11615 ((hW.2.2.1 129 4 (by omega)).trans h_en) f11616 f11617 f11618 f11619 (by  omega) (by  omega) (by  omega) (by  omega) (by  omega) (by  omega) (by  omega) (by  omega) (by rw [f11620, show v11588.toInt = 0 by omega]; exact JJ_0 (by omega))) ⟨by decide, by decide⟩ rfl rfl hl.1 (Nat.le_of_ble_eq_true rfl) dX12_clause_124 (fun v g11668 H locs hp hW1 => ?_)
          obtain ⟨v11649, v11650, v11651, v11652, v11653, rfl, hs1, hG, hf1, q11654, q11655, q11656, q11657, q11658, e11659, e11660, e11661, e11662, e11663, e11664, e11665, e11666, e11667⟩ := hp
          have f11669 : arI g11668 152 = arI g0 152 := (hf1.2.1 152 (by omega)).trans f11612
          have f11670 : fld g11668 129 6 = .int cl := (hf1.1 129 6 (by omega)).trans f11613
          have f11671 : arI g11668 150 = upd (arI g0 150) cl.toNatClampNeg co := (hf1.2.1 150 (by omega)).trans f11614
          have f11672 : arI g11668 151 = upd (arI g0 151) cl.toNatClampNeg v11587 := (hf1.2.1 151 (by omega)).trans f11621
          have hW : WS ad cA (fun i k => (i = 129 ∧ (k = 3 ∨ k = 5 ∨ k = 6 ∨ k = 7 ∨ k = 8 ∨ k = 9 ∨ k = 39 ∨ k = 40)) ∨ (149 ≤ i ∧ i < 156)) g0 K g11668 H locs := ⟨hW1, hs1, hW.2.2.tr hf1 (fun i k h => h.elim (fun h => (Or.inl (by omega))) (fun h => h.elim (fun h => (Or.inr (by omega))) (fun h => h.elim (fun h => (Or.inr (by omega))) (fun h => (Or.inr (by omega))))))⟩
          refine q_aload_n hM dX12_clause_127 (lv_at hl 1 rfl) ?_
          refine w_get (v := .ref (ad 152)) hM hW FG_X12_82 lb_129 (rf_129_36 hW.2.1) dX12_clause_128 ?_
          refine q_aload_n hM dX12_clause_131 (lv_at hl 1 rfl) ?_
          refine w_get (v := .int cl) hM hW FG_X12_351 lb_129 f11670 dX12_clause_132 ?_
          have bcl := hG.f f11670 rF_129_6 (by decide)
          refine q_aload_n hM dX12_clause_135 (lv_at hl 1 rfl) ?_
          refine w_get (v := .int v11651) hM hW FG_X12_278 lb_129 q11656 dX12_clause_136 ?_
          have bv11651 := hG.f q11656 rF_129_7 (by decide)
          refine w_iast hM hW lb_152 (by omega) (i_in (by omega) (by omega)) dX12_clause_139 (fun g11673 H locs hW e1 e2 => ?_)
          have f11674 : fld g11673 129 6 = .int cl := (e2.1 129 6 (by unfold Only; omega)).trans f11670
          have f11675 : arI g11673 150 = upd (arI g0 150) cl.toNatClampNeg co := (e2.2.1 150 (by unfold Only; omega)).trans f11671
          have f11676 : arI g11673 151 = upd (arI g0 151) cl.toNatClampNeg v11587 := (e2.2.1 151 (by unfold Only; omega)).trans f11672
          have f11677 : fld g11673 129 3 = .int v11649 := (e2.1 129 3 (by unfold Only; omega)).trans q11654
          have f11678 : fld g11673 129 5 = .int v11650 := (e2.1 129 5 (by unfold Only; omega)).trans q11655
          have f11679 : fld g11673 129 7 = .int v11651 := (e2.1 129 7 (by unfold Only; omega)).trans q11656
          have f11680 : fld g11673 129 9 = .int v11652 := (e2.1 129 9 (by unfold Only; omega)).trans q11657
          have f11681 : fld g11673 129 8 = .int v11653 := (e2.1 129 8 (by unfold Only; omega)).trans q11658
          have f11682 : arI g11673 153 = arI g11668 153 := (e2.2.1 153 (by unfold Only; omega)).trans (rfl : arI g11668 153 = arI g11668 153)
          have f11683 := e1
          rw [f11669] at f11683
          have hG := hG.st e1 e2 (rfl : rA 152 = (-2147483648, 2147483647)) (by have := i_rng v11651; omega) (by have := i_rng v11651; omega)
          refine q_aload_n hM dX12_clause_140 (lv_at hl 1 rfl) ?_
          refine q_dup hM dX12_clause_141 rfl ?_
          refine w_get (v := .int cl) hM hW FG_X12_351 lb_129 f11674 dX12_clause_142 ?_
          have bcl := hG.f f11674 rF_129_6 (by decide)
          refine q_iconst (v := (1 : Int32)) hM dX12_clause_145 (by decide) ?_
          refine q_iadd hM dX12_clause_146 (fun z11684 hz11684 => ?_)
          first | have tz11684 := i_addT hz11684 (rfl : cl.toInt = cl.toInt) (kc_1 : (1 : Int32).toInt = 1) (by omega) (by omega) | skip
          refine w_put hM hW FP_X12_351 lb_129 (by omega) (Or.inl ⟨_, rfl⟩) rfl rfl dX12_clause_147 (fun g11685 H locs hW e1 e2 => ?_)
          have f11686 : arI g11685 150 = upd (arI g0 150) cl.toNatClampNeg co := (e2.2.1 150 (by unfold Only; omega)).trans f11675
          have f11687 : arI g11685 151 = upd (arI g0 151) cl.toNatClampNeg v11587 := (e2.2.1 151 (by unfold Only; omega)).trans f11676
          have f11688 : fld g11685 129 3 = .int v11649 := (e2.1 129 3 (by unfold Only; omega)).trans f11677
          have f11689 : fld g11685 129 5 = .int v11650 := (e2.1 129 5 (by unfold Only; omega)).trans f11678
          have f11690 : fld g11685 129 7 = .int v11651 := (e2.1 129 7 (by unfold Only; omega)).trans f11679
          have f11691 : fld g11685 129 9 = .int v11652 := (e2.1 129 9 (by unfold Only; omega)).trans f11680
          have f11692 : fld g11685 129 8 = .int v11653 := (e2.1 129 8 (by unfold Only; omega)).trans f11681
          have f11693 : arI g11685 153 = arI g11668 153 := (e2.2.1 153 (by unfold Only; omega)).trans f11682
          have f11694 : arI g11685 152 = upd (arI g0 152) cl.toNatClampNeg v11651 := (e2.2.1 152 (by unfold Only; omega)).trans f11683
          have f11695 : fld g11685 129 6 = .int z11684 := e1
          have hG := hG.put e1 e2 rF_129_6 (by decide) (by have := i_rng z11684; omega) (by have := i_rng z11684; omega)
          exact hE _ _ _ _ _ hW.1 ⟨v11649, v11650, v11651, z11684, rfl, hW.2.1, hG, hW.2.2, f11688, f11689, f11690, f11695, (by omega), (by omega), (by omega), (by omega), (by omega), (by omega), (fun q => by rw [f11686, f11687, f11694, f11693]; exact NA_step hNA rfl rfl rfl rfl (by omega) (by omega) rfl (by omega) (e11604 (by omega)).2.1 (e11667 (by omega)).2.1 rfl (vok_eq (fun j hj => (e11667 (by omega)).2.2.2.2.2 _ (by show ((_ : Nat) : Int) < v11587.toInt; have := (e11604 (by omega)).2.1; omega)) (e11604 (by omega)).2.2.2.1) (e11667 (by omega)).2.2.2.1 (fun j hj => ((e11667 (by omega)).2.2.2.2.2 j (by show ((_ : Nat) : Int) < v11587.toInt; have z9 : co.toInt ≤ v11587.toInt := (e11604 (by omega)).2.1; omega)).trans ((e11604 (by omega)).2.2.2.2.2 j hj)))⟩ dX12_clause_150
    · exact hE _ _ _ _ _ hW.1 ⟨pl, v11435, co, cl, rfl, hW.2.1, hG, hW.2.2, f11443, q11436, f11445, f11444, (by omega), (by omega), (by omega), (by omega), (by omega), (by omega), (fun q => absurd q (by omega))⟩ dX12_clause_49
