
set_option maxRecDepth 100000 in
set_option maxHeartbeats 4000000 in
theorem s_X12_bringsBack_0 (l : Launch) (D : va_G) (cA : Nat → ClassId) (ad : Nat → Nat) (g0 : Nat → va_E)    (hSh : Shp ad cA g0) (hG : Rng g0) (hF2 : ∀ q : Nat, q < 8 → (arI g0 162 (0 + q)).toInt = 0 ∨ (arI g0 162 (0 + q)).toInt = 1) : CT l NN ad cA D yX12_bringsBack cX12_bringsBack 3 none (0, 0) [.ref (ad 129), .int (0 : Int32)] g0 (fun v g' => ∃ (w9 : Int32), v = none ∧ Shp ad cA g' ∧ Rng g' ∧ FR (fun i k => (158 ≤ i ∧ i < 162) ∨ (i = 129 ∧ (k = 2 ∨ k = 56 ∨ k = 57 ∨ k = 58))) g0 g' ∧ fld g' 129 56 = .int w9 ∧ (∀ j : Nat, j < 8 → arI g' 158 j = arI g0 162 (0 + j)) ∧ (w9 = arI g0 166 0)) := by
  refine q_enterV (by decide) (Nat.le_of_ble_eq_true rfl) (fun K H locs ls _ _ hM hW0 hR hC hE hl => ?_)
  have hl : lv_has ls 3 [(0, .ref (ad 129)), (1, .int (0 : Int32))] := hl
  have hW : WS ad cA (fun i k => (158 ≤ i ∧ i < 162) ∨ (i = 129 ∧ (k = 2 ∨ k = 56 ∨ k = 57 ∨ k = 58))) g0 K g0 H locs := ⟨hW0, hSh, FR.rf⟩
  have := kc_0
  refine q_iconst (v := (0 : Int32)) hM dX12_bringsBack_0 (by decide) ?_
  refine q_istore_n (lv9 := [(2, .int (0 : Int32)), (0, .ref (ad 129)), (1, .int (0 : Int32))]) hM dX12_bringsBack_1 hl (by decide) rfl (fun ls hl => ?_)
  have L2 : ∀ (fu2 : Nat) (w2_2 : Int32) (h9_2 : Nat → va_E) (H : Heap) (locs : List Loc) (ls : Array Slot), (8 - w2_2.toInt).toNat < fu2 → (Rng h9_2) → (0 ≤ w2_2.toInt) → (w2_2.toInt ≤ 8) → (∀ j : Nat, (j : Int) < w2_2.toInt → arI h9_2 158 j = (fun j => arI g0 162 (0 + j)) j) → lv_has ls 3 [(0, .ref (ad 129)), (1, .int (0 : Int32)), (2, .int w2_2)] → WS ad cA (fun i k => (158 ≤ i ∧ i < 162) ∨ (i = 129 ∧ (k = 2 ∨ k = 56 ∨ k = 57 ∨ k = 58))) g0 K h9_2 H locs → XX K 0 0 H locs 2 ls [] := by
    intro fu2
    induction fu2 with
    | zero => intro w2_2 h9_2 H locs ls h0; omega
    | succ fu2 ih2 =>
      intro w2_2 h9_2 H locs ls hm2 i2_0 i2_1 i2_2 i2_3 hl hW
      have hG := i2_0
      refine q_iload_n hM dX12_bringsBack_2 (lv_at hl 2 rfl) ?_
      refine q_bipush (v := (8 : Int32)) hM dX12_bringsBack_3 (by decide) ?_
      refine q_icmp_ge (tgt := 65) hM dX12_bringsBack_5 (by decide) (rfl : w2_2.toInt = w2_2.toInt) (kc_8 : (8 : Int32).toInt = 8) (fun h5 => ?_) (fun h5 => ?_)
      · refine q_iconst (v := (0 : Int32)) hM dX12_bringsBack_65 (by decide) ?_
        refine q_istore_n (lv9 := [(2, .int (0 : Int32)), (0, .ref (ad 129)), (1, .int (0 : Int32))]) hM dX12_bringsBack_66 hl (by decide) rfl (fun ls hl => ?_)
        have L67 : ∀ (fu67 : Nat) (w67_2 : Int32) (h9_67 : Nat → va_E) (H : Heap) (locs : List Loc) (ls : Array Slot), (96 - w67_2.toInt).toNat < fu67 → (Rng h9_67) → (0 ≤ w67_2.toInt) → (w67_2.toInt ≤ 96) → (arI h9_67 158 = arI h9_2 158) → lv_has ls 3 [(0, .ref (ad 129)), (1, .int (0 : Int32)), (2, .int w67_2)] → WS ad cA (fun i k => (158 ≤ i ∧ i < 162) ∨ (i = 129 ∧ (k = 2 ∨ k = 56 ∨ k = 57 ∨ k = 58))) g0 K h9_67 H locs → XX K 0 0 H locs 67 ls [] := by
          intro fu67
          induction fu67 with
          | zero => intro w67_2 h9_67 H locs ls h0; omega
          | succ fu67 ih67 =>
            intro w67_2 h9_67 H locs ls hm67 i67_0 i67_1 i67_2 d67_158 hl hW
            have hG := i67_0
            refine q_iload_n hM dX12_bringsBack_67 (lv_at hl 2 rfl) ?_
            refine q_bipush (v := (96 : Int32)) hM dX12_bringsBack_68 (by decide) ?_
            refine q_icmp_ge (tgt := 96) hM dX12_bringsBack_70 (by decide) (rfl : w67_2.toInt = w67_2.toInt) (kc_96 : (96 : Int32).toInt = 96) (fun h70 => ?_) (fun h70 => ?_)
            · refine q_aload_n hM dX12_bringsBack_96 (lv_at hl 0 rfl) ?_
              refine q_aload_n hM dX12_bringsBack_97 (lv_at hl 0 rfl) ?_
              refine w_get (v := .ref (ad 166)) hM hW FG_X12_124 lb_129 (rf_129_71 hW.2.1) dX12_bringsBack_98 ?_
              refine q_iload_n hM dX12_bringsBack_101 (lv_at hl 1 rfl) ?_
              refine w_iald hM hW lb_166 (i_in (by rw [kc_0]; decide) (by rw [kc_0]; decide)) dX12_bringsBack_102 ?_
              refine q_top (fun y12641 hy12641 => ?_)
              rw [hW.2.2.2.1 166 (by omega)] at hy12641
              refine w_put hM hW FP_X12_416 lb_129 (by omega) (Or.inl ⟨_, rfl⟩) rfl rfl dX12_bringsBack_103 (fun g12642 H locs hW e1 e2 => ?_)
              have f12643 : arI g12642 158 = arI h9_2 158 := (e2.2.1 158 (by unfold Only; omega)).trans d67_158
              have f12644 : fld g12642 129 56 = .int y12641 := e1
              have hG := hG.put e1 e2 (rfl : rF 129 56 = (-2147483648, 2147483647)) (by decide) (by have := i_rng y12641; omega) (by have := i_rng y12641; omega)
              refine q_aload_n hM dX12_bringsBack_106 (lv_at hl 0 rfl) ?_
              refine q_aload_n hM dX12_bringsBack_107 (lv_at hl 0 rfl) ?_
              refine w_get (v := .ref (ad 167)) hM hW FG_X12_127 lb_129 (rf_129_72 hW.2.1) dX12_bringsBack_108 ?_
              refine q_iload_n hM dX12_bringsBack_111 (lv_at hl 1 rfl) ?_
              refine w_iald hM hW lb_167 (i_in (by rw [kc_0]; decide) (by rw [kc_0]; decide)) dX12_bringsBack_112 ?_
              refine q_top (fun y12645 hy12645 => ?_)
              refine w_put hM hW FP_X12_471 lb_129 (by omega) (Or.inl ⟨_, rfl⟩) rfl rfl dX12_bringsBack_113 (fun g12646 H locs hW e1 e2 => ?_)
              have f12647 : arI g12646 158 = arI h9_2 158 := (e2.2.1 158 (by unfold Only; omega)).trans f12643
              have f12648 : fld g12646 129 56 = .int y12641 := (e2.1 129 56 (by unfold Only; omega)).trans f12644
              have f12649 : fld g12646 129 57 = .int y12645 := e1
              have hG := hG.put e1 e2 (rfl : rF 129 57 = (-2147483648, 2147483647)) (by decide) (by have := i_rng y12645; omega) (by have := i_rng y12645; omega)
              refine q_aload_n hM dX12_bringsBack_116 (lv_at hl 0 rfl) ?_
              refine q_aload_n hM dX12_bringsBack_117 (lv_at hl 0 rfl) ?_
              refine w_get (v := .ref (ad 168)) hM hW FG_X12_130 lb_129 (rf_129_73 hW.2.1) dX12_bringsBack_118 ?_
              refine q_iload_n hM dX12_bringsBack_121 (lv_at hl 1 rfl) ?_
              refine w_iald hM hW lb_168 (i_in (by rw [kc_0]; decide) (by rw [kc_0]; decide)) dX12_bringsBack_122 ?_
              refine q_top (fun y12650 hy12650 => ?_)
              refine w_put hM hW FP_X12_486 lb_129 (by omega) (Or.inl ⟨_, rfl⟩) rfl rfl dX12_bringsBack_123 (fun g12651 H locs hW e1 e2 => ?_)
              have f12652 : arI g12651 158 = arI h9_2 158 := (e2.2.1 158 (by unfold Only; omega)).trans f12647
              have f12653 : fld g12651 129 56 = .int y12641 := (e2.1 129 56 (by unfold Only; omega)).trans f12648
              have f12654 : fld g12651 129 57 = .int y12645 := (e2.1 129 57 (by unfold Only; omega)).trans f12649
              have f12655 : fld g12651 129 58 = .int y12650 := e1
              have hG := hG.put e1 e2 (rfl : rF 129 58 = (-2147483648, 2147483647)) (by decide) (by have := i_rng y12650; omega) (by have := i_rng y12650; omega)
              refine q_aload_n hM dX12_bringsBack_126 (lv_at hl 0 rfl) ?_
              refine q_aload_n hM dX12_bringsBack_127 (lv_at hl 0 rfl) ?_
              refine w_get (v := .ref (ad 169)) hM hW FG_X12_133 lb_129 (rf_129_74 hW.2.1) dX12_bringsBack_128 ?_
              refine q_iload_n hM dX12_bringsBack_131 (lv_at hl 1 rfl) ?_
              refine w_iald hM hW lb_169 (i_in (by rw [kc_0]; decide) (by rw [kc_0]; decide)) dX12_bringsBack_132 ?_
              refine q_top (fun y12656 hy12656 => ?_)
              refine w_put hM hW FP_X12_13 lb_129 (by omega) (Or.inl ⟨_, rfl⟩) rfl rfl dX12_bringsBack_133 (fun g12657 H locs hW e1 e2 => ?_)
              have f12658 : arI g12657 158 = arI h9_2 158 := (e2.2.1 158 (by unfold Only; omega)).trans f12652
              have f12659 : fld g12657 129 56 = .int y12641 := (e2.1 129 56 (by unfold Only; omega)).trans f12653
              have f12660 : fld g12657 129 57 = .int y12645 := (e2.1 129 57 (by unfold Only; omega)).trans f12654
              have f12661 : fld g12657 129 58 = .int y12650 := (e2.1 129 58 (by unfold Only; omega)).trans f12655
              have f12662 : fld g12657 129 2 = .int y12656 := e1
              have hG := hG.put e1 e2 (rfl : rF 129 2 = (-2147483648, 2147483647)) (by decide) (by have := i_rng y12656; omega) (by have := i_rng y12656; omega)
              exact hE _ _ _ _ _ hW.1 ⟨y12641, rfl, hW.2.1, hG, hW.2.2, f12659, (fun j hj => by rw [f12658]; exact i2_3 j (by omega)), hy12641⟩ dX12_bringsBack_136
            · refine q_aload_n hM dX12_bringsBack_73 (lv_at hl 0 rfl) ?_
              refine w_get (v := .ref (ad 161)) hM hW FG_X12_109 lb_129 (rf_129_55 hW.2.1) dX12_bringsBack_74 ?_
              refine q_iload_n hM dX12_bringsBack_77 (lv_at hl 2 rfl) ?_
              refine q_aload_n hM dX12_bringsBack_78 (lv_at hl 0 rfl) ?_
              refine w_get (v := .ref (ad 165)) hM hW FG_X12_121 lb_129 (rf_129_70 hW.2.1) dX12_bringsBack_79 ?_
              refine q_bipush (v := (96 : Int32)) hM dX12_bringsBack_82 (by decide) ?_
              refine q_iload_n hM dX12_bringsBack_84 (lv_at hl 1 rfl) ?_
              refine q_imul hM dX12_bringsBack_85 (fun z12664 hz12664 => ?_)
              first | have tz12664 := i_mulT hz12664 (kc_96 : (96 : Int32).toInt = 96) (kc_0 : (0 : Int32).toInt = 0) (by omega) (by omega) | skip
              refine q_iload_n hM dX12_bringsBack_86 (lv_at hl 2 rfl) ?_
              refine q_iadd hM dX12_bringsBack_87 (fun z12665 hz12665 => ?_)
              first | have tz12665 := i_addT hz12665 (rfl : z12664.toInt = z12664.toInt) (rfl : w67_2.toInt = w67_2.toInt) (by omega) (by omega) | skip
              refine w_iald hM hW lb_165 (i_in (by omega) (by omega)) dX12_bringsBack_88 ?_
              refine q_top (fun y12666 hy12666 => ?_)
              refine w_iast hM hW lb_161 (by omega) (i_in (by omega) (by omega)) dX12_bringsBack_89 (fun g12667 H locs hW e1 e2 => ?_)
              have f12668 : arI g12667 158 = arI h9_2 158 := (e2.2.1 158 (by unfold Only; omega)).trans d67_158
              have hG := hG.st e1 e2 (rfl : rA 161 = (-2147483648, 2147483647)) (by have := i_rng y12666; omega) (by have := i_rng y12666; omega)
              refine q_iinc (lv9 := fun z12669 => [(2, .int z12669), (0, .ref (ad 129)), (1, .int (0 : Int32))]) hM dX12_bringsBack_90 hl (kq := 2) rfl (by decide) (fun _ => rfl) (fun z12669 ls hz12669 hl => ?_)
              first | have tz12669 := i_addT hz12669 (rfl : w67_2.toInt = w67_2.toInt) (kc_1 : (Int32.ofInt 1).toInt = 1) (by omega) (by omega) | skip
              refine q_goto (tgt := 67) hM dX12_bringsBack_93 (by decide) ?_
              exact ih67 z12669 _ _ _ _ (by omega) hG (by omega) (by omega) f12668 (lv_sub hl [1, 2, 0] rfl) hW
        have := kc_0
        exact L67 _ (0 : Int32) _ _ _ _ (Nat.lt_succ_self _) hG (by omega) (by omega) (rfl : arI h9_2 158 = arI h9_2 158) (lv_sub hl [1, 2, 0] rfl) hW
      · refine q_aload_n hM dX12_bringsBack_8 (lv_at hl 0 rfl) ?_
        refine w_get (v := .ref (ad 158)) hM hW FG_X12_100 lb_129 (rf_129_52 hW.2.1) dX12_bringsBack_9 ?_
        refine q_iload_n hM dX12_bringsBack_12 (lv_at hl 2 rfl) ?_
        refine q_aload_n hM dX12_bringsBack_13 (lv_at hl 0 rfl) ?_
        refine w_get (v := .ref (ad 162)) hM hW FG_X12_112 lb_129 (rf_129_67 hW.2.1) dX12_bringsBack_14 ?_
        refine q_bipush (v := (8 : Int32)) hM dX12_bringsBack_17 (by decide) ?_
        refine q_iload_n hM dX12_bringsBack_19 (lv_at hl 1 rfl) ?_
        refine q_imul hM dX12_bringsBack_20 (fun z12671 hz12671 => ?_)
        first | have tz12671 := i_mulT hz12671 (kc_8 : (8 : Int32).toInt = 8) (kc_0 : (0 : Int32).toInt = 0) (by omega) (by omega) | skip
        refine q_iload_n hM dX12_bringsBack_21 (lv_at hl 2 rfl) ?_
        refine q_iadd hM dX12_bringsBack_22 (fun z12672 hz12672 => ?_)
        first | have tz12672 := i_addT hz12672 (rfl : z12671.toInt = z12671.toInt) (rfl : w2_2.toInt = w2_2.toInt) (by omega) (by omega) | skip
        refine w_zald hM hW lb_162 (i_in (by omega) (by omega)) dX12_bringsBack_23 ?_
        refine q_top (fun y12673 hy12673 => ?_)
        rw [hW.2.2.2.1 162 (by omega)] at hy12673
        rw [show z12672.toNatClampNeg = 0 + w2_2.toInt.toNat by show z12672.toInt.toNat = _; omega] at hy12673
        have v9 := hF2 w2_2.toInt.toNat (by omega)
        rw [← hy12673] at v9
        refine w_zast hM hW lb_158 (by omega) (i_in (by omega) (by omega)) dX12_bringsBack_24 (fun g12674 H locs hW e1 e2 => ?_)
        have f12675 := e1
        rw [(rfl : arI h9_2 158 = arI h9_2 158)] at f12675
        rw [vb01 v9] at f12675
        have hG := hG.st e1 e2 (rfl : rA 158 = (-2147483648, 2147483647)) (by have := i_rng (vp_nar .boolean y12673); omega) (by have := i_rng (vp_nar .boolean y12673); omega)
        refine q_aload_n hM dX12_bringsBack_25 (lv_at hl 0 rfl) ?_
        refine w_get (v := .ref (ad 159)) hM hW FG_X12_103 lb_129 (rf_129_53 hW.2.1) dX12_bringsBack_26 ?_
        refine q_iload_n hM dX12_bringsBack_29 (lv_at hl 2 rfl) ?_
        refine q_aload_n hM dX12_bringsBack_30 (lv_at hl 0 rfl) ?_
        refine w_get (v := .ref (ad 163)) hM hW FG_X12_115 lb_129 (rf_129_68 hW.2.1) dX12_bringsBack_31 ?_
        refine q_bipush (v := (8 : Int32)) hM dX12_bringsBack_34 (by decide) ?_
        refine q_iload_n hM dX12_bringsBack_36 (lv_at hl 1 rfl) ?_
        refine q_imul hM dX12_bringsBack_37 (fun z12676 hz12676 => ?_)
        first | have tz12676 := i_mulT hz12676 (kc_8 : (8 : Int32).toInt = 8) (kc_0 : (0 : Int32).toInt = 0) (by omega) (by omega) | skip
        refine q_iload_n hM dX12_bringsBack_38 (lv_at hl 2 rfl) ?_
        refine q_iadd hM dX12_bringsBack_39 (fun z12677 hz12677 => ?_)
        first | have tz12677 := i_addT hz12677 (rfl : z12676.toInt = z12676.toInt) (rfl : w2_2.toInt = w2_2.toInt) (by omega) (by omega) | skip
        refine w_iald hM hW lb_163 (i_in (by omega) (by omega)) dX12_bringsBack_40 ?_
        refine q_top (fun y12678 hy12678 => ?_)
        have by12678 := hG.a hy12678 rA_163
        refine w_iast hM hW lb_159 (by omega) (i_in (by omega) (by omega)) dX12_bringsBack_41 (fun g12679 H locs hW e1 e2 => ?_)
        have f12680 : arI g12679 158 = upd (arI h9_2 158) w2_2.toNatClampNeg y12673 := (e2.2.1 158 (by unfold Only; omega)).trans f12675
        have hG := hG.st e1 e2 rA_159 (by have := i_rng y12678; omega) (by have := i_rng y12678; omega)
        refine q_aload_n hM dX12_bringsBack_42 (lv_at hl 0 rfl) ?_
        refine w_get (v := .ref (ad 160)) hM hW FG_X12_106 lb_129 (rf_129_54 hW.2.1) dX12_bringsBack_43 ?_
        refine q_iload_n hM dX12_bringsBack_46 (lv_at hl 2 rfl) ?_
        refine q_aload_n hM dX12_bringsBack_47 (lv_at hl 0 rfl) ?_
        refine w_get (v := .ref (ad 164)) hM hW FG_X12_118 lb_129 (rf_129_69 hW.2.1) dX12_bringsBack_48 ?_
        refine q_bipush (v := (8 : Int32)) hM dX12_bringsBack_51 (by decide) ?_
        refine q_iload_n hM dX12_bringsBack_53 (lv_at hl 1 rfl) ?_
        refine q_imul hM dX12_bringsBack_54 (fun z12681 hz12681 => ?_)
        first | have tz12681 := i_mulT hz12681 (kc_8 : (8 : Int32).toInt = 8) (kc_0 : (0 : Int32).toInt = 0) (by omega) (by omega) | skip
        refine q_iload_n hM dX12_bringsBack_55 (lv_at hl 2 rfl) ?_
        refine q_iadd hM dX12_bringsBack_56 (fun z12682 hz12682 => ?_)
        first | have tz12682 := i_addT hz12682 (rfl : z12681.toInt = z12681.toInt) (rfl : w2_2.toInt = w2_2.toInt) (by omega) (by omega) | skip
        refine w_iald hM hW lb_164 (i_in (by omega) (by omega)) dX12_bringsBack_57 ?_
        refine q_top (fun y12683 hy12683 => ?_)
        refine w_iast hM hW lb_160 (by omega) (i_in (by omega) (by omega)) dX12_bringsBack_58 (fun g12684 H locs hW e1 e2 => ?_)
        have f12685 : arI g12684 158 = upd (arI h9_2 158) w2_2.toNatClampNeg y12673 := (e2.2.1 158 (by unfold Only; omega)).trans f12680
        have hG := hG.st e1 e2 (rfl : rA 160 = (-2147483648, 2147483647)) (by have := i_rng y12683; omega) (by have := i_rng y12683; omega)
        refine q_iinc (lv9 := fun z12686 => [(2, .int z12686), (0, .ref (ad 129)), (1, .int (0 : Int32))]) hM dX12_bringsBack_59 hl (kq := 2) rfl (by decide) (fun _ => rfl) (fun z12686 ls hz12686 hl => ?_)
        first | have tz12686 := i_addT hz12686 (rfl : w2_2.toInt = w2_2.toInt) (kc_1 : (Int32.ofInt 1).toInt = 1) (by omega) (by omega) | skip
        refine q_goto (tgt := 2) hM dX12_bringsBack_62 (by decide) ?_
        exact ih2 z12686 _ _ _ _ (by omega) hG (by omega) (by omega) (by rw [f12685]; exact row_cp (h := fun j => arI g0 162 (0 + j)) rfl i2_3 hy12673 (by omega)) (lv_sub hl [1, 2, 0] rfl) hW
  have := kc_0
  exact L2 _ (0 : Int32) _ _ _ _ (Nat.lt_succ_self _) hG (by omega) (by omega) (fun j hj => absurd hj (by have := kc_0; omega)) (lv_sub hl [1, 2, 0] rfl) hW


set_option maxRecDepth 100000 in
set_option maxHeartbeats 4000000 in
theorem s_X12_laysAside_1 (l : Launch) (D : va_G) (cA : Nat → ClassId) (ad : Nat → Nat) (g0 : Nat → va_E)  (wk : Int32)  (hSh : Shp ad cA g0) (hG : Rng g0) (h_wk : fld g0 129 56 = .int wk) (hF : ∀ q : Nat, q < 8 → (arI g0 158 q).toInt = 0 ∨ (arI g0 158 q).toInt = 1) : CT l NN ad cA D yX12_laysAside cX12_laysAside 3 none (0, 0) [.ref (ad 129), .int (1 : Int32)] g0 (fun v g' => v = none ∧ Shp ad cA g' ∧ Rng g' ∧ FR (fun i k => (162 ≤ i ∧ i < 170)) g0 g' ∧ (∀ j : Nat, j < 8 → arI g' 162 (8 + j) = arI g0 158 j) ∧ (∀ q : Nat, (q < 8 ∨ 16 ≤ q) → arI g' 162 q = arI g0 162 q) ∧ (arI g' 166 = upd (arI g0 166) (1 : Int32).toNatClampNeg wk)) := by
  refine q_enterV (by decide) (Nat.le_of_ble_eq_true rfl) (fun K H locs ls _ _ hM hW0 hR hC hE hl => ?_)
  have hl : lv_has ls 3 [(0, .ref (ad 129)), (1, .int (1 : Int32))] := hl
  have hW : WS ad cA (fun i k => (162 ≤ i ∧ i < 170)) g0 K g0 H locs := ⟨hW0, hSh, FR.rf⟩
  have := kc_1
  refine q_iconst (v := (0 : Int32)) hM dX12_laysAside_0 (by decide) ?_
  refine q_istore_n (lv9 := [(2, .int (0 : Int32)), (0, .ref (ad 129)), (1, .int (1 : Int32))]) hM dX12_laysAside_1 hl (by decide) rfl (fun ls hl => ?_)
  have L2 : ∀ (fu2 : Nat) (w2_2 : Int32) (h9_2 : Nat → va_E) (H : Heap) (locs : List Loc) (ls : Array Slot), (8 - w2_2.toInt).toNat < fu2 → (Rng h9_2) → (0 ≤ w2_2.toInt) → (w2_2.toInt ≤ 8) → (∀ j : Nat, (j : Int) < w2_2.toInt → arI h9_2 162 (8 + j) = arI g0 158 j) → (∀ q : Nat, (q < 8 ∨ 16 ≤ q) → arI h9_2 162 q = arI g0 162 q) → (arI h9_2 166 = arI g0 166) → lv_has ls 3 [(0, .ref (ad 129)), (1, .int (1 : Int32)), (2, .int w2_2)] → WS ad cA (fun i k => (162 ≤ i ∧ i < 170)) g0 K h9_2 H locs → XX K 0 0 H locs 2 ls [] := by
    intro fu2
    induction fu2 with
    | zero => intro w2_2 h9_2 H locs ls h0; omega
    | succ fu2 ih2 =>
      intro w2_2 h9_2 H locs ls hm2 i2_0 i2_1 i2_2 i2_3 i2_4 d2_166 hl hW
      have hG := i2_0
      refine q_iload_n hM dX12_laysAside_2 (lv_at hl 2 rfl) ?_
      refine q_bipush (v := (8 : Int32)) hM dX12_laysAside_3 (by decide) ?_
      refine q_icmp_ge (tgt := 65) hM dX12_laysAside_5 (by decide) (rfl : w2_2.toInt = w2_2.toInt) (kc_8 : (8 : Int32).toInt = 8) (fun h5 => ?_) (fun h5 => ?_)
      · refine q_iconst (v := (0 : Int32)) hM dX12_laysAside_65 (by decide) ?_
        refine q_istore_n (lv9 := [(2, .int (0 : Int32)), (0, .ref (ad 129)), (1, .int (1 : Int32))]) hM dX12_laysAside_66 hl (by decide) rfl (fun ls hl => ?_)
        have L67 : ∀ (fu67 : Nat) (w67_2 : Int32) (h9_67 : Nat → va_E) (H : Heap) (locs : List Loc) (ls : Array Slot), (96 - w67_2.toInt).toNat < fu67 → (Rng h9_67) → (0 ≤ w67_2.toInt) → (w67_2.toInt ≤ 96) → (arI h9_67 162 = arI h9_2 162) → (arI h9_67 166 = arI g0 166) → lv_has ls 3 [(0, .ref (ad 129)), (1, .int (1 : Int32)), (2, .int w67_2)] → WS ad cA (fun i k => (162 ≤ i ∧ i < 170)) g0 K h9_67 H locs → XX K 0 0 H locs 67 ls [] := by
          intro fu67
          induction fu67 with
          | zero => intro w67_2 h9_67 H locs ls h0; omega
          | succ fu67 ih67 =>
            intro w67_2 h9_67 H locs ls hm67 i67_0 i67_1 i67_2 d67_162 d67_166 hl hW
            have hG := i67_0
            refine q_iload_n hM dX12_laysAside_67 (lv_at hl 2 rfl) ?_
            refine q_bipush (v := (96 : Int32)) hM dX12_laysAside_68 (by decide) ?_
            refine q_icmp_ge (tgt := 96) hM dX12_laysAside_70 (by decide) (rfl : w67_2.toInt = w67_2.toInt) (kc_96 : (96 : Int32).toInt = 96) (fun h70 => ?_) (fun h70 => ?_)
            · refine q_aload_n hM dX12_laysAside_96 (lv_at hl 0 rfl) ?_
              refine w_get (v := .ref (ad 166)) hM hW FG_X12_124 lb_129 (rf_129_71 hW.2.1) dX12_laysAside_97 ?_
              refine q_iload_n hM dX12_laysAside_100 (lv_at hl 1 rfl) ?_
              refine q_aload_n hM dX12_laysAside_101 (lv_at hl 0 rfl) ?_
              refine w_get (v := .int wk) hM hW FG_X12_416 lb_129 ((hW.2.2.1 129 56 (by omega)).trans h_wk) dX12_laysAside_102 ?_
              refine w_iast hM hW lb_166 (by omega) (i_in (by rw [kc_1]; decide) (by rw [kc_1]; decide)) dX12_laysAside_105 (fun g12691 H locs hW e1 e2 => ?_)
              have f12692 : arI g12691 162 = arI h9_2 162 := (e2.2.1 162 (by unfold Only; omega)).trans d67_162
              have f12693 := e1
              rw [d67_166] at f12693
              have hG := hG.st e1 e2 (rfl : rA 166 = (-2147483648, 2147483647)) (by have := i_rng wk; omega) (by have := i_rng wk; omega)
              refine q_aload_n hM dX12_laysAside_106 (lv_at hl 0 rfl) ?_
              refine w_get (v := .ref (ad 167)) hM hW FG_X12_127 lb_129 (rf_129_72 hW.2.1) dX12_laysAside_107 ?_
              refine q_iload_n hM dX12_laysAside_110 (lv_at hl 1 rfl) ?_
              refine q_aload_n hM dX12_laysAside_111 (lv_at hl 0 rfl) ?_
              refine w_getI hM hW FG_X12_471 lb_129 (by decide) (by decide) dX12_laysAside_112 (fun x12694 fx12694 => ?_)
              refine w_iast hM hW lb_167 (by omega) (i_in (by rw [kc_1]; decide) (by rw [kc_1]; decide)) dX12_laysAside_115 (fun g12695 H locs hW e1 e2 => ?_)
              have f12696 : arI g12695 162 = arI h9_2 162 := (e2.2.1 162 (by unfold Only; omega)).trans f12692
              have f12697 : arI g12695 166 = upd (arI g0 166) (1 : Int32).toNatClampNeg wk := (e2.2.1 166 (by unfold Only; omega)).trans f12693
              have f12698 : fld g12695 129 57 = .int x12694 := (e2.1 129 57 (by unfold Only; omega)).trans fx12694
              have hG := hG.st e1 e2 (rfl : rA 167 = (-2147483648, 2147483647)) (by have := i_rng x12694; omega) (by have := i_rng x12694; omega)
              refine q_aload_n hM dX12_laysAside_116 (lv_at hl 0 rfl) ?_
              refine w_get (v := .ref (ad 168)) hM hW FG_X12_130 lb_129 (rf_129_73 hW.2.1) dX12_laysAside_117 ?_
              refine q_iload_n hM dX12_laysAside_120 (lv_at hl 1 rfl) ?_
              refine q_aload_n hM dX12_laysAside_121 (lv_at hl 0 rfl) ?_
              refine w_getI hM hW FG_X12_486 lb_129 (by decide) (by decide) dX12_laysAside_122 (fun x12699 fx12699 => ?_)
              refine w_iast hM hW lb_168 (by omega) (i_in (by rw [kc_1]; decide) (by rw [kc_1]; decide)) dX12_laysAside_125 (fun g12700 H locs hW e1 e2 => ?_)
              have f12701 : arI g12700 162 = arI h9_2 162 := (e2.2.1 162 (by unfold Only; omega)).trans f12696
              have f12702 : arI g12700 166 = upd (arI g0 166) (1 : Int32).toNatClampNeg wk := (e2.2.1 166 (by unfold Only; omega)).trans f12697
              have f12703 : fld g12700 129 57 = .int x12694 := (e2.1 129 57 (by unfold Only; omega)).trans f12698
              have f12704 : fld g12700 129 58 = .int x12699 := (e2.1 129 58 (by unfold Only; omega)).trans fx12699
              have hG := hG.st e1 e2 (rfl : rA 168 = (-2147483648, 2147483647)) (by have := i_rng x12699; omega) (by have := i_rng x12699; omega)
              refine q_aload_n hM dX12_laysAside_126 (lv_at hl 0 rfl) ?_
              refine w_get (v := .ref (ad 169)) hM hW FG_X12_133 lb_129 (rf_129_74 hW.2.1) dX12_laysAside_127 ?_
              refine q_iload_n hM dX12_laysAside_130 (lv_at hl 1 rfl) ?_
              refine q_aload_n hM dX12_laysAside_131 (lv_at hl 0 rfl) ?_
              refine w_getI hM hW FG_X12_13 lb_129 (by decide) (by decide) dX12_laysAside_132 (fun x12705 fx12705 => ?_)
              refine w_iast hM hW lb_169 (by omega) (i_in (by rw [kc_1]; decide) (by rw [kc_1]; decide)) dX12_laysAside_135 (fun g12706 H locs hW e1 e2 => ?_)
              have f12707 : arI g12706 162 = arI h9_2 162 := (e2.2.1 162 (by unfold Only; omega)).trans f12701
              have f12708 : arI g12706 166 = upd (arI g0 166) (1 : Int32).toNatClampNeg wk := (e2.2.1 166 (by unfold Only; omega)).trans f12702
              have f12709 : fld g12706 129 57 = .int x12694 := (e2.1 129 57 (by unfold Only; omega)).trans f12703
              have f12710 : fld g12706 129 58 = .int x12699 := (e2.1 129 58 (by unfold Only; omega)).trans f12704
              have f12711 : fld g12706 129 2 = .int x12705 := (e2.1 129 2 (by unfold Only; omega)).trans fx12705
              have hG := hG.st e1 e2 (rfl : rA 169 = (-2147483648, 2147483647)) (by have := i_rng x12705; omega) (by have := i_rng x12705; omega)
              exact hE _ _ _ _ _ hW.1 ⟨rfl, hW.2.1, hG, hW.2.2, (fun j hj => by rw [f12707]; exact i2_3 j (by omega)), (fun q hq => by rw [f12707]; exact i2_4 q hq), f12708⟩ dX12_laysAside_136
            · refine q_aload_n hM dX12_laysAside_73 (lv_at hl 0 rfl) ?_
              refine w_get (v := .ref (ad 165)) hM hW FG_X12_121 lb_129 (rf_129_70 hW.2.1) dX12_laysAside_74 ?_
              refine q_bipush (v := (96 : Int32)) hM dX12_laysAside_77 (by decide) ?_
              refine q_iload_n hM dX12_laysAside_79 (lv_at hl 1 rfl) ?_
              refine q_imul hM dX12_laysAside_80 (fun z12713 hz12713 => ?_)
              first | have tz12713 := i_mulT hz12713 (kc_96 : (96 : Int32).toInt = 96) (kc_1 : (1 : Int32).toInt = 1) (by omega) (by omega) | skip
              refine q_iload_n hM dX12_laysAside_81 (lv_at hl 2 rfl) ?_
              refine q_iadd hM dX12_laysAside_82 (fun z12714 hz12714 => ?_)
              first | have tz12714 := i_addT hz12714 (rfl : z12713.toInt = z12713.toInt) (rfl : w67_2.toInt = w67_2.toInt) (by omega) (by omega) | skip
              refine q_aload_n hM dX12_laysAside_83 (lv_at hl 0 rfl) ?_
              refine w_get (v := .ref (ad 161)) hM hW FG_X12_109 lb_129 (rf_129_55 hW.2.1) dX12_laysAside_84 ?_
              refine q_iload_n hM dX12_laysAside_87 (lv_at hl 2 rfl) ?_
              refine w_iald hM hW lb_161 (i_in (by omega) (by omega)) dX12_laysAside_88 ?_
              refine q_top (fun y12715 hy12715 => ?_)
              refine w_iast hM hW lb_165 (by omega) (i_in (by omega) (by omega)) dX12_laysAside_89 (fun g12716 H locs hW e1 e2 => ?_)
              have f12717 : arI g12716 162 = arI h9_2 162 := (e2.2.1 162 (by unfold Only; omega)).trans d67_162
              have f12718 : arI g12716 166 = arI g0 166 := (e2.2.1 166 (by unfold Only; omega)).trans d67_166
              have hG := hG.st e1 e2 (rfl : rA 165 = (-2147483648, 2147483647)) (by have := i_rng y12715; omega) (by have := i_rng y12715; omega)
              refine q_iinc (lv9 := fun z12719 => [(2, .int z12719), (0, .ref (ad 129)), (1, .int (1 : Int32))]) hM dX12_laysAside_90 hl (kq := 2) rfl (by decide) (fun _ => rfl) (fun z12719 ls hz12719 hl => ?_)
              first | have tz12719 := i_addT hz12719 (rfl : w67_2.toInt = w67_2.toInt) (kc_1 : (Int32.ofInt 1).toInt = 1) (by omega) (by omega) | skip
              refine q_goto (tgt := 67) hM dX12_laysAside_93 (by decide) ?_
              exact ih67 z12719 _ _ _ _ (by omega) hG (by omega) (by omega) f12717 f12718 (lv_sub hl [1, 2, 0] rfl) hW
        have := kc_0
        exact L67 _ (0 : Int32) _ _ _ _ (Nat.lt_succ_self _) hG (by omega) (by omega) (rfl : arI h9_2 162 = arI h9_2 162) d2_166 (lv_sub hl [1, 2, 0] rfl) hW
      · refine q_aload_n hM dX12_laysAside_8 (lv_at hl 0 rfl) ?_
        refine w_get (v := .ref (ad 162)) hM hW FG_X12_112 lb_129 (rf_129_67 hW.2.1) dX12_laysAside_9 ?_
        refine q_bipush (v := (8 : Int32)) hM dX12_laysAside_12 (by decide) ?_
        refine q_iload_n hM dX12_laysAside_14 (lv_at hl 1 rfl) ?_
        refine q_imul hM dX12_laysAside_15 (fun z12721 hz12721 => ?_)
        first | have tz12721 := i_mulT hz12721 (kc_8 : (8 : Int32).toInt = 8) (kc_1 : (1 : Int32).toInt = 1) (by omega) (by omega) | skip
        refine q_iload_n hM dX12_laysAside_16 (lv_at hl 2 rfl) ?_
        refine q_iadd hM dX12_laysAside_17 (fun z12722 hz12722 => ?_)
        first | have tz12722 := i_addT hz12722 (rfl : z12721.toInt = z12721.toInt) (rfl : w2_2.toInt = w2_2.toInt) (by omega) (by omega) | skip
        refine q_aload_n hM dX12_laysAside_18 (lv_at hl 0 rfl) ?_
        refine w_get (v := .ref (ad 158)) hM hW FG_X12_100 lb_129 (rf_129_52 hW.2.1) dX12_laysAside_19 ?_
        refine q_iload_n hM dX12_laysAside_22 (lv_at hl 2 rfl) ?_
        refine w_zald hM hW lb_158 (i_in (by omega) (by omega)) dX12_laysAside_23 ?_
        refine q_top (fun y12723 hy12723 => ?_)
        rw [hW.2.2.2.1 158 (by omega)] at hy12723
        have v9 := hF w2_2.toNatClampNeg (by show w2_2.toInt.toNat < 8; omega)
        rw [← hy12723] at v9
        refine w_zast hM hW lb_162 (by omega) (i_in (by omega) (by omega)) dX12_laysAside_24 (fun g12724 H locs hW e1 e2 => ?_)
        have f12725 : arI g12724 166 = arI g0 166 := (e2.2.1 166 (by unfold Only; omega)).trans d2_166
        have f12726 := e1
        rw [(rfl : arI h9_2 162 = arI h9_2 162)] at f12726
        rw [vb01 v9] at f12726
        have hG := hG.st e1 e2 (rfl : rA 162 = (-2147483648, 2147483647)) (by have := i_rng (vp_nar .boolean y12723); omega) (by have := i_rng (vp_nar .boolean y12723); omega)
        refine q_aload_n hM dX12_laysAside_25 (lv_at hl 0 rfl) ?_
        refine w_get (v := .ref (ad 163)) hM hW FG_X12_115 lb_129 (rf_129_68 hW.2.1) dX12_laysAside_26 ?_
        refine q_bipush (v := (8 : Int32)) hM dX12_laysAside_29 (by decide) ?_
        refine q_iload_n hM dX12_laysAside_31 (lv_at hl 1 rfl) ?_
        refine q_imul hM dX12_laysAside_32 (fun z12727 hz12727 => ?_)
        first | have tz12727 := i_mulT hz12727 (kc_8 : (8 : Int32).toInt = 8) (kc_1 : (1 : Int32).toInt = 1) (by omega) (by omega) | skip
        refine q_iload_n hM dX12_laysAside_33 (lv_at hl 2 rfl) ?_
        refine q_iadd hM dX12_laysAside_34 (fun z12728 hz12728 => ?_)
        first | have tz12728 := i_addT hz12728 (rfl : z12727.toInt = z12727.toInt) (rfl : w2_2.toInt = w2_2.toInt) (by omega) (by omega) | skip
        refine q_aload_n hM dX12_laysAside_35 (lv_at hl 0 rfl) ?_
        refine w_get (v := .ref (ad 159)) hM hW FG_X12_103 lb_129 (rf_129_53 hW.2.1) dX12_laysAside_36 ?_
        refine q_iload_n hM dX12_laysAside_39 (lv_at hl 2 rfl) ?_
        refine w_iald hM hW lb_159 (i_in (by omega) (by omega)) dX12_laysAside_40 ?_
        refine q_top (fun y12729 hy12729 => ?_)
        have by12729 := hG.a hy12729 rA_159
        refine w_iast hM hW lb_163 (by omega) (i_in (by omega) (by omega)) dX12_laysAside_41 (fun g12730 H locs hW e1 e2 => ?_)
        have f12731 : arI g12730 166 = arI g0 166 := (e2.2.1 166 (by unfold Only; omega)).trans f12725
        have f12732 : arI g12730 162 = upd (arI h9_2 162) z12722.toNatClampNeg y12723 := (e2.2.1 162 (by unfold Only; omega)).trans f12726
        have hG := hG.st e1 e2 rA_163 (by have := i_rng y12729; omega) (by have := i_rng y12729; omega)
        refine q_aload_n hM dX12_laysAside_42 (lv_at hl 0 rfl) ?_
        refine w_get (v := .ref (ad 164)) hM hW FG_X12_118 lb_129 (rf_129_69 hW.2.1) dX12_laysAside_43 ?_
        refine q_bipush (v := (8 : Int32)) hM dX12_laysAside_46 (by decide) ?_
        refine q_iload_n hM dX12_laysAside_48 (lv_at hl 1 rfl) ?_
        refine q_imul hM dX12_laysAside_49 (fun z12733 hz12733 => ?_)
        first | have tz12733 := i_mulT hz12733 (kc_8 : (8 : Int32).toInt = 8) (kc_1 : (1 : Int32).toInt = 1) (by omega) (by omega) | skip
        refine q_iload_n hM dX12_laysAside_50 (lv_at hl 2 rfl) ?_
        refine q_iadd hM dX12_laysAside_51 (fun z12734 hz12734 => ?_)
        first | have tz12734 := i_addT hz12734 (rfl : z12733.toInt = z12733.toInt) (rfl : w2_2.toInt = w2_2.toInt) (by omega) (by omega) | skip
        refine q_aload_n hM dX12_laysAside_52 (lv_at hl 0 rfl) ?_
        refine w_get (v := .ref (ad 160)) hM hW FG_X12_106 lb_129 (rf_129_54 hW.2.1) dX12_laysAside_53 ?_
        refine q_iload_n hM dX12_laysAside_56 (lv_at hl 2 rfl) ?_
        refine w_iald hM hW lb_160 (i_in (by omega) (by omega)) dX12_laysAside_57 ?_
        refine q_top (fun y12735 hy12735 => ?_)
        refine w_iast hM hW lb_164 (by omega) (i_in (by omega) (by omega)) dX12_laysAside_58 (fun g12736 H locs hW e1 e2 => ?_)
        have f12737 : arI g12736 166 = arI g0 166 := (e2.2.1 166 (by unfold Only; omega)).trans f12731
        have f12738 : arI g12736 162 = upd (arI h9_2 162) z12722.toNatClampNeg y12723 := (e2.2.1 162 (by unfold Only; omega)).trans f12732
        have hG := hG.st e1 e2 (rfl : rA 164 = (-2147483648, 2147483647)) (by have := i_rng y12735; omega) (by have := i_rng y12735; omega)
        refine q_iinc (lv9 := fun z12739 => [(2, .int z12739), (0, .ref (ad 129)), (1, .int (1 : Int32))]) hM dX12_laysAside_59 hl (kq := 2) rfl (by decide) (fun _ => rfl) (fun z12739 ls hz12739 hl => ?_)
        first | have tz12739 := i_addT hz12739 (rfl : w2_2.toInt = w2_2.toInt) (kc_1 : (Int32.ofInt 1).toInt = 1) (by omega) (by omega) | skip
        refine q_goto (tgt := 2) hM dX12_laysAside_62 (by decide) ?_
        exact ih2 z12739 _ _ _ _ (by omega) hG (by omega) (by omega) (by rw [f12738]; exact row_sc rfl i2_3 (by omega) (by omega) hy12723 (by omega)) (fun q hq => by rw [f12738]; unfold upd; rw [if_neg (by show ¬ q = (Int32.toInt _).toNat; omega)]; exact i2_4 q hq) f12737 (lv_sub hl [1, 2, 0] rfl) hW
  have := kc_0
  exact L2 _ (0 : Int32) _ _ _ _ (Nat.lt_succ_self _) hG (by omega) (by omega) (fun j hj => absurd hj (by have := kc_0; omega)) (fun q hq => by rw [(rfl : arI g0 162 = arI g0 162)]) (rfl : arI g0 166 = arI g0 166) (lv_sub hl [1, 2, 0] rfl) hW


set_option maxRecDepth 100000 in
set_option maxHeartbeats 4000000 in
theorem s_X12_bringsBack_1 (l : Launch) (D : va_G) (cA : Nat → ClassId) (ad : Nat → Nat) (g0 : Nat → va_E)    (hSh : Shp ad cA g0) (hG : Rng g0) (hF2 : ∀ q : Nat, q < 8 → (arI g0 162 (8 + q)).toInt = 0 ∨ (arI g0 162 (8 + q)).toInt = 1) : CT l NN ad cA D yX12_bringsBack cX12_bringsBack 3 none (0, 0) [.ref (ad 129), .int (1 : Int32)] g0 (fun v g' => ∃ (w9 : Int32), v = none ∧ Shp ad cA g' ∧ Rng g' ∧ FR (fun i k => (158 ≤ i ∧ i < 162) ∨ (i = 129 ∧ (k = 2 ∨ k = 56 ∨ k = 57 ∨ k = 58))) g0 g' ∧ fld g' 129 56 = .int w9 ∧ (∀ j : Nat, j < 8 → arI g' 158 j = arI g0 162 (8 + j)) ∧ (w9 = arI g0 166 1)) := by
  refine q_enterV (by decide) (Nat.le_of_ble_eq_true rfl) (fun K H locs ls _ _ hM hW0 hR hC hE hl => ?_)
  have hl : lv_has ls 3 [(0, .ref (ad 129)), (1, .int (1 : Int32))] := hl
  have hW : WS ad cA (fun i k => (158 ≤ i ∧ i < 162) ∨ (i = 129 ∧ (k = 2 ∨ k = 56 ∨ k = 57 ∨ k = 58))) g0 K g0 H locs := ⟨hW0, hSh, FR.rf⟩
  have := kc_1
  refine q_iconst (v := (0 : Int32)) hM dX12_bringsBack_0 (by decide) ?_
  refine q_istore_n (lv9 := [(2, .int (0 : Int32)), (0, .ref (ad 129)), (1, .int (1 : Int32))]) hM dX12_bringsBack_1 hl (by decide) rfl (fun ls hl => ?_)
  have L2 : ∀ (fu2 : Nat) (w2_2 : Int32) (h9_2 : Nat → va_E) (H : Heap) (locs : List Loc) (ls : Array Slot), (8 - w2_2.toInt).toNat < fu2 → (Rng h9_2) → (0 ≤ w2_2.toInt) → (w2_2.toInt ≤ 8) → (∀ j : Nat, (j : Int) < w2_2.toInt → arI h9_2 158 j = (fun j => arI g0 162 (8 + j)) j) → lv_has ls 3 [(0, .ref (ad 129)), (1, .int (1 : Int32)), (2, .int w2_2)] → WS ad cA (fun i k => (158 ≤ i ∧ i < 162) ∨ (i = 129 ∧ (k = 2 ∨ k = 56 ∨ k = 57 ∨ k = 58))) g0 K h9_2 H locs → XX K 0 0 H locs 2 ls [] := by
    intro fu2
    induction fu2 with
    | zero => intro w2_2 h9_2 H locs ls h0; omega
    | succ fu2 ih2 =>
      intro w2_2 h9_2 H locs ls hm2 i2_0 i2_1 i2_2 i2_3 hl hW
      have hG := i2_0
      refine q_iload_n hM dX12_bringsBack_2 (lv_at hl 2 rfl) ?_
      refine q_bipush (v := (8 : Int32)) hM dX12_bringsBack_3 (by decide) ?_
      refine q_icmp_ge (tgt := 65) hM dX12_bringsBack_5 (by decide) (rfl : w2_2.toInt = w2_2.toInt) (kc_8 : (8 : Int32).toInt = 8) (fun h5 => ?_) (fun h5 => ?_)
      · refine q_iconst (v := (0 : Int32)) hM dX12_bringsBack_65 (by decide) ?_
        refine q_istore_n (lv9 := [(2, .int (0 : Int32)), (0, .ref (ad 129)), (1, .int (1 : Int32))]) hM dX12_bringsBack_66 hl (by decide) rfl (fun ls hl => ?_)
        have L67 : ∀ (fu67 : Nat) (w67_2 : Int32) (h9_67 : Nat → va_E) (H : Heap) (locs : List Loc) (ls : Array Slot), (96 - w67_2.toInt).toNat < fu67 → (Rng h9_67) → (0 ≤ w67_2.toInt) → (w67_2.toInt ≤ 96) → (arI h9_67 158 = arI h9_2 158) → lv_has ls 3 [(0, .ref (ad 129)), (1, .int (1 : Int32)), (2, .int w67_2)] → WS ad cA (fun i k => (158 ≤ i ∧ i < 162) ∨ (i = 129 ∧ (k = 2 ∨ k = 56 ∨ k = 57 ∨ k = 58))) g0 K h9_67 H locs → XX K 0 0 H locs 67 ls [] := by
          intro fu67
          induction fu67 with
          | zero => intro w67_2 h9_67 H locs ls h0; omega
          | succ fu67 ih67 =>
            intro w67_2 h9_67 H locs ls hm67 i67_0 i67_1 i67_2 d67_158 hl hW
            have hG := i67_0
            refine q_iload_n hM dX12_bringsBack_67 (lv_at hl 2 rfl) ?_
            refine q_bipush (v := (96 : Int32)) hM dX12_bringsBack_68 (by decide) ?_
            refine q_icmp_ge (tgt := 96) hM dX12_bringsBack_70 (by decide) (rfl : w67_2.toInt = w67_2.toInt) (kc_96 : (96 : Int32).toInt = 96) (fun h70 => ?_) (fun h70 => ?_)
            · refine q_aload_n hM dX12_bringsBack_96 (lv_at hl 0 rfl) ?_
              refine q_aload_n hM dX12_bringsBack_97 (lv_at hl 0 rfl) ?_
              refine w_get (v := .ref (ad 166)) hM hW FG_X12_124 lb_129 (rf_129_71 hW.2.1) dX12_bringsBack_98 ?_
              refine q_iload_n hM dX12_bringsBack_101 (lv_at hl 1 rfl) ?_
              refine w_iald hM hW lb_166 (i_in (by rw [kc_1]; decide) (by rw [kc_1]; decide)) dX12_bringsBack_102 ?_
              refine q_top (fun y12744 hy12744 => ?_)
              rw [hW.2.2.2.1 166 (by omega)] at hy12744
              refine w_put hM hW FP_X12_416 lb_129 (by omega) (Or.inl ⟨_, rfl⟩) rfl rfl dX12_bringsBack_103 (fun g12745 H locs hW e1 e2 => ?_)
              have f12746 : arI g12745 158 = arI h9_2 158 := (e2.2.1 158 (by unfold Only; omega)).trans d67_158
              have f12747 : fld g12745 129 56 = .int y12744 := e1
              have hG := hG.put e1 e2 (rfl : rF 129 56 = (-2147483648, 2147483647)) (by decide) (by have := i_rng y12744; omega) (by have := i_rng y12744; omega)
              refine q_aload_n hM dX12_bringsBack_106 (lv_at hl 0 rfl) ?_
              refine q_aload_n hM dX12_bringsBack_107 (lv_at hl 0 rfl) ?_
              refine w_get (v := .ref (ad 167)) hM hW FG_X12_127 lb_129 (rf_129_72 hW.2.1) dX12_bringsBack_108 ?_
              refine q_iload_n hM dX12_bringsBack_111 (lv_at hl 1 rfl) ?_
              refine w_iald hM hW lb_167 (i_in (by rw [kc_1]; decide) (by rw [kc_1]; decide)) dX12_bringsBack_112 ?_
              refine q_top (fun y12748 hy12748 => ?_)
              refine w_put hM hW FP_X12_471 lb_129 (by omega) (Or.inl ⟨_, rfl⟩) rfl rfl dX12_bringsBack_113 (fun g12749 H locs hW e1 e2 => ?_)
              have f12750 : arI g12749 158 = arI h9_2 158 := (e2.2.1 158 (by unfold Only; omega)).trans f12746
              have f12751 : fld g12749 129 56 = .int y12744 := (e2.1 129 56 (by unfold Only; omega)).trans f12747
              have f12752 : fld g12749 129 57 = .int y12748 := e1
              have hG := hG.put e1 e2 (rfl : rF 129 57 = (-2147483648, 2147483647)) (by decide) (by have := i_rng y12748; omega) (by have := i_rng y12748; omega)
              refine q_aload_n hM dX12_bringsBack_116 (lv_at hl 0 rfl) ?_
              refine q_aload_n hM dX12_bringsBack_117 (lv_at hl 0 rfl) ?_
              refine w_get (v := .ref (ad 168)) hM hW FG_X12_130 lb_129 (rf_129_73 hW.2.1) dX12_bringsBack_118 ?_
              refine q_iload_n hM dX12_bringsBack_121 (lv_at hl 1 rfl) ?_
              refine w_iald hM hW lb_168 (i_in (by rw [kc_1]; decide) (by rw [kc_1]; decide)) dX12_bringsBack_122 ?_
              refine q_top (fun y12753 hy12753 => ?_)
              refine w_put hM hW FP_X12_486 lb_129 (by omega) (Or.inl ⟨_, rfl⟩) rfl rfl dX12_bringsBack_123 (fun g12754 H locs hW e1 e2 => ?_)
              have f12755 : arI g12754 158 = arI h9_2 158 := (e2.2.1 158 (by unfold Only; omega)).trans f12750
              have f12756 : fld g12754 129 56 = .int y12744 := (e2.1 129 56 (by unfold Only; omega)).trans f12751
              have f12757 : fld g12754 129 57 = .int y12748 := (e2.1 129 57 (by unfold Only; omega)).trans f12752
              have f12758 : fld g12754 129 58 = .int y12753 := e1
              have hG := hG.put e1 e2 (rfl : rF 129 58 = (-2147483648, 2147483647)) (by decide) (by have := i_rng y12753; omega) (by have := i_rng y12753; omega)
              refine q_aload_n hM dX12_bringsBack_126 (lv_at hl 0 rfl) ?_
              refine q_aload_n hM dX12_bringsBack_127 (lv_at hl 0 rfl) ?_
              refine w_get (v := .ref (ad 169)) hM hW FG_X12_133 lb_129 (rf_129_74 hW.2.1) dX12_bringsBack_128 ?_
              refine q_iload_n hM dX12_bringsBack_131 (lv_at hl 1 rfl) ?_
              refine w_iald hM hW lb_169 (i_in (by rw [kc_1]; decide) (by rw [kc_1]; decide)) dX12_bringsBack_132 ?_
              refine q_top (fun y12759 hy12759 => ?_)
              refine w_put hM hW FP_X12_13 lb_129 (by omega) (Or.inl ⟨_, rfl⟩) rfl rfl dX12_bringsBack_133 (fun g12760 H locs hW e1 e2 => ?_)
              have f12761 : arI g12760 158 = arI h9_2 158 := (e2.2.1 158 (by unfold Only; omega)).trans f12755
              have f12762 : fld g12760 129 56 = .int y12744 := (e2.1 129 56 (by unfold Only; omega)).trans f12756
              have f12763 : fld g12760 129 57 = .int y12748 := (e2.1 129 57 (by unfold Only; omega)).trans f12757
              have f12764 : fld g12760 129 58 = .int y12753 := (e2.1 129 58 (by unfold Only; omega)).trans f12758
              have f12765 : fld g12760 129 2 = .int y12759 := e1
              have hG := hG.put e1 e2 (rfl : rF 129 2 = (-2147483648, 2147483647)) (by decide) (by have := i_rng y12759; omega) (by have := i_rng y12759; omega)
              exact hE _ _ _ _ _ hW.1 ⟨y12744, rfl, hW.2.1, hG, hW.2.2, f12762, (fun j hj => by rw [f12761]; exact i2_3 j (by omega)), hy12744⟩ dX12_bringsBack_136
            · refine q_aload_n hM dX12_bringsBack_73 (lv_at hl 0 rfl) ?_
              refine w_get (v := .ref (ad 161)) hM hW FG_X12_109 lb_129 (rf_129_55 hW.2.1) dX12_bringsBack_74 ?_
              refine q_iload_n hM dX12_bringsBack_77 (lv_at hl 2 rfl) ?_
              refine q_aload_n hM dX12_bringsBack_78 (lv_at hl 0 rfl) ?_
              refine w_get (v := .ref (ad 165)) hM hW FG_X12_121 lb_129 (rf_129_70 hW.2.1) dX12_bringsBack_79 ?_
              refine q_bipush (v := (96 : Int32)) hM dX12_bringsBack_82 (by decide) ?_
              refine q_iload_n hM dX12_bringsBack_84 (lv_at hl 1 rfl) ?_
              refine q_imul hM dX12_bringsBack_85 (fun z12767 hz12767 => ?_)
              first | have tz12767 := i_mulT hz12767 (kc_96 : (96 : Int32).toInt = 96) (kc_1 : (1 : Int32).toInt = 1) (by omega) (by omega) | skip
              refine q_iload_n hM dX12_bringsBack_86 (lv_at hl 2 rfl) ?_
              refine q_iadd hM dX12_bringsBack_87 (fun z12768 hz12768 => ?_)
              first | have tz12768 := i_addT hz12768 (rfl : z12767.toInt = z12767.toInt) (rfl : w67_2.toInt = w67_2.toInt) (by omega) (by omega) | skip
              refine w_iald hM hW lb_165 (i_in (by omega) (by omega)) dX12_bringsBack_88 ?_
              refine q_top (fun y12769 hy12769 => ?_)
              refine w_iast hM hW lb_161 (by omega) (i_in (by omega) (by omega)) dX12_bringsBack_89 (fun g12770 H locs hW e1 e2 => ?_)
              have f12771 : arI g12770 158 = arI h9_2 158 := (e2.2.1 158 (by unfold Only; omega)).trans d67_158
              have hG := hG.st e1 e2 (rfl : rA 161 = (-2147483648, 2147483647)) (by have := i_rng y12769; omega) (by have := i_rng y12769; omega)
              refine q_iinc (lv9 := fun z12772 => [(2, .int z12772), (0, .ref (ad 129)), (1, .int (1 : Int32))]) hM dX12_bringsBack_90 hl (kq := 2) rfl (by decide) (fun _ => rfl) (fun z12772 ls hz12772 hl => ?_)
              first | have tz12772 := i_addT hz12772 (rfl : w67_2.toInt = w67_2.toInt) (kc_1 : (Int32.ofInt 1).toInt = 1) (by omega) (by omega) | skip
              refine q_goto (tgt := 67) hM dX12_bringsBack_93 (by decide) ?_
              exact ih67 z12772 _ _ _ _ (by omega) hG (by omega) (by omega) f12771 (lv_sub hl [1, 2, 0] rfl) hW
        have := kc_0
        exact L67 _ (0 : Int32) _ _ _ _ (Nat.lt_succ_self _) hG (by omega) (by omega) (rfl : arI h9_2 158 = arI h9_2 158) (lv_sub hl [1, 2, 0] rfl) hW
      · refine q_aload_n hM dX12_bringsBack_8 (lv_at hl 0 rfl) ?_
        refine w_get (v := .ref (ad 158)) hM hW FG_X12_100 lb_129 (rf_129_52 hW.2.1) dX12_bringsBack_9 ?_
        refine q_iload_n hM dX12_bringsBack_12 (lv_at hl 2 rfl) ?_
        refine q_aload_n hM dX12_bringsBack_13 (lv_at hl 0 rfl) ?_
        refine w_get (v := .ref (ad 162)) hM hW FG_X12_112 lb_129 (rf_129_67 hW.2.1) dX12_bringsBack_14 ?_
        refine q_bipush (v := (8 : Int32)) hM dX12_bringsBack_17 (by decide) ?_
        refine q_iload_n hM dX12_bringsBack_19 (lv_at hl 1 rfl) ?_
        refine q_imul hM dX12_bringsBack_20 (fun z12774 hz12774 => ?_)
        first | have tz12774 := i_mulT hz12774 (kc_8 : (8 : Int32).toInt = 8) (kc_1 : (1 : Int32).toInt = 1) (by omega) (by omega) | skip
        refine q_iload_n hM dX12_bringsBack_21 (lv_at hl 2 rfl) ?_
        refine q_iadd hM dX12_bringsBack_22 (fun z12775 hz12775 => ?_)
        first | have tz12775 := i_addT hz12775 (rfl : z12774.toInt = z12774.toInt) (rfl : w2_2.toInt = w2_2.toInt) (by omega) (by omega) | skip
        refine w_zald hM hW lb_162 (i_in (by omega) (by omega)) dX12_bringsBack_23 ?_
        refine q_top (fun y12776 hy12776 => ?_)
        rw [hW.2.2.2.1 162 (by omega)] at hy12776
        rw [show z12775.toNatClampNeg = 8 + w2_2.toInt.toNat by show z12775.toInt.toNat = _; omega] at hy12776
        have v9 := hF2 w2_2.toInt.toNat (by omega)
        rw [← hy12776] at v9
        refine w_zast hM hW lb_158 (by omega) (i_in (by omega) (by omega)) dX12_bringsBack_24 (fun g12777 H locs hW e1 e2 => ?_)
        have f12778 := e1
        rw [(rfl : arI h9_2 158 = arI h9_2 158)] at f12778
        rw [vb01 v9] at f12778
        have hG := hG.st e1 e2 (rfl : rA 158 = (-2147483648, 2147483647)) (by have := i_rng (vp_nar .boolean y12776); omega) (by have := i_rng (vp_nar .boolean y12776); omega)
        refine q_aload_n hM dX12_bringsBack_25 (lv_at hl 0 rfl) ?_
        refine w_get (v := .ref (ad 159)) hM hW FG_X12_103 lb_129 (rf_129_53 hW.2.1) dX12_bringsBack_26 ?_
        refine q_iload_n hM dX12_bringsBack_29 (lv_at hl 2 rfl) ?_
        refine q_aload_n hM dX12_bringsBack_30 (lv_at hl 0 rfl) ?_
        refine w_get (v := .ref (ad 163)) hM hW FG_X12_115 lb_129 (rf_129_68 hW.2.1) dX12_bringsBack_31 ?_
        refine q_bipush (v := (8 : Int32)) hM dX12_bringsBack_34 (by decide) ?_
        refine q_iload_n hM dX12_bringsBack_36 (lv_at hl 1 rfl) ?_
        refine q_imul hM dX12_bringsBack_37 (fun z12779 hz12779 => ?_)
        first | have tz12779 := i_mulT hz12779 (kc_8 : (8 : Int32).toInt = 8) (kc_1 : (1 : Int32).toInt = 1) (by omega) (by omega) | skip
        refine q_iload_n hM dX12_bringsBack_38 (lv_at hl 2 rfl) ?_
        refine q_iadd hM dX12_bringsBack_39 (fun z12780 hz12780 => ?_)
        first | have tz12780 := i_addT hz12780 (rfl : z12779.toInt = z12779.toInt) (rfl : w2_2.toInt = w2_2.toInt) (by omega) (by omega) | skip
        refine w_iald hM hW lb_163 (i_in (by omega) (by omega)) dX12_bringsBack_40 ?_
        refine q_top (fun y12781 hy12781 => ?_)
        have by12781 := hG.a hy12781 rA_163
        refine w_iast hM hW lb_159 (by omega) (i_in (by omega) (by omega)) dX12_bringsBack_41 (fun g12782 H locs hW e1 e2 => ?_)
        have f12783 : arI g12782 158 = upd (arI h9_2 158) w2_2.toNatClampNeg y12776 := (e2.2.1 158 (by unfold Only; omega)).trans f12778
        have hG := hG.st e1 e2 rA_159 (by have := i_rng y12781; omega) (by have := i_rng y12781; omega)
        refine q_aload_n hM dX12_bringsBack_42 (lv_at hl 0 rfl) ?_
        refine w_get (v := .ref (ad 160)) hM hW FG_X12_106 lb_129 (rf_129_54 hW.2.1) dX12_bringsBack_43 ?_
        refine q_iload_n hM dX12_bringsBack_46 (lv_at hl 2 rfl) ?_
        refine q_aload_n hM dX12_bringsBack_47 (lv_at hl 0 rfl) ?_
        refine w_get (v := .ref (ad 164)) hM hW FG_X12_118 lb_129 (rf_129_69 hW.2.1) dX12_bringsBack_48 ?_
        refine q_bipush (v := (8 : Int32)) hM dX12_bringsBack_51 (by decide) ?_
        refine q_iload_n hM dX12_bringsBack_53 (lv_at hl 1 rfl) ?_
        refine q_imul hM dX12_bringsBack_54 (fun z12784 hz12784 => ?_)
        first | have tz12784 := i_mulT hz12784 (kc_8 : (8 : Int32).toInt = 8) (kc_1 : (1 : Int32).toInt = 1) (by omega) (by omega) | skip
        refine q_iload_n hM dX12_bringsBack_55 (lv_at hl 2 rfl) ?_
        refine q_iadd hM dX12_bringsBack_56 (fun z12785 hz12785 => ?_)
        first | have tz12785 := i_addT hz12785 (rfl : z12784.toInt = z12784.toInt) (rfl : w2_2.toInt = w2_2.toInt) (by omega) (by omega) | skip
        refine w_iald hM hW lb_164 (i_in (by omega) (by omega)) dX12_bringsBack_57 ?_
        refine q_top (fun y12786 hy12786 => ?_)
        refine w_iast hM hW lb_160 (by omega) (i_in (by omega) (by omega)) dX12_bringsBack_58 (fun g12787 H locs hW e1 e2 => ?_)
        have f12788 : arI g12787 158 = upd (arI h9_2 158) w2_2.toNatClampNeg y12776 := (e2.2.1 158 (by unfold Only; omega)).trans f12783
        have hG := hG.st e1 e2 (rfl : rA 160 = (-2147483648, 2147483647)) (by have := i_rng y12786; omega) (by have := i_rng y12786; omega)
        refine q_iinc (lv9 := fun z12789 => [(2, .int z12789), (0, .ref (ad 129)), (1, .int (1 : Int32))]) hM dX12_bringsBack_59 hl (kq := 2) rfl (by decide) (fun _ => rfl) (fun z12789 ls hz12789 hl => ?_)
        first | have tz12789 := i_addT hz12789 (rfl : w2_2.toInt = w2_2.toInt) (kc_1 : (Int32.ofInt 1).toInt = 1) (by omega) (by omega) | skip
        refine q_goto (tgt := 2) hM dX12_bringsBack_62 (by decide) ?_
        exact ih2 z12789 _ _ _ _ (by omega) hG (by omega) (by omega) (by rw [f12788]; exact row_cp (h := fun j => arI g0 162 (8 + j)) rfl i2_3 hy12776 (by omega)) (lv_sub hl [1, 2, 0] rfl) hW
  have := kc_0
  exact L2 _ (0 : Int32) _ _ _ _ (Nat.lt_succ_self _) hG (by omega) (by omega) (fun j hj => absurd hj (by have := kc_0; omega)) (lv_sub hl [1, 2, 0] rfl) hW


set_option maxRecDepth 100000 in
set_option maxHeartbeats 4000000 in
theorem s_X12_keep (l : Launch) (D : va_G) (cA : Nat → ClassId) (ad : Nat → Nat) (g0 : Nat → va_E)  (wk : Int32)  (hSh : Shp ad cA g0) (hG : Rng g0) (h_wk : fld g0 129 56 = .int wk) (hF : ∀ q : Nat, q < 8 → (arI g0 158 q).toInt = 0 ∨ (arI g0 158 q).toInt = 1) : CT l NN ad cA D yX12_keep cX12_keep 1 (some FieldType.int) (1, 22) [.ref (ad 129)] g0 (fun v g' => ∃ (r : Int32), v = some (.int r) ∧ Shp ad cA g' ∧ Rng g' ∧ FR (fun i k => (162 ≤ i ∧ i < 170) ∨ (i = 129 ∧ (k = 75))) g0 g' ∧ fld g' 129 75 = .int (1 : Int32) ∧ (∀ j : Nat, j < 8 → arI g' 162 (8 + j) = arI g0 158 j) ∧ (arI g' 166 1 = wk) ∧ (r = wk)) := by
  refine q_enterI (by decide) (Nat.le_of_ble_eq_true rfl) rfl (fun K H locs ls _ _ hM hW0 hR hC hE hl => ?_)
  have hl : lv_has ls 1 [(0, .ref (ad 129))] := hl
  have hW : WS ad cA (fun i k => (162 ≤ i ∧ i < 170) ∨ (i = 129 ∧ (k = 75))) g0 K g0 H locs := ⟨hW0, hSh, FR.rf⟩
  refine q_aload_n hM dX12_keep_0 (lv_at hl 0 rfl) ?_
  refine q_iconst (v := (1 : Int32)) hM dX12_keep_1 (by decide) ?_
  refine w_put hM hW FP_X12_603 lb_129 (by omega) (Or.inl ⟨_, rfl⟩) rfl rfl dX12_keep_2 (fun g12790 H locs hW e1 e2 => ?_)
  have f12791 : fld g12790 129 75 = .int (1 : Int32) := e1
  have hG := hG.put e1 e2 (rfl : rF 129 75 = (-2147483648, 2147483647)) (by decide) (by have := kc_1; have := i_rng (1 : Int32); omega) (by have := kc_1; have := i_rng (1 : Int32); omega)
  have k158 := hW.2.2.2.1 158 (by omega)
  refine q_aload_n hM dX12_keep_5 (lv_at hl 0 rfl) ?_
  refine q_iconst (v := (1 : Int32)) hM dX12_keep_6 (by decide) ?_
  refine q_callV (As := [.int (1 : Int32)]) (rest := []) hM hW.1 hR hC myX12_laysAside (kAW (v_6_10 (List.mem_of_getElem? (i := 2) rfl)) rfl) (rfl : vwCl[12]? = some (RX12, TX12, 86)) rfl lb_129.1 (shO hW.2.1 lb_129) (s_X12_laysAside_1 _ _ cA ad g12790 wk hW.2.1 hG ((hW.2.2.1 129 56 (by omega)).trans h_wk) (fun q hq => by rw [hW.2.2.2.1 158 (by omega)]; exact hF q hq)) ⟨by decide, by decide⟩ rfl rfl hl.1 (Nat.le_of_ble_eq_true rfl) dX12_keep_7 (fun v g12795 H locs hp hW1 => ?_)
  obtain ⟨rfl, hs1, hG, hf1, e12792, e12793, e12794⟩ := hp
  have f12796 : fld g12795 129 75 = .int (1 : Int32) := (hf1.1 129 75 (by omega)).trans f12791
  have hW : WS ad cA (fun i k => (162 ≤ i ∧ i < 170) ∨ (i = 129 ∧ (k = 75))) g0 K g12795 H locs := ⟨hW1, hs1, hW.2.2.tr hf1 (fun i k h => (Or.inl h))⟩
  refine q_aload_n hM dX12_keep_10 (lv_at hl 0 rfl) ?_
  refine w_get (v := .int wk) hM hW FG_X12_416 lb_129 ((hW.2.2.1 129 56 (by omega)).trans h_wk) dX12_keep_11 ?_
  exact hE _ _ _ _ _ _ hW.1 ⟨_, rfl, hW.2.1, hG, hW.2.2, f12796, (fun j hj => by rw [e12792 j hj, k158]), (by rw [e12794]; rfl), rfl⟩ dX12_keep_14


set_option maxRecDepth 100000 in
set_option maxHeartbeats 4000000 in
theorem s_X12_undo (l : Launch) (D : va_G) (cA : Nat → ClassId) (ad : Nat → Nat) (g0 : Nat → va_E)  (ik : Int32) (wk : Int32)  (hSh : Shp ad cA g0) (hG : Rng g0) (h_ik : fld g0 129 75 = .int ik) (h_wk : fld g0 129 56 = .int wk) (hF2 : ∀ q : Nat, q < 8 → (arI g0 162 (8 + q)).toInt = 0 ∨ (arI g0 162 (8 + q)).toInt = 1) : CT l NN ad cA D yX12_undo cX12_undo 1 (some FieldType.boolean) (1, 22) [.ref (ad 129)] g0 (fun v g' => ∃ (w9 : Int32) (r : Int32), v = some (.int r) ∧ Shp ad cA g' ∧ Rng g' ∧ FR (fun i k => (158 ≤ i ∧ i < 162) ∨ (i = 129 ∧ (k = 2 ∨ k = 56 ∨ k = 57 ∨ k = 58))) g0 g' ∧ fld g' 129 56 = .int w9 ∧ ((r.toInt = 1 ∧ ik.toInt ≠ 0 ∧ (∀ j : Nat, j < 8 → arI g' 158 j = arI g0 162 (8 + j)) ∧ w9 = arI g0 166 1) ∨ (r.toInt = 0 ∧ ik.toInt = 0 ∧ (∀ j : Nat, j < 8 → arI g' 158 j = arI g0 158 j) ∧ w9 = wk))) := by
  refine q_enterZ (by decide) (Nat.le_of_ble_eq_true rfl) (fun K H locs ls _ _ hM hW0 hR hC hE hl => ?_)
  have hl : lv_has ls 1 [(0, .ref (ad 129))] := hl
  have hW : WS ad cA (fun i k => (158 ≤ i ∧ i < 162) ∨ (i = 129 ∧ (k = 2 ∨ k = 56 ∨ k = 57 ∨ k = 58))) g0 K g0 H locs := ⟨hW0, hSh, FR.rf⟩
  have := kc_0
  have := kc_1
  have f12797 : fld g0 129 56 = .int wk := h_wk
  refine q_aload_n hM dX12_undo_0 (lv_at hl 0 rfl) ?_
  refine w_get (v := .int ik) hM hW FG_X12_603 lb_129 ((hW.2.2.1 129 75 (by omega)).trans h_ik) dX12_undo_1 ?_
  refine q_if_ne (tgt := 9) hM dX12_undo_4 (by decide) (rfl : ik.toInt = ik.toInt) (fun h4 => ?_) (fun h4 => ?_)
  · refine q_aload_n hM dX12_undo_9 (lv_at hl 0 rfl) ?_
    refine q_iconst (v := (1 : Int32)) hM dX12_undo_10 (by decide) ?_
    refine q_callV (As := [.int (1 : Int32)]) (rest := []) hM hW.1 hR hC myX12_bringsBack (kAW (v_6_10 (List.mem_of_getElem? (i := 10) rfl)) rfl) (rfl : vwCl[12]? = some (RX12, TX12, 86)) rfl lb_129.1 (shO hW.2.1 lb_129) (s_X12_bringsBack_1 _ _ cA ad g0  hW.2.1 hG hF2) ⟨by decide, by decide⟩ rfl rfl hl.1 (Nat.le_of_ble_eq_true rfl) dX12_undo_11 (fun v g12803 H locs hp hW1 => ?_)
    obtain ⟨v12799, rfl, hs1, hG, hf1, q12800, e12801, e12802⟩ := hp
    have hW : WS ad cA (fun i k => (158 ≤ i ∧ i < 162) ∨ (i = 129 ∧ (k = 2 ∨ k = 56 ∨ k = 57 ∨ k = 58))) g0 K g12803 H locs := ⟨hW1, hs1, hW.2.2.tr hf1 (fun i k h => h.elim (fun h => (Or.inl h)) (fun h => (Or.inr h)))⟩
    refine q_iconst (v := (1 : Int32)) hM dX12_undo_14 (by decide) ?_
    exact hE _ _ _ _ _ _ hW.1 nz_1 ⟨v12799, _, rfl, hW.2.1, hG, hW.2.2, q12800, (Or.inl ⟨kc_1, by omega, e12801, e12802⟩)⟩ dX12_undo_15
  · refine q_iconst (v := (0 : Int32)) hM dX12_undo_7 (by decide) ?_
    exact hE _ _ _ _ _ _ hW.1 nz_0 ⟨wk, _, rfl, hW.2.1, hG, hW.2.2, f12797, (Or.inr ⟨kc_0, by omega, fun _ _ => rfl, rfl⟩)⟩ dX12_undo_8
