
set_option maxRecDepth 100000 in
set_option maxHeartbeats 4000000 in
theorem s_X12_go_m (l : Launch) (D : va_G) (cA : Nat → ClassId) (ad : Nat → Nat) (g0 : Nat → va_E) (n : Int32) (wk : Int32)  (hSh : Shp ad cA g0) (hG : Rng g0) (h_wk : fld g0 129 56 = .int wk) (n0 : 0 ≤ n.toInt) (n60 : n.toInt ≤ 60) (hL : LawOK g0) : CT l NN ad cA D yX12_go cX12_go 6 none (9, 207) [.ref (ad 129), .int n, .int ((-1) : Int32)] g0 (fun v g' => ∃ (w9 : Int32), v = none ∧ Shp ad cA g' ∧ Rng g' ∧ FR (fun i k => i = 161 ∨ i = 156 ∨ i = 157 ∨ (i = 129 ∧ (k = 42 ∨ k = 43 ∨ k = 44 ∨ k = 45 ∨ k = 46 ∨ k = 47 ∨ k = 48 ∨ k = 49)) ∨ (i = 129 ∧ (k = 2 ∨ k = 57 ∨ k = 58 ∨ k = 61 ∨ k = 62 ∨ k = 63 ∨ k = 64)) ∨ i = 159 ∨ (i = 129 ∧ (k = 56 ∨ k = 65 ∨ k = 66))) g0 g' ∧ fld g' 129 56 = .int w9 ∧ (WKr wk.toInt n.toInt w9.toInt)) := by
  refine q_enterV (by decide) (Nat.le_of_ble_eq_true rfl) (fun K H locs ls _ _ hM hW0 hR hC hE hl => ?_)
  have hl : lv_has ls 6 [(0, .ref (ad 129)), (1, .int n), (2, .int ((-1) : Int32))] := hl
  have hW : WS ad cA (fun i k => i = 161 ∨ i = 156 ∨ i = 157 ∨ (i = 129 ∧ (k = 42 ∨ k = 43 ∨ k = 44 ∨ k = 45 ∨ k = 46 ∨ k = 47 ∨ k = 48 ∨ k = 49)) ∨ (i = 129 ∧ (k = 2 ∨ k = 57 ∨ k = 58 ∨ k = 61 ∨ k = 62 ∨ k = 63 ∨ k = 64)) ∨ i = 159 ∨ (i = 129 ∧ (k = 56 ∨ k = 65 ∨ k = 66))) g0 K g0 H locs := ⟨hW0, hSh, FR.rf⟩
  have := kc_9999
  have := kc_1
  have := i_rng wk
  have f12805 : fld g0 129 56 = .int wk := h_wk
  refine q_aload_n hM dX12_go_0 (lv_at hl 0 rfl) ?_
  refine q_iconst (v := (0 : Int32)) hM dX12_go_1 (by decide) ?_
  refine w_put hM hW FP_X12_474 lb_129 (by omega) (Or.inl ⟨_, rfl⟩) rfl rfl dX12_go_2 (fun g12806 H locs hW e1 e2 => ?_)
  have f12807 : fld g12806 129 56 = .int wk := (e2.1 129 56 (by unfold Only; omega)).trans f12805
  have f12808 : fld g12806 129 61 = .int (0 : Int32) := e1
  have hG := hG.put e1 e2 (rfl : rF 129 61 = (-2147483648, 2147483647)) (by decide) (by have := kc_0; have := i_rng (0 : Int32); omega) (by have := kc_0; have := i_rng (0 : Int32); omega)
  refine q_aload_n hM dX12_go_5 (lv_at hl 0 rfl) ?_
  refine q_iconst (v := (0 : Int32)) hM dX12_go_6 (by decide) ?_
  refine w_put hM hW FP_X12_477 lb_129 (by omega) (Or.inl ⟨_, rfl⟩) rfl rfl dX12_go_7 (fun g12809 H locs hW e1 e2 => ?_)
  have f12810 : fld g12809 129 56 = .int wk := (e2.1 129 56 (by unfold Only; omega)).trans f12807
  have f12811 : fld g12809 129 61 = .int (0 : Int32) := (e2.1 129 61 (by unfold Only; omega)).trans f12808
  have f12812 : fld g12809 129 62 = .int (0 : Int32) := e1
  have hG := hG.put e1 e2 (rfl : rF 129 62 = (-2147483648, 2147483647)) (by decide) (by have := kc_0; have := i_rng (0 : Int32); omega) (by have := kc_0; have := i_rng (0 : Int32); omega)
  refine q_aload_n hM dX12_go_10 (lv_at hl 0 rfl) ?_
  refine q_iconst (v := (0 : Int32)) hM dX12_go_11 (by decide) ?_
  refine w_put hM hW FP_X12_489 lb_129 (by omega) (Or.inl ⟨_, rfl⟩) rfl rfl dX12_go_12 (fun g12813 H locs hW e1 e2 => ?_)
  have f12814 : fld g12813 129 56 = .int wk := (e2.1 129 56 (by unfold Only; omega)).trans f12810
  have f12815 : fld g12813 129 61 = .int (0 : Int32) := (e2.1 129 61 (by unfold Only; omega)).trans f12811
  have f12816 : fld g12813 129 62 = .int (0 : Int32) := (e2.1 129 62 (by unfold Only; omega)).trans f12812
  have f12817 : fld g12813 129 63 = .int (0 : Int32) := e1
  have hG := hG.put e1 e2 (rfl : rF 129 63 = (-2147483648, 2147483647)) (by decide) (by have := kc_0; have := i_rng (0 : Int32); omega) (by have := kc_0; have := i_rng (0 : Int32); omega)
  refine q_aload_n hM dX12_go_15 (lv_at hl 0 rfl) ?_
  refine q_iconst (v := (0 : Int32)) hM dX12_go_16 (by decide) ?_
  refine w_put hM hW FP_X12_468 lb_129 (by omega) (Or.inl ⟨_, rfl⟩) rfl rfl dX12_go_17 (fun g12818 H locs hW e1 e2 => ?_)
  have f12819 : fld g12818 129 56 = .int wk := (e2.1 129 56 (by unfold Only; omega)).trans f12814
  have f12820 : fld g12818 129 61 = .int (0 : Int32) := (e2.1 129 61 (by unfold Only; omega)).trans f12815
  have f12821 : fld g12818 129 62 = .int (0 : Int32) := (e2.1 129 62 (by unfold Only; omega)).trans f12816
  have f12822 : fld g12818 129 63 = .int (0 : Int32) := (e2.1 129 63 (by unfold Only; omega)).trans f12817
  have f12823 : fld g12818 129 64 = .int (0 : Int32) := e1
  have hG := hG.put e1 e2 (rfl : rF 129 64 = (-2147483648, 2147483647)) (by decide) (by have := kc_0; have := i_rng (0 : Int32); omega) (by have := kc_0; have := i_rng (0 : Int32); omega)
  refine q_aload_n hM dX12_go_20 (lv_at hl 0 rfl) ?_
  refine q_bipush (v := ((-2) : Int32)) hM dX12_go_21 (by decide) ?_
  refine w_put hM hW FP_X12_495 lb_129 (by omega) (Or.inl ⟨_, rfl⟩) rfl rfl dX12_go_23 (fun g12824 H locs hW e1 e2 => ?_)
  have f12825 : fld g12824 129 56 = .int wk := (e2.1 129 56 (by unfold Only; omega)).trans f12819
  have f12826 : fld g12824 129 61 = .int (0 : Int32) := (e2.1 129 61 (by unfold Only; omega)).trans f12820
  have f12827 : fld g12824 129 62 = .int (0 : Int32) := (e2.1 129 62 (by unfold Only; omega)).trans f12821
  have f12828 : fld g12824 129 63 = .int (0 : Int32) := (e2.1 129 63 (by unfold Only; omega)).trans f12822
  have f12829 : fld g12824 129 64 = .int (0 : Int32) := (e2.1 129 64 (by unfold Only; omega)).trans f12823
  have f12830 : fld g12824 129 65 = .int ((-2) : Int32) := e1
  have hG := hG.put e1 e2 (rfl : rF 129 65 = (-2147483648, 2147483647)) (by decide) (by have := kc_m2; have := i_rng ((-2) : Int32); omega) (by have := kc_m2; have := i_rng ((-2) : Int32); omega)
  refine q_aload_n hM dX12_go_26 (lv_at hl 0 rfl) ?_
  refine q_bipush (v := ((-2) : Int32)) hM dX12_go_27 (by decide) ?_
  refine w_put hM hW FP_X12_498 lb_129 (by omega) (Or.inl ⟨_, rfl⟩) rfl rfl dX12_go_29 (fun g12831 H locs hW e1 e2 => ?_)
  have f12832 : fld g12831 129 56 = .int wk := (e2.1 129 56 (by unfold Only; omega)).trans f12825
  have f12833 : fld g12831 129 61 = .int (0 : Int32) := (e2.1 129 61 (by unfold Only; omega)).trans f12826
  have f12834 : fld g12831 129 62 = .int (0 : Int32) := (e2.1 129 62 (by unfold Only; omega)).trans f12827
  have f12835 : fld g12831 129 63 = .int (0 : Int32) := (e2.1 129 63 (by unfold Only; omega)).trans f12828
  have f12836 : fld g12831 129 64 = .int (0 : Int32) := (e2.1 129 64 (by unfold Only; omega)).trans f12829
  have f12837 : fld g12831 129 65 = .int ((-2) : Int32) := (e2.1 129 65 (by unfold Only; omega)).trans f12830
  have f12838 : fld g12831 129 66 = .int ((-2) : Int32) := e1
  have hG := hG.put e1 e2 (rfl : rF 129 66 = (-2147483648, 2147483647)) (by decide) (by have := kc_m2; have := i_rng ((-2) : Int32); omega) (by have := kc_m2; have := i_rng ((-2) : Int32); omega)
  refine q_iconst (v := (0 : Int32)) hM dX12_go_32 (by decide) ?_
  refine q_istore_n (lv9 := [(3, .int (0 : Int32)), (0, .ref (ad 129)), (1, .int n), (2, .int ((-1) : Int32))]) hM dX12_go_33 hl (by decide) rfl (fun ls hl => ?_)
  refine q_iconst (v := (0 : Int32)) hM dX12_go_34 (by decide) ?_
  refine q_istore (lv9 := [(4, .int (0 : Int32)), (3, .int (0 : Int32)), (0, .ref (ad 129)), (1, .int n), (2, .int ((-1) : Int32))]) hM dX12_go_35 hl (by decide) rfl (fun ls hl => ?_)
  have L37 : ∀ (fu37 : Nat) (w37_3 : Int32) (w37_4 : Int32) (g9 : Nat → va_E) (H : Heap) (locs : List Loc) (ls : Array Slot), (8 - w37_4.toInt).toNat < fu37 → (Rng g9) → (0 ≤ w37_4.toInt) → (w37_4.toInt ≤ 8) → (w37_3.toInt = 0) → (fld g9 129 56 = .int wk) → lv_has ls 6 [(0, .ref (ad 129)), (1, .int n), (2, .int ((-1) : Int32)), (3, .int w37_3), (4, .int w37_4)] → WS ad cA (fun i k => i = 161 ∨ i = 156 ∨ i = 157 ∨ (i = 129 ∧ (k = 42 ∨ k = 43 ∨ k = 44 ∨ k = 45 ∨ k = 46 ∨ k = 47 ∨ k = 48 ∨ k = 49)) ∨ (i = 129 ∧ (k = 2 ∨ k = 57 ∨ k = 58 ∨ k = 61 ∨ k = 62 ∨ k = 63 ∨ k = 64)) ∨ i = 159 ∨ (i = 129 ∧ (k = 56 ∨ k = 65 ∨ k = 66))) g0 K g9 H locs → XX K 0 0 H locs 37 ls [] := by
    intro fu37
    induction fu37 with
    | zero => intro w37_3 w37_4 g9 H locs ls h0; omega
    | succ fu37 ih37 =>
      intro w37_3 w37_4 g9 H locs ls hm37 i37_0 i37_1 i37_2 i37_3 c37_129_56 hl hW
      have hG := i37_0
      refine q_iload hM dX12_go_37 (lv_at hl 4 rfl) ?_
      refine q_bipush (v := (8 : Int32)) hM dX12_go_39 (by decide) ?_
      refine q_icmp_ge (tgt := 87) hM dX12_go_41 (by decide) (rfl : w37_4.toInt = w37_4.toInt) (kc_8 : (8 : Int32).toInt = 8) (fun h41 => ?_) (fun h41 => ?_)
      · refine q_iconst (v := (1 : Int32)) hM dX12_go_87 (by decide) ?_
        refine q_istore (lv9 := [(4, .int (1 : Int32)), (0, .ref (ad 129)), (1, .int n), (2, .int ((-1) : Int32)), (3, .int w37_3)]) hM dX12_go_88 hl (by decide) rfl (fun ls hl => ?_)
        have L90 : ∀ (fu90 : Nat) (w90_4 : Int32) (ww : Int32) (g9 : Nat → va_E) (H : Heap) (locs : List Loc) (ls : Array Slot), (n.toInt - w90_4.toInt + 1).toNat < fu90 → (Rng g9) → (1 ≤ w90_4.toInt) → (1 ≤ w90_4.toInt) → (w90_4.toInt ≤ n.toInt + 1) → ((w90_4.toInt = 1 ∧ ww.toInt = wk.toInt) ∨ (wk.toInt < 9999 ∧ ww.toInt = wk.toInt + w90_4.toInt - 1 ∧ ww.toInt ≤ 9999)) → (fld g9 129 56 = .int ww) → lv_has ls 6 [(0, .ref (ad 129)), (1, .int n), (2, .int ((-1) : Int32)), (3, .int w37_3), (4, .int w90_4)] → WS ad cA (fun i k => i = 161 ∨ i = 156 ∨ i = 157 ∨ (i = 129 ∧ (k = 42 ∨ k = 43 ∨ k = 44 ∨ k = 45 ∨ k = 46 ∨ k = 47 ∨ k = 48 ∨ k = 49)) ∨ (i = 129 ∧ (k = 2 ∨ k = 57 ∨ k = 58 ∨ k = 61 ∨ k = 62 ∨ k = 63 ∨ k = 64)) ∨ i = 159 ∨ (i = 129 ∧ (k = 56 ∨ k = 65 ∨ k = 66))) g0 K g9 H locs → XX K 0 0 H locs 90 ls [] := by
          intro fu90
          induction fu90 with
          | zero => intro w90_4 ww g9 H locs ls h0; omega
          | succ fu90 ih90 =>
            intro w90_4 ww g9 H locs ls hm90 i90_0 i90_1 i90_2 i90_3 i90_4 c90_129_56 hl hW
            have hG := i90_0
            have := i_rng n
            refine q_iload hM dX12_go_90 (lv_at hl 4 rfl) ?_
            refine q_iload_n hM dX12_go_92 (lv_at hl 1 rfl) ?_
            refine q_icmp_gt (tgt := 230) hM dX12_go_93 (by decide) (rfl : w90_4.toInt = w90_4.toInt) (rfl : n.toInt = n.toInt) (fun h93 => ?_) (fun h93 => ?_)
            · exact hE _ _ _ _ _ hW.1 ⟨ww, rfl, hW.2.1, hG, hW.2.2, c90_129_56, (by unfold WKr; omega)⟩ dX12_go_230
            · refine q_aload_n hM dX12_go_96 (lv_at hl 0 rfl) ?_
              refine w_get (v := .int ww) hM hW FG_X12_416 lb_129 c90_129_56 dX12_go_97 ?_
              refine q_sipush (v := (9999 : Int32)) hM dX12_go_100 (by decide) ?_
              refine q_icmp_ge (tgt := 230) hM dX12_go_103 (by decide) (rfl : ww.toInt = ww.toInt) (kc_9999 : (9999 : Int32).toInt = 9999) (fun h103 => ?_) (fun h103 => ?_)
              · exact hE _ _ _ _ _ hW.1 ⟨ww, rfl, hW.2.1, hG, hW.2.2, c90_129_56, (by unfold WKr; omega)⟩ dX12_go_230
              · refine q_iconst (v := (0 : Int32)) hM dX12_go_106 (by decide) ?_
                refine q_istore (lv9 := [(5, .int (0 : Int32)), (0, .ref (ad 129)), (1, .int n), (2, .int ((-1) : Int32)), (3, .int w37_3), (4, .int w90_4)]) hM dX12_go_107 hl (by decide) rfl (fun ls hl => ?_)
                have L109 : ∀ (fu109 : Nat) (w109_5 : Int32) (g9 : Nat → va_E) (H : Heap) (locs : List Loc) (ls : Array Slot), (8 - w109_5.toInt).toNat < fu109 → (Rng g9) → (0 ≤ w109_5.toInt) → (w109_5.toInt ≤ 8) → (fld g9 129 56 = .int ww) → lv_has ls 6 [(0, .ref (ad 129)), (1, .int n), (2, .int ((-1) : Int32)), (3, .int w37_3), (4, .int w90_4), (5, .int w109_5)] → WS ad cA (fun i k => i = 161 ∨ i = 156 ∨ i = 157 ∨ (i = 129 ∧ (k = 42 ∨ k = 43 ∨ k = 44 ∨ k = 45 ∨ k = 46 ∨ k = 47 ∨ k = 48 ∨ k = 49)) ∨ (i = 129 ∧ (k = 2 ∨ k = 57 ∨ k = 58 ∨ k = 61 ∨ k = 62 ∨ k = 63 ∨ k = 64)) ∨ i = 159 ∨ (i = 129 ∧ (k = 56 ∨ k = 65 ∨ k = 66))) g0 K g9 H locs → XX K 0 0 H locs 109 ls [] := by
                  intro fu109
                  induction fu109 with
                  | zero => intro w109_5 g9 H locs ls h0; omega
                  | succ fu109 ih109 =>
                    intro w109_5 g9 H locs ls hm109 i109_0 i109_1 i109_2 c109_129_56 hl hW
                    have hG := i109_0
                    refine q_iload hM dX12_go_109 (lv_at hl 5 rfl) ?_
                    refine q_bipush (v := (8 : Int32)) hM dX12_go_111 (by decide) ?_
                    refine q_icmp_ge (tgt := 150) hM dX12_go_113 (by decide) (rfl : w109_5.toInt = w109_5.toInt) (kc_8 : (8 : Int32).toInt = 8) (fun h113 => ?_) (fun h113 => ?_)
                    · refine q_iconst (v := (0 : Int32)) hM dX12_go_150 (by decide) ?_
                      refine q_istore (lv9 := [(5, .int (0 : Int32)), (0, .ref (ad 129)), (1, .int n), (2, .int ((-1) : Int32)), (3, .int w37_3), (4, .int w90_4)]) hM dX12_go_151 hl (by decide) rfl (fun ls hl => ?_)
                      have L153 : ∀ (fu153 : Nat) (w153_5 : Int32) (g9 : Nat → va_E) (H : Heap) (locs : List Loc) (ls : Array Slot), (8 - w153_5.toInt).toNat < fu153 → (Rng g9) → (0 ≤ w153_5.toInt) → (w153_5.toInt ≤ 8) → (fld g9 129 56 = .int ww) → lv_has ls 6 [(0, .ref (ad 129)), (1, .int n), (2, .int ((-1) : Int32)), (3, .int w37_3), (4, .int w90_4), (5, .int w153_5)] → WS ad cA (fun i k => i = 161 ∨ i = 156 ∨ i = 157 ∨ (i = 129 ∧ (k = 42 ∨ k = 43 ∨ k = 44 ∨ k = 45 ∨ k = 46 ∨ k = 47 ∨ k = 48 ∨ k = 49)) ∨ (i = 129 ∧ (k = 2 ∨ k = 57 ∨ k = 58 ∨ k = 61 ∨ k = 62 ∨ k = 63 ∨ k = 64)) ∨ i = 159 ∨ (i = 129 ∧ (k = 56 ∨ k = 65 ∨ k = 66))) g0 K g9 H locs → XX K 0 0 H locs 153 ls [] := by
                        intro fu153
                        induction fu153 with
                        | zero => intro w153_5 g9 H locs ls h0; omega
                        | succ fu153 ih153 =>
                          intro w153_5 g9 H locs ls hm153 i153_0 i153_1 i153_2 c153_129_56 hl hW
                          have hG := i153_0
                          refine q_iload hM dX12_go_153 (lv_at hl 5 rfl) ?_
                          refine q_bipush (v := (8 : Int32)) hM dX12_go_155 (by decide) ?_
                          refine q_icmp_ge (tgt := 214) hM dX12_go_157 (by decide) (rfl : w153_5.toInt = w153_5.toInt) (kc_8 : (8 : Int32).toInt = 8) (fun h157 => ?_) (fun h157 => ?_)
                          · refine q_aload_n hM dX12_go_214 (lv_at hl 0 rfl) ?_
                            refine q_dup hM dX12_go_215 rfl ?_
                            refine w_get (v := .int ww) hM hW FG_X12_416 lb_129 c153_129_56 dX12_go_216 ?_
                            refine q_iconst (v := (1 : Int32)) hM dX12_go_219 (by decide) ?_
                            refine q_iadd hM dX12_go_220 (fun z12850 hz12850 => ?_)
                            first | have tz12850 := i_addT hz12850 (rfl : ww.toInt = ww.toInt) (kc_1 : (1 : Int32).toInt = 1) (by omega) (by omega) | skip
                            refine w_put hM hW FP_X12_416 lb_129 (by omega) (Or.inl ⟨_, rfl⟩) rfl rfl dX12_go_221 (fun g12851 H locs hW e1 e2 => ?_)
                            have f12852 : fld g12851 129 56 = .int z12850 := e1
                            have hG := hG.put e1 e2 (rfl : rF 129 56 = (-2147483648, 2147483647)) (by decide) (by have := i_rng z12850; omega) (by have := i_rng z12850; omega)
                            refine q_iinc (lv9 := fun z12853 => [(4, .int z12853), (0, .ref (ad 129)), (1, .int n), (2, .int ((-1) : Int32)), (3, .int w37_3), (5, .int w153_5)]) hM dX12_go_224 hl (kq := 4) rfl (by decide) (fun _ => rfl) (fun z12853 ls hz12853 hl => ?_)
                            first | have tz12853 := i_addT hz12853 (rfl : w90_4.toInt = w90_4.toInt) (kc_1 : (Int32.ofInt 1).toInt = 1) (by omega) (by omega) | skip
                            refine q_goto (tgt := 90) hM dX12_go_227 (by decide) ?_
                            exact ih90 z12853 z12850 _ _ _ _ (by omega) hG (by omega) (by omega) (by omega) (by omega) f12852 (lv_sub hl [1, 2, 3, 4, 0] rfl) hW
                          · refine q_aload_n hM dX12_go_160 (lv_at hl 0 rfl) ?_
                            refine w_getI hM hW FG_X12_495 lb_129 (by decide) (by decide) dX12_go_161 (fun x12855 fx12855 => ?_)
                            refine q_bipush (v := ((-2) : Int32)) hM dX12_go_164 (by decide) ?_
                            refine q_icmp_ne (tgt := 214) hM dX12_go_166 (by decide) (rfl : x12855.toInt = x12855.toInt) (kc_m2 : ((-2) : Int32).toInt = (-2)) (fun h166 => ?_) (fun h166 => ?_)
                            · refine q_aload_n hM dX12_go_214 (lv_at hl 0 rfl) ?_
                              refine q_dup hM dX12_go_215 rfl ?_
                              refine w_get (v := .int ww) hM hW FG_X12_416 lb_129 c153_129_56 dX12_go_216 ?_
                              refine q_iconst (v := (1 : Int32)) hM dX12_go_219 (by decide) ?_
                              refine q_iadd hM dX12_go_220 (fun z12857 hz12857 => ?_)
                              first | have tz12857 := i_addT hz12857 (rfl : ww.toInt = ww.toInt) (kc_1 : (1 : Int32).toInt = 1) (by omega) (by omega) | skip
                              refine w_put hM hW FP_X12_416 lb_129 (by omega) (Or.inl ⟨_, rfl⟩) rfl rfl dX12_go_221 (fun g12858 H locs hW e1 e2 => ?_)
                              have f12859 : fld g12858 129 65 = .int x12855 := (e2.1 129 65 (by unfold Only; omega)).trans fx12855
                              have f12860 : fld g12858 129 56 = .int z12857 := e1
                              have hG := hG.put e1 e2 (rfl : rF 129 56 = (-2147483648, 2147483647)) (by decide) (by have := i_rng z12857; omega) (by have := i_rng z12857; omega)
                              refine q_iinc (lv9 := fun z12861 => [(4, .int z12861), (0, .ref (ad 129)), (1, .int n), (2, .int ((-1) : Int32)), (3, .int w37_3), (5, .int w153_5)]) hM dX12_go_224 hl (kq := 4) rfl (by decide) (fun _ => rfl) (fun z12861 ls hz12861 hl => ?_)
                              first | have tz12861 := i_addT hz12861 (rfl : w90_4.toInt = w90_4.toInt) (kc_1 : (Int32.ofInt 1).toInt = 1) (by omega) (by omega) | skip
                              refine q_goto (tgt := 90) hM dX12_go_227 (by decide) ?_
                              exact ih90 z12861 z12857 _ _ _ _ (by omega) hG (by omega) (by omega) (by omega) (by omega) f12860 (lv_sub hl [1, 2, 3, 4, 0] rfl) hW
                            · refine q_iload_n hM dX12_go_169 (lv_at hl 3 rfl) ?_
                              refine q_iload hM dX12_go_170 (lv_at hl 5 rfl) ?_
                              refine q_callS (As := [.int w37_3, .int w153_5]) (rest := []) hM hW.1 hR hC myX12_has (kAW (v_5_6 (List.mem_of_getElem? (i := 7) rfl)) rfl) (c_X12_has _ _ cA ad g9 w37_3 w153_5 hW.2.1 (by omega) (by omega)) ⟨by decide, by decide⟩ rfl rfl hl.1 (Nat.le_of_ble_eq_true rfl) dX12_go_172 (fun v g12864 H locs hp hW1 => ?_)
                              obtain ⟨r12863, rfl, hr12863, rfl⟩ := hp
                              have hW : WS ad cA (fun i k => i = 161 ∨ i = 156 ∨ i = 157 ∨ (i = 129 ∧ (k = 42 ∨ k = 43 ∨ k = 44 ∨ k = 45 ∨ k = 46 ∨ k = 47 ∨ k = 48 ∨ k = 49)) ∨ (i = 129 ∧ (k = 2 ∨ k = 57 ∨ k = 58 ∨ k = 61 ∨ k = 62 ∨ k = 63 ∨ k = 64)) ∨ i = 159 ∨ (i = 129 ∧ (k = 56 ∨ k = 65 ∨ k = 66))) g0 K g9 H locs := ⟨hW1, hW.2.1, hW.2.2⟩
                              have kz := has_z hr12863 (by omega)
                              refine q_if_eq (tgt := 208) hM dX12_go_175 (by decide) (rfl : r12863.toInt = r12863.toInt) (fun h175 => ?_) (fun h175 => ?_)
                              · refine q_iinc (lv9 := fun z12866 => [(5, .int z12866), (0, .ref (ad 129)), (1, .int n), (2, .int ((-1) : Int32)), (3, .int w37_3), (4, .int w90_4)]) hM dX12_go_208 hl (kq := 5) rfl (by decide) (fun _ => rfl) (fun z12866 ls hz12866 hl => ?_)
                                first | have tz12866 := i_addT hz12866 (rfl : w153_5.toInt = w153_5.toInt) (kc_1 : (Int32.ofInt 1).toInt = 1) (by omega) (by omega) | skip
                                refine q_goto (tgt := 153) hM dX12_go_211 (by decide) ?_
                                exact ih153 z12866 _ _ _ _ (by omega) hG (by omega) (by omega) c153_129_56 (lv_sub hl [1, 2, 3, 4, 5, 0] rfl) hW
                              · omega
                      have := kc_0
                      exact L153 _ (0 : Int32) _ _ _ _ (Nat.lt_succ_self _) hG (by omega) (by omega) c109_129_56 (lv_sub hl [1, 2, 3, 4, 5, 0] rfl) hW
                    · refine q_aload_n hM dX12_go_116 (lv_at hl 0 rfl) ?_
                      refine w_get (v := .ref (ad 158)) hM hW FG_X12_100 lb_129 (rf_129_52 hW.2.1) dX12_go_117 ?_
                      refine q_iload hM dX12_go_120 (lv_at hl 5 rfl) ?_
                      refine w_zald hM hW lb_158 (i_in (by omega) (by omega)) dX12_go_122 ?_
                      refine q_top (fun y12869 hy12869 => ?_)
                      refine q_if_eq (tgt := 144) hM dX12_go_123 (by decide) (rfl : y12869.toInt = y12869.toInt) (fun h123 => ?_) (fun h123 => ?_)
                      · refine q_iinc (lv9 := fun z12871 => [(5, .int z12871), (0, .ref (ad 129)), (1, .int n), (2, .int ((-1) : Int32)), (3, .int w37_3), (4, .int w90_4)]) hM dX12_go_144 hl (kq := 5) rfl (by decide) (fun _ => rfl) (fun z12871 ls hz12871 hl => ?_)
                        first | have tz12871 := i_addT hz12871 (rfl : w109_5.toInt = w109_5.toInt) (kc_1 : (Int32.ofInt 1).toInt = 1) (by omega) (by omega) | skip
                        refine q_goto (tgt := 109) hM dX12_go_147 (by decide) ?_
                        exact ih109 z12871 _ _ _ _ (by omega) hG (by omega) (by omega) c109_129_56 (lv_sub hl [1, 2, 3, 4, 5, 0] rfl) hW
                      · refine q_aload_n hM dX12_go_126 (lv_at hl 0 rfl) ?_
                        refine w_get (v := .ref (ad 159)) hM hW FG_X12_103 lb_129 (rf_129_53 hW.2.1) dX12_go_127 ?_
                        refine q_iload hM dX12_go_130 (lv_at hl 5 rfl) ?_
                        refine w_iald hM hW lb_159 (i_in (by omega) (by omega)) dX12_go_132 ?_
                        refine q_top (fun y12873 hy12873 => ?_)
                        have by12873 := hG.a hy12873 rA_159
                        refine q_bipush (v := (10 : Int32)) hM dX12_go_133 (by decide) ?_
                        refine q_icmp_ge (tgt := 144) hM dX12_go_135 (by decide) (rfl : y12873.toInt = y12873.toInt) (kc_10 : (10 : Int32).toInt = 10) (fun h135 => ?_) (fun h135 => ?_)
                        · refine q_iinc (lv9 := fun z12875 => [(5, .int z12875), (0, .ref (ad 129)), (1, .int n), (2, .int ((-1) : Int32)), (3, .int w37_3), (4, .int w90_4)]) hM dX12_go_144 hl (kq := 5) rfl (by decide) (fun _ => rfl) (fun z12875 ls hz12875 hl => ?_)
                          first | have tz12875 := i_addT hz12875 (rfl : w109_5.toInt = w109_5.toInt) (kc_1 : (Int32.ofInt 1).toInt = 1) (by omega) (by omega) | skip
                          refine q_goto (tgt := 109) hM dX12_go_147 (by decide) ?_
                          exact ih109 z12875 _ _ _ _ (by omega) hG (by omega) (by omega) c109_129_56 (lv_sub hl [1, 2, 3, 4, 5, 0] rfl) hW
                        · refine q_aload_n hM dX12_go_138 (lv_at hl 0 rfl) ?_
                          refine q_iload hM dX12_go_139 (lv_at hl 5 rfl) ?_
                          refine q_callV (As := [.int w109_5]) (rest := []) hM hW.1 hR hC myX12_weekOf (kAW (v_6_8 (List.mem_of_getElem? (i := 1) rfl)) rfl) (rfl : vwCl[12]? = some (RX12, TX12, 86)) rfl lb_129.1 (shO hW.2.1 lb_129) (a_X12_weekOf _ _ cA ad g9 w109_5 hW.2.1 hG (by  omega) (by  omega) (LawOK_fr hL hW.2.2 (by omega) (by omega) (by omega) (by omega) (by omega)) (by rw [← hy12873]; omega)) ⟨by decide, by decide⟩ rfl rfl hl.1 (Nat.le_of_ble_eq_true rfl) dX12_go_141 (fun v g12877 H locs hp hW1 => ?_)
                          obtain ⟨rfl, hs1, hG, hf1⟩ := hp
                          have f12878 : fld g12877 129 56 = .int ww := (hf1.1 129 56 (by omega)).trans c109_129_56
                          have hW : WS ad cA (fun i k => i = 161 ∨ i = 156 ∨ i = 157 ∨ (i = 129 ∧ (k = 42 ∨ k = 43 ∨ k = 44 ∨ k = 45 ∨ k = 46 ∨ k = 47 ∨ k = 48 ∨ k = 49)) ∨ (i = 129 ∧ (k = 2 ∨ k = 57 ∨ k = 58 ∨ k = 61 ∨ k = 62 ∨ k = 63 ∨ k = 64)) ∨ i = 159 ∨ (i = 129 ∧ (k = 56 ∨ k = 65 ∨ k = 66))) g0 K g12877 H locs := ⟨hW1, hs1, hW.2.2.tr hf1 (fun i k h => h.elim (fun h => (Or.inl h)) (fun h => h.elim (fun h => (Or.inr (Or.inl h))) (fun h => h.elim (fun h => (Or.inr (Or.inr (Or.inl h)))) (fun h => h.elim (fun h => (Or.inr (Or.inr (Or.inr (Or.inl h))))) (fun h => h.elim (fun h => (Or.inr (Or.inr (Or.inr (Or.inr (Or.inl h)))))) (fun h => (Or.inr (Or.inr (Or.inr (Or.inr (Or.inr (Or.inl h))))))))))))⟩
                          refine q_iinc (lv9 := fun z12879 => [(5, .int z12879), (0, .ref (ad 129)), (1, .int n), (2, .int ((-1) : Int32)), (3, .int w37_3), (4, .int w90_4)]) hM dX12_go_144 hl (kq := 5) rfl (by decide) (fun _ => rfl) (fun z12879 ls hz12879 hl => ?_)
                          first | have tz12879 := i_addT hz12879 (rfl : w109_5.toInt = w109_5.toInt) (kc_1 : (Int32.ofInt 1).toInt = 1) (by omega) (by omega) | skip
                          refine q_goto (tgt := 109) hM dX12_go_147 (by decide) ?_
                          exact ih109 z12879 _ _ _ _ (by omega) hG (by omega) (by omega) f12878 (lv_sub hl [1, 2, 3, 4, 5, 0] rfl) hW
                have := kc_0
                exact L109 _ (0 : Int32) _ _ _ _ (Nat.lt_succ_self _) hG (by omega) (by omega) c90_129_56 (lv_sub hl [1, 2, 3, 4, 5, 0] rfl) hW
        have := kc_1
        exact L90 _ (1 : Int32) wk _ _ _ _ (Nat.lt_succ_self _) hG (by omega) (by omega) (by omega) (by omega) c37_129_56 (lv_sub hl [1, 2, 3, 4, 0] rfl) hW
      · refine q_aload_n hM dX12_go_44 (lv_at hl 0 rfl) ?_
        refine w_get (v := .ref (ad 158)) hM hW FG_X12_100 lb_129 (rf_129_52 hW.2.1) dX12_go_45 ?_
        refine q_iload hM dX12_go_48 (lv_at hl 4 rfl) ?_
        refine w_zald hM hW lb_158 (i_in (by omega) (by omega)) dX12_go_50 ?_
        refine q_top (fun y12881 hy12881 => ?_)
        refine q_if_eq (tgt := 81) hM dX12_go_51 (by decide) (rfl : y12881.toInt = y12881.toInt) (fun h51 => ?_) (fun h51 => ?_)
        · refine q_iinc (lv9 := fun z12883 => [(4, .int z12883), (0, .ref (ad 129)), (1, .int n), (2, .int ((-1) : Int32)), (3, .int w37_3)]) hM dX12_go_81 hl (kq := 4) rfl (by decide) (fun _ => rfl) (fun z12883 ls hz12883 hl => ?_)
          first | have tz12883 := i_addT hz12883 (rfl : w37_4.toInt = w37_4.toInt) (kc_1 : (Int32.ofInt 1).toInt = 1) (by omega) (by omega) | skip
          refine q_goto (tgt := 37) hM dX12_go_84 (by decide) ?_
          exact ih37 w37_3 z12883 _ _ _ _ (by omega) hG (by omega) (by omega) (by omega) c37_129_56 (lv_sub hl [1, 2, 3, 4, 0] rfl) hW
        · refine q_iload_n hM dX12_go_54 (lv_at hl 2 rfl) ?_
          refine q_iconst (v := ((-1) : Int32)) hM dX12_go_55 (by decide) ?_
          refine q_icmp_eq (tgt := 81) hM dX12_go_56 (by decide) (kc_m1 : ((-1) : Int32).toInt = (-1)) (kc_m1 : ((-1) : Int32).toInt = (-1)) (fun h56 => ?_) (fun h56 => ?_)
          · refine q_iinc (lv9 := fun z12886 => [(4, .int z12886), (0, .ref (ad 129)), (1, .int n), (2, .int ((-1) : Int32)), (3, .int w37_3)]) hM dX12_go_81 hl (kq := 4) rfl (by decide) (fun _ => rfl) (fun z12886 ls hz12886 hl => ?_)
            first | have tz12886 := i_addT hz12886 (rfl : w37_4.toInt = w37_4.toInt) (kc_1 : (Int32.ofInt 1).toInt = 1) (by omega) (by omega) | skip
            refine q_goto (tgt := 37) hM dX12_go_84 (by decide) ?_
            exact ih37 w37_3 z12886 _ _ _ _ (by omega) hG (by omega) (by omega) (by omega) c37_129_56 (lv_sub hl [1, 2, 3, 4, 0] rfl) hW
          · omega
  have := kc_0
  have := kc_0
  exact L37 _ (0 : Int32) (0 : Int32) _ _ _ _ (Nat.lt_succ_self _) hG (by omega) (by omega) (by omega) f12832 (lv_sub hl [2, 3, 4, 1, 0] rfl) hW


set_option maxRecDepth 100000 in
set_option maxHeartbeats 4000000 in
theorem s_X12_weeks (l : Launch) (D : va_G) (cA : Nat → ClassId) (ad : Nat → Nat) (g0 : Nat → va_E) (a : Int32) (wk : Int32)  (hSh : Shp ad cA g0) (hG : Rng g0) (h_wk : fld g0 129 56 = .int wk) (hL : LawOK g0) : CT l NN ad cA D yX12_weeks cX12_weeks 2 (some FieldType.int) (10, 232) [.ref (ad 129), .int a] g0 (fun v g' => ∃ (w9 : Int32) (r : Int32), v = some (.int r) ∧ Shp ad cA g' ∧ Rng g' ∧ FR (fun i k => i = 161 ∨ i = 156 ∨ i = 157 ∨ (i = 129 ∧ (k = 42 ∨ k = 43 ∨ k = 44 ∨ k = 45 ∨ k = 46 ∨ k = 47 ∨ k = 48 ∨ k = 49)) ∨ (i = 129 ∧ (k = 2 ∨ k = 57 ∨ k = 58 ∨ k = 61 ∨ k = 62 ∨ k = 63 ∨ k = 64)) ∨ i = 159 ∨ (i = 129 ∧ (k = 56 ∨ k = 65 ∨ k = 66))) g0 g' ∧ fld g' 129 56 = .int w9 ∧ ((1 ≤ a.toInt ∧ a.toInt ≤ 60 ∧ WKr wk.toInt a.toInt w9.toInt) ∨ (¬ (1 ≤ a.toInt ∧ a.toInt ≤ 60) ∧ w9 = wk))) := by
  refine q_enterI (by decide) (Nat.le_of_ble_eq_true rfl) rfl (fun K H locs ls _ _ hM hW0 hR hC hE hl => ?_)
  have hl : lv_has ls 2 [(0, .ref (ad 129)), (1, .int a)] := hl
  have hW : WS ad cA (fun i k => i = 161 ∨ i = 156 ∨ i = 157 ∨ (i = 129 ∧ (k = 42 ∨ k = 43 ∨ k = 44 ∨ k = 45 ∨ k = 46 ∨ k = 47 ∨ k = 48 ∨ k = 49)) ∨ (i = 129 ∧ (k = 2 ∨ k = 57 ∨ k = 58 ∨ k = 61 ∨ k = 62 ∨ k = 63 ∨ k = 64)) ∨ i = 159 ∨ (i = 129 ∧ (k = 56 ∨ k = 65 ∨ k = 66))) g0 K g0 H locs := ⟨hW0, hSh, FR.rf⟩
  have := kc_0
  have := kc_1
  have := kc_m1
  have f12888 : fld g0 129 56 = .int wk := h_wk
  refine q_iload_n hM dX12_weeks_0 (lv_at hl 1 rfl) ?_
  refine q_i2l hM dX12_weeks_1 ?_
  have := l_i2l a
  refine q_lconst (v := 1) hM dX12_weeks_2 (by decide) ?_
  have := kl_1
  refine q_ldc2 (v := 60) hM (kAW (v_5_8 (List.mem_of_getElem? (i := 6) rfl)) rfl) dX12_weeks_3 ?_
  have := kl_60
  refine q_callS (As := [.long a.toInt64, .long (1 : Int64), .long (60 : Int64)]) (rest := []) hM hW.1 hR hC myX12_lies (kAW (v_5_4 (List.mem_of_getElem? (i := 14) rfl)) rfl) (c_X12_lies _ _ cA ad g0 a.toInt64 (1 : Int64) (60 : Int64) hW.2.1) ⟨by decide, by decide⟩ rfl rfl hl.1 (Nat.le_of_ble_eq_true rfl) dX12_weeks_6 (fun v g12890 H locs hp hW1 => ?_)
  obtain ⟨r12889, rfl, hr12889, rfl⟩ := hp
  have hW : WS ad cA (fun i k => i = 161 ∨ i = 156 ∨ i = 157 ∨ (i = 129 ∧ (k = 42 ∨ k = 43 ∨ k = 44 ∨ k = 45 ∨ k = 46 ∨ k = 47 ∨ k = 48 ∨ k = 49)) ∨ (i = 129 ∧ (k = 2 ∨ k = 57 ∨ k = 58 ∨ k = 61 ∨ k = 62 ∨ k = 63 ∨ k = 64)) ∨ i = 159 ∨ (i = 129 ∧ (k = 56 ∨ k = 65 ∨ k = 66))) g0 K g0 H locs := ⟨hW1, hW.2.1, hW.2.2⟩
  refine q_if_ne (tgt := 14) hM dX12_weeks_9 (by decide) (rfl : r12889.toInt = r12889.toInt) (fun h9 => ?_) (fun h9 => ?_)
  · refine q_aload_n hM dX12_weeks_14 (lv_at hl 0 rfl) ?_
    refine q_iload_n hM dX12_weeks_15 (lv_at hl 1 rfl) ?_
    refine q_iconst (v := ((-1) : Int32)) hM dX12_weeks_16 (by decide) ?_
    refine q_callV (As := [.int a, .int ((-1) : Int32)]) (rest := []) hM hW.1 hR hC myX12_go (kAW (v_6_7 (List.mem_of_getElem? (i := 13) rfl)) rfl) (rfl : vwCl[12]? = some (RX12, TX12, 86)) rfl lb_129.1 (shO hW.2.1 lb_129) (s_X12_go_m _ _ cA ad g0 a wk hW.2.1 hG f12888 (by have := kc_m1; omega) (by have := kc_m1; omega) (LawOK_fr hL hW.2.2 (by omega) (by omega) (by omega) (by omega) (by omega))) ⟨by decide, by decide⟩ rfl rfl hl.1 (Nat.le_of_ble_eq_true rfl) dX12_weeks_17 (fun v g12895 H locs hp hW1 => ?_)
    obtain ⟨v12892, rfl, hs1, hG, hf1, q12893, e12894⟩ := hp
    have hW : WS ad cA (fun i k => i = 161 ∨ i = 156 ∨ i = 157 ∨ (i = 129 ∧ (k = 42 ∨ k = 43 ∨ k = 44 ∨ k = 45 ∨ k = 46 ∨ k = 47 ∨ k = 48 ∨ k = 49)) ∨ (i = 129 ∧ (k = 2 ∨ k = 57 ∨ k = 58 ∨ k = 61 ∨ k = 62 ∨ k = 63 ∨ k = 64)) ∨ i = 159 ∨ (i = 129 ∧ (k = 56 ∨ k = 65 ∨ k = 66))) g0 K g12895 H locs := ⟨hW1, hs1, hW.2.2.tr hf1 (fun i k h => h.elim (fun h => (Or.inl h)) (fun h => h.elim (fun h => (Or.inr (Or.inl h))) (fun h => h.elim (fun h => (Or.inr (Or.inr (Or.inl h)))) (fun h => h.elim (fun h => (Or.inr (Or.inr (Or.inr (Or.inl h))))) (fun h => h.elim (fun h => (Or.inr (Or.inr (Or.inr (Or.inr (Or.inl h)))))) (fun h => h.elim (fun h => (Or.inr (Or.inr (Or.inr (Or.inr (Or.inr (Or.inl h))))))) (fun h => (Or.inr (Or.inr (Or.inr (Or.inr (Or.inr (Or.inr h)))))))))))))⟩
    refine q_aload_n hM dX12_weeks_20 (lv_at hl 0 rfl) ?_
    refine w_getI hM hW FG_X12_474 lb_129 (by decide) (by decide) dX12_weeks_21 (fun x12896 fx12896 => ?_)
    exact hE _ _ _ _ _ _ hW.1 ⟨v12892, _, rfl, hW.2.1, hG, hW.2.2, q12893, (Or.inl ⟨by omega, by omega, e12894⟩)⟩ dX12_weeks_24
  · refine q_iconst (v := ((-1) : Int32)) hM dX12_weeks_12 (by decide) ?_
    exact hE _ _ _ _ _ _ hW.1 ⟨wk, _, rfl, hW.2.1, hG, hW.2.2, f12888, (Or.inr ⟨by omega, rfl⟩)⟩ dX12_weeks_13
