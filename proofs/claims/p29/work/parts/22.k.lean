theorem dX12_copy_0 : decode cX12_copy 0 = .ok (.iconst 0, 1) := by decide +kernel
theorem dX12_copy_1 : decode cX12_copy 1 = .ok (.istore_n 1, 1) := by decide +kernel
theorem dX12_copy_2 : decode cX12_copy 2 = .ok (.iload_n 1, 1) := by decide +kernel
theorem dX12_copy_3 : decode cX12_copy 3 = .ok (.aload_n 0, 1) := by decide +kernel
theorem dX12_copy_4 : decode cX12_copy 4 = .ok (.getfield 70, 3) := by decide +kernel
theorem dX12_copy_7 : decode cX12_copy 7 = .ok (.iconst 0, 1) := by decide +kernel
theorem dX12_copy_8 : decode cX12_copy 8 = .ok (.iaload, 1) := by decide +kernel
theorem dX12_copy_9 : decode cX12_copy 9 = .ok (.if_icmp .ge 81, 3) := by decide +kernel
theorem dX12_copy_12 : decode cX12_copy 12 = .ok (.aload_n 0, 1) := by decide +kernel
theorem dX12_copy_13 : decode cX12_copy 13 = .ok (.getfield 52, 3) := by decide +kernel
theorem dX12_copy_16 : decode cX12_copy 16 = .ok (.bipush 16, 2) := by decide +kernel
theorem dX12_copy_18 : decode cX12_copy 18 = .ok (.iload_n 1, 1) := by decide +kernel
theorem dX12_copy_19 : decode cX12_copy 19 = .ok (.iadd, 1) := by decide +kernel
theorem dX12_copy_20 : decode cX12_copy 20 = .ok (.aload_n 0, 1) := by decide +kernel
theorem dX12_copy_21 : decode cX12_copy 21 = .ok (.getfield 52, 3) := by decide +kernel
theorem dX12_copy_24 : decode cX12_copy 24 = .ok (.iload_n 1, 1) := by decide +kernel
theorem dX12_copy_25 : decode cX12_copy 25 = .ok (.iaload, 1) := by decide +kernel
theorem dX12_copy_26 : decode cX12_copy 26 = .ok (.iastore, 1) := by decide +kernel
theorem dX12_copy_27 : decode cX12_copy 27 = .ok (.aload_n 0, 1) := by decide +kernel
theorem dX12_copy_28 : decode cX12_copy 28 = .ok (.getfield 55, 3) := by decide +kernel
theorem dX12_copy_31 : decode cX12_copy 31 = .ok (.bipush 16, 2) := by decide +kernel
theorem dX12_copy_33 : decode cX12_copy 33 = .ok (.iload_n 1, 1) := by decide +kernel
theorem dX12_copy_34 : decode cX12_copy 34 = .ok (.iadd, 1) := by decide +kernel
theorem dX12_copy_35 : decode cX12_copy 35 = .ok (.sipush 240, 3) := by decide +kernel
theorem dX12_copy_38 : decode cX12_copy 38 = .ok (.aload_n 0, 1) := by decide +kernel
theorem dX12_copy_39 : decode cX12_copy 39 = .ok (.getfield 55, 3) := by decide +kernel
theorem dX12_copy_42 : decode cX12_copy 42 = .ok (.iload_n 1, 1) := by decide +kernel
theorem dX12_copy_43 : decode cX12_copy 43 = .ok (.iaload, 1) := by decide +kernel
theorem dX12_copy_44 : decode cX12_copy 44 = .ok (.iadd, 1) := by decide +kernel
theorem dX12_copy_45 : decode cX12_copy 45 = .ok (.iastore, 1) := by decide +kernel
theorem dX12_copy_46 : decode cX12_copy 46 = .ok (.aload_n 0, 1) := by decide +kernel
theorem dX12_copy_47 : decode cX12_copy 47 = .ok (.getfield 58, 3) := by decide +kernel
theorem dX12_copy_50 : decode cX12_copy 50 = .ok (.bipush 16, 2) := by decide +kernel
theorem dX12_copy_52 : decode cX12_copy 52 = .ok (.iload_n 1, 1) := by decide +kernel
theorem dX12_copy_53 : decode cX12_copy 53 = .ok (.iadd, 1) := by decide +kernel
theorem dX12_copy_54 : decode cX12_copy 54 = .ok (.sipush 240, 3) := by decide +kernel
theorem dX12_copy_57 : decode cX12_copy 57 = .ok (.aload_n 0, 1) := by decide +kernel
theorem dX12_copy_58 : decode cX12_copy 58 = .ok (.getfield 58, 3) := by decide +kernel
theorem dX12_copy_61 : decode cX12_copy 61 = .ok (.iload_n 1, 1) := by decide +kernel
theorem dX12_copy_62 : decode cX12_copy 62 = .ok (.iaload, 1) := by decide +kernel
theorem dX12_copy_63 : decode cX12_copy 63 = .ok (.iadd, 1) := by decide +kernel
theorem dX12_copy_64 : decode cX12_copy 64 = .ok (.iastore, 1) := by decide +kernel
theorem dX12_copy_65 : decode cX12_copy 65 = .ok (.aload_n 0, 1) := by decide +kernel
theorem dX12_copy_66 : decode cX12_copy 66 = .ok (.getfield 61, 3) := by decide +kernel
theorem dX12_copy_69 : decode cX12_copy 69 = .ok (.bipush 16, 2) := by decide +kernel
theorem dX12_copy_71 : decode cX12_copy 71 = .ok (.iload_n 1, 1) := by decide +kernel
theorem dX12_copy_72 : decode cX12_copy 72 = .ok (.iadd, 1) := by decide +kernel
theorem dX12_copy_73 : decode cX12_copy 73 = .ok (.sipush 240, 3) := by decide +kernel
theorem dX12_copy_76 : decode cX12_copy 76 = .ok (.aload_n 0, 1) := by decide +kernel
theorem dX12_copy_77 : decode cX12_copy 77 = .ok (.getfield 61, 3) := by decide +kernel
theorem dX12_copy_80 : decode cX12_copy 80 = .ok (.iload_n 1, 1) := by decide +kernel
theorem dX12_copy_81 : decode cX12_copy 81 = .ok (.iaload, 1) := by decide +kernel
theorem dX12_copy_82 : decode cX12_copy 82 = .ok (.iadd, 1) := by decide +kernel
theorem dX12_copy_83 : decode cX12_copy 83 = .ok (.iastore, 1) := by decide +kernel
theorem dX12_copy_84 : decode cX12_copy 84 = .ok (.iinc 1 1, 3) := by decide +kernel
theorem dX12_copy_87 : decode cX12_copy 87 = .ok (.goto (-85), 3) := by decide +kernel
theorem dX12_copy_90 : decode cX12_copy 90 = .ok (.iconst 0, 1) := by decide +kernel
theorem dX12_copy_91 : decode cX12_copy 91 = .ok (.istore_n 1, 1) := by decide +kernel
theorem dX12_copy_92 : decode cX12_copy 92 = .ok (.iload_n 1, 1) := by decide +kernel
theorem dX12_copy_93 : decode cX12_copy 93 = .ok (.aload_n 0, 1) := by decide +kernel
theorem dX12_copy_94 : decode cX12_copy 94 = .ok (.getfield 362, 3) := by decide +kernel
theorem dX12_copy_97 : decode cX12_copy 97 = .ok (.if_icmp .ge 41, 3) := by decide +kernel
theorem dX12_copy_100 : decode cX12_copy 100 = .ok (.aload_n 0, 1) := by decide +kernel
theorem dX12_copy_101 : decode cX12_copy 101 = .ok (.getfield 64, 3) := by decide +kernel
theorem dX12_copy_104 : decode cX12_copy 104 = .ok (.sipush 240, 3) := by decide +kernel
theorem dX12_copy_107 : decode cX12_copy 107 = .ok (.iload_n 1, 1) := by decide +kernel
theorem dX12_copy_108 : decode cX12_copy 108 = .ok (.iadd, 1) := by decide +kernel
theorem dX12_copy_109 : decode cX12_copy 109 = .ok (.aload_n 0, 1) := by decide +kernel
theorem dX12_copy_110 : decode cX12_copy 110 = .ok (.getfield 64, 3) := by decide +kernel
theorem dX12_copy_113 : decode cX12_copy 113 = .ok (.iload_n 1, 1) := by decide +kernel
theorem dX12_copy_114 : decode cX12_copy 114 = .ok (.iaload, 1) := by decide +kernel
theorem dX12_copy_115 : decode cX12_copy 115 = .ok (.iastore, 1) := by decide +kernel
theorem dX12_copy_116 : decode cX12_copy 116 = .ok (.aload_n 0, 1) := by decide +kernel
theorem dX12_copy_117 : decode cX12_copy 117 = .ok (.getfield 67, 3) := by decide +kernel
theorem dX12_copy_120 : decode cX12_copy 120 = .ok (.sipush 240, 3) := by decide +kernel
theorem dX12_copy_123 : decode cX12_copy 123 = .ok (.iload_n 1, 1) := by decide +kernel
theorem dX12_copy_124 : decode cX12_copy 124 = .ok (.iadd, 1) := by decide +kernel
theorem dX12_copy_125 : decode cX12_copy 125 = .ok (.aload_n 0, 1) := by decide +kernel
theorem dX12_copy_126 : decode cX12_copy 126 = .ok (.getfield 67, 3) := by decide +kernel
theorem dX12_copy_129 : decode cX12_copy 129 = .ok (.iload_n 1, 1) := by decide +kernel
theorem dX12_copy_130 : decode cX12_copy 130 = .ok (.iaload, 1) := by decide +kernel
theorem dX12_copy_131 : decode cX12_copy 131 = .ok (.iastore, 1) := by decide +kernel
theorem dX12_copy_132 : decode cX12_copy 132 = .ok (.iinc 1 1, 3) := by decide +kernel
theorem dX12_copy_135 : decode cX12_copy 135 = .ok (.goto (-43), 3) := by decide +kernel
theorem dX12_copy_138 : decode cX12_copy 138 = .ok (.aload_n 0, 1) := by decide +kernel
theorem dX12_copy_139 : decode cX12_copy 139 = .ok (.getfield 70, 3) := by decide +kernel
theorem dX12_copy_142 : decode cX12_copy 142 = .ok (.iconst 1, 1) := by decide +kernel
theorem dX12_copy_143 : decode cX12_copy 143 = .ok (.aload_n 0, 1) := by decide +kernel
theorem dX12_copy_144 : decode cX12_copy 144 = .ok (.getfield 70, 3) := by decide +kernel
theorem dX12_copy_147 : decode cX12_copy 147 = .ok (.iconst 0, 1) := by decide +kernel
theorem dX12_copy_148 : decode cX12_copy 148 = .ok (.iaload, 1) := by decide +kernel
theorem dX12_copy_149 : decode cX12_copy 149 = .ok (.iastore, 1) := by decide +kernel
theorem dX12_copy_150 : decode cX12_copy 150 = .ok (.aload_n 0, 1) := by decide +kernel
theorem dX12_copy_151 : decode cX12_copy 151 = .ok (.getfield 70, 3) := by decide +kernel
theorem dX12_copy_154 : decode cX12_copy 154 = .ok (.iconst 1, 1) := by decide +kernel
theorem dX12_copy_155 : decode cX12_copy 155 = .ok (.iaload, 1) := by decide +kernel
theorem dX12_copy_156 : decode cX12_copy 156 = .ok (.ireturn, 1) := by decide +kernel
theorem FG_X12_362 : FG RX12 362 12 86 32 := ⟨RX12, TX12, rfl, wX12, by decide, kAW (v_4_4 (List.mem_of_getElem? (i := 13) rfl)) rfl, rfl⟩
set_option maxRecDepth 100000 in
set_option maxHeartbeats 4000000 in
theorem p_X12_copy (l : Launch) (D : va_G) (cA : Nat → ClassId) (ad : Nat → Nat) (g0 : Nat → va_E)  (cm : Int32)  (hSh : Shp ad cA g0) (hG : Rng g0) (h_cm : fld g0 129 32 = .int cm) (hQ : LWQ g0) : CT l NN ad cA D yX12_copy cX12_copy 2 (some FieldType.int) (0, 0) [.ref (ad 129)] g0 (fun v g' => ∃ (r : Int32), v = some (.int r) ∧ Shp ad cA g' ∧ Rng g' ∧ FR (fun i k => (142 ≤ i ∧ i < 149)) g0 g' ∧ (LWQ g')) := by
  refine q_enterI (by decide) (Nat.le_of_ble_eq_true rfl) rfl (fun K H locs ls _ _ hM hW0 hR hC hE hl => ?_)
  have hl : lv_has ls 2 [(0, .ref (ad 129))] := hl
  have hW : WS ad cA (fun i k => (142 ≤ i ∧ i < 149)) g0 K g0 H locs := ⟨hW0, hSh, FR.rf⟩
  have b_cm := hG.f h_cm rF_129_32 (by decide)
  have := kc_0
  have := kc_1
  have := kc_m1
  have := kc_m2
  have hG0 := hG
  refine q_iconst (v := (0 : Int32)) hM dX12_copy_0 (by decide) ?_
  refine q_istore_n (lv9 := [(1, .int (0 : Int32)), (0, .ref (ad 129))]) hM dX12_copy_1 hl (by decide) rfl (fun ls hl => ?_)
  have L2 : ∀ (fu2 : Nat) (w2_1 : Int32) (h9_2 : Nat → va_E) (H : Heap) (locs : List Loc) (ls : Array Slot), (16 - w2_1.toInt).toNat < fu2 → (Rng h9_2) → (0 ≤ w2_1.toInt) → (w2_1.toInt ≤ 16) → (∀ j : Nat, (j : Int) < w2_1.toInt → (arI h9_2 143 (16 + j)).toInt = 240 + (arI g0 143 j).toInt) → (∀ j : Nat, (j : Int) < w2_1.toInt → (arI h9_2 144 (16 + j)).toInt = 240 + (arI g0 144 j).toInt) → (∀ j : Nat, (j : Int) < w2_1.toInt → (arI h9_2 145 (16 + j)).toInt = 240 + (arI g0 145 j).toInt) → (∀ j : Nat, j < 16 → arI h9_2 143 j = arI g0 143 j) → (∀ j : Nat, j < 16 → arI h9_2 144 j = arI g0 144 j) → (∀ j : Nat, j < 16 → arI h9_2 145 j = arI g0 145 j) → (fld h9_2 129 32 = .int cm) → (arI h9_2 146 = arI g0 146) → (arI h9_2 148 = arI g0 148) → lv_has ls 2 [(0, .ref (ad 129)), (1, .int w2_1)] → WS ad cA (fun i k => (142 ≤ i ∧ i < 149)) g0 K h9_2 H locs → XX K 0 0 H locs 2 ls [] := by
    intro fu2
    induction fu2 with
    | zero => intro w2_1 h9_2 H locs ls h0; omega
    | succ fu2 ih2 =>
      intro w2_1 h9_2 H locs ls hm2 i2_0 i2_1 i2_2 i2_3 i2_4 i2_5 i2_6 i2_7 i2_8 c2_129_32 d2_146 d2_148 hl hW
      have hG := i2_0
      refine q_iload_n hM dX12_copy_2 (lv_at hl 1 rfl) ?_
      refine q_aload_n hM dX12_copy_3 (lv_at hl 0 rfl) ?_
      refine w_get (v := .ref (ad 148)) hM hW FG_X12_70 lb_129 (rf_129_30 hW.2.1) dX12_copy_4 ?_
      refine q_iconst (v := (0 : Int32)) hM dX12_copy_7 (by decide) ?_
      refine w_iald hM hW lb_148 (i_in (by rw [kc_0]; decide) (by rw [kc_0]; decide)) dX12_copy_8 ?_
      refine q_top (fun y12067 hy12067 => ?_)
      have by12067 := hG.a hy12067 rA_148
      rw [d2_148] at hy12067
      have cy12067 := congrArg Int32.toInt hy12067
      refine q_icmp_ge (tgt := 90) hM dX12_copy_9 (by decide) (rfl : w2_1.toInt = w2_1.toInt) (rfl : y12067.toInt = y12067.toInt) (fun h9 => ?_) (fun h9 => ?_)
      · refine q_iconst (v := (0 : Int32)) hM dX12_copy_90 (by decide) ?_
        refine q_istore_n (lv9 := [(1, .int (0 : Int32)), (0, .ref (ad 129))]) hM dX12_copy_91 hl (by decide) rfl (fun ls hl => ?_)
        have L92 : ∀ (fu92 : Nat) (w92_1 : Int32) (h9_92 : Nat → va_E) (H : Heap) (locs : List Loc) (ls : Array Slot), (240 - w92_1.toInt).toNat < fu92 → (Rng h9_92) → (0 ≤ w92_1.toInt) → (w92_1.toInt ≤ 240) → (∀ j : Nat, (j : Int) < w92_1.toInt → arI h9_92 146 (240 + j) = arI g0 146 j) → (∀ j : Nat, j < 240 → arI h9_92 146 j = arI g0 146 j) → (fld h9_92 129 32 = .int cm) → (arI h9_92 148 = arI g0 148) → (arI h9_92 143 = arI h9_2 143) → (arI h9_92 144 = arI h9_2 144) → (arI h9_92 145 = arI h9_2 145) → lv_has ls 2 [(0, .ref (ad 129)), (1, .int w92_1)] → WS ad cA (fun i k => (142 ≤ i ∧ i < 149)) g0 K h9_92 H locs → XX K 0 0 H locs 92 ls [] := by
          intro fu92
          induction fu92 with
          | zero => intro w92_1 h9_92 H locs ls h0; omega
          | succ fu92 ih92 =>
            intro w92_1 h9_92 H locs ls hm92 i92_0 i92_1 i92_2 i92_3 i92_4 c92_129_32 d92_148 d92_143 d92_144 d92_145 hl hW
            have hG := i92_0
            refine q_iload_n hM dX12_copy_92 (lv_at hl 1 rfl) ?_
            refine q_aload_n hM dX12_copy_93 (lv_at hl 0 rfl) ?_
            refine w_get (v := .int cm) hM hW FG_X12_362 lb_129 c92_129_32 dX12_copy_94 ?_
            have bcm := hG.f c92_129_32 rF_129_32 (by decide)
            refine q_icmp_ge (tgt := 138) hM dX12_copy_97 (by decide) (rfl : w92_1.toInt = w92_1.toInt) (rfl : cm.toInt = cm.toInt) (fun h97 => ?_) (fun h97 => ?_)
            · refine q_aload_n hM dX12_copy_138 (lv_at hl 0 rfl) ?_
              refine w_get (v := .ref (ad 148)) hM hW FG_X12_70 lb_129 (rf_129_30 hW.2.1) dX12_copy_139 ?_
              refine q_iconst (v := (1 : Int32)) hM dX12_copy_142 (by decide) ?_
              refine q_aload_n hM dX12_copy_143 (lv_at hl 0 rfl) ?_
              refine w_get (v := .ref (ad 148)) hM hW FG_X12_70 lb_129 (rf_129_30 hW.2.1) dX12_copy_144 ?_
              refine q_iconst (v := (0 : Int32)) hM dX12_copy_147 (by decide) ?_
              refine w_iald hM hW lb_148 (i_in (by rw [kc_0]; decide) (by rw [kc_0]; decide)) dX12_copy_148 ?_
              refine q_top (fun y12071 hy12071 => ?_)
              have by12071 := hG.a hy12071 rA_148
              rw [d92_148] at hy12071
              have cy12071 := congrArg Int32.toInt hy12071
              refine w_iast hM hW lb_148 (by omega) (i_in (by rw [kc_1]; decide) (by rw [kc_1]; decide)) dX12_copy_149 (fun g12072 H locs hW e1 e2 => ?_)
              have f12073 : fld g12072 129 32 = .int cm := (e2.1 129 32 (by unfold Only; omega)).trans c92_129_32
              have f12074 : arI g12072 143 = arI h9_2 143 := (e2.2.1 143 (by unfold Only; omega)).trans d92_143
              have f12075 : arI g12072 144 = arI h9_2 144 := (e2.2.1 144 (by unfold Only; omega)).trans d92_144
              have f12076 : arI g12072 145 = arI h9_2 145 := (e2.2.1 145 (by unfold Only; omega)).trans d92_145
              have f12077 : arI g12072 146 = arI h9_92 146 := (e2.2.1 146 (by unfold Only; omega)).trans (rfl : arI h9_92 146 = arI h9_92 146)
              have f12078 := e1
              rw [d92_148] at f12078
              have hG := hG.st e1 e2 rA_148 (by have := i_rng y12071; omega) (by have := i_rng y12071; omega)
              refine q_aload_n hM dX12_copy_150 (lv_at hl 0 rfl) ?_
              refine w_get (v := .ref (ad 148)) hM hW FG_X12_70 lb_129 (rf_129_30 hW.2.1) dX12_copy_151 ?_
              refine q_iconst (v := (1 : Int32)) hM dX12_copy_154 (by decide) ?_
              refine w_iald hM hW lb_148 (i_in (by rw [kc_1]; decide) (by rw [kc_1]; decide)) dX12_copy_155 ?_
              refine q_top (fun y12079 hy12079 => ?_)
              have by12079 := hG.a hy12079 rA_148
              rw [f12078] at hy12079
              have cy12079 := congrArg Int32.toInt hy12079
              exact hE _ _ _ _ _ _ hW.1 ⟨_, rfl, hW.2.1, hG, hW.2.2, (LWQ_copy (kk := (arI g0 148 0).toInt) (cc := cm.toInt) hQ (by have z9 := (hG0.2 148 0).2; rw [rA_148] at z9; exact z9) (by omega) rfl (by rw [fI_of h_cm]) (fun j hj => ⟨by rw [f12074]; exact i2_3 j (by have z9 : (arI g0 148 ((0 : Int32).toNatClampNeg)).toInt = (arI g0 148 0).toInt := rfl; omega), by rw [f12075]; exact i2_4 j (by have z9 : (arI g0 148 ((0 : Int32).toNatClampNeg)).toInt = (arI g0 148 0).toInt := rfl; omega), by rw [f12076]; exact i2_5 j (by have z9 : (arI g0 148 ((0 : Int32).toNatClampNeg)).toInt = (arI g0 148 0).toInt := rfl; omega)⟩) (fun j hj => ⟨by rw [f12074]; exact i2_6 j hj, by rw [f12075]; exact i2_7 j hj, by rw [f12076]; exact i2_8 j hj⟩) (fun j hj => by rw [f12077]; exact i92_3 j (by omega)) (fun j hj => by rw [f12077]; exact i92_4 j hj) (by rw [f12078]; unfold upd; rw [if_neg (by decide)]) (by rw [f12078]; unfold upd; rw [if_pos (by decide), hy12071]; rfl) (by rw [fI_of f12073, fI_of h_cm]))⟩ dX12_copy_156
            · refine q_aload_n hM dX12_copy_100 (lv_at hl 0 rfl) ?_
              refine w_get (v := .ref (ad 146)) hM hW FG_X12_64 lb_129 (rf_129_28 hW.2.1) dX12_copy_101 ?_
              refine q_sipush (v := (240 : Int32)) hM dX12_copy_104 (by decide) ?_
              refine q_iload_n hM dX12_copy_107 (lv_at hl 1 rfl) ?_
              refine q_iadd hM dX12_copy_108 (fun z12081 hz12081 => ?_)
              first | have tz12081 := i_addT hz12081 (kc_240 : (240 : Int32).toInt = 240) (rfl : w92_1.toInt = w92_1.toInt) (by omega) (by omega) | skip
              refine q_aload_n hM dX12_copy_109 (lv_at hl 0 rfl) ?_
              refine w_get (v := .ref (ad 146)) hM hW FG_X12_64 lb_129 (rf_129_28 hW.2.1) dX12_copy_110 ?_
              refine q_iload_n hM dX12_copy_113 (lv_at hl 1 rfl) ?_
              refine w_iald hM hW lb_146 (i_in (by omega) (by omega)) dX12_copy_114 ?_
              refine q_top (fun y12082 hy12082 => ?_)
              rw [(rfl : arI h9_92 146 = arI h9_92 146)] at hy12082
              rw [i92_4 _ (by show w92_1.toInt.toNat < 240; omega)] at hy12082
              refine w_iast hM hW lb_146 (by omega) (i_in (by omega) (by omega)) dX12_copy_115 (fun g12083 H locs hW e1 e2 => ?_)
              have f12084 : fld g12083 129 32 = .int cm := (e2.1 129 32 (by unfold Only; omega)).trans c92_129_32
              have f12085 : arI g12083 148 = arI g0 148 := (e2.2.1 148 (by unfold Only; omega)).trans d92_148
              have f12086 : arI g12083 143 = arI h9_2 143 := (e2.2.1 143 (by unfold Only; omega)).trans d92_143
              have f12087 : arI g12083 144 = arI h9_2 144 := (e2.2.1 144 (by unfold Only; omega)).trans d92_144
              have f12088 : arI g12083 145 = arI h9_2 145 := (e2.2.1 145 (by unfold Only; omega)).trans d92_145
              have f12089 := e1
              rw [(rfl : arI h9_92 146 = arI h9_92 146)] at f12089
              have hG := hG.st e1 e2 (rfl : rA 146 = (-2147483648, 2147483647)) (by have := i_rng y12082; omega) (by have := i_rng y12082; omega)
              refine q_aload_n hM dX12_copy_116 (lv_at hl 0 rfl) ?_
              refine w_get (v := .ref (ad 147)) hM hW FG_X12_67 lb_129 (rf_129_29 hW.2.1) dX12_copy_117 ?_
              refine q_sipush (v := (240 : Int32)) hM dX12_copy_120 (by decide) ?_
              refine q_iload_n hM dX12_copy_123 (lv_at hl 1 rfl) ?_
              refine q_iadd hM dX12_copy_124 (fun z12090 hz12090 => ?_)
              first | have tz12090 := i_addT hz12090 (kc_240 : (240 : Int32).toInt = 240) (rfl : w92_1.toInt = w92_1.toInt) (by omega) (by omega) | skip
              refine q_aload_n hM dX12_copy_125 (lv_at hl 0 rfl) ?_
              refine w_get (v := .ref (ad 147)) hM hW FG_X12_67 lb_129 (rf_129_29 hW.2.1) dX12_copy_126 ?_
              refine q_iload_n hM dX12_copy_129 (lv_at hl 1 rfl) ?_
              refine w_iald hM hW lb_147 (i_in (by omega) (by omega)) dX12_copy_130 ?_
              refine q_top (fun y12091 hy12091 => ?_)
              refine w_iast hM hW lb_147 (by omega) (i_in (by omega) (by omega)) dX12_copy_131 (fun g12092 H locs hW e1 e2 => ?_)
              have f12093 : fld g12092 129 32 = .int cm := (e2.1 129 32 (by unfold Only; omega)).trans f12084
              have f12094 : arI g12092 148 = arI g0 148 := (e2.2.1 148 (by unfold Only; omega)).trans f12085
              have f12095 : arI g12092 143 = arI h9_2 143 := (e2.2.1 143 (by unfold Only; omega)).trans f12086
              have f12096 : arI g12092 144 = arI h9_2 144 := (e2.2.1 144 (by unfold Only; omega)).trans f12087
              have f12097 : arI g12092 145 = arI h9_2 145 := (e2.2.1 145 (by unfold Only; omega)).trans f12088
              have f12098 : arI g12092 146 = upd (arI h9_92 146) z12081.toNatClampNeg y12082 := (e2.2.1 146 (by unfold Only; omega)).trans f12089
              have hG := hG.st e1 e2 (rfl : rA 147 = (-2147483648, 2147483647)) (by have := i_rng y12091; omega) (by have := i_rng y12091; omega)
              refine q_iinc (lv9 := fun z12099 => [(1, .int z12099), (0, .ref (ad 129))]) hM dX12_copy_132 hl (kq := 1) rfl (by decide) (fun _ => rfl) (fun z12099 ls hz12099 hl => ?_)
              first | have tz12099 := i_addT hz12099 (rfl : w92_1.toInt = w92_1.toInt) (kc_1 : (Int32.ofInt 1).toInt = 1) (by omega) (by omega) | skip
              refine q_goto (tgt := 92) hM dX12_copy_135 (by decide) ?_
              exact ih92 z12099 _ _ _ _ (by omega) hG (by omega) (by omega) (by rw [f12098]; exact row_sc rfl i92_3 (by omega) (by omega) hy12082 (by omega)) (by rw [f12098]; exact row_dn rfl i92_4 (by show 240 ≤ (Int32.toInt _).toNat; omega)) f12093 f12094 f12095 f12096 f12097 (lv_sub hl [1, 0] rfl) hW
        have := kc_0
        exact L92 _ (0 : Int32) _ _ _ _ (Nat.lt_succ_self _) hG (by omega) (by omega) (fun j hj => absurd hj (by have := kc_0; omega)) (fun j hj => by rw [d2_146]) c2_129_32 d2_148 (rfl : arI h9_2 143 = arI h9_2 143) (rfl : arI h9_2 144 = arI h9_2 144) (rfl : arI h9_2 145 = arI h9_2 145) (lv_sub hl [1, 0] rfl) hW
      · have kh : ((w2_1.toNatClampNeg : Nat) : Int) < (arI g0 148 0).toInt := by show ((w2_1.toInt.toNat : Nat) : Int) < _; have z9 : (arI g0 148 ((0 : Int32).toNatClampNeg)).toInt = (arI g0 148 0).toInt := rfl; omega
        have la := hQ.1 0 w2_1.toNatClampNeg (by decide) kh
        rw [show 16 * 0 + w2_1.toNatClampNeg = w2_1.toNatClampNeg by omega] at la
        unfold LA1 at la
        have lq := hQ.2.1 w2_1.toNatClampNeg kh
        rw [fI_of h_cm] at lq
        refine q_aload_n hM dX12_copy_12 (lv_at hl 0 rfl) ?_
        refine w_get (v := .ref (ad 142)) hM hW FG_X12_52 lb_129 (rf_129_24 hW.2.1) dX12_copy_13 ?_
        refine q_bipush (v := (16 : Int32)) hM dX12_copy_16 (by decide) ?_
        refine q_iload_n hM dX12_copy_18 (lv_at hl 1 rfl) ?_
        refine q_iadd hM dX12_copy_19 (fun z12101 hz12101 => ?_)
        first | have tz12101 := i_addT hz12101 (kc_16 : (16 : Int32).toInt = 16) (rfl : w2_1.toInt = w2_1.toInt) (by omega) (by omega) | skip
        refine q_aload_n hM dX12_copy_20 (lv_at hl 0 rfl) ?_
        refine w_get (v := .ref (ad 142)) hM hW FG_X12_52 lb_129 (rf_129_24 hW.2.1) dX12_copy_21 ?_
        refine q_iload_n hM dX12_copy_24 (lv_at hl 1 rfl) ?_
        refine w_iald hM hW lb_142 (i_in (by omega) (by omega)) dX12_copy_25 ?_
        refine q_top (fun y12102 hy12102 => ?_)
        refine w_iast hM hW lb_142 (by omega) (i_in (by omega) (by omega)) dX12_copy_26 (fun g12103 H locs hW e1 e2 => ?_)
        have f12104 : fld g12103 129 32 = .int cm := (e2.1 129 32 (by unfold Only; omega)).trans c2_129_32
        have f12105 : arI g12103 146 = arI g0 146 := (e2.2.1 146 (by unfold Only; omega)).trans d2_146
        have f12106 : arI g12103 148 = arI g0 148 := (e2.2.1 148 (by unfold Only; omega)).trans d2_148
        have f12107 : arI g12103 143 = arI h9_2 143 := (e2.2.1 143 (by unfold Only; omega)).trans (rfl : arI h9_2 143 = arI h9_2 143)
        have f12108 : arI g12103 144 = arI h9_2 144 := (e2.2.1 144 (by unfold Only; omega)).trans (rfl : arI h9_2 144 = arI h9_2 144)
        have f12109 : arI g12103 145 = arI h9_2 145 := (e2.2.1 145 (by unfold Only; omega)).trans (rfl : arI h9_2 145 = arI h9_2 145)
        have hG := hG.st e1 e2 (rfl : rA 142 = (-2147483648, 2147483647)) (by have := i_rng y12102; omega) (by have := i_rng y12102; omega)
        refine q_aload_n hM dX12_copy_27 (lv_at hl 0 rfl) ?_
        refine w_get (v := .ref (ad 143)) hM hW FG_X12_55 lb_129 (rf_129_25 hW.2.1) dX12_copy_28 ?_
        refine q_bipush (v := (16 : Int32)) hM dX12_copy_31 (by decide) ?_
        refine q_iload_n hM dX12_copy_33 (lv_at hl 1 rfl) ?_
        refine q_iadd hM dX12_copy_34 (fun z12110 hz12110 => ?_)
        first | have tz12110 := i_addT hz12110 (kc_16 : (16 : Int32).toInt = 16) (rfl : w2_1.toInt = w2_1.toInt) (by omega) (by omega) | skip
        refine q_sipush (v := (240 : Int32)) hM dX12_copy_35 (by decide) ?_
        refine q_aload_n hM dX12_copy_38 (lv_at hl 0 rfl) ?_
        refine w_get (v := .ref (ad 143)) hM hW FG_X12_55 lb_129 (rf_129_25 hW.2.1) dX12_copy_39 ?_
        refine q_iload_n hM dX12_copy_42 (lv_at hl 1 rfl) ?_
        refine w_iald hM hW lb_143 (i_in (by omega) (by omega)) dX12_copy_43 ?_
        refine q_top (fun y12111 hy12111 => ?_)
        have cy12111 : y12111.toInt = (arI g0 143 w2_1.toNatClampNeg).toInt := by rw [hy12111, f12107]; exact congrArg Int32.toInt (i2_6 _ (by show w2_1.toInt.toNat < 16; omega))
        refine q_iadd hM dX12_copy_44 (fun z12112 hz12112 => ?_)
        first | have tz12112 := i_addT hz12112 (kc_240 : (240 : Int32).toInt = 240) (rfl : y12111.toInt = y12111.toInt) (by omega) (by omega) | skip
        refine w_iast hM hW lb_143 (by omega) (i_in (by omega) (by omega)) dX12_copy_45 (fun g12113 H locs hW e1 e2 => ?_)
        have f12114 : fld g12113 129 32 = .int cm := (e2.1 129 32 (by unfold Only; omega)).trans f12104
        have f12115 : arI g12113 146 = arI g0 146 := (e2.2.1 146 (by unfold Only; omega)).trans f12105
        have f12116 : arI g12113 148 = arI g0 148 := (e2.2.1 148 (by unfold Only; omega)).trans f12106
        have f12117 : arI g12113 144 = arI h9_2 144 := (e2.2.1 144 (by unfold Only; omega)).trans f12108
        have f12118 : arI g12113 145 = arI h9_2 145 := (e2.2.1 145 (by unfold Only; omega)).trans f12109
        have f12119 := e1
        rw [f12107] at f12119
        have hG := hG.st e1 e2 (rfl : rA 143 = (-2147483648, 2147483647)) (by have := i_rng z12112; omega) (by have := i_rng z12112; omega)
        refine q_aload_n hM dX12_copy_46 (lv_at hl 0 rfl) ?_
        refine w_get (v := .ref (ad 144)) hM hW FG_X12_58 lb_129 (rf_129_26 hW.2.1) dX12_copy_47 ?_
        refine q_bipush (v := (16 : Int32)) hM dX12_copy_50 (by decide) ?_
        refine q_iload_n hM dX12_copy_52 (lv_at hl 1 rfl) ?_
        refine q_iadd hM dX12_copy_53 (fun z12120 hz12120 => ?_)
        first | have tz12120 := i_addT hz12120 (kc_16 : (16 : Int32).toInt = 16) (rfl : w2_1.toInt = w2_1.toInt) (by omega) (by omega) | skip
        refine q_sipush (v := (240 : Int32)) hM dX12_copy_54 (by decide) ?_
        refine q_aload_n hM dX12_copy_57 (lv_at hl 0 rfl) ?_
        refine w_get (v := .ref (ad 144)) hM hW FG_X12_58 lb_129 (rf_129_26 hW.2.1) dX12_copy_58 ?_
        refine q_iload_n hM dX12_copy_61 (lv_at hl 1 rfl) ?_
        refine w_iald hM hW lb_144 (i_in (by omega) (by omega)) dX12_copy_62 ?_
        refine q_top (fun y12121 hy12121 => ?_)
        have cy12121 : y12121.toInt = (arI g0 144 w2_1.toNatClampNeg).toInt := by rw [hy12121, f12117]; exact congrArg Int32.toInt (i2_7 _ (by show w2_1.toInt.toNat < 16; omega))
        refine q_iadd hM dX12_copy_63 (fun z12122 hz12122 => ?_)
        first | have tz12122 := i_addT hz12122 (kc_240 : (240 : Int32).toInt = 240) (rfl : y12121.toInt = y12121.toInt) (by omega) (by omega) | skip
        refine w_iast hM hW lb_144 (by omega) (i_in (by omega) (by omega)) dX12_copy_64 (fun g12123 H locs hW e1 e2 => ?_)
        have f12124 : fld g12123 129 32 = .int cm := (e2.1 129 32 (by unfold Only; omega)).trans f12114
        have f12125 : arI g12123 146 = arI g0 146 := (e2.2.1 146 (by unfold Only; omega)).trans f12115
        have f12126 : arI g12123 148 = arI g0 148 := (e2.2.1 148 (by unfold Only; omega)).trans f12116
        have f12127 : arI g12123 145 = arI h9_2 145 := (e2.2.1 145 (by unfold Only; omega)).trans f12118
        have f12128 : arI g12123 143 = upd (arI h9_2 143) z12110.toNatClampNeg z12112 := (e2.2.1 143 (by unfold Only; omega)).trans f12119
        have f12129 := e1
        rw [f12117] at f12129
        have hG := hG.st e1 e2 (rfl : rA 144 = (-2147483648, 2147483647)) (by have := i_rng z12122; omega) (by have := i_rng z12122; omega)
        refine q_aload_n hM dX12_copy_65 (lv_at hl 0 rfl) ?_
        refine w_get (v := .ref (ad 145)) hM hW FG_X12_61 lb_129 (rf_129_27 hW.2.1) dX12_copy_66 ?_
        refine q_bipush (v := (16 : Int32)) hM dX12_copy_69 (by decide) ?_
        refine q_iload_n hM dX12_copy_71 (lv_at hl 1 rfl) ?_
        refine q_iadd hM dX12_copy_72 (fun z12130 hz12130 => ?_)
        first | have tz12130 := i_addT hz12130 (kc_16 : (16 : Int32).toInt = 16) (rfl : w2_1.toInt = w2_1.toInt) (by omega) (by omega) | skip
        refine q_sipush (v := (240 : Int32)) hM dX12_copy_73 (by decide) ?_
        refine q_aload_n hM dX12_copy_76 (lv_at hl 0 rfl) ?_
        refine w_get (v := .ref (ad 145)) hM hW FG_X12_61 lb_129 (rf_129_27 hW.2.1) dX12_copy_77 ?_
        refine q_iload_n hM dX12_copy_80 (lv_at hl 1 rfl) ?_
        refine w_iald hM hW lb_145 (i_in (by omega) (by omega)) dX12_copy_81 ?_
        refine q_top (fun y12131 hy12131 => ?_)
        have cy12131 : y12131.toInt = (arI g0 145 w2_1.toNatClampNeg).toInt := by rw [hy12131, f12127]; exact congrArg Int32.toInt (i2_8 _ (by show w2_1.toInt.toNat < 16; omega))
        refine q_iadd hM dX12_copy_82 (fun z12132 hz12132 => ?_)
        first | have tz12132 := i_addT hz12132 (kc_240 : (240 : Int32).toInt = 240) (rfl : y12131.toInt = y12131.toInt) (by omega) (by omega) | skip
        refine w_iast hM hW lb_145 (by omega) (i_in (by omega) (by omega)) dX12_copy_83 (fun g12133 H locs hW e1 e2 => ?_)
        have f12134 : fld g12133 129 32 = .int cm := (e2.1 129 32 (by unfold Only; omega)).trans f12124
        have f12135 : arI g12133 146 = arI g0 146 := (e2.2.1 146 (by unfold Only; omega)).trans f12125
        have f12136 : arI g12133 148 = arI g0 148 := (e2.2.1 148 (by unfold Only; omega)).trans f12126
        have f12137 : arI g12133 143 = upd (arI h9_2 143) z12110.toNatClampNeg z12112 := (e2.2.1 143 (by unfold Only; omega)).trans f12128
        have f12138 : arI g12133 144 = upd (arI h9_2 144) z12120.toNatClampNeg z12122 := (e2.2.1 144 (by unfold Only; omega)).trans f12129
        have f12139 := e1
        rw [f12127] at f12139
        have hG := hG.st e1 e2 (rfl : rA 145 = (-2147483648, 2147483647)) (by have := i_rng z12132; omega) (by have := i_rng z12132; omega)
        refine q_iinc (lv9 := fun z12140 => [(1, .int z12140), (0, .ref (ad 129))]) hM dX12_copy_84 hl (kq := 1) rfl (by decide) (fun _ => rfl) (fun z12140 ls hz12140 hl => ?_)
        first | have tz12140 := i_addT hz12140 (rfl : w2_1.toInt = w2_1.toInt) (kc_1 : (Int32.ofInt 1).toInt = 1) (by omega) (by omega) | skip
        refine q_goto (tgt := 2) hM dX12_copy_87 (by decide) ?_
        exact ih2 z12140 _ _ _ _ (by omega) hG (by omega) (by omega) (by rw [f12137]; exact row_sh rfl i2_3 (by omega) (by omega) (by show _ = 240 + (arI g0 143 w2_1.toNatClampNeg).toInt; omega) (by omega)) (by rw [f12138]; exact row_sh rfl i2_4 (by omega) (by omega) (by show _ = 240 + (arI g0 144 w2_1.toNatClampNeg).toInt; omega) (by omega)) (by rw [f12139]; exact row_sh rfl i2_5 (by omega) (by omega) (by show _ = 240 + (arI g0 145 w2_1.toNatClampNeg).toInt; omega) (by omega)) (by rw [f12137]; exact row_dn rfl i2_6 (by show 16 ≤ Int32.toNatClampNeg _; show 16 ≤ (Int32.toInt _).toNat; omega)) (by rw [f12138]; exact row_dn rfl i2_7 (by show 16 ≤ Int32.toNatClampNeg _; show 16 ≤ (Int32.toInt _).toNat; omega)) (by rw [f12139]; exact row_dn rfl i2_8 (by show 16 ≤ Int32.toNatClampNeg _; show 16 ≤ (Int32.toInt _).toNat; omega)) f12134 f12135 f12136 (lv_sub hl [1, 0] rfl) hW
  have := kc_0
  exact L2 _ (0 : Int32) _ _ _ _ (Nat.lt_succ_self _) hG (by omega) (by omega) (fun j hj => absurd hj (by have := kc_0; omega)) (fun j hj => absurd hj (by have := kc_0; omega)) (fun j hj => absurd hj (by have := kc_0; omega)) (fun j hj => by rw [(rfl : arI g0 143 = arI g0 143)]) (fun j hj => by rw [(rfl : arI g0 144 = arI g0 144)]) (fun j hj => by rw [(rfl : arI g0 145 = arI g0 145)]) ((hW.2.2.1 129 32 (by omega)).trans h_cm) (rfl : arI g0 146 = arI g0 146) (rfl : arI g0 148 = arI g0 148) (lv_sub hl [1, 0] rfl) hW
