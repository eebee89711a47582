theorem dX3_reckon_0 : decode cX3_reckon 0 = .ok (.iload_n 0, 1) := by decide +kernel
theorem dX3_reckon_1 : decode cX3_reckon 1 = .ok (.lookupswitch 125 #[(37, 91), (42, 75), (43, 67), (45, 71), (47, 79), (60, 103), (62, 114)], 67) := by decide +kernel
theorem dX3_reckon_68 : decode cX3_reckon 68 = .ok (.iload_n 1, 1) := by decide +kernel
theorem dX3_reckon_69 : decode cX3_reckon 69 = .ok (.iload_n 2, 1) := by decide +kernel
theorem dX3_reckon_70 : decode cX3_reckon 70 = .ok (.iadd, 1) := by decide +kernel
theorem dX3_reckon_71 : decode cX3_reckon 71 = .ok (.ireturn, 1) := by decide +kernel
theorem dX3_reckon_72 : decode cX3_reckon 72 = .ok (.iload_n 1, 1) := by decide +kernel
theorem dX3_reckon_73 : decode cX3_reckon 73 = .ok (.iload_n 2, 1) := by decide +kernel
theorem dX3_reckon_74 : decode cX3_reckon 74 = .ok (.isub, 1) := by decide +kernel
theorem dX3_reckon_75 : decode cX3_reckon 75 = .ok (.ireturn, 1) := by decide +kernel
theorem dX3_reckon_76 : decode cX3_reckon 76 = .ok (.iload_n 1, 1) := by decide +kernel
theorem dX3_reckon_77 : decode cX3_reckon 77 = .ok (.iload_n 2, 1) := by decide +kernel
theorem dX3_reckon_78 : decode cX3_reckon 78 = .ok (.imul, 1) := by decide +kernel
theorem dX3_reckon_79 : decode cX3_reckon 79 = .ok (.ireturn, 1) := by decide +kernel
theorem dX3_reckon_80 : decode cX3_reckon 80 = .ok (.iload_n 2, 1) := by decide +kernel
theorem dX3_reckon_81 : decode cX3_reckon 81 = .ok (.ifCond .ne 7, 3) := by decide +kernel
theorem dX3_reckon_84 : decode cX3_reckon 84 = .ok (.iconst 0, 1) := by decide +kernel
theorem dX3_reckon_85 : decode cX3_reckon 85 = .ok (.goto 6, 3) := by decide +kernel
theorem dX3_reckon_88 : decode cX3_reckon 88 = .ok (.iload_n 1, 1) := by decide +kernel
theorem dX3_reckon_89 : decode cX3_reckon 89 = .ok (.iload_n 2, 1) := by decide +kernel
theorem dX3_reckon_90 : decode cX3_reckon 90 = .ok (.idiv, 1) := by decide +kernel
theorem dX3_reckon_91 : decode cX3_reckon 91 = .ok (.ireturn, 1) := by decide +kernel
theorem dX3_reckon_92 : decode cX3_reckon 92 = .ok (.iload_n 2, 1) := by decide +kernel
theorem dX3_reckon_93 : decode cX3_reckon 93 = .ok (.ifCond .ne 7, 3) := by decide +kernel
theorem dX3_reckon_96 : decode cX3_reckon 96 = .ok (.iconst 0, 1) := by decide +kernel
theorem dX3_reckon_97 : decode cX3_reckon 97 = .ok (.goto 6, 3) := by decide +kernel
theorem dX3_reckon_100 : decode cX3_reckon 100 = .ok (.iload_n 1, 1) := by decide +kernel
theorem dX3_reckon_101 : decode cX3_reckon 101 = .ok (.iload_n 2, 1) := by decide +kernel
theorem dX3_reckon_102 : decode cX3_reckon 102 = .ok (.irem, 1) := by decide +kernel
theorem dX3_reckon_103 : decode cX3_reckon 103 = .ok (.ireturn, 1) := by decide +kernel
theorem dX3_reckon_104 : decode cX3_reckon 104 = .ok (.iload_n 1, 1) := by decide +kernel
theorem dX3_reckon_105 : decode cX3_reckon 105 = .ok (.iload_n 2, 1) := by decide +kernel
theorem dX3_reckon_106 : decode cX3_reckon 106 = .ok (.if_icmp .ge 7, 3) := by decide +kernel
theorem dX3_reckon_109 : decode cX3_reckon 109 = .ok (.iconst 1, 1) := by decide +kernel
theorem dX3_reckon_110 : decode cX3_reckon 110 = .ok (.goto 4, 3) := by decide +kernel
theorem dX3_reckon_113 : decode cX3_reckon 113 = .ok (.iconst 0, 1) := by decide +kernel
theorem dX3_reckon_114 : decode cX3_reckon 114 = .ok (.ireturn, 1) := by decide +kernel
theorem dX3_reckon_115 : decode cX3_reckon 115 = .ok (.iload_n 1, 1) := by decide +kernel
theorem dX3_reckon_116 : decode cX3_reckon 116 = .ok (.iload_n 2, 1) := by decide +kernel
theorem dX3_reckon_117 : decode cX3_reckon 117 = .ok (.if_icmp .le 7, 3) := by decide +kernel
theorem dX3_reckon_120 : decode cX3_reckon 120 = .ok (.iconst 1, 1) := by decide +kernel
theorem dX3_reckon_121 : decode cX3_reckon 121 = .ok (.goto 4, 3) := by decide +kernel
theorem dX3_reckon_124 : decode cX3_reckon 124 = .ok (.iconst 0, 1) := by decide +kernel
theorem dX3_reckon_125 : decode cX3_reckon 125 = .ok (.ireturn, 1) := by decide +kernel
theorem dX3_reckon_126 : decode cX3_reckon 126 = .ok (.iload_n 1, 1) := by decide +kernel
theorem dX3_reckon_127 : decode cX3_reckon 127 = .ok (.iload_n 2, 1) := by decide +kernel
theorem dX3_reckon_128 : decode cX3_reckon 128 = .ok (.if_icmp .ne 7, 3) := by decide +kernel
theorem dX3_reckon_131 : decode cX3_reckon 131 = .ok (.iconst 1, 1) := by decide +kernel
theorem dX3_reckon_132 : decode cX3_reckon 132 = .ok (.goto 4, 3) := by decide +kernel
theorem dX3_reckon_135 : decode cX3_reckon 135 = .ok (.iconst 0, 1) := by decide +kernel
theorem dX3_reckon_136 : decode cX3_reckon 136 = .ok (.ireturn, 1) := by decide +kernel
set_option maxRecDepth 100000 in
set_option maxHeartbeats 4000000 in
theorem a_X3_reckon (l : Launch) (D : va_G) (cA : Nat → ClassId) (ad : Nat → Nat) (g0 : Nat → va_E) (si : Int32) (x : Int32) (y : Int32) (hSh : Shp ad cA g0) (hG : Rng g0) : CT l NN ad cA D yX3_reckon cX3_reckon 3 (some FieldType.int) (0, 0) [.int si, .int x, .int y] g0 (PU g0 (fun r => True)) := by
  refine q_enterI (by decide) (Nat.le_of_ble_eq_true rfl) rfl (fun K H locs ls _ _ hM hW0 hR hC hE hl => ?_)
  have hl : lv_has ls 3 [(0, .int si), (1, .int x), (2, .int y)] := hl
  have hW : WS ad cA (fun i k => False) g0 K g0 H locs := ⟨hW0, hSh, FR.rf⟩
  refine q_iload_n hM dX3_reckon_0 (lv_at hl 0 rfl) ?_
  rcases (show si.toInt = 37 ∨ si.toInt = 42 ∨ si.toInt = 43 ∨ si.toInt = 45 ∨ si.toInt = 47 ∨ si.toInt = 60 ∨ si.toInt = 62 ∨ (¬ si.toInt = 37 ∧ ¬ si.toInt = 42 ∧ ¬ si.toInt = 43 ∧ ¬ si.toInt = 45 ∧ ¬ si.toInt = 47 ∧ ¬ si.toInt = 60 ∧ ¬ si.toInt = 62) from by omega) with h1 | h1 | h1 | h1 | h1 | h1 | h1 | h1
  · refine q_lookup (off := 91) (tgt := 92) hM dX3_reckon_1 (by decide) (by rw [h1]; rfl) (by decide) ?_
    refine q_iload_n hM dX3_reckon_92 (lv_at hl 2 rfl) ?_
    refine q_if_ne (tgt := 100) hM dX3_reckon_93 (by decide) (rfl : y.toInt = y.toInt) (fun h93 => ?_) (fun h93 => ?_)
    · refine q_iload_n hM dX3_reckon_100 (lv_at hl 1 rfl) ?_
      refine q_iload_n hM dX3_reckon_101 (lv_at hl 2 rfl) ?_
      refine q_irem hM (fun e9 => h93 (by rw [e9]; exact kc_0)) dX3_reckon_102 (fun z580 hz580 => ?_)
      first | have tz580 := i_remT hz580 (rfl : x.toInt = x.toInt) (rfl : y.toInt = y.toInt) (by omega) (by omega) | skip
      exact hE _ _ _ _ _ _ hW.1 ⟨_, rfl, (by trivial), rfl⟩ dX3_reckon_103
    · refine q_iconst (v := (0 : Int32)) hM dX3_reckon_96 (by decide) ?_
      refine q_goto (tgt := 103) hM dX3_reckon_97 (by decide) ?_
      exact hE _ _ _ _ _ _ hW.1 ⟨_, rfl, (by have := kc_0; trivial), rfl⟩ dX3_reckon_103
  · refine q_lookup (off := 75) (tgt := 76) hM dX3_reckon_1 (by decide) (by rw [h1]; rfl) (by decide) ?_
    refine q_iload_n hM dX3_reckon_76 (lv_at hl 1 rfl) ?_
    refine q_iload_n hM dX3_reckon_77 (lv_at hl 2 rfl) ?_
    refine q_imul hM dX3_reckon_78 (fun z583 hz583 => ?_)
    first | have tz583 := i_mulT hz583 (rfl : x.toInt = x.toInt) (rfl : y.toInt = y.toInt) (by omega) (by omega) | skip
    exact hE _ _ _ _ _ _ hW.1 ⟨_, rfl, (by trivial), rfl⟩ dX3_reckon_79
  · refine q_lookup (off := 67) (tgt := 68) hM dX3_reckon_1 (by decide) (by rw [h1]; rfl) (by decide) ?_
    refine q_iload_n hM dX3_reckon_68 (lv_at hl 1 rfl) ?_
    refine q_iload_n hM dX3_reckon_69 (lv_at hl 2 rfl) ?_
    refine q_iadd hM dX3_reckon_70 (fun z585 hz585 => ?_)
    first | have tz585 := i_addT hz585 (rfl : x.toInt = x.toInt) (rfl : y.toInt = y.toInt) (by omega) (by omega) | skip
    exact hE _ _ _ _ _ _ hW.1 ⟨_, rfl, (by trivial), rfl⟩ dX3_reckon_71
  · refine q_lookup (off := 71) (tgt := 72) hM dX3_reckon_1 (by decide) (by rw [h1]; rfl) (by decide) ?_
    refine q_iload_n hM dX3_reckon_72 (lv_at hl 1 rfl) ?_
    refine q_iload_n hM dX3_reckon_73 (lv_at hl 2 rfl) ?_
    refine q_isub hM dX3_reckon_74 (fun z587 hz587 => ?_)
    first | have tz587 := i_subT hz587 (rfl : x.toInt = x.toInt) (rfl : y.toInt = y.toInt) (by omega) (by omega) | skip
    exact hE _ _ _ _ _ _ hW.1 ⟨_, rfl, (by trivial), rfl⟩ dX3_reckon_75
  · refine q_lookup (off := 79) (tgt := 80) hM dX3_reckon_1 (by decide) (by rw [h1]; rfl) (by decide) ?_
    refine q_iload_n hM dX3_reckon_80 (lv_at hl 2 rfl) ?_
    refine q_if_ne (tgt := 88) hM dX3_reckon_81 (by decide) (rfl : y.toInt = y.toInt) (fun h81 => ?_) (fun h81 => ?_)
    · refine q_iload_n hM dX3_reckon_88 (lv_at hl 1 rfl) ?_
      refine q_iload_n hM dX3_reckon_89 (lv_at hl 2 rfl) ?_
      refine q_idiv hM (fun e9 => h81 (by rw [e9]; exact kc_0)) dX3_reckon_90 (fun z590 hz590 => ?_)
      first | have tz590 := i_divT hz590 (rfl : x.toInt = x.toInt) (rfl : y.toInt = y.toInt) (by omega) (by omega) | skip
      exact hE _ _ _ _ _ _ hW.1 ⟨_, rfl, (by trivial), rfl⟩ dX3_reckon_91
    · refine q_iconst (v := (0 : Int32)) hM dX3_reckon_84 (by decide) ?_
      refine q_goto (tgt := 91) hM dX3_reckon_85 (by decide) ?_
      exact hE _ _ _ _ _ _ hW.1 ⟨_, rfl, (by have := kc_0; trivial), rfl⟩ dX3_reckon_91
  · refine q_lookup (off := 103) (tgt := 104) hM dX3_reckon_1 (by decide) (by rw [h1]; rfl) (by decide) ?_
    refine q_iload_n hM dX3_reckon_104 (lv_at hl 1 rfl) ?_
    refine q_iload_n hM dX3_reckon_105 (lv_at hl 2 rfl) ?_
    refine q_icmp_ge (tgt := 113) hM dX3_reckon_106 (by decide) (rfl : x.toInt = x.toInt) (rfl : y.toInt = y.toInt) (fun h106 => ?_) (fun h106 => ?_)
    · refine q_iconst (v := (0 : Int32)) hM dX3_reckon_113 (by decide) ?_
      exact hE _ _ _ _ _ _ hW.1 ⟨_, rfl, (by have := kc_0; trivial), rfl⟩ dX3_reckon_114
    · refine q_iconst (v := (1 : Int32)) hM dX3_reckon_109 (by decide) ?_
      refine q_goto (tgt := 114) hM dX3_reckon_110 (by decide) ?_
      exact hE _ _ _ _ _ _ hW.1 ⟨_, rfl, (by have := kc_1; trivial), rfl⟩ dX3_reckon_114
  · refine q_lookup (off := 114) (tgt := 115) hM dX3_reckon_1 (by decide) (by rw [h1]; rfl) (by decide) ?_
    refine q_iload_n hM dX3_reckon_115 (lv_at hl 1 rfl) ?_
    refine q_iload_n hM dX3_reckon_116 (lv_at hl 2 rfl) ?_
    refine q_icmp_le (tgt := 124) hM dX3_reckon_117 (by decide) (rfl : x.toInt = x.toInt) (rfl : y.toInt = y.toInt) (fun h117 => ?_) (fun h117 => ?_)
    · refine q_iconst (v := (0 : Int32)) hM dX3_reckon_124 (by decide) ?_
      exact hE _ _ _ _ _ _ hW.1 ⟨_, rfl, (by have := kc_0; trivial), rfl⟩ dX3_reckon_125
    · refine q_iconst (v := (1 : Int32)) hM dX3_reckon_120 (by decide) ?_
      refine q_goto (tgt := 125) hM dX3_reckon_121 (by decide) ?_
      exact hE _ _ _ _ _ _ hW.1 ⟨_, rfl, (by have := kc_1; trivial), rfl⟩ dX3_reckon_125
  · refine q_lookup (off := 125) (tgt := 126) hM dX3_reckon_1 (by decide) (by simp only [Op.lookupswitch.offset]; (repeat' split) <;> omega) (by decide) ?_
    refine q_iload_n hM dX3_reckon_126 (lv_at hl 1 rfl) ?_
    refine q_iload_n hM dX3_reckon_127 (lv_at hl 2 rfl) ?_
    refine q_icmp_ne (tgt := 135) hM dX3_reckon_128 (by decide) (rfl : x.toInt = x.toInt) (rfl : y.toInt = y.toInt) (fun h128 => ?_) (fun h128 => ?_)
    · refine q_iconst (v := (0 : Int32)) hM dX3_reckon_135 (by decide) ?_
      exact hE _ _ _ _ _ _ hW.1 ⟨_, rfl, (by have := kc_0; trivial), rfl⟩ dX3_reckon_136
    · refine q_iconst (v := (1 : Int32)) hM dX3_reckon_131 (by decide) ?_
      refine q_goto (tgt := 136) hM dX3_reckon_132 (by decide) ?_
      exact hE _ _ _ _ _ _ hW.1 ⟨_, rfl, (by have := kc_1; trivial), rfl⟩ dX3_reckon_136
