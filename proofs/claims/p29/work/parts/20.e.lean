theorem dX3_run_0 : decode cX3_run 0 = .ok (.iconst 0, 1) := by decide +kernel
theorem dX3_run_1 : decode cX3_run 1 = .ok (.istore_n 3, 1) := by decide +kernel
theorem dX3_run_2 : decode cX3_run 2 = .ok (.iconst 0, 1) := by decide +kernel
theorem dX3_run_3 : decode cX3_run 3 = .ok (.iload_n 1, 1) := by decide +kernel
theorem dX3_run_4 : decode cX3_run 4 = .ok (.invokestatic 45, 3) := by decide +kernel
theorem dX3_run_7 : decode cX3_run 7 = .ok (.istore 4, 2) := by decide +kernel
theorem dX3_run_9 : decode cX3_run 9 = .ok (.iload 4, 2) := by decide +kernel
theorem dX3_run_11 : decode cX3_run 11 = .ok (.aload_n 0, 1) := by decide +kernel
theorem dX3_run_12 : decode cX3_run 12 = .ok (.getfield 32, 3) := by decide +kernel
theorem dX3_run_15 : decode cX3_run 15 = .ok (.if_icmp .ge 251, 3) := by decide +kernel
theorem dX3_run_18 : decode cX3_run 18 = .ok (.iload 4, 2) := by decide +kernel
theorem dX3_run_20 : decode cX3_run 20 = .ok (.sipush 256, 3) := by decide +kernel
theorem dX3_run_23 : decode cX3_run 23 = .ok (.if_icmp .ge 243, 3) := by decide +kernel
theorem dX3_run_26 : decode cX3_run 26 = .ok (.aload_n 0, 1) := by decide +kernel
theorem dX3_run_27 : decode cX3_run 27 = .ok (.getfield 19, 3) := by decide +kernel
theorem dX3_run_30 : decode cX3_run 30 = .ok (.iload 4, 2) := by decide +kernel
theorem dX3_run_32 : decode cX3_run 32 = .ok (.iaload, 1) := by decide +kernel
theorem dX3_run_33 : decode cX3_run 33 = .ok (.ifCond .eq 233, 3) := by decide +kernel
theorem dX3_run_36 : decode cX3_run 36 = .ok (.aload_n 0, 1) := by decide +kernel
theorem dX3_run_37 : decode cX3_run 37 = .ok (.getfield 19, 3) := by decide +kernel
theorem dX3_run_40 : decode cX3_run 40 = .ok (.iload 4, 2) := by decide +kernel
theorem dX3_run_42 : decode cX3_run 42 = .ok (.iaload, 1) := by decide +kernel
theorem dX3_run_43 : decode cX3_run 43 = .ok (.istore 5, 2) := by decide +kernel
theorem dX3_run_45 : decode cX3_run 45 = .ok (.iload 5, 2) := by decide +kernel
theorem dX3_run_47 : decode cX3_run 47 = .ok (.iconst 2, 1) := by decide +kernel
theorem dX3_run_48 : decode cX3_run 48 = .ok (.if_icmp .gt 51, 3) := by decide +kernel
theorem dX3_run_51 : decode cX3_run 51 = .ok (.iload_n 3, 1) := by decide +kernel
theorem dX3_run_52 : decode cX3_run 52 = .ok (.bipush 64, 2) := by decide +kernel
theorem dX3_run_54 : decode cX3_run 54 = .ok (.if_icmp .lt 5, 3) := by decide +kernel
theorem dX3_run_57 : decode cX3_run 57 = .ok (.iconst 0, 1) := by decide +kernel
theorem dX3_run_58 : decode cX3_run 58 = .ok (.ireturn, 1) := by decide +kernel
theorem dX3_run_59 : decode cX3_run 59 = .ok (.aload_n 0, 1) := by decide +kernel
theorem dX3_run_60 : decode cX3_run 60 = .ok (.getfield 25, 3) := by decide +kernel
theorem dX3_run_63 : decode cX3_run 63 = .ok (.iload_n 3, 1) := by decide +kernel
theorem dX3_run_64 : decode cX3_run 64 = .ok (.iload 5, 2) := by decide +kernel
theorem dX3_run_66 : decode cX3_run 66 = .ok (.iconst 1, 1) := by decide +kernel
theorem dX3_run_67 : decode cX3_run 67 = .ok (.if_icmp .ne 13, 3) := by decide +kernel
theorem dX3_run_70 : decode cX3_run 70 = .ok (.aload_n 0, 1) := by decide +kernel
theorem dX3_run_71 : decode cX3_run 71 = .ok (.getfield 22, 3) := by decide +kernel
theorem dX3_run_74 : decode cX3_run 74 = .ok (.iload 4, 2) := by decide +kernel
theorem dX3_run_76 : decode cX3_run 76 = .ok (.iaload, 1) := by decide +kernel
theorem dX3_run_77 : decode cX3_run 77 = .ok (.goto 15, 3) := by decide +kernel
theorem dX3_run_80 : decode cX3_run 80 = .ok (.aload_n 2, 1) := by decide +kernel
theorem dX3_run_81 : decode cX3_run 81 = .ok (.aload_n 0, 1) := by decide +kernel
theorem dX3_run_82 : decode cX3_run 82 = .ok (.getfield 22, 3) := by decide +kernel
theorem dX3_run_85 : decode cX3_run 85 = .ok (.iload 4, 2) := by decide +kernel
theorem dX3_run_87 : decode cX3_run 87 = .ok (.iaload, 1) := by decide +kernel
theorem dX3_run_88 : decode cX3_run 88 = .ok (.bipush 7, 2) := by decide +kernel
theorem dX3_run_90 : decode cX3_run 90 = .ok (.iand, 1) := by decide +kernel
theorem dX3_run_91 : decode cX3_run 91 = .ok (.iaload, 1) := by decide +kernel
theorem dX3_run_92 : decode cX3_run 92 = .ok (.iastore, 1) := by decide +kernel
theorem dX3_run_93 : decode cX3_run 93 = .ok (.iinc 3 1, 3) := by decide +kernel
theorem dX3_run_96 : decode cX3_run 96 = .ok (.goto 164, 3) := by decide +kernel
theorem dX3_run_99 : decode cX3_run 99 = .ok (.iload 5, 2) := by decide +kernel
theorem dX3_run_101 : decode cX3_run 101 = .ok (.iconst 5, 1) := by decide +kernel
theorem dX3_run_102 : decode cX3_run 102 = .ok (.if_icmp .gt 96, 3) := by decide +kernel
theorem dX3_run_105 : decode cX3_run 105 = .ok (.iload_n 3, 1) := by decide +kernel
theorem dX3_run_106 : decode cX3_run 106 = .ok (.iconst 1, 1) := by decide +kernel
theorem dX3_run_107 : decode cX3_run 107 = .ok (.if_icmp .ge 5, 3) := by decide +kernel
theorem dX3_run_110 : decode cX3_run 110 = .ok (.iconst 0, 1) := by decide +kernel
theorem dX3_run_111 : decode cX3_run 111 = .ok (.ireturn, 1) := by decide +kernel
theorem dX3_run_112 : decode cX3_run 112 = .ok (.aload_n 0, 1) := by decide +kernel
theorem dX3_run_113 : decode cX3_run 113 = .ok (.getfield 25, 3) := by decide +kernel
theorem dX3_run_116 : decode cX3_run 116 = .ok (.iload_n 3, 1) := by decide +kernel
theorem dX3_run_117 : decode cX3_run 117 = .ok (.iconst 1, 1) := by decide +kernel
theorem dX3_run_118 : decode cX3_run 118 = .ok (.isub, 1) := by decide +kernel
theorem dX3_run_119 : decode cX3_run 119 = .ok (.iaload, 1) := by decide +kernel
theorem dX3_run_120 : decode cX3_run 120 = .ok (.ifCond .eq 7, 3) := by decide +kernel
theorem dX3_run_123 : decode cX3_run 123 = .ok (.iconst 1, 1) := by decide +kernel
theorem dX3_run_124 : decode cX3_run 124 = .ok (.goto 4, 3) := by decide +kernel
theorem dX3_run_127 : decode cX3_run 127 = .ok (.iconst 0, 1) := by decide +kernel
theorem dX3_run_128 : decode cX3_run 128 = .ok (.istore 6, 2) := by decide +kernel
theorem dX3_run_130 : decode cX3_run 130 = .ok (.iload 5, 2) := by decide +kernel
theorem dX3_run_132 : decode cX3_run 132 = .ok (.iconst 3, 1) := by decide +kernel
theorem dX3_run_133 : decode cX3_run 133 = .ok (.if_icmp .ne 24, 3) := by decide +kernel
theorem dX3_run_136 : decode cX3_run 136 = .ok (.aload_n 0, 1) := by decide +kernel
theorem dX3_run_137 : decode cX3_run 137 = .ok (.getfield 25, 3) := by decide +kernel
theorem dX3_run_140 : decode cX3_run 140 = .ok (.iload_n 3, 1) := by decide +kernel
theorem dX3_run_141 : decode cX3_run 141 = .ok (.iconst 1, 1) := by decide +kernel
theorem dX3_run_142 : decode cX3_run 142 = .ok (.isub, 1) := by decide +kernel
theorem dX3_run_143 : decode cX3_run 143 = .ok (.iload 6, 2) := by decide +kernel
theorem dX3_run_145 : decode cX3_run 145 = .ok (.ifCond .eq 7, 3) := by decide +kernel
theorem dX3_run_148 : decode cX3_run 148 = .ok (.iconst 0, 1) := by decide +kernel
theorem dX3_run_149 : decode cX3_run 149 = .ok (.goto 4, 3) := by decide +kernel
theorem dX3_run_152 : decode cX3_run 152 = .ok (.iconst 1, 1) := by decide +kernel
theorem dX3_run_153 : decode cX3_run 153 = .ok (.iastore, 1) := by decide +kernel
theorem dX3_run_154 : decode cX3_run 154 = .ok (.goto 41, 3) := by decide +kernel
theorem dX3_run_157 : decode cX3_run 157 = .ok (.iload 6, 2) := by decide +kernel
theorem dX3_run_159 : decode cX3_run 159 = .ok (.iload 5, 2) := by decide +kernel
theorem dX3_run_161 : decode cX3_run 161 = .ok (.iconst 5, 1) := by decide +kernel
theorem dX3_run_162 : decode cX3_run 162 = .ok (.if_icmp .ne 7, 3) := by decide +kernel
theorem dX3_run_165 : decode cX3_run 165 = .ok (.iconst 1, 1) := by decide +kernel
theorem dX3_run_166 : decode cX3_run 166 = .ok (.goto 4, 3) := by decide +kernel
theorem dX3_run_169 : decode cX3_run 169 = .ok (.iconst 0, 1) := by decide +kernel
theorem dX3_run_170 : decode cX3_run 170 = .ok (.if_icmp .ne 22, 3) := by decide +kernel
theorem dX3_run_173 : decode cX3_run 173 = .ok (.iload 4, 2) := by decide +kernel
theorem dX3_run_175 : decode cX3_run 175 = .ok (.aload_n 0, 1) := by decide +kernel
theorem dX3_run_176 : decode cX3_run 176 = .ok (.getfield 22, 3) := by decide +kernel
theorem dX3_run_179 : decode cX3_run 179 = .ok (.iload 4, 2) := by decide +kernel
theorem dX3_run_181 : decode cX3_run 181 = .ok (.iaload, 1) := by decide +kernel
theorem dX3_run_182 : decode cX3_run 182 = .ok (.iconst 1, 1) := by decide +kernel
theorem dX3_run_183 : decode cX3_run 183 = .ok (.isub, 1) := by decide +kernel
theorem dX3_run_184 : decode cX3_run 184 = .ok (.invokestatic 45, 3) := by decide +kernel
theorem dX3_run_187 : decode cX3_run 187 = .ok (.istore 4, 2) := by decide +kernel
theorem dX3_run_189 : decode cX3_run 189 = .ok (.goto 6, 3) := by decide +kernel
theorem dX3_run_192 : decode cX3_run 192 = .ok (.iinc 3 (-1), 3) := by decide +kernel
theorem dX3_run_195 : decode cX3_run 195 = .ok (.goto 65, 3) := by decide +kernel
theorem dX3_run_198 : decode cX3_run 198 = .ok (.iload_n 3, 1) := by decide +kernel
theorem dX3_run_199 : decode cX3_run 199 = .ok (.iconst 2, 1) := by decide +kernel
theorem dX3_run_200 : decode cX3_run 200 = .ok (.if_icmp .lt 28, 3) := by decide +kernel
theorem dX3_run_203 : decode cX3_run 203 = .ok (.aload_n 0, 1) := by decide +kernel
theorem dX3_run_204 : decode cX3_run 204 = .ok (.getfield 25, 3) := by decide +kernel
theorem dX3_run_207 : decode cX3_run 207 = .ok (.iload_n 3, 1) := by decide +kernel
theorem dX3_run_208 : decode cX3_run 208 = .ok (.iconst 1, 1) := by decide +kernel
theorem dX3_run_209 : decode cX3_run 209 = .ok (.isub, 1) := by decide +kernel
theorem dX3_run_210 : decode cX3_run 210 = .ok (.iaload, 1) := by decide +kernel
theorem dX3_run_211 : decode cX3_run 211 = .ok (.ifCond .ne 19, 3) := by decide +kernel
theorem dX3_run_214 : decode cX3_run 214 = .ok (.iload 5, 2) := by decide +kernel
theorem dX3_run_216 : decode cX3_run 216 = .ok (.bipush 47, 2) := by decide +kernel
theorem dX3_run_218 : decode cX3_run 218 = .ok (.if_icmp .eq 10, 3) := by decide +kernel
theorem dX3_run_221 : decode cX3_run 221 = .ok (.iload 5, 2) := by decide +kernel
theorem dX3_run_223 : decode cX3_run 223 = .ok (.bipush 37, 2) := by decide +kernel
theorem dX3_run_225 : decode cX3_run 225 = .ok (.if_icmp .ne 5, 3) := by decide +kernel
theorem dX3_run_228 : decode cX3_run 228 = .ok (.iconst 0, 1) := by decide +kernel
theorem dX3_run_229 : decode cX3_run 229 = .ok (.ireturn, 1) := by decide +kernel
theorem dX3_run_230 : decode cX3_run 230 = .ok (.iinc 3 (-1), 3) := by decide +kernel
theorem dX3_run_233 : decode cX3_run 233 = .ok (.aload_n 0, 1) := by decide +kernel
theorem dX3_run_234 : decode cX3_run 234 = .ok (.getfield 25, 3) := by decide +kernel
theorem dX3_run_237 : decode cX3_run 237 = .ok (.iload_n 3, 1) := by decide +kernel
theorem dX3_run_238 : decode cX3_run 238 = .ok (.iconst 1, 1) := by decide +kernel
theorem dX3_run_239 : decode cX3_run 239 = .ok (.isub, 1) := by decide +kernel
theorem dX3_run_240 : decode cX3_run 240 = .ok (.iload 5, 2) := by decide +kernel
theorem dX3_run_242 : decode cX3_run 242 = .ok (.aload_n 0, 1) := by decide +kernel
theorem dX3_run_243 : decode cX3_run 243 = .ok (.getfield 25, 3) := by decide +kernel
theorem dX3_run_246 : decode cX3_run 246 = .ok (.iload_n 3, 1) := by decide +kernel
theorem dX3_run_247 : decode cX3_run 247 = .ok (.iconst 1, 1) := by decide +kernel
theorem dX3_run_248 : decode cX3_run 248 = .ok (.isub, 1) := by decide +kernel
theorem dX3_run_249 : decode cX3_run 249 = .ok (.iaload, 1) := by decide +kernel
theorem dX3_run_250 : decode cX3_run 250 = .ok (.aload_n 0, 1) := by decide +kernel
theorem dX3_run_251 : decode cX3_run 251 = .ok (.getfield 25, 3) := by decide +kernel
theorem dX3_run_254 : decode cX3_run 254 = .ok (.iload_n 3, 1) := by decide +kernel
theorem dX3_run_255 : decode cX3_run 255 = .ok (.iaload, 1) := by decide +kernel
theorem dX3_run_256 : decode cX3_run 256 = .ok (.invokestatic 48, 3) := by decide +kernel
theorem dX3_run_259 : decode cX3_run 259 = .ok (.iastore, 1) := by decide +kernel
theorem dX3_run_260 : decode cX3_run 260 = .ok (.iinc 4 1, 3) := by decide +kernel
theorem dX3_run_263 : decode cX3_run 263 = .ok (.goto (-254), 3) := by decide +kernel
theorem dX3_run_266 : decode cX3_run 266 = .ok (.iload_n 3, 1) := by decide +kernel
theorem dX3_run_267 : decode cX3_run 267 = .ok (.iconst 1, 1) := by decide +kernel
theorem dX3_run_268 : decode cX3_run 268 = .ok (.if_icmp .ne 12, 3) := by decide +kernel
theorem dX3_run_271 : decode cX3_run 271 = .ok (.aload_n 0, 1) := by decide +kernel
theorem dX3_run_272 : decode cX3_run 272 = .ok (.getfield 25, 3) := by decide +kernel
theorem dX3_run_275 : decode cX3_run 275 = .ok (.iconst 0, 1) := by decide +kernel
theorem dX3_run_276 : decode cX3_run 276 = .ok (.iaload, 1) := by decide +kernel
theorem dX3_run_277 : decode cX3_run 277 = .ok (.goto 4, 3) := by decide +kernel
theorem dX3_run_280 : decode cX3_run 280 = .ok (.iconst 0, 1) := by decide +kernel
theorem dX3_run_281 : decode cX3_run 281 = .ok (.ireturn, 1) := by decide +kernel
theorem FG_X3_25 : FG RX3 25 3 8 5 := ⟨RX3, TX3, rfl, wX3, by decide, kAW (v_0_8 (List.mem_of_getElem? (i := 2) rfl)) rfl, rfl⟩
theorem myX3_reckon : MS yX3_reckon cX3_reckon 3 (some FieldType.int) 3 := ⟨kAW (v_2_12 (List.mem_of_getElem? (i := 5) rfl)) rfl, kAW (v_0_0 (List.mem_of_getElem? (i := 5) rfl)) rfl, kAW (v_2_12 (List.mem_of_getElem? (i := 4) rfl)) rfl, by decide, by decide, by decide +kernel⟩
set_option maxRecDepth 100000 in
set_option maxHeartbeats 4000000 in
theorem a_X3_run (l : Launch) (D : va_G) (cA : Nat → ClassId) (ad : Nat → Nat) (g0 : Nat → va_E) (lw : Nat) (fr : Int32)   (hSh : Shp ad cA g0) (hG : Rng g0) (hlw : isLw lw) : CT l NN ad cA D yX3_run cX3_run 7 (some FieldType.int) (1, 22) [.ref (ad lw), .int fr, .ref (ad 83)] g0 (fun v g' => ∃ (r : Int32), v = some (.int r) ∧ Shp ad cA g' ∧ Rng g' ∧ FR (fun i k => i = (lw + 6)) g0 g') := by
  refine q_enterI (by decide) (Nat.le_of_ble_eq_true rfl) rfl (fun K H locs ls _ _ hM hW0 hR hC hE hl => ?_)
  have hl : lv_has ls 7 [(0, .ref (ad lw)), (1, .int fr), (2, .ref (ad 83))] := hl
  have hW : WS ad cA (fun i k => i = (lw + 6)) g0 K g0 H locs := ⟨hW0, hSh, FR.rf⟩
  have ulw := hlw
  unfold isLw at ulw
  refine q_iconst (v := (0 : Int32)) hM dX3_run_0 (by decide) ?_
  refine q_istore_n (lv9 := [(3, .int (0 : Int32)), (0, .ref (ad lw)), (1, .int fr), (2, .ref (ad 83))]) hM dX3_run_1 hl (by decide) rfl (fun ls hl => ?_)
  refine q_iconst (v := (0 : Int32)) hM dX3_run_2 (by decide) ?_
  refine q_iload_n hM dX3_run_3 (lv_at hl 2 rfl) ?_
  refine q_mmax hM hR hC (kAW (v_2_12 (List.mem_of_getElem? (i := 2) rfl)) rfl) hl.1 (by decide) (Nat.le_of_ble_eq_true rfl) dX3_run_4 (fun r821 hr821 => ?_)
  have := kc_0
  refine q_istore (lv9 := [(4, .int r821), (3, .int (0 : Int32)), (0, .ref (ad lw)), (1, .int fr), (2, .ref (ad 83))]) hM dX3_run_7 hl (by decide) rfl (fun ls hl => ?_)
  have L9 : ∀ (fu9 : Nat) (w9_3 : Int32) (w9_4 : Int32) (g9 : Nat → va_E) (H : Heap) (locs : List Loc) (ls : Array Slot), (256 - w9_4.toInt).toNat < fu9 → (Rng g9) → (0 ≤ w9_3.toInt) → (w9_3.toInt ≤ 64) → (0 ≤ w9_4.toInt) → lv_has ls 7 [(0, .ref (ad lw)), (1, .int fr), (2, .ref (ad 83)), (3, .int w9_3), (4, .int w9_4)] → WS ad cA (fun i k => i = (lw + 6)) g0 K g9 H locs → XX K 0 0 H locs 9 ls [] := by
    intro fu9
    induction fu9 with
    | zero => intro w9_3 w9_4 g9 H locs ls h0; omega
    | succ fu9 ih9 =>
      intro w9_3 w9_4 g9 H locs ls hm9 i9_0 i9_1 i9_2 i9_3 hl hW
      have hG := i9_0
      refine q_iload hM dX3_run_9 (lv_at hl 4 rfl) ?_
      refine q_aload_n hM dX3_run_11 (lv_at hl 0 rfl) ?_
      refine w_getI hM hW FG_X3_32 (lo_Lw hlw) (by decide) (by decide) dX3_run_12 (fun x823 fx823 => ?_)
      have bx823 := hG.f fx823 (rF_Lw_7 hlw) (by decide)
      refine q_icmp_ge (tgt := 266) hM dX3_run_15 (by decide) (rfl : w9_4.toInt = w9_4.toInt) (rfl : x823.toInt = x823.toInt) (fun h15 => ?_) (fun h15 => ?_)
      · refine q_iload_n hM dX3_run_266 (lv_at hl 3 rfl) ?_
        refine q_iconst (v := (1 : Int32)) hM dX3_run_267 (by decide) ?_
        refine q_icmp_ne (tgt := 280) hM dX3_run_268 (by decide) (rfl : w9_3.toInt = w9_3.toInt) (kc_1 : (1 : Int32).toInt = 1) (fun h268 => ?_) (fun h268 => ?_)
        · refine q_iconst (v := (0 : Int32)) hM dX3_run_280 (by decide) ?_
          exact hE _ _ _ _ _ _ hW.1 ⟨_, rfl, hW.2.1, hG, hW.2.2⟩ dX3_run_281
        · refine q_aload_n hM dX3_run_271 (lv_at hl 0 rfl) ?_
          refine w_get (v := .ref (ad (lw + 6))) hM hW FG_X3_25 (lo_Lw hlw) (rf_Lw_5 hlw hW.2.1) dX3_run_272 ?_
          refine q_iconst (v := (0 : Int32)) hM dX3_run_275 (by decide) ?_
          refine w_iald hM hW (la_Lw_5 hlw) (i_in (by rw [kc_0]; decide) (by rw [kc_0]; decide)) dX3_run_276 ?_
          refine q_top (fun y827 hy827 => ?_)
          refine q_goto (tgt := 281) hM dX3_run_277 (by decide) ?_
          exact hE _ _ _ _ _ _ hW.1 ⟨_, rfl, hW.2.1, hG, hW.2.2⟩ dX3_run_281
      · refine q_iload hM dX3_run_18 (lv_at hl 4 rfl) ?_
        refine q_sipush (v := (256 : Int32)) hM dX3_run_20 (by decide) ?_
        refine q_icmp_ge (tgt := 266) hM dX3_run_23 (by decide) (rfl : w9_4.toInt = w9_4.toInt) (kc_256 : (256 : Int32).toInt = 256) (fun h23 => ?_) (fun h23 => ?_)
        · refine q_iload_n hM dX3_run_266 (lv_at hl 3 rfl) ?_
          refine q_iconst (v := (1 : Int32)) hM dX3_run_267 (by decide) ?_
          refine q_icmp_ne (tgt := 280) hM dX3_run_268 (by decide) (rfl : w9_3.toInt = w9_3.toInt) (kc_1 : (1 : Int32).toInt = 1) (fun h268 => ?_) (fun h268 => ?_)
          · refine q_iconst (v := (0 : Int32)) hM dX3_run_280 (by decide) ?_
            exact hE _ _ _ _ _ _ hW.1 ⟨_, rfl, hW.2.1, hG, hW.2.2⟩ dX3_run_281
          · refine q_aload_n hM dX3_run_271 (lv_at hl 0 rfl) ?_
            refine w_get (v := .ref (ad (lw + 6))) hM hW FG_X3_25 (lo_Lw hlw) (rf_Lw_5 hlw hW.2.1) dX3_run_272 ?_
            refine q_iconst (v := (0 : Int32)) hM dX3_run_275 (by decide) ?_
            refine w_iald hM hW (la_Lw_5 hlw) (i_in (by rw [kc_0]; decide) (by rw [kc_0]; decide)) dX3_run_276 ?_
            refine q_top (fun y832 hy832 => ?_)
            refine q_goto (tgt := 281) hM dX3_run_277 (by decide) ?_
            exact hE _ _ _ _ _ _ hW.1 ⟨_, rfl, hW.2.1, hG, hW.2.2⟩ dX3_run_281
        · refine q_aload_n hM dX3_run_26 (lv_at hl 0 rfl) ?_
          refine w_get (v := .ref (ad (lw + 4))) hM hW FG_X3_19 (lo_Lw hlw) (rf_Lw_3 hlw hW.2.1) dX3_run_27 ?_
          refine q_iload hM dX3_run_30 (lv_at hl 4 rfl) ?_
          refine w_iald hM hW (la_Lw_3 hlw) (i_in (by omega) (by omega)) dX3_run_32 ?_
          refine q_top (fun y834 hy834 => ?_)
          refine q_if_eq (tgt := 266) hM dX3_run_33 (by decide) (rfl : y834.toInt = y834.toInt) (fun h33 => ?_) (fun h33 => ?_)
          · refine q_iload_n hM dX3_run_266 (lv_at hl 3 rfl) ?_
            refine q_iconst (v := (1 : Int32)) hM dX3_run_267 (by decide) ?_
            refine q_icmp_ne (tgt := 280) hM dX3_run_268 (by decide) (rfl : w9_3.toInt = w9_3.toInt) (kc_1 : (1 : Int32).toInt = 1) (fun h268 => ?_) (fun h268 => ?_)
            · refine q_iconst (v := (0 : Int32)) hM dX3_run_280 (by decide) ?_
              exact hE _ _ _ _ _ _ hW.1 ⟨_, rfl, hW.2.1, hG, hW.2.2⟩ dX3_run_281
            · refine q_aload_n hM dX3_run_271 (lv_at hl 0 rfl) ?_
              refine w_get (v := .ref (ad (lw + 6))) hM hW FG_X3_25 (lo_Lw hlw) (rf_Lw_5 hlw hW.2.1) dX3_run_272 ?_
              refine q_iconst (v := (0 : Int32)) hM dX3_run_275 (by decide) ?_
              refine w_iald hM hW (la_Lw_5 hlw) (i_in (by rw [kc_0]; decide) (by rw [kc_0]; decide)) dX3_run_276 ?_
              refine q_top (fun y838 hy838 => ?_)
              refine q_goto (tgt := 281) hM dX3_run_277 (by decide) ?_
              exact hE _ _ _ _ _ _ hW.1 ⟨_, rfl, hW.2.1, hG, hW.2.2⟩ dX3_run_281
          · refine q_aload_n hM dX3_run_36 (lv_at hl 0 rfl) ?_
            refine w_get (v := .ref (ad (lw + 4))) hM hW FG_X3_19 (lo_Lw hlw) (rf_Lw_3 hlw hW.2.1) dX3_run_37 ?_
            refine q_iload hM dX3_run_40 (lv_at hl 4 rfl) ?_
            refine w_iald hM hW (la_Lw_3 hlw) (i_in (by omega) (by omega)) dX3_run_42 ?_
            refine q_top (fun y840 hy840 => ?_)
            refine q_istore (lv9 := [(5, .int y840), (0, .ref (ad lw)), (1, .int fr), (2, .ref (ad 83)), (3, .int w9_3), (4, .int w9_4)]) hM dX3_run_43 hl (by decide) rfl (fun ls hl => ?_)
            refine q_iload hM dX3_run_45 (lv_at hl 0 rfl) ?_
            refine q_iconst (v := (2 : Int32)) hM dX3_run_47 (by decide) ?_
            refine q_icmp_gt (tgt := 99) hM dX3_run_48 (by decide) (rfl : y840.toInt = y840.toInt) (kc_2 : (2 : Int32).toInt = 2) (fun h48 => ?_) (fun h48 => ?_)
            · refine q_iload hM dX3_run_99 (lv_at hl 0 rfl) ?_
              refine q_iconst (v := (5 : Int32)) hM dX3_run_101 (by decide) ?_
              refine q_icmp_gt (tgt := 198) hM dX3_run_102 (by decide) (rfl : y840.toInt = y840.toInt) (kc_5 : (5 : Int32).toInt = 5) (fun h102 => ?_) (fun h102 => ?_)
              · refine q_iload_n hM dX3_run_198 (lv_at hl 4 rfl) ?_
                refine q_iconst (v := (2 : Int32)) hM dX3_run_199 (by decide) ?_
                refine q_icmp_lt (tgt := 228) hM dX3_run_200 (by decide) (rfl : w9_3.toInt = w9_3.toInt) (kc_2 : (2 : Int32).toInt = 2) (fun h200 => ?_) (fun h200 => ?_)
                · refine q_iconst (v := (0 : Int32)) hM dX3_run_228 (by decide) ?_
                  exact hE _ _ _ _ _ _ hW.1 ⟨_, rfl, hW.2.1, hG, hW.2.2⟩ dX3_run_229
                · refine q_aload_n hM dX3_run_203 (lv_at hl 1 rfl) ?_
                  refine w_get (v := .ref (ad (lw + 6))) hM hW FG_X3_25 (lo_Lw hlw) (rf_Lw_5 hlw hW.2.1) dX3_run_204 ?_
                  refine q_iload_n hM dX3_run_207 (lv_at hl 4 rfl) ?_
                  refine q_iconst (v := (1 : Int32)) hM dX3_run_208 (by decide) ?_
                  refine q_isub hM dX3_run_209 (fun z845 hz845 => ?_)
                  first | have tz845 := i_subT hz845 (rfl : w9_3.toInt = w9_3.toInt) (kc_1 : (1 : Int32).toInt = 1) (by omega) (by omega) | skip
                  refine w_iald hM hW (la_Lw_5 hlw) (i_in (by omega) (by omega)) dX3_run_210 ?_
                  refine q_top (fun y846 hy846 => ?_)
                  refine q_if_ne (tgt := 230) hM dX3_run_211 (by decide) (rfl : y846.toInt = y846.toInt) (fun h211 => ?_) (fun h211 => ?_)
                  · refine q_iinc (lv9 := fun z848 => [(3, .int z848), (5, .int y840), (0, .ref (ad lw)), (1, .int fr), (2, .ref (ad 83)), (4, .int w9_4)]) hM dX3_run_230 hl (kq := 4) rfl (by decide) (fun _ => rfl) (fun z848 ls hz848 hl => ?_)
                    first | have tz848 := i_addT hz848 (rfl : w9_3.toInt = w9_3.toInt) (kc_m1 : (Int32.ofInt (-1)).toInt = (-1)) (by omega) (by omega) | skip
                    refine q_aload_n hM dX3_run_233 (lv_at hl 2 rfl) ?_
                    refine w_get (v := .ref (ad (lw + 6))) hM hW FG_X3_25 (lo_Lw hlw) (rf_Lw_5 hlw hW.2.1) dX3_run_234 ?_
                    refine q_iload_n hM dX3_run_237 (lv_at hl 0 rfl) ?_
                    refine q_iconst (v := (1 : Int32)) hM dX3_run_238 (by decide) ?_
                    refine q_isub hM dX3_run_239 (fun z849 hz849 => ?_)
                    first | have tz849 := i_subT hz849 (rfl : z848.toInt = z848.toInt) (kc_1 : (1 : Int32).toInt = 1) (by omega) (by omega) | skip
                    refine q_iload hM dX3_run_240 (lv_at hl 1 rfl) ?_
                    refine q_aload_n hM dX3_run_242 (lv_at hl 2 rfl) ?_
                    refine w_get (v := .ref (ad (lw + 6))) hM hW FG_X3_25 (lo_Lw hlw) (rf_Lw_5 hlw hW.2.1) dX3_run_243 ?_
                    refine q_iload_n hM dX3_run_246 (lv_at hl 0 rfl) ?_
                    refine q_iconst (v := (1 : Int32)) hM dX3_run_247 (by decide) ?_
                    refine q_isub hM dX3_run_248 (fun z850 hz850 => ?_)
                    first | have tz850 := i_subT hz850 (rfl : z848.toInt = z848.toInt) (kc_1 : (1 : Int32).toInt = 1) (by omega) (by omega) | skip
                    refine w_iald hM hW (la_Lw_5 hlw) (i_in (by omega) (by omega)) dX3_run_249 ?_
                    refine q_top (fun y851 hy851 => ?_)
                    refine q_aload_n hM dX3_run_250 (lv_at hl 2 rfl) ?_
                    refine w_get (v := .ref (ad (lw + 6))) hM hW FG_X3_25 (lo_Lw hlw) (rf_Lw_5 hlw hW.2.1) dX3_run_251 ?_
                    refine q_iload_n hM dX3_run_254 (lv_at hl 0 rfl) ?_
                    refine w_iald hM hW (la_Lw_5 hlw) (i_in (by omega) (by omega)) dX3_run_255 ?_
                    refine q_top (fun y852 hy852 => ?_)
                    refine q_callS (As := [.int y840, .int y851, .int y852]) (rest := [.int z849, .ref (ad (lw + 6))]) hM hW.1 hR hC myX3_reckon (kAW (v_2_12 (List.mem_of_getElem? (i := 3) rfl)) rfl) (a_X3_reckon _ _ cA ad g9 y840 y851 y852 hW.2.1 hG) ⟨by decide, by decide⟩ rfl rfl hl.1 (Nat.le_of_ble_eq_true rfl) dX3_run_256 (fun v g854 H locs hp hW1 => ?_)
                    obtain ⟨r853, rfl, hr853, rfl⟩ := hp
                    have hW : WS ad cA (fun i k => i = (lw + 6)) g0 K g9 H locs := ⟨hW1, hW.2.1, hW.2.2⟩
                    refine w_iast hM hW (la_Lw_5 hlw) (by omega) (i_in (by omega) (by omega)) dX3_run_259 (fun g855 H locs hW e1 e2 => ?_)
                    have f856 : fld g855 lw 7 = .int x823 := (e2.1 lw 7 (by unfold Only; omega)).trans fx823
                    have hG := hG.st e1 e2 (rA_Lw_5 hlw) (by have := i_rng r853; omega) (by have := i_rng r853; omega)
                    refine q_iinc (lv9 := fun z857 => [(4, .int z857), (3, .int z848), (5, .int y840), (0, .ref (ad lw)), (1, .int fr), (2, .ref (ad 83))]) hM dX3_run_260 hl (kq := 5) rfl (by decide) (fun _ => rfl) (fun z857 ls hz857 hl => ?_)
                    first | have tz857 := i_addT hz857 (rfl : w9_4.toInt = w9_4.toInt) (kc_1 : (Int32.ofInt 1).toInt = 1) (by omega) (by omega) | skip
                    refine q_goto (tgt := 9) hM dX3_run_263 (by decide) ?_
                    exact ih9 z848 z857 _ _ _ _ (by omega) hG (by omega) (by omega) (by omega) (lv_sub hl [3, 4, 5, 1, 0] rfl) hW
                  · refine q_iload hM dX3_run_214 (lv_at hl 0 rfl) ?_
                    refine q_bipush (v := (47 : Int32)) hM dX3_run_216 (by decide) ?_
                    refine q_icmp_eq (tgt := 228) hM dX3_run_218 (by decide) (rfl : y840.toInt = y840.toInt) (kc_47 : (47 : Int32).toInt = 47) (fun h218 => ?_) (fun h218 => ?_)
                    · refine q_iconst (v := (0 : Int32)) hM dX3_run_228 (by decide) ?_
                      exact hE _ _ _ _ _ _ hW.1 ⟨_, rfl, hW.2.1, hG, hW.2.2⟩ dX3_run_229
                    · refine q_iload hM dX3_run_221 (lv_at hl 0 rfl) ?_
                      refine q_bipush (v := (37 : Int32)) hM dX3_run_223 (by decide) ?_
                      refine q_icmp_ne (tgt := 230) hM dX3_run_225 (by decide) (rfl : y840.toInt = y840.toInt) (kc_37 : (37 : Int32).toInt = 37) (fun h225 => ?_) (fun h225 => ?_)
                      · refine q_iinc (lv9 := fun z862 => [(3, .int z862), (5, .int y840), (0, .ref (ad lw)), (1, .int fr), (2, .ref (ad 83)), (4, .int w9_4)]) hM dX3_run_230 hl (kq := 4) rfl (by decide) (fun _ => rfl) (fun z862 ls hz862 hl => ?_)
                        first | have tz862 := i_addT hz862 (rfl : w9_3.toInt = w9_3.toInt) (kc_m1 : (Int32.ofInt (-1)).toInt = (-1)) (by omega) (by omega) | skip
                        refine q_aload_n hM dX3_run_233 (lv_at hl 2 rfl) ?_
                        refine w_get (v := .ref (ad (lw + 6))) hM hW FG_X3_25 (lo_Lw hlw) (rf_Lw_5 hlw hW.2.1) dX3_run_234 ?_
                        refine q_iload_n hM dX3_run_237 (lv_at hl 0 rfl) ?_
                        refine q_iconst (v := (1 : Int32)) hM dX3_run_238 (by decide) ?_
                        refine q_isub hM dX3_run_239 (fun z863 hz863 => ?_)
                        first | have tz863 := i_subT hz863 (rfl : z862.toInt = z862.toInt) (kc_1 : (1 : Int32).toInt = 1) (by omega) (by omega) | skip
                        refine q_iload hM dX3_run_240 (lv_at hl 1 rfl) ?_
                        refine q_aload_n hM dX3_run_242 (lv_at hl 2 rfl) ?_
                        refine w_get (v := .ref (ad (lw + 6))) hM hW FG_X3_25 (lo_Lw hlw) (rf_Lw_5 hlw hW.2.1) dX3_run_243 ?_
                        refine q_iload_n hM dX3_run_246 (lv_at hl 0 rfl) ?_
                        refine q_iconst (v := (1 : Int32)) hM dX3_run_247 (by decide) ?_
                        refine q_isub hM dX3_run_248 (fun z864 hz864 => ?_)
                        first | have tz864 := i_subT hz864 (rfl : z862.toInt = z862.toInt) (kc_1 : (1 : Int32).toInt = 1) (by omega) (by omega) | skip
                        refine w_iald hM hW (la_Lw_5 hlw) (i_in (by omega) (by omega)) dX3_run_249 ?_
                        refine q_top (fun y865 hy865 => ?_)
                        refine q_aload_n hM dX3_run_250 (lv_at hl 2 rfl) ?_
                        refine w_get (v := .ref (ad (lw + 6))) hM hW FG_X3_25 (lo_Lw hlw) (rf_Lw_5 hlw hW.2.1) dX3_run_251 ?_
                        refine q_iload_n hM dX3_run_254 (lv_at hl 0 rfl) ?_
                        refine w_iald hM hW (la_Lw_5 hlw) (i_in (by omega) (by omega)) dX3_run_255 ?_
                        refine q_top (fun y866 hy866 => ?_)
                        refine q_callS (As := [.int y840, .int y865, .int y866]) (rest := [.int z863, .ref (ad (lw + 6))]) hM hW.1 hR hC myX3_reckon (kAW (v_2_12 (List.mem_of_getElem? (i := 3) rfl)) rfl) (a_X3_reckon _ _ cA ad g9 y840 y865 y866 hW.2.1 hG) ⟨by decide, by decide⟩ rfl rfl hl.1 (Nat.le_of_ble_eq_true rfl) dX3_run_256 (fun v g868 H locs hp hW1 => ?_)
                        obtain ⟨r867, rfl, hr867, rfl⟩ := hp
                        have hW : WS ad cA (fun i k => i = (lw + 6)) g0 K g9 H locs := ⟨hW1, hW.2.1, hW.2.2⟩
                        refine w_iast hM hW (la_Lw_5 hlw) (by omega) (i_in (by omega) (by omega)) dX3_run_259 (fun g869 H locs hW e1 e2 => ?_)
                        have f870 : fld g869 lw 7 = .int x823 := (e2.1 lw 7 (by unfold Only; omega)).trans fx823
                        have hG := hG.st e1 e2 (rA_Lw_5 hlw) (by have := i_rng r867; omega) (by have := i_rng r867; omega)
                        refine q_iinc (lv9 := fun z871 => [(4, .int z871), (3, .int z862), (5, .int y840), (0, .ref (ad lw)), (1, .int fr), (2, .ref (ad 83))]) hM dX3_run_260 hl (kq := 5) rfl (by decide) (fun _ => rfl) (fun z871 ls hz871 hl => ?_)
                        first | have tz871 := i_addT hz871 (rfl : w9_4.toInt = w9_4.toInt) (kc_1 : (Int32.ofInt 1).toInt = 1) (by omega) (by omega) | skip
                        refine q_goto (tgt := 9) hM dX3_run_263 (by decide) ?_
                        exact ih9 z862 z871 _ _ _ _ (by omega) hG (by omega) (by omega) (by omega) (lv_sub hl [3, 4, 5, 1, 0] rfl) hW
                      · refine q_iconst (v := (0 : Int32)) hM dX3_run_228 (by decide) ?_
                        exact hE _ _ _ _ _ _ hW.1 ⟨_, rfl, hW.2.1, hG, hW.2.2⟩ dX3_run_229
              · refine q_iload_n hM dX3_run_105 (lv_at hl 4 rfl) ?_
                refine q_iconst (v := (1 : Int32)) hM dX3_run_106 (by decide) ?_
                refine q_icmp_ge (tgt := 112) hM dX3_run_107 (by decide) (rfl : w9_3.toInt = w9_3.toInt) (kc_1 : (1 : Int32).toInt = 1) (fun h107 => ?_) (fun h107 => ?_)
                · refine q_aload_n hM dX3_run_112 (lv_at hl 1 rfl) ?_
                  refine w_get (v := .ref (ad (lw + 6))) hM hW FG_X3_25 (lo_Lw hlw) (rf_Lw_5 hlw hW.2.1) dX3_run_113 ?_
                  refine q_iload_n hM dX3_run_116 (lv_at hl 4 rfl) ?_
                  refine q_iconst (v := (1 : Int32)) hM dX3_run_117 (by decide) ?_
                  refine q_isub hM dX3_run_118 (fun z875 hz875 => ?_)
                  first | have tz875 := i_subT hz875 (rfl : w9_3.toInt = w9_3.toInt) (kc_1 : (1 : Int32).toInt = 1) (by omega) (by omega) | skip
                  refine w_iald hM hW (la_Lw_5 hlw) (i_in (by omega) (by omega)) dX3_run_119 ?_
                  refine q_top (fun y876 hy876 => ?_)
                  refine q_if_eq (tgt := 127) hM dX3_run_120 (by decide) (rfl : y876.toInt = y876.toInt) (fun h120 => ?_) (fun h120 => ?_)
                  · refine q_iconst (v := (0 : Int32)) hM dX3_run_127 (by decide) ?_
                    refine q_istore (lv9 := [(6, .int (0 : Int32)), (5, .int y840), (0, .ref (ad lw)), (1, .int fr), (2, .ref (ad 83)), (3, .int w9_3), (4, .int w9_4)]) hM dX3_run_128 hl (by decide) rfl (fun ls hl => ?_)
                    refine q_iload hM dX3_run_130 (lv_at hl 1 rfl) ?_
                    refine q_iconst (v := (3 : Int32)) hM dX3_run_132 (by decide) ?_
                    refine q_icmp_ne (tgt := 157) hM dX3_run_133 (by decide) (rfl : y840.toInt = y840.toInt) (kc_3 : (3 : Int32).toInt = 3) (fun h133 => ?_) (fun h133 => ?_)
                    · refine q_iload hM dX3_run_157 (lv_at hl 0 rfl) ?_
                      refine q_iload hM dX3_run_159 (lv_at hl 1 rfl) ?_
                      refine q_iconst (v := (5 : Int32)) hM dX3_run_161 (by decide) ?_
                      refine q_icmp_ne (tgt := 169) hM dX3_run_162 (by decide) (rfl : y840.toInt = y840.toInt) (kc_5 : (5 : Int32).toInt = 5) (fun h162 => ?_) (fun h162 => ?_)
                      · refine q_iconst (v := (0 : Int32)) hM dX3_run_169 (by decide) ?_
                        refine q_icmp_ne (tgt := 192) hM dX3_run_170 (by decide) (kc_0 : (0 : Int32).toInt = 0) (kc_0 : (0 : Int32).toInt = 0) (fun h170 => ?_) (fun h170 => ?_)
                        · omega
                        · refine q_iload hM dX3_run_173 (lv_at hl 6 rfl) ?_
                          refine q_aload_n hM dX3_run_175 (lv_at hl 2 rfl) ?_
                          refine w_get (v := .ref (ad (lw + 5))) hM hW FG_X3_22 (lo_Lw hlw) (rf_Lw_4 hlw hW.2.1) dX3_run_176 ?_
                          refine q_iload hM dX3_run_179 (lv_at hl 6 rfl) ?_
                          refine w_iald hM hW (la_Lw_4 hlw) (i_in (by omega) (by omega)) dX3_run_181 ?_
                          refine q_top (fun y882 hy882 => ?_)
                          have by882 := hG.a hy882 (rA_Lw_4 hlw)
                          refine q_iconst (v := (1 : Int32)) hM dX3_run_182 (by decide) ?_
                          refine q_isub hM dX3_run_183 (fun z883 hz883 => ?_)
                          first | have tz883 := i_subT hz883 (rfl : y882.toInt = y882.toInt) (kc_1 : (1 : Int32).toInt = 1) (by omega) (by omega) | skip
                          refine q_mmax hM hR hC (kAW (v_2_12 (List.mem_of_getElem? (i := 2) rfl)) rfl) hl.1 (by decide) (Nat.le_of_ble_eq_true rfl) dX3_run_184 (fun r884 hr884 => ?_)
                          refine q_istore (lv9 := [(4, .int r884), (6, .int (0 : Int32)), (5, .int y840), (0, .ref (ad lw)), (1, .int fr), (2, .ref (ad 83)), (3, .int w9_3)]) hM dX3_run_187 hl (by decide) rfl (fun ls hl => ?_)
                          refine q_goto (tgt := 195) hM dX3_run_189 (by decide) ?_
                          refine q_goto (tgt := 260) hM dX3_run_195 (by decide) ?_
                          refine q_iinc (lv9 := fun z885 => [(4, .int z885), (6, .int (0 : Int32)), (5, .int y840), (0, .ref (ad lw)), (1, .int fr), (2, .ref (ad 83)), (3, .int w9_3)]) hM dX3_run_260 hl (kq := 0) rfl (by decide) (fun _ => rfl) (fun z885 ls hz885 hl => ?_)
                          first | have tz885 := i_addT hz885 (rfl : r884.toInt = r884.toInt) (kc_1 : (Int32.ofInt 1).toInt = 1) (by omega) (by omega) | skip
                          refine q_goto (tgt := 9) hM dX3_run_263 (by decide) ?_
                          exact ih9 w9_3 z885 _ _ _ _ (by omega) hG (by omega) (by omega) (by omega) (lv_sub hl [3, 4, 5, 6, 0] rfl) hW
                      · refine q_iconst (v := (1 : Int32)) hM dX3_run_165 (by decide) ?_
                        refine q_goto (tgt := 170) hM dX3_run_166 (by decide) ?_
                        refine q_icmp_ne (tgt := 192) hM dX3_run_170 (by decide) (kc_0 : (0 : Int32).toInt = 0) (kc_1 : (1 : Int32).toInt = 1) (fun h170 => ?_) (fun h170 => ?_)
                        · refine q_iinc (lv9 := fun z888 => [(3, .int z888), (6, .int (0 : Int32)), (5, .int y840), (0, .ref (ad lw)), (1, .int fr), (2, .ref (ad 83)), (4, .int w9_4)]) hM dX3_run_192 hl (kq := 5) rfl (by decide) (fun _ => rfl) (fun z888 ls hz888 hl => ?_)
                          first | have tz888 := i_addT hz888 (rfl : w9_3.toInt = w9_3.toInt) (kc_m1 : (Int32.ofInt (-1)).toInt = (-1)) (by omega) (by omega) | skip
                          refine q_goto (tgt := 260) hM dX3_run_195 (by decide) ?_
                          refine q_iinc (lv9 := fun z889 => [(4, .int z889), (3, .int z888), (6, .int (0 : Int32)), (5, .int y840), (0, .ref (ad lw)), (1, .int fr), (2, .ref (ad 83))]) hM dX3_run_260 hl (kq := 6) rfl (by decide) (fun _ => rfl) (fun z889 ls hz889 hl => ?_)
                          first | have tz889 := i_addT hz889 (rfl : w9_4.toInt = w9_4.toInt) (kc_1 : (Int32.ofInt 1).toInt = 1) (by omega) (by omega) | skip
                          refine q_goto (tgt := 9) hM dX3_run_263 (by decide) ?_
                          exact ih9 z888 z889 _ _ _ _ (by omega) hG (by omega) (by omega) (by omega) (lv_sub hl [4, 5, 6, 1, 0] rfl) hW
                        · omega
                    · refine q_aload_n hM dX3_run_136 (lv_at hl 2 rfl) ?_
                      refine w_get (v := .ref (ad (lw + 6))) hM hW FG_X3_25 (lo_Lw hlw) (rf_Lw_5 hlw hW.2.1) dX3_run_137 ?_
                      refine q_iload_n hM dX3_run_140 (lv_at hl 5 rfl) ?_
                      refine q_iconst (v := (1 : Int32)) hM dX3_run_141 (by decide) ?_
                      refine q_isub hM dX3_run_142 (fun z892 hz892 => ?_)
                      first | have tz892 := i_subT hz892 (rfl : w9_3.toInt = w9_3.toInt) (kc_1 : (1 : Int32).toInt = 1) (by omega) (by omega) | skip
                      refine q_iload hM dX3_run_143 (lv_at hl 0 rfl) ?_
                      refine q_if_eq (tgt := 152) hM dX3_run_145 (by decide) (kc_0 : (0 : Int32).toInt = 0) (fun h145 => ?_) (fun h145 => ?_)
                      · refine q_iconst (v := (1 : Int32)) hM dX3_run_152 (by decide) ?_
                        refine w_iast hM hW (la_Lw_5 hlw) (by omega) (i_in (by omega) (by omega)) dX3_run_153 (fun g894 H locs hW e1 e2 => ?_)
                        have f895 : fld g894 lw 7 = .int x823 := (e2.1 lw 7 (by unfold Only; omega)).trans fx823
                        have hG := hG.st e1 e2 (rA_Lw_5 hlw) (by have := kc_1; have := i_rng (1 : Int32); omega) (by have := kc_1; have := i_rng (1 : Int32); omega)
                        refine q_goto (tgt := 195) hM dX3_run_154 (by decide) ?_
                        refine q_goto (tgt := 260) hM dX3_run_195 (by decide) ?_
                        refine q_iinc (lv9 := fun z896 => [(4, .int z896), (6, .int (0 : Int32)), (5, .int y840), (0, .ref (ad lw)), (1, .int fr), (2, .ref (ad 83)), (3, .int w9_3)]) hM dX3_run_260 hl (kq := 6) rfl (by decide) (fun _ => rfl) (fun z896 ls hz896 hl => ?_)
                        first | have tz896 := i_addT hz896 (rfl : w9_4.toInt = w9_4.toInt) (kc_1 : (Int32.ofInt 1).toInt = 1) (by omega) (by omega) | skip
                        refine q_goto (tgt := 9) hM dX3_run_263 (by decide) ?_
                        exact ih9 w9_3 z896 _ _ _ _ (by omega) hG (by omega) (by omega) (by omega) (lv_sub hl [3, 4, 5, 6, 0] rfl) hW
                      · omega
                  · refine q_iconst (v := (1 : Int32)) hM dX3_run_123 (by decide) ?_
                    refine q_goto (tgt := 128) hM dX3_run_124 (by decide) ?_
                    refine q_istore (lv9 := [(6, .int (1 : Int32)), (5, .int y840), (0, .ref (ad lw)), (1, .int fr), (2, .ref (ad 83)), (3, .int w9_3), (4, .int w9_4)]) hM dX3_run_128 hl (by decide) rfl (fun ls hl => ?_)
                    refine q_iload hM dX3_run_130 (lv_at hl 1 rfl) ?_
                    refine q_iconst (v := (3 : Int32)) hM dX3_run_132 (by decide) ?_
                    refine q_icmp_ne (tgt := 157) hM dX3_run_133 (by decide) (rfl : y840.toInt = y840.toInt) (kc_3 : (3 : Int32).toInt = 3) (fun h133 => ?_) (fun h133 => ?_)
                    · refine q_iload hM dX3_run_157 (lv_at hl 0 rfl) ?_
                      refine q_iload hM dX3_run_159 (lv_at hl 1 rfl) ?_
                      refine q_iconst (v := (5 : Int32)) hM dX3_run_161 (by decide) ?_
                      refine q_icmp_ne (tgt := 169) hM dX3_run_162 (by decide) (rfl : y840.toInt = y840.toInt) (kc_5 : (5 : Int32).toInt = 5) (fun h162 => ?_) (fun h162 => ?_)
                      · refine q_iconst (v := (0 : Int32)) hM dX3_run_169 (by decide) ?_
                        refine q_icmp_ne (tgt := 192) hM dX3_run_170 (by decide) (kc_1 : (1 : Int32).toInt = 1) (kc_0 : (0 : Int32).toInt = 0) (fun h170 => ?_) (fun h170 => ?_)
                        · refine q_iinc (lv9 := fun z902 => [(3, .int z902), (6, .int (1 : Int32)), (5, .int y840), (0, .ref (ad lw)), (1, .int fr), (2, .ref (ad 83)), (4, .int w9_4)]) hM dX3_run_192 hl (kq := 5) rfl (by decide) (fun _ => rfl) (fun z902 ls hz902 hl => ?_)
                          first | have tz902 := i_addT hz902 (rfl : w9_3.toInt = w9_3.toInt) (kc_m1 : (Int32.ofInt (-1)).toInt = (-1)) (by omega) (by omega) | skip
                          refine q_goto (tgt := 260) hM dX3_run_195 (by decide) ?_
                          refine q_iinc (lv9 := fun z903 => [(4, .int z903), (3, .int z902), (6, .int (1 : Int32)), (5, .int y840), (0, .ref (ad lw)), (1, .int fr), (2, .ref (ad 83))]) hM dX3_run_260 hl (kq := 6) rfl (by decide) (fun _ => rfl) (fun z903 ls hz903 hl => ?_)
                          first | have tz903 := i_addT hz903 (rfl : w9_4.toInt = w9_4.toInt) (kc_1 : (Int32.ofInt 1).toInt = 1) (by omega) (by omega) | skip
                          refine q_goto (tgt := 9) hM dX3_run_263 (by decide) ?_
                          exact ih9 z902 z903 _ _ _ _ (by omega) hG (by omega) (by omega) (by omega) (lv_sub hl [4, 5, 6, 1, 0] rfl) hW
                        · omega
                      · refine q_iconst (v := (1 : Int32)) hM dX3_run_165 (by decide) ?_
                        refine q_goto (tgt := 170) hM dX3_run_166 (by decide) ?_
                        refine q_icmp_ne (tgt := 192) hM dX3_run_170 (by decide) (kc_1 : (1 : Int32).toInt = 1) (kc_1 : (1 : Int32).toInt = 1) (fun h170 => ?_) (fun h170 => ?_)
                        · omega
                        · refine q_iload hM dX3_run_173 (lv_at hl 6 rfl) ?_
                          refine q_aload_n hM dX3_run_175 (lv_at hl 2 rfl) ?_
                          refine w_get (v := .ref (ad (lw + 5))) hM hW FG_X3_22 (lo_Lw hlw) (rf_Lw_4 hlw hW.2.1) dX3_run_176 ?_
                          refine q_iload hM dX3_run_179 (lv_at hl 6 rfl) ?_
                          refine w_iald hM hW (la_Lw_4 hlw) (i_in (by omega) (by omega)) dX3_run_181 ?_
                          refine q_top (fun y908 hy908 => ?_)
                          have by908 := hG.a hy908 (rA_Lw_4 hlw)
                          refine q_iconst (v := (1 : Int32)) hM dX3_run_182 (by decide) ?_
                          refine q_isub hM dX3_run_183 (fun z909 hz909 => ?_)
                          first | have tz909 := i_subT hz909 (rfl : y908.toInt = y908.toInt) (kc_1 : (1 : Int32).toInt = 1) (by omega) (by omega) | skip
                          refine q_mmax hM hR hC (kAW (v_2_12 (List.mem_of_getElem? (i := 2) rfl)) rfl) hl.1 (by decide) (Nat.le_of_ble_eq_true rfl) dX3_run_184 (fun r910 hr910 => ?_)
                          refine q_istore (lv9 := [(4, .int r910), (6, .int (1 : Int32)), (5, .int y840), (0, .ref (ad lw)), (1, .int fr), (2, .ref (ad 83)), (3, .int w9_3)]) hM dX3_run_187 hl (by decide) rfl (fun ls hl => ?_)
                          refine q_goto (tgt := 195) hM dX3_run_189 (by decide) ?_
                          refine q_goto (tgt := 260) hM dX3_run_195 (by decide) ?_
                          refine q_iinc (lv9 := fun z911 => [(4, .int z911), (6, .int (1 : Int32)), (5, .int y840), (0, .ref (ad lw)), (1, .int fr), (2, .ref (ad 83)), (3, .int w9_3)]) hM dX3_run_260 hl (kq := 0) rfl (by decide) (fun _ => rfl) (fun z911 ls hz911 hl => ?_)
                          first | have tz911 := i_addT hz911 (rfl : r910.toInt = r910.toInt) (kc_1 : (Int32.ofInt 1).toInt = 1) (by omega) (by omega) | skip
                          refine q_goto (tgt := 9) hM dX3_run_263 (by decide) ?_
                          exact ih9 w9_3 z911 _ _ _ _ (by omega) hG (by omega) (by omega) (by omega) (lv_sub hl [3, 4, 5, 6, 0] rfl) hW
                    · refine q_aload_n hM dX3_run_136 (lv_at hl 2 rfl) ?_
                      refine w_get (v := .ref (ad (lw + 6))) hM hW FG_X3_25 (lo_Lw hlw) (rf_Lw_5 hlw hW.2.1) dX3_run_137 ?_
                      refine q_iload_n hM dX3_run_140 (lv_at hl 5 rfl) ?_
                      refine q_iconst (v := (1 : Int32)) hM dX3_run_141 (by decide) ?_
                      refine q_isub hM dX3_run_142 (fun z913 hz913 => ?_)
                      first | have tz913 := i_subT hz913 (rfl : w9_3.toInt = w9_3.toInt) (kc_1 : (1 : Int32).toInt = 1) (by omega) (by omega) | skip
                      refine q_iload hM dX3_run_143 (lv_at hl 0 rfl) ?_
                      refine q_if_eq (tgt := 152) hM dX3_run_145 (by decide) (kc_1 : (1 : Int32).toInt = 1) (fun h145 => ?_) (fun h145 => ?_)
                      · omega
                      · refine q_iconst (v := (0 : Int32)) hM dX3_run_148 (by decide) ?_
                        refine q_goto (tgt := 153) hM dX3_run_149 (by decide) ?_
                        refine w_iast hM hW (la_Lw_5 hlw) (by omega) (i_in (by omega) (by omega)) dX3_run_153 (fun g916 H locs hW e1 e2 => ?_)
                        have f917 : fld g916 lw 7 = .int x823 := (e2.1 lw 7 (by unfold Only; omega)).trans fx823
                        have hG := hG.st e1 e2 (rA_Lw_5 hlw) (by have := kc_0; have := i_rng (0 : Int32); omega) (by have := kc_0; have := i_rng (0 : Int32); omega)
                        refine q_goto (tgt := 195) hM dX3_run_154 (by decide) ?_
                        refine q_goto (tgt := 260) hM dX3_run_195 (by decide) ?_
                        refine q_iinc (lv9 := fun z918 => [(4, .int z918), (6, .int (1 : Int32)), (5, .int y840), (0, .ref (ad lw)), (1, .int fr), (2, .ref (ad 83)), (3, .int w9_3)]) hM dX3_run_260 hl (kq := 6) rfl (by decide) (fun _ => rfl) (fun z918 ls hz918 hl => ?_)
                        first | have tz918 := i_addT hz918 (rfl : w9_4.toInt = w9_4.toInt) (kc_1 : (Int32.ofInt 1).toInt = 1) (by omega) (by omega) | skip
                        refine q_goto (tgt := 9) hM dX3_run_263 (by decide) ?_
                        exact ih9 w9_3 z918 _ _ _ _ (by omega) hG (by omega) (by omega) (by omega) (lv_sub hl [3, 4, 5, 6, 0] rfl) hW
                · refine q_iconst (v := (0 : Int32)) hM dX3_run_110 (by decide) ?_
                  exact hE _ _ _ _ _ _ hW.1 ⟨_, rfl, hW.2.1, hG, hW.2.2⟩ dX3_run_111
            · refine q_iload_n hM dX3_run_51 (lv_at hl 4 rfl) ?_
              refine q_bipush (v := (64 : Int32)) hM dX3_run_52 (by decide) ?_
              refine q_icmp_lt (tgt := 59) hM dX3_run_54 (by decide) (rfl : w9_3.toInt = w9_3.toInt) (kc_64 : (64 : Int32).toInt = 64) (fun h54 => ?_) (fun h54 => ?_)
              · refine q_aload_n hM dX3_run_59 (lv_at hl 1 rfl) ?_
                refine w_get (v := .ref (ad (lw + 6))) hM hW FG_X3_25 (lo_Lw hlw) (rf_Lw_5 hlw hW.2.1) dX3_run_60 ?_
                refine q_iload_n hM dX3_run_63 (lv_at hl 4 rfl) ?_
                refine q_iload hM dX3_run_64 (lv_at hl 0 rfl) ?_
                refine q_iconst (v := (1 : Int32)) hM dX3_run_66 (by decide) ?_
                refine q_icmp_ne (tgt := 80) hM dX3_run_67 (by decide) (rfl : y840.toInt = y840.toInt) (kc_1 : (1 : Int32).toInt = 1) (fun h67 => ?_) (fun h67 => ?_)
                · refine q_aload_n hM dX3_run_80 (lv_at hl 3 rfl) ?_
                  refine q_aload_n hM dX3_run_81 (lv_at hl 1 rfl) ?_
                  refine w_get (v := .ref (ad (lw + 5))) hM hW FG_X3_22 (lo_Lw hlw) (rf_Lw_4 hlw hW.2.1) dX3_run_82 ?_
                  refine q_iload hM dX3_run_85 (lv_at hl 5 rfl) ?_
                  refine w_iald hM hW (la_Lw_4 hlw) (i_in (by omega) (by omega)) dX3_run_87 ?_
                  refine q_top (fun y923 hy923 => ?_)
                  have by923 := hG.a hy923 (rA_Lw_4 hlw)
                  refine q_bipush (v := (7 : Int32)) hM dX3_run_88 (by decide) ?_
                  refine q_iand hM dX3_run_90 (fun z924 hz924 => ?_)
                  have az924 := i_andk hz924 (by rw [kc_7]; decide)
                  rw [kc_7] at az924
                  refine w_iald hM hW lb_83 (i_in (by omega) (by omega)) dX3_run_91 ?_
                  refine q_top (fun y925 hy925 => ?_)
                  refine w_iast hM hW (la_Lw_5 hlw) (by omega) (i_in (by omega) (by omega)) dX3_run_92 (fun g926 H locs hW e1 e2 => ?_)
                  have f927 : fld g926 lw 7 = .int x823 := (e2.1 lw 7 (by unfold Only; omega)).trans fx823
                  have hG := hG.st e1 e2 (rA_Lw_5 hlw) (by have := i_rng y925; omega) (by have := i_rng y925; omega)
                  refine q_iinc (lv9 := fun z928 => [(3, .int z928), (5, .int y840), (0, .ref (ad lw)), (1, .int fr), (2, .ref (ad 83)), (4, .int w9_4)]) hM dX3_run_93 hl (kq := 4) rfl (by decide) (fun _ => rfl) (fun z928 ls hz928 hl => ?_)
                  first | have tz928 := i_addT hz928 (rfl : w9_3.toInt = w9_3.toInt) (kc_1 : (Int32.ofInt 1).toInt = 1) (by omega) (by omega) | skip
                  refine q_goto (tgt := 260) hM dX3_run_96 (by decide) ?_
                  refine q_iinc (lv9 := fun z929 => [(4, .int z929), (3, .int z928), (5, .int y840), (0, .ref (ad lw)), (1, .int fr), (2, .ref (ad 83))]) hM dX3_run_260 hl (kq := 5) rfl (by decide) (fun _ => rfl) (fun z929 ls hz929 hl => ?_)
                  first | have tz929 := i_addT hz929 (rfl : w9_4.toInt = w9_4.toInt) (kc_1 : (Int32.ofInt 1).toInt = 1) (by omega) (by omega) | skip
                  refine q_goto (tgt := 9) hM dX3_run_263 (by decide) ?_
                  exact ih9 z928 z929 _ _ _ _ (by omega) hG (by omega) (by omega) (by omega) (lv_sub hl [3, 4, 5, 1, 0] rfl) hW
                · refine q_aload_n hM dX3_run_70 (lv_at hl 1 rfl) ?_
                  refine w_get (v := .ref (ad (lw + 5))) hM hW FG_X3_22 (lo_Lw hlw) (rf_Lw_4 hlw hW.2.1) dX3_run_71 ?_
                  refine q_iload hM dX3_run_74 (lv_at hl 5 rfl) ?_
                  refine w_iald hM hW (la_Lw_4 hlw) (i_in (by omega) (by omega)) dX3_run_76 ?_
                  refine q_top (fun y931 hy931 => ?_)
                  have by931 := hG.a hy931 (rA_Lw_4 hlw)
                  refine q_goto (tgt := 92) hM dX3_run_77 (by decide) ?_
                  refine w_iast hM hW (la_Lw_5 hlw) (by omega) (i_in (by omega) (by omega)) dX3_run_92 (fun g932 H locs hW e1 e2 => ?_)
                  have f933 : fld g932 lw 7 = .int x823 := (e2.1 lw 7 (by unfold Only; omega)).trans fx823
                  have hG := hG.st e1 e2 (rA_Lw_5 hlw) (by have := i_rng y931; omega) (by have := i_rng y931; omega)
                  refine q_iinc (lv9 := fun z934 => [(3, .int z934), (5, .int y840), (0, .ref (ad lw)), (1, .int fr), (2, .ref (ad 83)), (4, .int w9_4)]) hM dX3_run_93 hl (kq := 4) rfl (by decide) (fun _ => rfl) (fun z934 ls hz934 hl => ?_)
                  first | have tz934 := i_addT hz934 (rfl : w9_3.toInt = w9_3.toInt) (kc_1 : (Int32.ofInt 1).toInt = 1) (by omega) (by omega) | skip
                  refine q_goto (tgt := 260) hM dX3_run_96 (by decide) ?_
                  refine q_iinc (lv9 := fun z935 => [(4, .int z935), (3, .int z934), (5, .int y840), (0, .ref (ad lw)), (1, .int fr), (2, .ref (ad 83))]) hM dX3_run_260 hl (kq := 5) rfl (by decide) (fun _ => rfl) (fun z935 ls hz935 hl => ?_)
                  first | have tz935 := i_addT hz935 (rfl : w9_4.toInt = w9_4.toInt) (kc_1 : (Int32.ofInt 1).toInt = 1) (by omega) (by omega) | skip
                  refine q_goto (tgt := 9) hM dX3_run_263 (by decide) ?_
                  exact ih9 z934 z935 _ _ _ _ (by omega) hG (by omega) (by omega) (by omega) (lv_sub hl [3, 4, 5, 1, 0] rfl) hW
              · refine q_iconst (v := (0 : Int32)) hM dX3_run_57 (by decide) ?_
                exact hE _ _ _ _ _ _ hW.1 ⟨_, rfl, hW.2.1, hG, hW.2.2⟩ dX3_run_58
  have := kc_0
  exact L9 _ (0 : Int32) r821 _ _ _ _ (Nat.lt_succ_self _) hG (by omega) (by omega) (by omega) (lv_sub hl [2, 3, 4, 1, 0] rfl) hW

theorem dX3_amount_0 : decode cX3_amount 0 = .ok (.iconst 0, 1) := by decide +kernel
theorem dX3_amount_1 : decode cX3_amount 1 = .ok (.istore 4, 2) := by decide +kernel
theorem dX3_amount_3 : decode cX3_amount 3 = .ok (.iload 4, 2) := by decide +kernel
theorem dX3_amount_5 : decode cX3_amount 5 = .ok (.aload_n 0, 1) := by decide +kernel
theorem dX3_amount_6 : decode cX3_amount 6 = .ok (.getfield 28, 3) := by decide +kernel
theorem dX3_amount_9 : decode cX3_amount 9 = .ok (.if_icmp .ge 63, 3) := by decide +kernel
theorem dX3_amount_12 : decode cX3_amount 12 = .ok (.iload 4, 2) := by decide +kernel
theorem dX3_amount_14 : decode cX3_amount 14 = .ok (.bipush 16, 2) := by decide +kernel
theorem dX3_amount_16 : decode cX3_amount 16 = .ok (.if_icmp .ge 56, 3) := by decide +kernel
theorem dX3_amount_19 : decode cX3_amount 19 = .ok (.aload_n 0, 1) := by decide +kernel
theorem dX3_amount_20 : decode cX3_amount 20 = .ok (.getfield 9, 3) := by decide +kernel
theorem dX3_amount_23 : decode cX3_amount 23 = .ok (.iload 4, 2) := by decide +kernel
theorem dX3_amount_25 : decode cX3_amount 25 = .ok (.iaload, 1) := by decide +kernel
theorem dX3_amount_26 : decode cX3_amount 26 = .ok (.iload_n 1, 1) := by decide +kernel
theorem dX3_amount_27 : decode cX3_amount 27 = .ok (.if_icmp .ne 39, 3) := by decide +kernel
theorem dX3_amount_30 : decode cX3_amount 30 = .ok (.aload_n 0, 1) := by decide +kernel
theorem dX3_amount_31 : decode cX3_amount 31 = .ok (.aload_n 0, 1) := by decide +kernel
theorem dX3_amount_32 : decode cX3_amount 32 = .ok (.getfield 16, 3) := by decide +kernel
theorem dX3_amount_35 : decode cX3_amount 35 = .ok (.iload 4, 2) := by decide +kernel
theorem dX3_amount_37 : decode cX3_amount 37 = .ok (.iaload, 1) := by decide +kernel
theorem dX3_amount_38 : decode cX3_amount 38 = .ok (.aload_n 3, 1) := by decide +kernel
theorem dX3_amount_39 : decode cX3_amount 39 = .ok (.invokevirtual 35, 3) := by decide +kernel
theorem dX3_amount_42 : decode cX3_amount 42 = .ok (.ifCond .eq 24, 3) := by decide +kernel
theorem dX3_amount_45 : decode cX3_amount 45 = .ok (.iconst 0, 1) := by decide +kernel
theorem dX3_amount_46 : decode cX3_amount 46 = .ok (.iload_n 2, 1) := by decide +kernel
theorem dX3_amount_47 : decode cX3_amount 47 = .ok (.aload_n 0, 1) := by decide +kernel
theorem dX3_amount_48 : decode cX3_amount 48 = .ok (.aload_n 0, 1) := by decide +kernel
theorem dX3_amount_49 : decode cX3_amount 49 = .ok (.getfield 13, 3) := by decide +kernel
theorem dX3_amount_52 : decode cX3_amount 52 = .ok (.iload 4, 2) := by decide +kernel
theorem dX3_amount_54 : decode cX3_amount 54 = .ok (.iaload, 1) := by decide +kernel
theorem dX3_amount_55 : decode cX3_amount 55 = .ok (.aload_n 3, 1) := by decide +kernel
theorem dX3_amount_56 : decode cX3_amount 56 = .ok (.invokevirtual 35, 3) := by decide +kernel
theorem dX3_amount_59 : decode cX3_amount 59 = .ok (.invokestatic 39, 3) := by decide +kernel
theorem dX3_amount_62 : decode cX3_amount 62 = .ok (.invokestatic 45, 3) := by decide +kernel
theorem dX3_amount_65 : decode cX3_amount 65 = .ok (.ireturn, 1) := by decide +kernel
theorem dX3_amount_66 : decode cX3_amount 66 = .ok (.iinc 4 1, 3) := by decide +kernel
theorem dX3_amount_69 : decode cX3_amount 69 = .ok (.goto (-66), 3) := by decide +kernel
theorem dX3_amount_72 : decode cX3_amount 72 = .ok (.iconst 0, 1) := by decide +kernel
theorem dX3_amount_73 : decode cX3_amount 73 = .ok (.ireturn, 1) := by decide +kernel
theorem myX3_run : MI yX3_run cX3_run 7 (some FieldType.int) 2 := ⟨kAW (v_2_12 (List.mem_of_getElem? (i := 1) rfl)) rfl, kAW (v_0_0 (List.mem_of_getElem? (i := 5) rfl)) rfl, kAW (v_2_12 (List.mem_of_getElem? (i := 0) rfl)) rfl, kAW (tp_t1 (List.mem_of_getElem? (i := 2) rfl)) rfl, by decide, by decide, by decide +kernel⟩
set_option maxRecDepth 100000 in
set_option maxHeartbeats 4000000 in
theorem a_X3_amount (l : Launch) (D : va_G) (cA : Nat → ClassId) (ad : Nat → Nat) (g0 : Nat → va_E) (lw : Nat) (wh : Int32) (mo : Int32)   (hSh : Shp ad cA g0) (hG : Rng g0) (hlw : isLw lw) : CT l NN ad cA D yX3_amount cX3_amount 5 (some FieldType.int) (2, 48) [.ref (ad lw), .int wh, .int mo, .ref (ad 83)] g0 (fun v g' => ∃ (r : Int32), v = some (.int r) ∧ Shp ad cA g' ∧ Rng g' ∧ FR (fun i k => i = (lw + 6)) g0 g') := by
  refine q_enterI (by decide) (Nat.le_of_ble_eq_true rfl) rfl (fun K H locs ls _ _ hM hW0 hR hC hE hl => ?_)
  have hl : lv_has ls 5 [(0, .ref (ad lw)), (1, .int wh), (2, .int mo), (3, .ref (ad 83))] := hl
  have hW : WS ad cA (fun i k => i = (lw + 6)) g0 K g0 H locs := ⟨hW0, hSh, FR.rf⟩
  have ulw := hlw
  unfold isLw at ulw
  refine q_iconst (v := (0 : Int32)) hM dX3_amount_0 (by decide) ?_
  refine q_istore (lv9 := [(4, .int (0 : Int32)), (0, .ref (ad lw)), (1, .int wh), (2, .int mo), (3, .ref (ad 83))]) hM dX3_amount_1 hl (by decide) rfl (fun ls hl => ?_)
  have L3 : ∀ (fu3 : Nat) (w3_4 : Int32) (g9 : Nat → va_E) (H : Heap) (locs : List Loc) (ls : Array Slot), (16 - w3_4.toInt).toNat < fu3 → (Rng g9) → (0 ≤ w3_4.toInt) → (w3_4.toInt ≤ 16) → lv_has ls 5 [(0, .ref (ad lw)), (1, .int wh), (2, .int mo), (3, .ref (ad 83)), (4, .int w3_4)] → WS ad cA (fun i k => i = (lw + 6)) g0 K g9 H locs → XX K 0 0 H locs 3 ls [] := by
    intro fu3
    induction fu3 with
    | zero => intro w3_4 g9 H locs ls h0; omega
    | succ fu3 ih3 =>
      intro w3_4 g9 H locs ls hm3 i3_0 i3_1 i3_2 hl hW
      have hG := i3_0
      refine q_iload hM dX3_amount_3 (lv_at hl 4 rfl) ?_
      refine q_aload_n hM dX3_amount_5 (lv_at hl 0 rfl) ?_
      refine w_getI hM hW FG_X3_28 (lo_Lw hlw) (by decide) (by decide) dX3_amount_6 (fun x938 fx938 => ?_)
      have bx938 := hG.f fx938 (rF_Lw_6 hlw) (by decide)
      refine q_icmp_ge (tgt := 72) hM dX3_amount_9 (by decide) (rfl : w3_4.toInt = w3_4.toInt) (rfl : x938.toInt = x938.toInt) (fun h9 => ?_) (fun h9 => ?_)
      · refine q_iconst (v := (0 : Int32)) hM dX3_amount_72 (by decide) ?_
        exact hE _ _ _ _ _ _ hW.1 ⟨_, rfl, hW.2.1, hG, hW.2.2⟩ dX3_amount_73
      · refine q_iload hM dX3_amount_12 (lv_at hl 4 rfl) ?_
        refine q_bipush (v := (16 : Int32)) hM dX3_amount_14 (by decide) ?_
        refine q_icmp_ge (tgt := 72) hM dX3_amount_16 (by decide) (rfl : w3_4.toInt = w3_4.toInt) (kc_16 : (16 : Int32).toInt = 16) (fun h16 => ?_) (fun h16 => ?_)
        · refine q_iconst (v := (0 : Int32)) hM dX3_amount_72 (by decide) ?_
          exact hE _ _ _ _ _ _ hW.1 ⟨_, rfl, hW.2.1, hG, hW.2.2⟩ dX3_amount_73
        · refine q_aload_n hM dX3_amount_19 (lv_at hl 0 rfl) ?_
          refine w_get (v := .ref (ad (lw + 1))) hM hW FG_X3_9 (lo_Lw hlw) (rf_Lw_0 hlw hW.2.1) dX3_amount_20 ?_
          refine q_iload hM dX3_amount_23 (lv_at hl 4 rfl) ?_
          refine w_iald hM hW (la_Lw_0 hlw) (i_in (by omega) (by omega)) dX3_amount_25 ?_
          refine q_top (fun y943 hy943 => ?_)
          refine q_iload_n hM dX3_amount_26 (lv_at hl 1 rfl) ?_
          refine q_icmp_ne (tgt := 66) hM dX3_amount_27 (by decide) (rfl : y943.toInt = y943.toInt) (rfl : wh.toInt = wh.toInt) (fun h27 => ?_) (fun h27 => ?_)
          · refine q_iinc (lv9 := fun z945 => [(4, .int z945), (0, .ref (ad lw)), (1, .int wh), (2, .int mo), (3, .ref (ad 83))]) hM dX3_amount_66 hl (kq := 4) rfl (by decide) (fun _ => rfl) (fun z945 ls hz945 hl => ?_)
            first | have tz945 := i_addT hz945 (rfl : w3_4.toInt = w3_4.toInt) (kc_1 : (Int32.ofInt 1).toInt = 1) (by omega) (by omega) | skip
            refine q_goto (tgt := 3) hM dX3_amount_69 (by decide) ?_
            exact ih3 z945 _ _ _ _ (by omega) hG (by omega) (by omega) (lv_sub hl [1, 2, 3, 4, 0] rfl) hW
          · refine q_aload_n hM dX3_amount_30 (lv_at hl 0 rfl) ?_
            refine q_aload_n hM dX3_amount_31 (lv_at hl 0 rfl) ?_
            refine w_get (v := .ref (ad (lw + 3))) hM hW FG_X3_16 (lo_Lw hlw) (rf_Lw_2 hlw hW.2.1) dX3_amount_32 ?_
            refine q_iload hM dX3_amount_35 (lv_at hl 4 rfl) ?_
            refine w_iald hM hW (la_Lw_2 hlw) (i_in (by omega) (by omega)) dX3_amount_37 ?_
            refine q_top (fun y947 hy947 => ?_)
            refine q_aload_n hM dX3_amount_38 (lv_at hl 3 rfl) ?_
            refine q_callV (As := [.int y947, .ref (ad 83)]) (rest := []) hM hW.1 hR hC myX3_run (kAW (v_2_11 (List.mem_of_getElem? (i := 14) rfl)) rfl) (rfl : vwCl[3]? = some (RX3, TX3, 8)) rfl (lo_Lw hlw).1 (shO hW.2.1 (lo_Lw hlw)) (a_X3_run _ _ cA ad g9 lw y947 hW.2.1 hG hlw) ⟨by decide, by decide⟩ rfl rfl hl.1 (Nat.le_of_ble_eq_true rfl) dX3_amount_39 (fun v g949 H locs hp hW1 => ?_)
            obtain ⟨r948, rfl, hs1, hG, hf1⟩ := hp
            have f950 : fld g949 lw 6 = .int x938 := (hf1.1 lw 6 (by omega)).trans fx938
            have hW : WS ad cA (fun i k => i = (lw + 6)) g0 K g949 H locs := ⟨hW1, hs1, hW.2.2.tr hf1 (fun i k h => h)⟩
            refine q_if_eq (tgt := 66) hM dX3_amount_42 (by decide) (rfl : r948.toInt = r948.toInt) (fun h42 => ?_) (fun h42 => ?_)
            · refine q_iinc (lv9 := fun z952 => [(4, .int z952), (0, .ref (ad lw)), (1, .int wh), (2, .int mo), (3, .ref (ad 83))]) hM dX3_amount_66 hl (kq := 4) rfl (by decide) (fun _ => rfl) (fun z952 ls hz952 hl => ?_)
              first | have tz952 := i_addT hz952 (rfl : w3_4.toInt = w3_4.toInt) (kc_1 : (Int32.ofInt 1).toInt = 1) (by omega) (by omega) | skip
              refine q_goto (tgt := 3) hM dX3_amount_69 (by decide) ?_
              exact ih3 z952 _ _ _ _ (by omega) hG (by omega) (by omega) (lv_sub hl [1, 2, 3, 4, 0] rfl) hW
            · refine q_iconst (v := (0 : Int32)) hM dX3_amount_45 (by decide) ?_
              refine q_iload_n hM dX3_amount_46 (lv_at hl 2 rfl) ?_
              refine q_aload_n hM dX3_amount_47 (lv_at hl 0 rfl) ?_
              refine q_aload_n hM dX3_amount_48 (lv_at hl 0 rfl) ?_
              refine w_get (v := .ref (ad (lw + 2))) hM hW FG_X3_13 (lo_Lw hlw) (rf_Lw_1 hlw hW.2.1) dX3_amount_49 ?_
              refine q_iload hM dX3_amount_52 (lv_at hl 4 rfl) ?_
              refine w_iald hM hW (la_Lw_1 hlw) (i_in (by omega) (by omega)) dX3_amount_54 ?_
              refine q_top (fun y954 hy954 => ?_)
              refine q_aload_n hM dX3_amount_55 (lv_at hl 3 rfl) ?_
              refine q_callV (As := [.int y954, .ref (ad 83)]) (rest := [.int mo, .int (0 : Int32)]) hM hW.1 hR hC myX3_run (kAW (v_2_11 (List.mem_of_getElem? (i := 14) rfl)) rfl) (rfl : vwCl[3]? = some (RX3, TX3, 8)) rfl (lo_Lw hlw).1 (shO hW.2.1 (lo_Lw hlw)) (a_X3_run _ _ cA ad g949 lw y954 hW.2.1 hG hlw) ⟨by decide, by decide⟩ rfl rfl hl.1 (Nat.le_of_ble_eq_true rfl) dX3_amount_56 (fun v g956 H locs hp hW1 => ?_)
              obtain ⟨r955, rfl, hs1, hG, hf1⟩ := hp
              have f957 : fld g956 lw 6 = .int x938 := (hf1.1 lw 6 (by omega)).trans f950
              have hW : WS ad cA (fun i k => i = (lw + 6)) g0 K g956 H locs := ⟨hW1, hs1, hW.2.2.tr hf1 (fun i k h => h)⟩
              refine q_mmin hM hR hC (kAW (v_2_12 (List.mem_of_getElem? (i := 6) rfl)) rfl) hl.1 (by decide) (Nat.le_of_ble_eq_true rfl) dX3_amount_59 (fun r958 hr958 => ?_)
              refine q_mmax hM hR hC (kAW (v_2_12 (List.mem_of_getElem? (i := 2) rfl)) rfl) hl.1 (by decide) (Nat.le_of_ble_eq_true rfl) dX3_amount_62 (fun r959 hr959 => ?_)
              have := kc_0
              exact hE _ _ _ _ _ _ hW.1 ⟨_, rfl, hW.2.1, hG, hW.2.2⟩ dX3_amount_65
  have := kc_0
  exact L3 _ (0 : Int32) _ _ _ _ (Nat.lt_succ_self _) hG (by omega) (by omega) (lv_sub hl [1, 2, 3, 4, 0] rfl) hW

theorem dX3_keeps_0 : decode cX3_keeps 0 = .ok (.iconst 0, 1) := by decide +kernel
theorem dX3_keeps_1 : decode cX3_keeps 1 = .ok (.istore_n 2, 1) := by decide +kernel
theorem dX3_keeps_2 : decode cX3_keeps 2 = .ok (.iload_n 2, 1) := by decide +kernel
theorem dX3_keeps_3 : decode cX3_keeps 3 = .ok (.aload_n 0, 1) := by decide +kernel
theorem dX3_keeps_4 : decode cX3_keeps 4 = .ok (.getfield 28, 3) := by decide +kernel
theorem dX3_keeps_7 : decode cX3_keeps 7 = .ok (.if_icmp .ge 42, 3) := by decide +kernel
theorem dX3_keeps_10 : decode cX3_keeps 10 = .ok (.iload_n 2, 1) := by decide +kernel
theorem dX3_keeps_11 : decode cX3_keeps 11 = .ok (.bipush 16, 2) := by decide +kernel
theorem dX3_keeps_13 : decode cX3_keeps 13 = .ok (.if_icmp .ge 36, 3) := by decide +kernel
theorem dX3_keeps_16 : decode cX3_keeps 16 = .ok (.aload_n 0, 1) := by decide +kernel
theorem dX3_keeps_17 : decode cX3_keeps 17 = .ok (.getfield 9, 3) := by decide +kernel
theorem dX3_keeps_20 : decode cX3_keeps 20 = .ok (.iload_n 2, 1) := by decide +kernel
theorem dX3_keeps_21 : decode cX3_keeps 21 = .ok (.iaload, 1) := by decide +kernel
theorem dX3_keeps_22 : decode cX3_keeps 22 = .ok (.bipush 120, 2) := by decide +kernel
theorem dX3_keeps_24 : decode cX3_keeps 24 = .ok (.if_icmp .ne 19, 3) := by decide +kernel
theorem dX3_keeps_27 : decode cX3_keeps 27 = .ok (.aload_n 0, 1) := by decide +kernel
theorem dX3_keeps_28 : decode cX3_keeps 28 = .ok (.aload_n 0, 1) := by decide +kernel
theorem dX3_keeps_29 : decode cX3_keeps 29 = .ok (.getfield 16, 3) := by decide +kernel
theorem dX3_keeps_32 : decode cX3_keeps 32 = .ok (.iload_n 2, 1) := by decide +kernel
theorem dX3_keeps_33 : decode cX3_keeps 33 = .ok (.iaload, 1) := by decide +kernel
theorem dX3_keeps_34 : decode cX3_keeps 34 = .ok (.aload_n 1, 1) := by decide +kernel
theorem dX3_keeps_35 : decode cX3_keeps 35 = .ok (.invokevirtual 35, 3) := by decide +kernel
theorem dX3_keeps_38 : decode cX3_keeps 38 = .ok (.ifCond .eq 5, 3) := by decide +kernel
theorem dX3_keeps_41 : decode cX3_keeps 41 = .ok (.iconst 1, 1) := by decide +kernel
theorem dX3_keeps_42 : decode cX3_keeps 42 = .ok (.ireturn, 1) := by decide +kernel
theorem dX3_keeps_43 : decode cX3_keeps 43 = .ok (.iinc 2 1, 3) := by decide +kernel
theorem dX3_keeps_46 : decode cX3_keeps 46 = .ok (.goto (-44), 3) := by decide +kernel
theorem dX3_keeps_49 : decode cX3_keeps 49 = .ok (.iconst 0, 1) := by decide +kernel
theorem dX3_keeps_50 : decode cX3_keeps 50 = .ok (.ireturn, 1) := by decide +kernel
set_option maxRecDepth 100000 in
set_option maxHeartbeats 4000000 in
theorem a_X3_keeps (l : Launch) (D : va_G) (cA : Nat → ClassId) (ad : Nat → Nat) (g0 : Nat → va_E) (lw : Nat)   (hSh : Shp ad cA g0) (hG : Rng g0) (hlw : isLw lw) : CT l NN ad cA D yX3_keeps cX3_keeps 3 (some FieldType.boolean) (2, 48) [.ref (ad lw), .ref (ad 83)] g0 (fun v g' => ∃ (r : Int32), v = some (.int r) ∧ Shp ad cA g' ∧ Rng g' ∧ FR (fun i k => i = (lw + 6)) g0 g' ∧ (r.toInt = 0 ∨ r.toInt = 1)) := by
  refine q_enterZ (by decide) (Nat.le_of_ble_eq_true rfl) (fun K H locs ls _ _ hM hW0 hR hC hE hl => ?_)
  have hl : lv_has ls 3 [(0, .ref (ad lw)), (1, .ref (ad 83))] := hl
  have hW : WS ad cA (fun i k => i = (lw + 6)) g0 K g0 H locs := ⟨hW0, hSh, FR.rf⟩
  have ulw := hlw
  unfold isLw at ulw
  refine q_iconst (v := (0 : Int32)) hM dX3_keeps_0 (by decide) ?_
  refine q_istore_n (lv9 := [(2, .int (0 : Int32)), (0, .ref (ad lw)), (1, .ref (ad 83))]) hM dX3_keeps_1 hl (by decide) rfl (fun ls hl => ?_)
  have L2 : ∀ (fu2 : Nat) (w2_2 : Int32) (g9 : Nat → va_E) (H : Heap) (locs : List Loc) (ls : Array Slot), (16 - w2_2.toInt).toNat < fu2 → (Rng g9) → (0 ≤ w2_2.toInt) → (w2_2.toInt ≤ 16) → lv_has ls 3 [(0, .ref (ad lw)), (1, .ref (ad 83)), (2, .int w2_2)] → WS ad cA (fun i k => i = (lw + 6)) g0 K g9 H locs → XX K 0 0 H locs 2 ls [] := by
    intro fu2
    induction fu2 with
    | zero => intro w2_2 g9 H locs ls h0; omega
    | succ fu2 ih2 =>
      intro w2_2 g9 H locs ls hm2 i2_0 i2_1 i2_2 hl hW
      have hG := i2_0
      refine q_iload_n hM dX3_keeps_2 (lv_at hl 2 rfl) ?_
      refine q_aload_n hM dX3_keeps_3 (lv_at hl 0 rfl) ?_
      refine w_getI hM hW FG_X3_28 (lo_Lw hlw) (by decide) (by decide) dX3_keeps_4 (fun x961 fx961 => ?_)
      have bx961 := hG.f fx961 (rF_Lw_6 hlw) (by decide)
      refine q_icmp_ge (tgt := 49) hM dX3_keeps_7 (by decide) (rfl : w2_2.toInt = w2_2.toInt) (rfl : x961.toInt = x961.toInt) (fun h7 => ?_) (fun h7 => ?_)
      · refine q_iconst (v := (0 : Int32)) hM dX3_keeps_49 (by decide) ?_
        exact hE _ _ _ _ _ _ hW.1 nz_0 ⟨_, rfl, hW.2.1, hG, hW.2.2, (by have := kc_0; omega)⟩ dX3_keeps_50
      · refine q_iload_n hM dX3_keeps_10 (lv_at hl 2 rfl) ?_
        refine q_bipush (v := (16 : Int32)) hM dX3_keeps_11 (by decide) ?_
        refine q_icmp_ge (tgt := 49) hM dX3_keeps_13 (by decide) (rfl : w2_2.toInt = w2_2.toInt) (kc_16 : (16 : Int32).toInt = 16) (fun h13 => ?_) (fun h13 => ?_)
        · refine q_iconst (v := (0 : Int32)) hM dX3_keeps_49 (by decide) ?_
          exact hE _ _ _ _ _ _ hW.1 nz_0 ⟨_, rfl, hW.2.1, hG, hW.2.2, (by have := kc_0; omega)⟩ dX3_keeps_50
        · refine q_aload_n hM dX3_keeps_16 (lv_at hl 0 rfl) ?_
          refine w_get (v := .ref (ad (lw + 1))) hM hW FG_X3_9 (lo_Lw hlw) (rf_Lw_0 hlw hW.2.1) dX3_keeps_17 ?_
          refine q_iload_n hM dX3_keeps_20 (lv_at hl 2 rfl) ?_
          refine w_iald hM hW (la_Lw_0 hlw) (i_in (by omega) (by omega)) dX3_keeps_21 ?_
          refine q_top (fun y966 hy966 => ?_)
          refine q_bipush (v := (120 : Int32)) hM dX3_keeps_22 (by decide) ?_
          refine q_icmp_ne (tgt := 43) hM dX3_keeps_24 (by decide) (rfl : y966.toInt = y966.toInt) (kc_120 : (120 : Int32).toInt = 120) (fun h24 => ?_) (fun h24 => ?_)
          · refine q_iinc (lv9 := fun z968 => [(2, .int z968), (0, .ref (ad lw)), (1, .ref (ad 83))]) hM dX3_keeps_43 hl (kq := 2) rfl (by decide) (fun _ => rfl) (fun z968 ls hz968 hl => ?_)
            first | have tz968 := i_addT hz968 (rfl : w2_2.toInt = w2_2.toInt) (kc_1 : (Int32.ofInt 1).toInt = 1) (by omega) (by omega) | skip
            refine q_goto (tgt := 2) hM dX3_keeps_46 (by decide) ?_
            exact ih2 z968 _ _ _ _ (by omega) hG (by omega) (by omega) (lv_sub hl [1, 2, 0] rfl) hW
          · refine q_aload_n hM dX3_keeps_27 (lv_at hl 0 rfl) ?_
            refine q_aload_n hM dX3_keeps_28 (lv_at hl 0 rfl) ?_
            refine w_get (v := .ref (ad (lw + 3))) hM hW FG_X3_16 (lo_Lw hlw) (rf_Lw_2 hlw hW.2.1) dX3_keeps_29 ?_
            refine q_iload_n hM dX3_keeps_32 (lv_at hl 2 rfl) ?_
            refine w_iald hM hW (la_Lw_2 hlw) (i_in (by omega) (by omega)) dX3_keeps_33 ?_
            refine q_top (fun y970 hy970 => ?_)
            refine q_aload_n hM dX3_keeps_34 (lv_at hl 1 rfl) ?_
            refine q_callV (As := [.int y970, .ref (ad 83)]) (rest := []) hM hW.1 hR hC myX3_run (kAW (v_2_11 (List.mem_of_getElem? (i := 14) rfl)) rfl) (rfl : vwCl[3]? = some (RX3, TX3, 8)) rfl (lo_Lw hlw).1 (shO hW.2.1 (lo_Lw hlw)) (a_X3_run _ _ cA ad g9 lw y970 hW.2.1 hG hlw) ⟨by decide, by decide⟩ rfl rfl hl.1 (Nat.le_of_ble_eq_true rfl) dX3_keeps_35 (fun v g972 H locs hp hW1 => ?_)
            obtain ⟨r971, rfl, hs1, hG, hf1⟩ := hp
            have f973 : fld g972 lw 6 = .int x961 := (hf1.1 lw 6 (by omega)).trans fx961
            have hW : WS ad cA (fun i k => i = (lw + 6)) g0 K g972 H locs := ⟨hW1, hs1, hW.2.2.tr hf1 (fun i k h => h)⟩
            refine q_if_eq (tgt := 43) hM dX3_keeps_38 (by decide) (rfl : r971.toInt = r971.toInt) (fun h38 => ?_) (fun h38 => ?_)
            · refine q_iinc (lv9 := fun z975 => [(2, .int z975), (0, .ref (ad lw)), (1, .ref (ad 83))]) hM dX3_keeps_43 hl (kq := 2) rfl (by decide) (fun _ => rfl) (fun z975 ls hz975 hl => ?_)
              first | have tz975 := i_addT hz975 (rfl : w2_2.toInt = w2_2.toInt) (kc_1 : (Int32.ofInt 1).toInt = 1) (by omega) (by omega) | skip
              refine q_goto (tgt := 2) hM dX3_keeps_46 (by decide) ?_
              exact ih2 z975 _ _ _ _ (by omega) hG (by omega) (by omega) (lv_sub hl [1, 2, 0] rfl) hW
            · refine q_iconst (v := (1 : Int32)) hM dX3_keeps_41 (by decide) ?_
              exact hE _ _ _ _ _ _ hW.1 nz_1 ⟨_, rfl, hW.2.1, hG, hW.2.2, (by have := kc_1; omega)⟩ dX3_keeps_42
  have := kc_0
  exact L2 _ (0 : Int32) _ _ _ _ (Nat.lt_succ_self _) hG (by omega) (by omega) (lv_sub hl [1, 2, 0] rfl) hW


set_option maxRecDepth 100000 in
set_option maxHeartbeats 4000000 in
theorem a_X3_become (l : Launch) (D : va_G) (cA : Nat → ClassId) (ad : Nat → Nat) (g0 : Nat → va_E) (lw : Nat)   (hSh : Shp ad cA g0) (hG : Rng g0) (hlw : isLw lw) : CT l NN ad cA D yX3_become cX3_become 3 none (0, 0) [.ref (ad 61), .ref (ad lw)] g0 (fun v g' => v = none ∧ Shp ad cA g' ∧ Rng g' ∧ FR (fun i k => (i = 61 ∧ (k = 6 ∨ k = 7)) ∨ (62 ≤ i ∧ i < 67)) g0 g') := by
  refine q_enterV (by decide) (Nat.le_of_ble_eq_true rfl) (fun K H locs ls _ _ hM hW0 hR hC hE hl => ?_)
  have hl : lv_has ls 3 [(0, .ref (ad 61)), (1, .ref (ad lw))] := hl
  have hW : WS ad cA (fun i k => (i = 61 ∧ (k = 6 ∨ k = 7)) ∨ (62 ≤ i ∧ i < 67)) g0 K g0 H locs := ⟨hW0, hSh, FR.rf⟩
  have ulw := hlw
  unfold isLw at ulw
  refine q_aload_n hM dX3_become_0 (lv_at hl 0 rfl) ?_
  refine q_aload_n hM dX3_become_1 (lv_at hl 1 rfl) ?_
  refine w_getI hM hW FG_X3_28 (lo_Lw hlw) (by decide) (by decide) dX3_become_2 (fun x977 fx977 => ?_)
  have bx977 := hG.f fx977 (rF_Lw_6 hlw) (by decide)
  refine w_put hM hW FP_X3_28 lb_61 (by omega) (Or.inl ⟨_, rfl⟩) rfl rfl dX3_become_5 (fun g978 H locs hW e1 e2 => ?_)
  have f979 : fld g978 61 6 = .int x977 := e1
  have hG := hG.put e1 e2 rF_61_6 (by decide) (by have := i_rng x977; omega) (by have := i_rng x977; omega)
  refine q_aload_n hM dX3_become_8 (lv_at hl 0 rfl) ?_
  refine q_aload_n hM dX3_become_9 (lv_at hl 1 rfl) ?_
  refine w_getI hM hW FG_X3_32 (lo_Lw hlw) (by decide) (by decide) dX3_become_10 (fun x980 fx980 => ?_)
  have bx980 := hG.f fx980 (rF_Lw_7 hlw) (by decide)
  refine w_put hM hW FP_X3_32 lb_61 (by omega) (Or.inl ⟨_, rfl⟩) rfl rfl dX3_become_13 (fun g981 H locs hW e1 e2 => ?_)
  have f982 : fld g981 61 6 = .int x977 := (e2.1 61 6 (by unfold Only; omega)).trans f979
  have f983 : fld g981 61 7 = .int x980 := e1
  have hG := hG.put e1 e2 rF_61_7 (by decide) (by have := i_rng x980; omega) (by have := i_rng x980; omega)
  refine q_iconst (v := (0 : Int32)) hM dX3_become_16 (by decide) ?_
  refine q_istore_n (lv9 := [(2, .int (0 : Int32)), (0, .ref (ad 61)), (1, .ref (ad lw))]) hM dX3_become_17 hl (by decide) rfl (fun ls hl => ?_)
  have L18 : ∀ (fu18 : Nat) (w18_2 : Int32) (g9 : Nat → va_E) (H : Heap) (locs : List Loc) (ls : Array Slot), (16 - w18_2.toInt).toNat < fu18 → (Rng g9) → (0 ≤ w18_2.toInt) → (w18_2.toInt ≤ 16) → lv_has ls 3 [(0, .ref (ad 61)), (1, .ref (ad lw)), (2, .int w18_2)] → WS ad cA (fun i k => (i = 61 ∧ (k = 6 ∨ k = 7)) ∨ (62 ≤ i ∧ i < 67)) g0 K g9 H locs → XX K 0 0 H locs 18 ls [] := by
    intro fu18
    induction fu18 with
    | zero => intro w18_2 g9 H locs ls h0; omega
    | succ fu18 ih18 =>
      intro w18_2 g9 H locs ls hm18 i18_0 i18_1 i18_2 hl hW
      have hG := i18_0
      refine q_iload_n hM dX3_become_18 (lv_at hl 2 rfl) ?_
      refine q_bipush (v := (16 : Int32)) hM dX3_become_19 (by decide) ?_
      refine q_icmp_ge (tgt := 66) hM dX3_become_21 (by decide) (rfl : w18_2.toInt = w18_2.toInt) (kc_16 : (16 : Int32).toInt = 16) (fun h21 => ?_) (fun h21 => ?_)
      · refine q_iconst (v := (0 : Int32)) hM dX3_become_66 (by decide) ?_
        refine q_istore_n (lv9 := [(2, .int (0 : Int32)), (0, .ref (ad 61)), (1, .ref (ad lw))]) hM dX3_become_67 hl (by decide) rfl (fun ls hl => ?_)
        have L68 : ∀ (fu68 : Nat) (w68_2 : Int32) (g9 : Nat → va_E) (H : Heap) (locs : List Loc) (ls : Array Slot), (256 - w68_2.toInt).toNat < fu68 → (Rng g9) → (0 ≤ w68_2.toInt) → (w68_2.toInt ≤ 256) → lv_has ls 3 [(0, .ref (ad 61)), (1, .ref (ad lw)), (2, .int w68_2)] → WS ad cA (fun i k => (i = 61 ∧ (k = 6 ∨ k = 7)) ∨ (62 ≤ i ∧ i < 67)) g0 K g9 H locs → XX K 0 0 H locs 68 ls [] := by
          intro fu68
          induction fu68 with
          | zero => intro w68_2 g9 H locs ls h0; omega
          | succ fu68 ih68 =>
            intro w68_2 g9 H locs ls hm68 i68_0 i68_1 i68_2 hl hW
            have hG := i68_0
            refine q_iload_n hM dX3_become_68 (lv_at hl 2 rfl) ?_
            refine q_sipush (v := (256 : Int32)) hM dX3_become_69 (by decide) ?_
            refine q_icmp_ge (tgt := 105) hM dX3_become_72 (by decide) (rfl : w68_2.toInt = w68_2.toInt) (kc_256 : (256 : Int32).toInt = 256) (fun h72 => ?_) (fun h72 => ?_)
            · exact hE _ _ _ _ _ hW.1 ⟨rfl, hW.2.1, hG, hW.2.2⟩ dX3_become_105
            · refine q_aload_n hM dX3_become_75 (lv_at hl 0 rfl) ?_
              refine w_get (v := .ref (ad 65)) hM hW FG_X3_19 lb_61 (rf_61_3 hW.2.1) dX3_become_76 ?_
              refine q_iload_n hM dX3_become_79 (lv_at hl 2 rfl) ?_
              refine q_aload_n hM dX3_become_80 (lv_at hl 1 rfl) ?_
              refine w_get (v := .ref (ad (lw + 4))) hM hW FG_X3_19 (lo_Lw hlw) (rf_Lw_3 hlw hW.2.1) dX3_become_81 ?_
              refine q_iload_n hM dX3_become_84 (lv_at hl 2 rfl) ?_
              refine w_iald hM hW (la_Lw_3 hlw) (i_in (by omega) (by omega)) dX3_become_85 ?_
              refine q_top (fun y989 hy989 => ?_)
              refine w_iast hM hW lb_65 (by omega) (i_in (by omega) (by omega)) dX3_become_86 (fun g990 H locs hW e1 e2 => ?_)
              have hG := hG.st e1 e2 (rfl : rA 65 = (-2147483648, 2147483647)) (by have := i_rng y989; omega) (by have := i_rng y989; omega)
              refine q_aload_n hM dX3_become_87 (lv_at hl 0 rfl) ?_
              refine w_get (v := .ref (ad 66)) hM hW FG_X3_22 lb_61 (rf_61_4 hW.2.1) dX3_become_88 ?_
              refine q_iload_n hM dX3_become_91 (lv_at hl 2 rfl) ?_
              refine q_aload_n hM dX3_become_92 (lv_at hl 1 rfl) ?_
              refine w_get (v := .ref (ad (lw + 5))) hM hW FG_X3_22 (lo_Lw hlw) (rf_Lw_4 hlw hW.2.1) dX3_become_93 ?_
              refine q_iload_n hM dX3_become_96 (lv_at hl 2 rfl) ?_
              refine w_iald hM hW (la_Lw_4 hlw) (i_in (by omega) (by omega)) dX3_become_97 ?_
              refine q_top (fun y991 hy991 => ?_)
              have by991 := hG.a hy991 (rA_Lw_4 hlw)
              refine w_iast hM hW lb_66 (by omega) (i_in (by omega) (by omega)) dX3_become_98 (fun g992 H locs hW e1 e2 => ?_)
              have hG := hG.st e1 e2 rA_66 (by have := i_rng y991; omega) (by have := i_rng y991; omega)
              refine q_iinc (lv9 := fun z993 => [(2, .int z993), (0, .ref (ad 61)), (1, .ref (ad lw))]) hM dX3_become_99 hl (kq := 2) rfl (by decide) (fun _ => rfl) (fun z993 ls hz993 hl => ?_)
              first | have tz993 := i_addT hz993 (rfl : w68_2.toInt = w68_2.toInt) (kc_1 : (Int32.ofInt 1).toInt = 1) (by omega) (by omega) | skip
              refine q_goto (tgt := 68) hM dX3_become_102 (by decide) ?_
              exact ih68 z993 _ _ _ _ (by omega) hG (by omega) (by omega) (lv_sub hl [1, 2, 0] rfl) hW
        have := kc_0
        exact L68 _ (0 : Int32) _ _ _ _ (Nat.lt_succ_self _) hG (by omega) (by omega) (lv_sub hl [1, 2, 0] rfl) hW
      · refine q_aload_n hM dX3_become_24 (lv_at hl 0 rfl) ?_
        refine w_get (v := .ref (ad 62)) hM hW FG_X3_9 lb_61 (rf_61_0 hW.2.1) dX3_become_25 ?_
        refine q_iload_n hM dX3_become_28 (lv_at hl 2 rfl) ?_
        refine q_aload_n hM dX3_become_29 (lv_at hl 1 rfl) ?_
        refine w_get (v := .ref (ad (lw + 1))) hM hW FG_X3_9 (lo_Lw hlw) (rf_Lw_0 hlw hW.2.1) dX3_become_30 ?_
        refine q_iload_n hM dX3_become_33 (lv_at hl 2 rfl) ?_
        refine w_iald hM hW (la_Lw_0 hlw) (i_in (by omega) (by omega)) dX3_become_34 ?_
        refine q_top (fun y995 hy995 => ?_)
        refine w_iast hM hW lb_62 (by omega) (i_in (by omega) (by omega)) dX3_become_35 (fun g996 H locs hW e1 e2 => ?_)
        have hG := hG.st e1 e2 (rfl : rA 62 = (-2147483648, 2147483647)) (by have := i_rng y995; omega) (by have := i_rng y995; omega)
        refine q_aload_n hM dX3_become_36 (lv_at hl 0 rfl) ?_
        refine w_get (v := .ref (ad 63)) hM hW FG_X3_13 lb_61 (rf_61_1 hW.2.1) dX3_become_37 ?_
        refine q_iload_n hM dX3_become_40 (lv_at hl 2 rfl) ?_
        refine q_aload_n hM dX3_become_41 (lv_at hl 1 rfl) ?_
        refine w_get (v := .ref (ad (lw + 2))) hM hW FG_X3_13 (lo_Lw hlw) (rf_Lw_1 hlw hW.2.1) dX3_become_42 ?_
        refine q_iload_n hM dX3_become_45 (lv_at hl 2 rfl) ?_
        refine w_iald hM hW (la_Lw_1 hlw) (i_in (by omega) (by omega)) dX3_become_46 ?_
        refine q_top (fun y997 hy997 => ?_)
        refine w_iast hM hW lb_63 (by omega) (i_in (by omega) (by omega)) dX3_become_47 (fun g998 H locs hW e1 e2 => ?_)
        have hG := hG.st e1 e2 (rfl : rA 63 = (-2147483648, 2147483647)) (by have := i_rng y997; omega) (by have := i_rng y997; omega)
        refine q_aload_n hM dX3_become_48 (lv_at hl 0 rfl) ?_
        refine w_get (v := .ref (ad 64)) hM hW FG_X3_16 lb_61 (rf_61_2 hW.2.1) dX3_become_49 ?_
        refine q_iload_n hM dX3_become_52 (lv_at hl 2 rfl) ?_
        refine q_aload_n hM dX3_become_53 (lv_at hl 1 rfl) ?_
        refine w_get (v := .ref (ad (lw + 3))) hM hW FG_X3_16 (lo_Lw hlw) (rf_Lw_2 hlw hW.2.1) dX3_become_54 ?_
        refine q_iload_n hM dX3_become_57 (lv_at hl 2 rfl) ?_
        refine w_iald hM hW (la_Lw_2 hlw) (i_in (by omega) (by omega)) dX3_become_58 ?_
        refine q_top (fun y999 hy999 => ?_)
        refine w_iast hM hW lb_64 (by omega) (i_in (by omega) (by omega)) dX3_become_59 (fun g1000 H locs hW e1 e2 => ?_)
        have hG := hG.st e1 e2 (rfl : rA 64 = (-2147483648, 2147483647)) (by have := i_rng y999; omega) (by have := i_rng y999; omega)
        refine q_iinc (lv9 := fun z1001 => [(2, .int z1001), (0, .ref (ad 61)), (1, .ref (ad lw))]) hM dX3_become_60 hl (kq := 2) rfl (by decide) (fun _ => rfl) (fun z1001 ls hz1001 hl => ?_)
        first | have tz1001 := i_addT hz1001 (rfl : w18_2.toInt = w18_2.toInt) (kc_1 : (Int32.ofInt 1).toInt = 1) (by omega) (by omega) | skip
        refine q_goto (tgt := 18) hM dX3_become_63 (by decide) ?_
        exact ih18 z1001 _ _ _ _ (by omega) hG (by omega) (by omega) (lv_sub hl [1, 2, 0] rfl) hW
  have := kc_0
  exact L18 _ (0 : Int32) _ _ _ _ (Nat.lt_succ_self _) hG (by omega) (by omega) (lv_sub hl [1, 2, 0] rfl) hW

theorem dX9_skillOf_0 : decode cX9_skillOf 0 = .ok (.iload_n 3, 1) := by decide +kernel
theorem dX9_skillOf_1 : decode cX9_skillOf 1 = .ok (.istore 5, 2) := by decide +kernel
theorem dX9_skillOf_3 : decode cX9_skillOf 3 = .ok (.iconst 0, 1) := by decide +kernel
theorem dX9_skillOf_4 : decode cX9_skillOf 4 = .ok (.istore 6, 2) := by decide +kernel
theorem dX9_skillOf_6 : decode cX9_skillOf 6 = .ok (.iload_n 2, 1) := by decide +kernel
theorem dX9_skillOf_7 : decode cX9_skillOf 7 = .ok (.iconst 5, 1) := by decide +kernel
theorem dX9_skillOf_8 : decode cX9_skillOf 8 = .ok (.idiv, 1) := by decide +kernel
theorem dX9_skillOf_9 : decode cX9_skillOf 9 = .ok (.istore 7, 2) := by decide +kernel
theorem dX9_skillOf_11 : decode cX9_skillOf 11 = .ok (.iconst 0, 1) := by decide +kernel
theorem dX9_skillOf_12 : decode cX9_skillOf 12 = .ok (.istore 8, 2) := by decide +kernel
theorem dX9_skillOf_14 : decode cX9_skillOf 14 = .ok (.iload 8, 2) := by decide +kernel
theorem dX9_skillOf_16 : decode cX9_skillOf 16 = .ok (.bipush 6, 2) := by decide +kernel
theorem dX9_skillOf_18 : decode cX9_skillOf 18 = .ok (.if_icmp .ge 85, 3) := by decide +kernel
theorem dX9_skillOf_21 : decode cX9_skillOf 21 = .ok (.iload 4, 2) := by decide +kernel
theorem dX9_skillOf_23 : decode cX9_skillOf 23 = .ok (.iload 8, 2) := by decide +kernel
theorem dX9_skillOf_25 : decode cX9_skillOf 25 = .ok (.invokestatic 30, 3) := by decide +kernel
theorem dX9_skillOf_28 : decode cX9_skillOf 28 = .ok (.ifCond .eq 69, 3) := by decide +kernel
theorem dX9_skillOf_31 : decode cX9_skillOf 31 = .ok (.iload 7, 2) := by decide +kernel
theorem dX9_skillOf_33 : decode cX9_skillOf 33 = .ok (.ifCond .le 64, 3) := by decide +kernel
theorem dX9_skillOf_36 : decode cX9_skillOf 36 = .ok (.iload_n 1, 1) := by decide +kernel
theorem dX9_skillOf_37 : decode cX9_skillOf 37 = .ok (.iload 7, 2) := by decide +kernel
theorem dX9_skillOf_39 : decode cX9_skillOf 39 = .ok (.idiv, 1) := by decide +kernel
theorem dX9_skillOf_40 : decode cX9_skillOf 40 = .ok (.iconst 5, 1) := by decide +kernel
theorem dX9_skillOf_41 : decode cX9_skillOf 41 = .ok (.irem, 1) := by decide +kernel
theorem dX9_skillOf_42 : decode cX9_skillOf 42 = .ok (.istore 9, 2) := by decide +kernel
theorem dX9_skillOf_44 : decode cX9_skillOf 44 = .ok (.iload 5, 2) := by decide +kernel
theorem dX9_skillOf_46 : decode cX9_skillOf 46 = .ok (.iload 9, 2) := by decide +kernel
theorem dX9_skillOf_48 : decode cX9_skillOf 48 = .ok (.invokestatic 30, 3) := by decide +kernel
theorem dX9_skillOf_51 : decode cX9_skillOf 51 = .ok (.ifCond .ne 5, 3) := by decide +kernel
theorem dX9_skillOf_54 : decode cX9_skillOf 54 = .ok (.iconst (-1), 1) := by decide +kernel
theorem dX9_skillOf_55 : decode cX9_skillOf 55 = .ok (.ireturn, 1) := by decide +kernel
theorem dX9_skillOf_56 : decode cX9_skillOf 56 = .ok (.iload 5, 2) := by decide +kernel
theorem dX9_skillOf_58 : decode cX9_skillOf 58 = .ok (.iconst 1, 1) := by decide +kernel
theorem dX9_skillOf_59 : decode cX9_skillOf 59 = .ok (.iload 9, 2) := by decide +kernel
theorem dX9_skillOf_61 : decode cX9_skillOf 61 = .ok (.ishl, 1) := by decide +kernel
theorem dX9_skillOf_62 : decode cX9_skillOf 62 = .ok (.iconst (-1), 1) := by decide +kernel
theorem dX9_skillOf_63 : decode cX9_skillOf 63 = .ok (.ixor, 1) := by decide +kernel
theorem dX9_skillOf_64 : decode cX9_skillOf 64 = .ok (.iand, 1) := by decide +kernel
theorem dX9_skillOf_65 : decode cX9_skillOf 65 = .ok (.istore 5, 2) := by decide +kernel
theorem dX9_skillOf_67 : decode cX9_skillOf 67 = .ok (.iload 6, 2) := by decide +kernel
theorem dX9_skillOf_69 : decode cX9_skillOf 69 = .ok (.aload_n 0, 1) := by decide +kernel
theorem dX9_skillOf_70 : decode cX9_skillOf 70 = .ok (.getfield 16, 3) := by decide +kernel
theorem dX9_skillOf_73 : decode cX9_skillOf 73 = .ok (.iload 9, 2) := by decide +kernel
theorem dX9_skillOf_75 : decode cX9_skillOf 75 = .ok (.aaload, 1) := by decide +kernel
theorem dX9_skillOf_76 : decode cX9_skillOf 76 = .ok (.iload 8, 2) := by decide +kernel
theorem dX9_skillOf_78 : decode cX9_skillOf 78 = .ok (.iaload, 1) := by decide +kernel
theorem dX9_skillOf_79 : decode cX9_skillOf 79 = .ok (.iadd, 1) := by decide +kernel
theorem dX9_skillOf_80 : decode cX9_skillOf 80 = .ok (.istore 6, 2) := by decide +kernel
theorem dX9_skillOf_82 : decode cX9_skillOf 82 = .ok (.aload_n 0, 1) := by decide +kernel
theorem dX9_skillOf_83 : decode cX9_skillOf 83 = .ok (.getfield 23, 3) := by decide +kernel
theorem dX9_skillOf_86 : decode cX9_skillOf 86 = .ok (.iload 8, 2) := by decide +kernel
theorem dX9_skillOf_88 : decode cX9_skillOf 88 = .ok (.iload 9, 2) := by decide +kernel
theorem dX9_skillOf_90 : decode cX9_skillOf 90 = .ok (.iastore, 1) := by decide +kernel
theorem dX9_skillOf_91 : decode cX9_skillOf 91 = .ok (.iload 7, 2) := by decide +kernel
theorem dX9_skillOf_93 : decode cX9_skillOf 93 = .ok (.iconst 5, 1) := by decide +kernel
theorem dX9_skillOf_94 : decode cX9_skillOf 94 = .ok (.idiv, 1) := by decide +kernel
theorem dX9_skillOf_95 : decode cX9_skillOf 95 = .ok (.istore 7, 2) := by decide +kernel
theorem dX9_skillOf_97 : decode cX9_skillOf 97 = .ok (.iinc 8 1, 3) := by decide +kernel
theorem dX9_skillOf_100 : decode cX9_skillOf 100 = .ok (.goto (-86), 3) := by decide +kernel
theorem dX9_skillOf_103 : decode cX9_skillOf 103 = .ok (.iload 6, 2) := by decide +kernel
theorem dX9_skillOf_105 : decode cX9_skillOf 105 = .ok (.ireturn, 1) := by decide +kernel
theorem FG_X9_16 : FG RX9 16 9 5 1 := ⟨RX9, TX9, rfl, wX9, by decide, kAW (v_1_2 (List.mem_of_getElem? (i := 7) rfl)) rfl, rfl⟩
theorem FG_X9_23 : FG RX9 23 9 5 3 := ⟨RX9, TX9, rfl, wX9, by decide, kAW (v_1_2 (List.mem_of_getElem? (i := 11) rfl)) rfl, rfl⟩
set_option maxRecDepth 100000 in
set_option maxHeartbeats 4000000 in
theorem a_X9_skillOf (l : Launch) (D : va_G) (cA : Nat → ClassId) (ad : Nat → Nat) (g0 : Nat → va_E) (co : Int32) (ro : Int32) (so : Int32) (as : Int32)   (hSh : Shp ad cA g0) (hG : Rng g0) (co0 : 0 ≤ co.toInt) : CT l NN ad cA D yX9_skillOf cX9_skillOf 10 (some FieldType.int) (1, 21) [.ref (ad 102), .int co, .int ro, .int so, .int as] g0 (fun v g' => ∃ (r : Int32), v = some (.int r) ∧ Shp ad cA g' ∧ Rng g' ∧ FR (fun i k => i = 119) g0 g') := by
  refine q_enterI (by decide) (Nat.le_of_ble_eq_true rfl) rfl (fun K H locs ls _ _ hM hW0 hR hC hE hl => ?_)
  have hl : lv_has ls 10 [(0, .ref (ad 102)), (1, .int co), (2, .int ro), (3, .int so), (4, .int as)] := hl
  have hW : WS ad cA (fun i k => i = 119) g0 K g0 H locs := ⟨hW0, hSh, FR.rf⟩
  refine q_iload_n hM dX9_skillOf_0 (lv_at hl 3 rfl) ?_
  refine q_istore (lv9 := [(5, .int so), (0, .ref (ad 102)), (1, .int co), (2, .int ro), (3, .int so), (4, .int as)]) hM dX9_skillOf_1 hl (by decide) rfl (fun ls hl => ?_)
  refine q_iconst (v := (0 : Int32)) hM dX9_skillOf_3 (by decide) ?_
  refine q_istore (lv9 := [(6, .int (0 : Int32)), (5, .int so), (0, .ref (ad 102)), (1, .int co), (2, .int ro), (3, .int so), (4, .int as)]) hM dX9_skillOf_4 hl (by decide) rfl (fun ls hl => ?_)
  refine q_iload_n hM dX9_skillOf_6 (lv_at hl 4 rfl) ?_
  refine q_iconst (v := (5 : Int32)) hM dX9_skillOf_7 (by decide) ?_
  refine q_idiv hM (by decide) dX9_skillOf_8 (fun z1002 hz1002 => ?_)
  first | have tz1002 := i_divT hz1002 (rfl : ro.toInt = ro.toInt) (kc_5 : (5 : Int32).toInt = 5) (by omega) (by omega) | skip
  refine q_istore (lv9 := [(7, .int z1002), (6, .int (0 : Int32)), (5, .int so), (0, .ref (ad 102)), (1, .int co), (2, .int ro), (3, .int so), (4, .int as)]) hM dX9_skillOf_9 hl (by decide) rfl (fun ls hl => ?_)
  refine q_iconst (v := (0 : Int32)) hM dX9_skillOf_11 (by decide) ?_
  refine q_istore (lv9 := [(8, .int (0 : Int32)), (7, .int z1002), (6, .int (0 : Int32)), (5, .int so), (0, .ref (ad 102)), (1, .int co), (2, .int ro), (3, .int so), (4, .int as)]) hM dX9_skillOf_12 hl (by decide) rfl (fun ls hl => ?_)
  have L14 : ∀ (fu14 : Nat) (w14_5 : Int32) (w14_6 : Int32) (w14_7 : Int32) (w14_8 : Int32) (g9 : Nat → va_E) (H : Heap) (locs : List Loc) (ls : Array Slot), (6 - w14_8.toInt).toNat < fu14 → (Rng g9) → (0 ≤ w14_8.toInt) → (w14_8.toInt ≤ 6) → lv_has ls 10 [(0, .ref (ad 102)), (1, .int co), (2, .int ro), (3, .int so), (4, .int as), (5, .int w14_5), (6, .int w14_6), (7, .int w14_7), (8, .int w14_8)] → WS ad cA (fun i k => i = 119) g0 K g9 H locs → XX K 0 0 H locs 14 ls [] := by
    intro fu14
    induction fu14 with
    | zero => intro w14_5 w14_6 w14_7 w14_8 g9 H locs ls h0; omega
    | succ fu14 ih14 =>
      intro w14_5 w14_6 w14_7 w14_8 g9 H locs ls hm14 i14_0 i14_1 i14_2 hl hW
      have hG := i14_0
      refine q_iload hM dX9_skillOf_14 (lv_at hl 8 rfl) ?_
      refine q_bipush (v := (6 : Int32)) hM dX9_skillOf_16 (by decide) ?_
      refine q_icmp_ge (tgt := 103) hM dX9_skillOf_18 (by decide) (rfl : w14_8.toInt = w14_8.toInt) (kc_6 : (6 : Int32).toInt = 6) (fun h18 => ?_) (fun h18 => ?_)
      · refine q_iload hM dX9_skillOf_103 (lv_at hl 6 rfl) ?_
        exact hE _ _ _ _ _ _ hW.1 ⟨_, rfl, hW.2.1, hG, hW.2.2⟩ dX9_skillOf_105
      · refine q_iload hM dX9_skillOf_21 (lv_at hl 4 rfl) ?_
        refine q_iload hM dX9_skillOf_23 (lv_at hl 8 rfl) ?_
        refine q_callN (host := "ForgetSchool") (As := [.int as, .int w14_8]) (rest := []) hM hW.1 hR hC myX11_has (List.mem_of_getElem? (i := 12) rfl) (c_X11_has _ _ cA ad g9 as w14_8 hW.2.1) ⟨by decide, by decide⟩ rfl rfl hl.1 (Nat.le_of_ble_eq_true rfl) dX9_skillOf_25 (fun v g1007 H locs hp hW1 => ?_)
        obtain ⟨r1006, rfl, hr1006, rfl⟩ := hp
        have hW : WS ad cA (fun i k => i = 119) g0 K g9 H locs := ⟨hW1, hW.2.1, hW.2.2⟩
        first | have ltr1006 := has_lt 5 hr1006 (by omega) (by omega) | have ltr1006 := has_lt 6 hr1006 (by omega) (by omega) | have ltr1006 := has_lt 8 hr1006 (by omega) (by omega) | have ltr1006 := has_lt 12 hr1006 (by omega) (by omega) | skip
        refine q_if_eq (tgt := 97) hM dX9_skillOf_28 (by decide) (rfl : r1006.toInt = r1006.toInt) (fun h28 => ?_) (fun h28 => ?_)
        · refine q_iinc (lv9 := fun z1009 => [(8, .int z1009), (0, .ref (ad 102)), (1, .int co), (2, .int ro), (3, .int so), (4, .int as), (5, .int w14_5), (6, .int w14_6), (7, .int w14_7)]) hM dX9_skillOf_97 hl (kq := 8) rfl (by decide) (fun _ => rfl) (fun z1009 ls hz1009 hl => ?_)
          first | have tz1009 := i_addT hz1009 (rfl : w14_8.toInt = w14_8.toInt) (kc_1 : (Int32.ofInt 1).toInt = 1) (by omega) (by omega) | skip
          refine q_goto (tgt := 14) hM dX9_skillOf_100 (by decide) ?_
          exact ih14 w14_5 w14_6 w14_7 z1009 _ _ _ _ (by omega) hG (by omega) (by omega) (lv_sub hl [1, 2, 3, 4, 5, 6, 7, 8, 0] rfl) hW
        · refine q_iload hM dX9_skillOf_31 (lv_at hl 7 rfl) ?_
          refine q_if_le (tgt := 97) hM dX9_skillOf_33 (by decide) (rfl : w14_7.toInt = w14_7.toInt) (fun h33 => ?_) (fun h33 => ?_)
          · refine q_iinc (lv9 := fun z1012 => [(8, .int z1012), (0, .ref (ad 102)), (1, .int co), (2, .int ro), (3, .int so), (4, .int as), (5, .int w14_5), (6, .int w14_6), (7, .int w14_7)]) hM dX9_skillOf_97 hl (kq := 8) rfl (by decide) (fun _ => rfl) (fun z1012 ls hz1012 hl => ?_)
            first | have tz1012 := i_addT hz1012 (rfl : w14_8.toInt = w14_8.toInt) (kc_1 : (Int32.ofInt 1).toInt = 1) (by omega) (by omega) | skip
            refine q_goto (tgt := 14) hM dX9_skillOf_100 (by decide) ?_
            exact ih14 w14_5 w14_6 w14_7 z1012 _ _ _ _ (by omega) hG (by omega) (by omega) (lv_sub hl [1, 2, 3, 4, 5, 6, 7, 8, 0] rfl) hW
          · refine q_iload_n hM dX9_skillOf_36 (lv_at hl 1 rfl) ?_
            refine q_iload hM dX9_skillOf_37 (lv_at hl 7 rfl) ?_
            refine q_idiv hM (by intro e9; have e8 := congrArg Int32.toInt e9; have := kc_0; have e7 := kc_0; omega) dX9_skillOf_39 (fun z1014 hz1014 => ?_)
            first | have tz1014 := i_divT hz1014 (rfl : co.toInt = co.toInt) (rfl : w14_7.toInt = w14_7.toInt) (by omega) (by omega) | skip
            have dvz1014 := i_divN hz1014 (by omega) (by omega)
            refine q_iconst (v := (5 : Int32)) hM dX9_skillOf_40 (by decide) ?_
            refine q_irem hM (by decide) dX9_skillOf_41 (fun z1015 hz1015 => ?_)
            first | have tz1015 := i_remT hz1015 (rfl : z1014.toInt = z1014.toInt) (kc_5 : (5 : Int32).toInt = 5) (by omega) (by omega) | skip
            refine q_istore (lv9 := [(9, .int z1015), (0, .ref (ad 102)), (1, .int co), (2, .int ro), (3, .int so), (4, .int as), (5, .int w14_5), (6, .int w14_6), (7, .int w14_7), (8, .int w14_8)]) hM dX9_skillOf_42 hl (by decide) rfl (fun ls hl => ?_)
            refine q_iload hM dX9_skillOf_44 (lv_at hl 6 rfl) ?_
            refine q_iload hM dX9_skillOf_46 (lv_at hl 0 rfl) ?_
            refine q_callN (host := "ForgetSchool") (As := [.int w14_5, .int z1015]) (rest := []) hM hW.1 hR hC myX11_has (List.mem_of_getElem? (i := 12) rfl) (c_X11_has _ _ cA ad g9 w14_5 z1015 hW.2.1) ⟨by decide, by decide⟩ rfl rfl hl.1 (Nat.le_of_ble_eq_true rfl) dX9_skillOf_48 (fun v g1017 H locs hp hW1 => ?_)
            obtain ⟨r1016, rfl, hr1016, rfl⟩ := hp
            have hW : WS ad cA (fun i k => i = 119) g0 K g9 H locs := ⟨hW1, hW.2.1, hW.2.2⟩
            first | have ltr1016 := has_lt 5 hr1016 (by omega) (by omega) | have ltr1016 := has_lt 6 hr1016 (by omega) (by omega) | have ltr1016 := has_lt 8 hr1016 (by omega) (by omega) | have ltr1016 := has_lt 12 hr1016 (by omega) (by omega) | skip
            refine q_if_ne (tgt := 56) hM dX9_skillOf_51 (by decide) (rfl : r1016.toInt = r1016.toInt) (fun h51 => ?_) (fun h51 => ?_)
            · refine q_iload hM dX9_skillOf_56 (lv_at hl 6 rfl) ?_
              refine q_iconst (v := (1 : Int32)) hM dX9_skillOf_58 (by decide) ?_
              refine q_iload hM dX9_skillOf_59 (lv_at hl 0 rfl) ?_
              refine q_ishl hM dX9_skillOf_61 (fun z1019 hz1019 => ?_)
              refine q_iconst (v := ((-1) : Int32)) hM dX9_skillOf_62 (by decide) ?_
              refine q_ixor hM dX9_skillOf_63 (fun z1020 hz1020 => ?_)
              refine q_iand hM dX9_skillOf_64 (fun z1021 hz1021 => ?_)
              refine q_istore (lv9 := [(5, .int z1021), (9, .int z1015), (0, .ref (ad 102)), (1, .int co), (2, .int ro), (3, .int so), (4, .int as), (6, .int w14_6), (7, .int w14_7), (8, .int w14_8)]) hM dX9_skillOf_65 hl (by decide) rfl (fun ls hl => ?_)
              refine q_iload hM dX9_skillOf_67 (lv_at hl 7 rfl) ?_
              refine q_aload_n hM dX9_skillOf_69 (lv_at hl 2 rfl) ?_
              refine w_get (v := .ref (ad 112)) hM hW FG_X9_16 lb_102 (rf_102_1 hW.2.1) dX9_skillOf_70 ?_
              refine q_iload hM dX9_skillOf_73 (lv_at hl 1 rfl) ?_
              refine w_aald hM hW lb_112 (Or.inl rfl) (i_in (by omega) (by omega)) (aq (aq_112 hW.2.1) (by omega) (by omega)) dX9_skillOf_75 ?_
              refine q_iload hM dX9_skillOf_76 (lv_at hl 9 rfl) ?_
              refine w_iald hM hW (lr_113 (by omega)) (i_in (by omega) (by omega)) dX9_skillOf_78 ?_
              refine q_top (fun y1022 hy1022 => ?_)
              refine q_iadd hM dX9_skillOf_79 (fun z1023 hz1023 => ?_)
              first | have tz1023 := i_addT hz1023 (rfl : w14_6.toInt = w14_6.toInt) (rfl : y1022.toInt = y1022.toInt) (by omega) (by omega) | skip
              refine q_istore (lv9 := [(6, .int z1023), (5, .int z1021), (9, .int z1015), (0, .ref (ad 102)), (1, .int co), (2, .int ro), (3, .int so), (4, .int as), (7, .int w14_7), (8, .int w14_8)]) hM dX9_skillOf_80 hl (by decide) rfl (fun ls hl => ?_)
              refine q_aload_n hM dX9_skillOf_82 (lv_at hl 3 rfl) ?_
              refine w_get (v := .ref (ad 119)) hM hW FG_X9_23 lb_102 (rf_102_3 hW.2.1) dX9_skillOf_83 ?_
              refine q_iload hM dX9_skillOf_86 (lv_at hl 9 rfl) ?_
              refine q_iload hM dX9_skillOf_88 (lv_at hl 2 rfl) ?_
              refine w_iast hM hW lb_119 (by omega) (i_in (by omega) (by omega)) dX9_skillOf_90 (fun g1024 H locs hW e1 e2 => ?_)
              have hG := hG.st e1 e2 (rfl : rA 119 = (-2147483648, 2147483647)) (by have := i_rng z1015; omega) (by have := i_rng z1015; omega)
              refine q_iload hM dX9_skillOf_91 (lv_at hl 8 rfl) ?_
              refine q_iconst (v := (5 : Int32)) hM dX9_skillOf_93 (by decide) ?_
              refine q_idiv hM (by decide) dX9_skillOf_94 (fun z1025 hz1025 => ?_)
              first | have tz1025 := i_divT hz1025 (rfl : w14_7.toInt = w14_7.toInt) (kc_5 : (5 : Int32).toInt = 5) (by omega) (by omega) | skip
              refine q_istore (lv9 := [(7, .int z1025), (6, .int z1023), (5, .int z1021), (9, .int z1015), (0, .ref (ad 102)), (1, .int co), (2, .int ro), (3, .int so), (4, .int as), (8, .int w14_8)]) hM dX9_skillOf_95 hl (by decide) rfl (fun ls hl => ?_)
              refine q_iinc (lv9 := fun z1026 => [(8, .int z1026), (7, .int z1025), (6, .int z1023), (5, .int z1021), (9, .int z1015), (0, .ref (ad 102)), (1, .int co), (2, .int ro), (3, .int so), (4, .int as)]) hM dX9_skillOf_97 hl (kq := 9) rfl (by decide) (fun _ => rfl) (fun z1026 ls hz1026 hl => ?_)
              first | have tz1026 := i_addT hz1026 (rfl : w14_8.toInt = w14_8.toInt) (kc_1 : (Int32.ofInt 1).toInt = 1) (by omega) (by omega) | skip
              refine q_goto (tgt := 14) hM dX9_skillOf_100 (by decide) ?_
              exact ih14 z1021 z1023 z1025 z1026 _ _ _ _ (by omega) hG (by omega) (by omega) (lv_sub hl [5, 6, 7, 8, 9, 3, 2, 1, 0] rfl) hW
            · refine q_iconst (v := ((-1) : Int32)) hM dX9_skillOf_54 (by decide) ?_
              exact hE _ _ _ _ _ _ hW.1 ⟨_, rfl, hW.2.1, hG, hW.2.2⟩ dX9_skillOf_55
  have := kc_0
  have := kc_0
  exact L14 _ so (0 : Int32) z1002 (0 : Int32) _ _ _ _ (Nat.lt_succ_self _) hG (by omega) (by omega) (lv_sub hl [4, 5, 6, 7, 8, 3, 2, 1, 0] rfl) hW

theorem dX9_assign_0 : decode cX9_assign 0 = .ok (.iconst (-1), 1) := by decide +kernel
theorem dX9_assign_1 : decode cX9_assign 1 = .ok (.istore_n 3, 1) := by decide +kernel
theorem dX9_assign_2 : decode cX9_assign 2 = .ok (.iconst 5, 1) := by decide +kernel
theorem dX9_assign_3 : decode cX9_assign 3 = .ok (.iconst 5, 1) := by decide +kernel
theorem dX9_assign_4 : decode cX9_assign 4 = .ok (.iload_n 2, 1) := by decide +kernel
theorem dX9_assign_5 : decode cX9_assign 5 = .ok (.invokestatic 44, 3) := by decide +kernel
theorem dX9_assign_8 : decode cX9_assign 8 = .ok (.invokestatic 49, 3) := by decide +kernel
theorem dX9_assign_11 : decode cX9_assign 11 = .ok (.invokestatic 55, 3) := by decide +kernel
theorem dX9_assign_14 : decode cX9_assign 14 = .ok (.istore 4, 2) := by decide +kernel
theorem dX9_assign_16 : decode cX9_assign 16 = .ok (.iconst 0, 1) := by decide +kernel
theorem dX9_assign_17 : decode cX9_assign 17 = .ok (.istore 5, 2) := by decide +kernel
theorem dX9_assign_19 : decode cX9_assign 19 = .ok (.iload 5, 2) := by decide +kernel
theorem dX9_assign_21 : decode cX9_assign 21 = .ok (.iload 4, 2) := by decide +kernel
theorem dX9_assign_23 : decode cX9_assign 23 = .ok (.if_icmp .ge 60, 3) := by decide +kernel
theorem dX9_assign_26 : decode cX9_assign 26 = .ok (.aload_n 0, 1) := by decide +kernel
theorem dX9_assign_27 : decode cX9_assign 27 = .ok (.iload 5, 2) := by decide +kernel
theorem dX9_assign_29 : decode cX9_assign 29 = .ok (.iload 4, 2) := by decide +kernel
theorem dX9_assign_31 : decode cX9_assign 31 = .ok (.iload_n 1, 1) := by decide +kernel
theorem dX9_assign_32 : decode cX9_assign 32 = .ok (.iload_n 2, 1) := by decide +kernel
theorem dX9_assign_33 : decode cX9_assign 33 = .ok (.invokevirtual 58, 3) := by decide +kernel
theorem dX9_assign_36 : decode cX9_assign 36 = .ok (.istore 6, 2) := by decide +kernel
theorem dX9_assign_38 : decode cX9_assign 38 = .ok (.iload 6, 2) := by decide +kernel
theorem dX9_assign_40 : decode cX9_assign 40 = .ok (.iload_n 3, 1) := by decide +kernel
theorem dX9_assign_41 : decode cX9_assign 41 = .ok (.if_icmp .le 36, 3) := by decide +kernel
theorem dX9_assign_44 : decode cX9_assign 44 = .ok (.iload 6, 2) := by decide +kernel
theorem dX9_assign_46 : decode cX9_assign 46 = .ok (.istore_n 3, 1) := by decide +kernel
theorem dX9_assign_47 : decode cX9_assign 47 = .ok (.iconst 0, 1) := by decide +kernel
theorem dX9_assign_48 : decode cX9_assign 48 = .ok (.istore 7, 2) := by decide +kernel
theorem dX9_assign_50 : decode cX9_assign 50 = .ok (.iload 7, 2) := by decide +kernel
theorem dX9_assign_52 : decode cX9_assign 52 = .ok (.bipush 6, 2) := by decide +kernel
theorem dX9_assign_54 : decode cX9_assign 54 = .ok (.if_icmp .ge 23, 3) := by decide +kernel
theorem dX9_assign_57 : decode cX9_assign 57 = .ok (.aload_n 0, 1) := by decide +kernel
theorem dX9_assign_58 : decode cX9_assign 58 = .ok (.getfield 19, 3) := by decide +kernel
theorem dX9_assign_61 : decode cX9_assign 61 = .ok (.iload 7, 2) := by decide +kernel
theorem dX9_assign_63 : decode cX9_assign 63 = .ok (.aload_n 0, 1) := by decide +kernel
theorem dX9_assign_64 : decode cX9_assign 64 = .ok (.getfield 23, 3) := by decide +kernel
theorem dX9_assign_67 : decode cX9_assign 67 = .ok (.iload 7, 2) := by decide +kernel
theorem dX9_assign_69 : decode cX9_assign 69 = .ok (.iaload, 1) := by decide +kernel
theorem dX9_assign_70 : decode cX9_assign 70 = .ok (.iastore, 1) := by decide +kernel
theorem dX9_assign_71 : decode cX9_assign 71 = .ok (.iinc 7 1, 3) := by decide +kernel
theorem dX9_assign_74 : decode cX9_assign 74 = .ok (.goto (-24), 3) := by decide +kernel
theorem dX9_assign_77 : decode cX9_assign 77 = .ok (.iinc 5 1, 3) := by decide +kernel
theorem dX9_assign_80 : decode cX9_assign 80 = .ok (.goto (-61), 3) := by decide +kernel
theorem dX9_assign_83 : decode cX9_assign 83 = .ok (.iload_n 3, 1) := by decide +kernel
theorem dX9_assign_84 : decode cX9_assign 84 = .ok (.ireturn, 1) := by decide +kernel
theorem myX9_power : MS yX9_power cX9_power 4 (some FieldType.int) 2 := ⟨kAW (v_3_13 (List.mem_of_getElem? (i := 3) rfl)) rfl, kAW (v_0_0 (List.mem_of_getElem? (i := 10) rfl)) rfl, kAW (v_3_13 (List.mem_of_getElem? (i := 2) rfl)) rfl, by decide, by decide, by decide +kernel⟩
theorem myX9_skillOf : MI yX9_skillOf cX9_skillOf 10 (some FieldType.int) 4 := ⟨kAW (v_3_13 (List.mem_of_getElem? (i := 7) rfl)) rfl, kAW (v_0_0 (List.mem_of_getElem? (i := 10) rfl)) rfl, kAW (v_3_13 (List.mem_of_getElem? (i := 6) rfl)) rfl, kAW (tp_t1 (List.mem_of_getElem? (i := 14) rfl)) rfl, by decide, by decide, by decide +kernel⟩
theorem FG_X9_19 : FG RX9 19 9 5 2 := ⟨RX9, TX9, rfl, wX9, by decide, kAW (v_1_2 (List.mem_of_getElem? (i := 9) rfl)) rfl, rfl⟩
set_option maxRecDepth 100000 in
set_option maxHeartbeats 4000000 in
theorem a_X9_assign (l : Launch) (D : va_G) (cA : Nat → ClassId) (ad : Nat → Nat) (g0 : Nat → va_E) (so : Int32) (as : Int32)   (hSh : Shp ad cA g0) (hG : Rng g0) : CT l NN ad cA D yX9_assign cX9_assign 8 (some FieldType.int) (2, 50) [.ref (ad 102), .int so, .int as] g0 (fun v g' => ∃ (r : Int32), v = some (.int r) ∧ Shp ad cA g' ∧ Rng g' ∧ FR (fun i k => i = 118 ∨ i = 119) g0 g') := by
  refine q_enterI (by decide) (Nat.le_of_ble_eq_true rfl) rfl (fun K H locs ls _ _ hM hW0 hR hC hE hl => ?_)
  have hl : lv_has ls 8 [(0, .ref (ad 102)), (1, .int so), (2, .int as)] := hl
  have hW : WS ad cA (fun i k => i = 118 ∨ i = 119) g0 K g0 H locs := ⟨hW0, hSh, FR.rf⟩
  refine q_iconst (v := ((-1) : Int32)) hM dX9_assign_0 (by decide) ?_
  refine q_istore_n (lv9 := [(3, .int ((-1) : Int32)), (0, .ref (ad 102)), (1, .int so), (2, .int as)]) hM dX9_assign_1 hl (by decide) rfl (fun ls hl => ?_)
  refine q_iconst (v := (5 : Int32)) hM dX9_assign_2 (by decide) ?_
  refine q_iconst (v := (5 : Int32)) hM dX9_assign_3 (by decide) ?_
  refine q_iload_n hM dX9_assign_4 (lv_at hl 3 rfl) ?_
  refine q_callS (As := [.int as]) (rest := [.int (5 : Int32), .int (5 : Int32)]) hM hW.1 hR hC myJ6_bitCount_0f7a4 (kAW (v_3_12 (List.mem_of_getElem? (i := 15) rfl)) rfl) (c_J6_bitCount_0f7a4 _ _ cA ad g0 as hW.2.1) ⟨by decide, by decide⟩ rfl rfl hl.1 (Nat.le_of_ble_eq_true rfl) dX9_assign_5 (fun v g1029 H locs hp hW1 => ?_)
  obtain ⟨r1028, rfl, hr1028, rfl⟩ := hp
  have hW : WS ad cA (fun i k => i = 118 ∨ i = 119) g0 K g0 H locs := ⟨hW1, hW.2.1, hW.2.2⟩
  refine q_mmin hM hR hC (kAW (v_3_13 (List.mem_of_getElem? (i := 0) rfl)) rfl) hl.1 (by decide) (Nat.le_of_ble_eq_true rfl) dX9_assign_8 (fun r1030 hr1030 => ?_)
  have := kc_5
  refine q_callS (As := [.int (5 : Int32), .int r1030]) (rest := []) hM hW.1 hR hC myX9_power (kAW (v_3_13 (List.mem_of_getElem? (i := 1) rfl)) rfl) (a_X9_power _ _ cA ad g0 (5 : Int32) r1030 hW.2.1 hG) ⟨by decide, by decide⟩ rfl rfl hl.1 (Nat.le_of_ble_eq_true rfl) dX9_assign_11 (fun v g1032 H locs hp hW1 => ?_)
  obtain ⟨r1031, rfl, hr1031, rfl⟩ := hp
  have hW : WS ad cA (fun i k => i = 118 ∨ i = 119) g0 K g0 H locs := ⟨hW1, hW.2.1, hW.2.2⟩
  refine q_istore (lv9 := [(4, .int r1031), (3, .int ((-1) : Int32)), (0, .ref (ad 102)), (1, .int so), (2, .int as)]) hM dX9_assign_14 hl (by decide) rfl (fun ls hl => ?_)
  refine q_iconst (v := (0 : Int32)) hM dX9_assign_16 (by decide) ?_
  refine q_istore (lv9 := [(5, .int (0 : Int32)), (4, .int r1031), (3, .int ((-1) : Int32)), (0, .ref (ad 102)), (1, .int so), (2, .int as)]) hM dX9_assign_17 hl (by decide) rfl (fun ls hl => ?_)
  have L19 : ∀ (fu19 : Nat) (w19_3 : Int32) (w19_5 : Int32) (g9 : Nat → va_E) (H : Heap) (locs : List Loc) (ls : Array Slot), (r1031.toInt - w19_5.toInt + 1).toNat < fu19 → (Rng g9) → (0 ≤ w19_5.toInt) → lv_has ls 8 [(0, .ref (ad 102)), (1, .int so), (2, .int as), (3, .int w19_3), (4, .int r1031), (5, .int w19_5)] → WS ad cA (fun i k => i = 118 ∨ i = 119) g0 K g9 H locs → XX K 0 0 H locs 19 ls [] := by
    intro fu19
    induction fu19 with
    | zero => intro w19_3 w19_5 g9 H locs ls h0; omega
    | succ fu19 ih19 =>
      intro w19_3 w19_5 g9 H locs ls hm19 i19_0 i19_1 hl hW
      have hG := i19_0
      have := i_rng r1031
      refine q_iload hM dX9_assign_19 (lv_at hl 5 rfl) ?_
      refine q_iload hM dX9_assign_21 (lv_at hl 4 rfl) ?_
      refine q_icmp_ge (tgt := 83) hM dX9_assign_23 (by decide) (rfl : w19_5.toInt = w19_5.toInt) (rfl : r1031.toInt = r1031.toInt) (fun h23 => ?_) (fun h23 => ?_)
      · refine q_iload_n hM dX9_assign_83 (lv_at hl 3 rfl) ?_
        exact hE _ _ _ _ _ _ hW.1 ⟨_, rfl, hW.2.1, hG, hW.2.2⟩ dX9_assign_84
      · refine q_aload_n hM dX9_assign_26 (lv_at hl 0 rfl) ?_
        refine q_iload hM dX9_assign_27 (lv_at hl 5 rfl) ?_
        refine q_iload hM dX9_assign_29 (lv_at hl 4 rfl) ?_
        refine q_iload_n hM dX9_assign_31 (lv_at hl 1 rfl) ?_
        refine q_iload_n hM dX9_assign_32 (lv_at hl 2 rfl) ?_
        refine q_callV (As := [.int w19_5, .int r1031, .int so, .int as]) (rest := []) hM hW.1 hR hC myX9_skillOf (kAW (v_3_13 (List.mem_of_getElem? (i := 4) rfl)) rfl) (rfl : vwCl[9]? = some (RX9, TX9, 5)) rfl lb_102.1 (shO hW.2.1 lb_102) (a_X9_skillOf _ _ cA ad g9 w19_5 r1031 so as hW.2.1 hG (by  omega)) ⟨by decide, by decide⟩ rfl rfl hl.1 (Nat.le_of_ble_eq_true rfl) dX9_assign_33 (fun v g1037 H locs hp hW1 => ?_)
        obtain ⟨r1036, rfl, hs1, hG, hf1⟩ := hp
        have hW : WS ad cA (fun i k => i = 118 ∨ i = 119) g0 K g1037 H locs := ⟨hW1, hs1, hW.2.2.tr hf1 (fun i k h => (Or.inr h))⟩
        refine q_istore (lv9 := [(6, .int r1036), (0, .ref (ad 102)), (1, .int so), (2, .int as), (3, .int w19_3), (4, .int r1031), (5, .int w19_5)]) hM dX9_assign_36 hl (by decide) rfl (fun ls hl => ?_)
        refine q_iload hM dX9_assign_38 (lv_at hl 0 rfl) ?_
        refine q_iload_n hM dX9_assign_40 (lv_at hl 4 rfl) ?_
        refine q_icmp_le (tgt := 77) hM dX9_assign_41 (by decide) (rfl : r1036.toInt = r1036.toInt) (rfl : w19_3.toInt = w19_3.toInt) (fun h41 => ?_) (fun h41 => ?_)
        · refine q_iinc (lv9 := fun z1039 => [(5, .int z1039), (6, .int r1036), (0, .ref (ad 102)), (1, .int so), (2, .int as), (3, .int w19_3), (4, .int r1031)]) hM dX9_assign_77 hl (kq := 6) rfl (by decide) (fun _ => rfl) (fun z1039 ls hz1039 hl => ?_)
          first | have tz1039 := i_addT hz1039 (rfl : w19_5.toInt = w19_5.toInt) (kc_1 : (Int32.ofInt 1).toInt = 1) (by omega) (by omega) | skip
          refine q_goto (tgt := 19) hM dX9_assign_80 (by decide) ?_
          exact ih19 w19_3 z1039 _ _ _ _ (by omega) hG (by omega) (lv_sub hl [2, 3, 4, 5, 6, 0] rfl) hW
        · refine q_iload hM dX9_assign_44 (lv_at hl 0 rfl) ?_
          refine q_istore_n (lv9 := [(3, .int r1036), (6, .int r1036), (0, .ref (ad 102)), (1, .int so), (2, .int as), (4, .int r1031), (5, .int w19_5)]) hM dX9_assign_46 hl (by decide) rfl (fun ls hl => ?_)
          refine q_iconst (v := (0 : Int32)) hM dX9_assign_47 (by decide) ?_
          refine q_istore (lv9 := [(7, .int (0 : Int32)), (3, .int r1036), (6, .int r1036), (0, .ref (ad 102)), (1, .int so), (2, .int as), (4, .int r1031), (5, .int w19_5)]) hM dX9_assign_48 hl (by decide) rfl (fun ls hl => ?_)
          have L50 : ∀ (fu50 : Nat) (w50_7 : Int32) (g9 : Nat → va_E) (H : Heap) (locs : List Loc) (ls : Array Slot), (6 - w50_7.toInt).toNat < fu50 → (Rng g9) → (0 ≤ w50_7.toInt) → (w50_7.toInt ≤ 6) → lv_has ls 8 [(0, .ref (ad 102)), (1, .int so), (2, .int as), (3, .int r1036), (4, .int r1031), (5, .int w19_5), (6, .int r1036), (7, .int w50_7)] → WS ad cA (fun i k => i = 118 ∨ i = 119) g0 K g9 H locs → XX K 0 0 H locs 50 ls [] := by
            intro fu50
            induction fu50 with
            | zero => intro w50_7 g9 H locs ls h0; omega
            | succ fu50 ih50 =>
              intro w50_7 g9 H locs ls hm50 i50_0 i50_1 i50_2 hl hW
              have hG := i50_0
              refine q_iload hM dX9_assign_50 (lv_at hl 7 rfl) ?_
              refine q_bipush (v := (6 : Int32)) hM dX9_assign_52 (by decide) ?_
              refine q_icmp_ge (tgt := 77) hM dX9_assign_54 (by decide) (rfl : w50_7.toInt = w50_7.toInt) (kc_6 : (6 : Int32).toInt = 6) (fun h54 => ?_) (fun h54 => ?_)
              · refine q_iinc (lv9 := fun z1043 => [(5, .int z1043), (0, .ref (ad 102)), (1, .int so), (2, .int as), (3, .int r1036), (4, .int r1031), (6, .int r1036), (7, .int w50_7)]) hM dX9_assign_77 hl (kq := 5) rfl (by decide) (fun _ => rfl) (fun z1043 ls hz1043 hl => ?_)
                first | have tz1043 := i_addT hz1043 (rfl : w19_5.toInt = w19_5.toInt) (kc_1 : (Int32.ofInt 1).toInt = 1) (by omega) (by omega) | skip
                refine q_goto (tgt := 19) hM dX9_assign_80 (by decide) ?_
                exact ih19 r1036 z1043 _ _ _ _ (by omega) hG (by omega) (lv_sub hl [1, 2, 3, 4, 5, 0] rfl) hW
              · refine q_aload_n hM dX9_assign_57 (lv_at hl 0 rfl) ?_
                refine w_get (v := .ref (ad 118)) hM hW FG_X9_19 lb_102 (rf_102_2 hW.2.1) dX9_assign_58 ?_
                refine q_iload hM dX9_assign_61 (lv_at hl 7 rfl) ?_
                refine q_aload_n hM dX9_assign_63 (lv_at hl 0 rfl) ?_
                refine w_get (v := .ref (ad 119)) hM hW FG_X9_23 lb_102 (rf_102_3 hW.2.1) dX9_assign_64 ?_
                refine q_iload hM dX9_assign_67 (lv_at hl 7 rfl) ?_
                refine w_iald hM hW lb_119 (i_in (by omega) (by omega)) dX9_assign_69 ?_
                refine q_top (fun y1045 hy1045 => ?_)
                refine w_iast hM hW lb_118 (by omega) (i_in (by omega) (by omega)) dX9_assign_70 (fun g1046 H locs hW e1 e2 => ?_)
                have hG := hG.st e1 e2 (rfl : rA 118 = (-2147483648, 2147483647)) (by have := i_rng y1045; omega) (by have := i_rng y1045; omega)
                refine q_iinc (lv9 := fun z1047 => [(7, .int z1047), (0, .ref (ad 102)), (1, .int so), (2, .int as), (3, .int r1036), (4, .int r1031), (5, .int w19_5), (6, .int r1036)]) hM dX9_assign_71 hl (kq := 7) rfl (by decide) (fun _ => rfl) (fun z1047 ls hz1047 hl => ?_)
                first | have tz1047 := i_addT hz1047 (rfl : w50_7.toInt = w50_7.toInt) (kc_1 : (Int32.ofInt 1).toInt = 1) (by omega) (by omega) | skip
                refine q_goto (tgt := 50) hM dX9_assign_74 (by decide) ?_
                exact ih50 z1047 _ _ _ _ (by omega) hG (by omega) (by omega) (lv_sub hl [1, 2, 3, 4, 5, 6, 7, 0] rfl) hW
          have := kc_0
          exact L50 _ (0 : Int32) _ _ _ _ (Nat.lt_succ_self _) hG (by omega) (by omega) (lv_sub hl [3, 4, 5, 1, 6, 7, 2, 0] rfl) hW
  have := kc_m1
  have := kc_0
  exact L19 _ ((-1) : Int32) (0 : Int32) _ _ _ _ (Nat.lt_succ_self _) hG (by omega) (lv_sub hl [3, 4, 5, 2, 1, 0] rfl) hW

theorem dX8_packed_0 : decode cX8_packed 0 = .ok (.lconst 0, 1) := by decide +kernel
theorem dX8_packed_1 : decode cX8_packed 1 = .ok (.lstore_n 2, 1) := by decide +kernel
theorem dX8_packed_2 : decode cX8_packed 2 = .ok (.iload_n 1, 1) := by decide +kernel
theorem dX8_packed_3 : decode cX8_packed 3 = .ok (.istore 4, 2) := by decide +kernel
theorem dX8_packed_5 : decode cX8_packed 5 = .ok (.iload 4, 2) := by decide +kernel
theorem dX8_packed_7 : decode cX8_packed 7 = .ok (.iload_n 1, 1) := by decide +kernel
theorem dX8_packed_8 : decode cX8_packed 8 = .ok (.bipush 6, 2) := by decide +kernel
theorem dX8_packed_10 : decode cX8_packed 10 = .ok (.iadd, 1) := by decide +kernel
theorem dX8_packed_11 : decode cX8_packed 11 = .ok (.if_icmp .ge 27, 3) := by decide +kernel
theorem dX8_packed_14 : decode cX8_packed 14 = .ok (.iload 4, 2) := by decide +kernel
theorem dX8_packed_16 : decode cX8_packed 16 = .ok (.aload_n 0, 1) := by decide +kernel
theorem dX8_packed_17 : decode cX8_packed 17 = .ok (.arraylength, 1) := by decide +kernel
theorem dX8_packed_18 : decode cX8_packed 18 = .ok (.if_icmp .ge 20, 3) := by decide +kernel
theorem dX8_packed_21 : decode cX8_packed 21 = .ok (.lload_n 2, 1) := by decide +kernel
theorem dX8_packed_22 : decode cX8_packed 22 = .ok (.bipush 7, 2) := by decide +kernel
theorem dX8_packed_24 : decode cX8_packed 24 = .ok (.lshl, 1) := by decide +kernel
theorem dX8_packed_25 : decode cX8_packed 25 = .ok (.aload_n 0, 1) := by decide +kernel
theorem dX8_packed_26 : decode cX8_packed 26 = .ok (.iload 4, 2) := by decide +kernel
theorem dX8_packed_28 : decode cX8_packed 28 = .ok (.iaload, 1) := by decide +kernel
theorem dX8_packed_29 : decode cX8_packed 29 = .ok (.i2l, 1) := by decide +kernel
theorem dX8_packed_30 : decode cX8_packed 30 = .ok (.lor, 1) := by decide +kernel
theorem dX8_packed_31 : decode cX8_packed 31 = .ok (.lstore_n 2, 1) := by decide +kernel
theorem dX8_packed_32 : decode cX8_packed 32 = .ok (.iinc 4 1, 3) := by decide +kernel
theorem dX8_packed_35 : decode cX8_packed 35 = .ok (.goto (-30), 3) := by decide +kernel
theorem dX8_packed_38 : decode cX8_packed 38 = .ok (.lload_n 2, 1) := by decide +kernel
theorem dX8_packed_39 : decode cX8_packed 39 = .ok (.lreturn, 1) := by decide +kernel
set_option maxRecDepth 100000 in
set_option maxHeartbeats 4000000 in
theorem a_X8_packed (l : Launch) (D : va_G) (cA : Nat → ClassId) (ad : Nat → Nat) (g0 : Nat → va_E) (sr : Nat) (sa : Int32) (hSh : Shp ad cA g0) (hG : Rng g0) (hsr : isSr sr) (sa0 : 0 ≤ sa.toInt) (sa6 : sa.toInt ≤ 6) : CT l NN ad cA D yX8_packed cX8_packed 5 (some FieldType.long) (0, 0) [.ref (ad sr), .int sa] g0 (PUJ g0) := by
  refine q_enterJ (by decide) (Nat.le_of_ble_eq_true rfl) (fun K H locs ls _ _ hM hW0 hR hC hE hl => ?_)
  have hl : lv_has ls 5 [(0, .ref (ad sr)), (1, .int sa)] := hl
  have hW : WS ad cA (fun i k => False) g0 K g0 H locs := ⟨hW0, hSh, FR.rf⟩
  have usr := hsr
  unfold isSr at usr
  refine q_lconst (v := 0) hM dX8_packed_0 (by decide) ?_
  have := kl_0
  refine q_lstore_n (lv9 := [(2, .long (0 : Int64)), (0, .ref (ad sr)), (1, .int sa)]) hM dX8_packed_1 hl (by decide) rfl (fun ls hl => ?_)
  refine q_iload_n hM dX8_packed_2 (lv_at hl 2 rfl) ?_
  refine q_istore (lv9 := [(4, .int sa), (2, .long (0 : Int64)), (0, .ref (ad sr)), (1, .int sa)]) hM dX8_packed_3 hl (by decide) rfl (fun ls hl => ?_)
  have L5 : ∀ (fu5 : Nat) (W5_2 : Int64) (w5_4 : Int32) (H : Heap) (locs : List Loc) (ls : Array Slot), (12 - w5_4.toInt).toNat < fu5 → (sa.toInt ≤ w5_4.toInt) → (w5_4.toInt ≤ 12) → lv_has ls 5 [(0, .ref (ad sr)), (1, .int sa), (2, .long W5_2), (4, .int w5_4)] → WS ad cA (fun i k => False) g0 K g0 H locs → XX K 0 0 H locs 5 ls [] := by
    intro fu5
    induction fu5 with
    | zero => intro W5_2 w5_4 H locs ls h0; omega
    | succ fu5 ih5 =>
      intro W5_2 w5_4 H locs ls hm5 i5_0 i5_1 hl hW
      refine q_iload hM dX8_packed_5 (lv_at hl 3 rfl) ?_
      refine q_iload_n hM dX8_packed_7 (lv_at hl 1 rfl) ?_
      refine q_bipush (v := (6 : Int32)) hM dX8_packed_8 (by decide) ?_
      refine q_iadd hM dX8_packed_10 (fun z1049 hz1049 => ?_)
      first | have tz1049 := i_addT hz1049 (rfl : sa.toInt = sa.toInt) (kc_6 : (6 : Int32).toInt = 6) (by omega) (by omega) | skip
      refine q_icmp_ge (tgt := 38) hM dX8_packed_11 (by decide) (rfl : w5_4.toInt = w5_4.toInt) (rfl : z1049.toInt = z1049.toInt) (fun h11 => ?_) (fun h11 => ?_)
      · refine q_lload_n hM dX8_packed_38 (lv_at hl 2 rfl) ?_
        exact hE _ _ _ _ _ _ hW.1 ⟨_, rfl, rfl⟩ dX8_packed_39
      · refine q_iload hM dX8_packed_14 (lv_at hl 3 rfl) ?_
        refine q_aload_n hM dX8_packed_16 (lv_at hl 0 rfl) ?_
        refine q_alen (v := (12 : Int32)) hM hW.1 (la_Sr hsr).1 (shA hW.2.1 (la_Sr hsr)) (by decide) dX8_packed_17 ?_
        refine q_icmp_ge (tgt := 38) hM dX8_packed_18 (by decide) (rfl : w5_4.toInt = w5_4.toInt) (kc_12 : (12 : Int32).toInt = 12) (fun h18 => ?_) (fun h18 => ?_)
        · refine q_lload_n hM dX8_packed_38 (lv_at hl 2 rfl) ?_
          exact hE _ _ _ _ _ _ hW.1 ⟨_, rfl, rfl⟩ dX8_packed_39
        · refine q_lload_n hM dX8_packed_21 (lv_at hl 2 rfl) ?_
          refine q_bipush (v := (7 : Int32)) hM dX8_packed_22 (by decide) ?_
          refine q_lshl hM dX8_packed_24 ?_
          refine q_aload_n hM dX8_packed_25 (lv_at hl 0 rfl) ?_
          refine q_iload hM dX8_packed_26 (lv_at hl 3 rfl) ?_
          refine w_iald hM hW (la_Sr hsr) (i_in (by omega) (by omega)) dX8_packed_28 ?_
          refine q_top (fun y1054 hy1054 => ?_)
          refine q_i2l hM dX8_packed_29 ?_
          have := l_i2l y1054
          refine q_lor hM dX8_packed_30 ?_
          refine q_lstore_n (lv9 := [(2, .long ((W5_2 <<< ((7 : Int32).toInt64 &&& 63)) ||| y1054.toInt64)), (0, .ref (ad sr)), (1, .int sa), (4, .int w5_4)]) hM dX8_packed_31 hl (by decide) rfl (fun ls hl => ?_)
          refine q_iinc (lv9 := fun z1055 => [(4, .int z1055), (2, .long ((W5_2 <<< ((7 : Int32).toInt64 &&& 63)) ||| y1054.toInt64)), (0, .ref (ad sr)), (1, .int sa)]) hM dX8_packed_32 hl (kq := 3) rfl (by decide) (fun _ => rfl) (fun z1055 ls hz1055 hl => ?_)
          first | have tz1055 := i_addT hz1055 (rfl : w5_4.toInt = w5_4.toInt) (kc_1 : (Int32.ofInt 1).toInt = 1) (by omega) (by omega) | skip
          refine q_goto (tgt := 5) hM dX8_packed_35 (by decide) ?_
          exact ih5 ((W5_2 <<< ((7 : Int32).toInt64 &&& 63)) ||| y1054.toInt64) z1055 _ _ _ (by omega) (by omega) (by omega) (lv_sub hl [2, 3, 1, 0] rfl) hW
  exact L5 _ (0 : Int64) sa _ _ _ (Nat.lt_succ_self _) (by omega) (by omega) (lv_sub hl [2, 3, 1, 0] rfl) hW

theorem dX8_add_0 : decode cX8_add 0 = .ok (.aload_n 1, 1) := by decide +kernel
theorem dX8_add_1 : decode cX8_add 1 = .ok (.iconst 0, 1) := by decide +kernel
theorem dX8_add_2 : decode cX8_add 2 = .ok (.invokestatic 82, 3) := by decide +kernel
theorem dX8_add_5 : decode cX8_add 5 = .ok (.lstore 4, 2) := by decide +kernel
theorem dX8_add_7 : decode cX8_add 7 = .ok (.aload_n 1, 1) := by decide +kernel
theorem dX8_add_8 : decode cX8_add 8 = .ok (.bipush 6, 2) := by decide +kernel
theorem dX8_add_10 : decode cX8_add 10 = .ok (.invokestatic 82, 3) := by decide +kernel
theorem dX8_add_13 : decode cX8_add 13 = .ok (.lstore 6, 2) := by decide +kernel
theorem dX8_add_15 : decode cX8_add 15 = .ok (.iload_n 2, 1) := by decide +kernel
theorem dX8_add_16 : decode cX8_add 16 = .ok (.ifCond .ge 7, 3) := by decide +kernel
theorem dX8_add_19 : decode cX8_add 19 = .ok (.iconst 0, 1) := by decide +kernel
theorem dX8_add_20 : decode cX8_add 20 = .ok (.goto 11, 3) := by decide +kernel
theorem dX8_add_23 : decode cX8_add 23 = .ok (.aload_n 0, 1) := by decide +kernel
theorem dX8_add_24 : decode cX8_add 24 = .ok (.getfield 28, 3) := by decide +kernel
theorem dX8_add_27 : decode cX8_add 27 = .ok (.iload_n 2, 1) := by decide +kernel
theorem dX8_add_28 : decode cX8_add 28 = .ok (.iaload, 1) := by decide +kernel
theorem dX8_add_29 : decode cX8_add 29 = .ok (.iconst 1, 1) := by decide +kernel
theorem dX8_add_30 : decode cX8_add 30 = .ok (.iadd, 1) := by decide +kernel
theorem dX8_add_31 : decode cX8_add 31 = .ok (.istore 8, 2) := by decide +kernel
theorem dX8_add_33 : decode cX8_add 33 = .ok (.iload 8, 2) := by decide +kernel
theorem dX8_add_35 : decode cX8_add 35 = .ok (.iconst 5, 1) := by decide +kernel
theorem dX8_add_36 : decode cX8_add 36 = .ok (.if_icmp .ge 13, 3) := by decide +kernel
theorem dX8_add_39 : decode cX8_add 39 = .ok (.aload_n 0, 1) := by decide +kernel
theorem dX8_add_40 : decode cX8_add 40 = .ok (.getfield 31, 3) := by decide +kernel
theorem dX8_add_43 : decode cX8_add 43 = .ok (.sipush 341, 3) := by decide +kernel
theorem dX8_add_46 : decode cX8_add 46 = .ok (.if_icmp .lt 4, 3) := by decide +kernel
theorem dX8_add_49 : decode cX8_add 49 = .ok (.return_, 1) := by decide +kernel
theorem dX8_add_50 : decode cX8_add 50 = .ok (.iconst 0, 1) := by decide +kernel
theorem dX8_add_51 : decode cX8_add 51 = .ok (.istore 9, 2) := by decide +kernel
theorem dX8_add_53 : decode cX8_add 53 = .ok (.iload 9, 2) := by decide +kernel
theorem dX8_add_55 : decode cX8_add 55 = .ok (.aload_n 0, 1) := by decide +kernel
theorem dX8_add_56 : decode cX8_add 56 = .ok (.getfield 31, 3) := by decide +kernel
theorem dX8_add_59 : decode cX8_add 59 = .ok (.if_icmp .ge 36, 3) := by decide +kernel
theorem dX8_add_62 : decode cX8_add 62 = .ok (.aload_n 0, 1) := by decide +kernel
theorem dX8_add_63 : decode cX8_add 63 = .ok (.getfield 15, 3) := by decide +kernel
theorem dX8_add_66 : decode cX8_add 66 = .ok (.iload 9, 2) := by decide +kernel
theorem dX8_add_68 : decode cX8_add 68 = .ok (.laload, 1) := by decide +kernel
theorem dX8_add_69 : decode cX8_add 69 = .ok (.lload 4, 2) := by decide +kernel
theorem dX8_add_71 : decode cX8_add 71 = .ok (.lcmp, 1) := by decide +kernel
theorem dX8_add_72 : decode cX8_add 72 = .ok (.ifCond .ne 17, 3) := by decide +kernel
theorem dX8_add_75 : decode cX8_add 75 = .ok (.aload_n 0, 1) := by decide +kernel
theorem dX8_add_76 : decode cX8_add 76 = .ok (.getfield 19, 3) := by decide +kernel
theorem dX8_add_79 : decode cX8_add 79 = .ok (.iload 9, 2) := by decide +kernel
theorem dX8_add_81 : decode cX8_add 81 = .ok (.laload, 1) := by decide +kernel
theorem dX8_add_82 : decode cX8_add 82 = .ok (.lload 6, 2) := by decide +kernel
theorem dX8_add_84 : decode cX8_add 84 = .ok (.lcmp, 1) := by decide +kernel
theorem dX8_add_85 : decode cX8_add 85 = .ok (.ifCond .ne 4, 3) := by decide +kernel
theorem dX8_add_88 : decode cX8_add 88 = .ok (.return_, 1) := by decide +kernel
theorem dX8_add_89 : decode cX8_add 89 = .ok (.iinc 9 1, 3) := by decide +kernel
theorem dX8_add_92 : decode cX8_add 92 = .ok (.goto (-39), 3) := by decide +kernel
theorem dX8_add_95 : decode cX8_add 95 = .ok (.aload_n 0, 1) := by decide +kernel
theorem dX8_add_96 : decode cX8_add 96 = .ok (.getfield 15, 3) := by decide +kernel
theorem dX8_add_99 : decode cX8_add 99 = .ok (.aload_n 0, 1) := by decide +kernel
theorem dX8_add_100 : decode cX8_add 100 = .ok (.getfield 31, 3) := by decide +kernel
theorem dX8_add_103 : decode cX8_add 103 = .ok (.lload 4, 2) := by decide +kernel
theorem dX8_add_105 : decode cX8_add 105 = .ok (.lastore, 1) := by decide +kernel
theorem dX8_add_106 : decode cX8_add 106 = .ok (.aload_n 0, 1) := by decide +kernel
theorem dX8_add_107 : decode cX8_add 107 = .ok (.getfield 19, 3) := by decide +kernel
theorem dX8_add_110 : decode cX8_add 110 = .ok (.aload_n 0, 1) := by decide +kernel
theorem dX8_add_111 : decode cX8_add 111 = .ok (.getfield 31, 3) := by decide +kernel
theorem dX8_add_114 : decode cX8_add 114 = .ok (.lload 6, 2) := by decide +kernel
theorem dX8_add_116 : decode cX8_add 116 = .ok (.lastore, 1) := by decide +kernel
theorem dX8_add_117 : decode cX8_add 117 = .ok (.aload_n 0, 1) := by decide +kernel
theorem dX8_add_118 : decode cX8_add 118 = .ok (.getfield 22, 3) := by decide +kernel
theorem dX8_add_121 : decode cX8_add 121 = .ok (.aload_n 0, 1) := by decide +kernel
theorem dX8_add_122 : decode cX8_add 122 = .ok (.getfield 31, 3) := by decide +kernel
theorem dX8_add_125 : decode cX8_add 125 = .ok (.iload_n 2, 1) := by decide +kernel
theorem dX8_add_126 : decode cX8_add 126 = .ok (.iastore, 1) := by decide +kernel
theorem dX8_add_127 : decode cX8_add 127 = .ok (.aload_n 0, 1) := by decide +kernel
theorem dX8_add_128 : decode cX8_add 128 = .ok (.getfield 25, 3) := by decide +kernel
theorem dX8_add_131 : decode cX8_add 131 = .ok (.aload_n 0, 1) := by decide +kernel
theorem dX8_add_132 : decode cX8_add 132 = .ok (.getfield 31, 3) := by decide +kernel
theorem dX8_add_135 : decode cX8_add 135 = .ok (.iload_n 3, 1) := by decide +kernel
theorem dX8_add_136 : decode cX8_add 136 = .ok (.iastore, 1) := by decide +kernel
theorem dX8_add_137 : decode cX8_add 137 = .ok (.aload_n 0, 1) := by decide +kernel
theorem dX8_add_138 : decode cX8_add 138 = .ok (.getfield 28, 3) := by decide +kernel
theorem dX8_add_141 : decode cX8_add 141 = .ok (.aload_n 0, 1) := by decide +kernel
theorem dX8_add_142 : decode cX8_add 142 = .ok (.getfield 31, 3) := by decide +kernel
theorem dX8_add_145 : decode cX8_add 145 = .ok (.iload 8, 2) := by decide +kernel
theorem dX8_add_147 : decode cX8_add 147 = .ok (.iastore, 1) := by decide +kernel
theorem dX8_add_148 : decode cX8_add 148 = .ok (.aload_n 0, 1) := by decide +kernel
theorem dX8_add_149 : decode cX8_add 149 = .ok (.dup, 1) := by decide +kernel
theorem dX8_add_150 : decode cX8_add 150 = .ok (.getfield 31, 3) := by decide +kernel
theorem dX8_add_153 : decode cX8_add 153 = .ok (.iconst 1, 1) := by decide +kernel
theorem dX8_add_154 : decode cX8_add 154 = .ok (.iadd, 1) := by decide +kernel
theorem dX8_add_155 : decode cX8_add 155 = .ok (.putfield 31, 3) := by decide +kernel
theorem dX8_add_158 : decode cX8_add 158 = .ok (.return_, 1) := by decide +kernel
theorem myX8_packed : MS yX8_packed cX8_packed 5 (some FieldType.long) 2 := ⟨kAW (v_3_5 (List.mem_of_getElem? (i := 8) rfl)) rfl, kAW (v_0_0 (List.mem_of_getElem? (i := 11) rfl)) rfl, kAW (v_3_5 (List.mem_of_getElem? (i := 7) rfl)) rfl, by decide, by decide, by decide +kernel⟩
theorem FG_X8_28 : FG RX8 28 8 7 5 := ⟨RX8, TX8, rfl, wX8, by decide, kAW (v_1_4 (List.mem_of_getElem? (i := 5) rfl)) rfl, rfl⟩
theorem FG_X8_31 : FG RX8 31 8 7 6 := ⟨RX8, TX8, rfl, wX8, by decide, kAW (v_1_4 (List.mem_of_getElem? (i := 6) rfl)) rfl, rfl⟩
theorem FG_X8_15 : FG RX8 15 8 7 1 := ⟨RX8, TX8, rfl, wX8, by decide, kAW (v_1_4 (List.mem_of_getElem? (i := 1) rfl)) rfl, rfl⟩
theorem FG_X8_19 : FG RX8 19 8 7 2 := ⟨RX8, TX8, rfl, wX8, by decide, kAW (v_1_4 (List.mem_of_getElem? (i := 2) rfl)) rfl, rfl⟩
theorem FG_X8_22 : FG RX8 22 8 7 3 := ⟨RX8, TX8, rfl, wX8, by decide, kAW (v_1_4 (List.mem_of_getElem? (i := 3) rfl)) rfl, rfl⟩
theorem FG_X8_25 : FG RX8 25 8 7 4 := ⟨RX8, TX8, rfl, wX8, by decide, kAW (v_1_4 (List.mem_of_getElem? (i := 4) rfl)) rfl, rfl⟩
theorem FP_X8_31 : FPX RX8 31 8 7 6 .int := ⟨⟨RX8, TX8, tyX8, rfl, wX8, by decide, kAW (v_1_4 (List.mem_of_getElem? (i := 6) rfl)) rfl, rfl, tyX8_ok, nmX8, by decide +kernel, rfl⟩, by decide +kernel⟩
set_option maxRecDepth 100000 in
set_option maxHeartbeats 4000000 in
theorem a_X8_add (l : Launch) (D : va_G) (cA : Nat → ClassId) (ad : Nat → Nat) (g0 : Nat → va_E) (sr : Nat) (be : Int32) (k : Int32)   (hSh : Shp ad cA g0) (hG : Rng g0) (hsr : isSr sr) (be0 : -1 ≤ be.toInt) (be1 : be.toInt ≤ 340) : CT l NN ad cA D yX8_add cX8_add 10 none (1, 24) [.ref (ad 120), .ref (ad sr), .int be, .int k] g0 (fun v g' => v = none ∧ Shp ad cA g' ∧ Rng g' ∧ FR (fun i k => i = 122 ∨ i = 123 ∨ i = 124 ∨ i = 125 ∨ i = 126 ∨ (i = 120 ∧ (k = 6))) g0 g') := by
  refine q_enterV (by decide) (Nat.le_of_ble_eq_true rfl) (fun K H locs ls _ _ hM hW0 hR hC hE hl => ?_)
  have hl : lv_has ls 10 [(0, .ref (ad 120)), (1, .ref (ad sr)), (2, .int be), (3, .int k)] := hl
  have hW : WS ad cA (fun i k => i = 122 ∨ i = 123 ∨ i = 124 ∨ i = 125 ∨ i = 126 ∨ (i = 120 ∧ (k = 6))) g0 K g0 H locs := ⟨hW0, hSh, FR.rf⟩
  have usr := hsr
  unfold isSr at usr
  refine q_aload_n hM dX8_add_0 (lv_at hl 1 rfl) ?_
  refine q_iconst (v := (0 : Int32)) hM dX8_add_1 (by decide) ?_
  refine q_callS (As := [.ref (ad sr), .int (0 : Int32)]) (rest := []) hM hW.1 hR hC myX8_packed (kAW (v_3_5 (List.mem_of_getElem? (i := 6) rfl)) rfl) (a_X8_packed _ _ cA ad g0 sr (0 : Int32) hW.2.1 hG hsr (by have := kc_0; omega) (by have := kc_0; omega)) ⟨by decide, by decide⟩ rfl rfl hl.1 (Nat.le_of_ble_eq_true rfl) dX8_add_2 (fun v g1057 H locs hp hW1 => ?_)
  obtain ⟨r1056, rfl, rfl⟩ := hp
  have hW : WS ad cA (fun i k => i = 122 ∨ i = 123 ∨ i = 124 ∨ i = 125 ∨ i = 126 ∨ (i = 120 ∧ (k = 6))) g0 K g0 H locs := ⟨hW1, hW.2.1, hW.2.2⟩
  refine q_lstore (lv9 := [(4, .long r1056), (0, .ref (ad 120)), (1, .ref (ad sr)), (2, .int be), (3, .int k)]) hM dX8_add_5 hl (by decide) rfl (fun ls hl => ?_)
  refine q_aload_n hM dX8_add_7 (lv_at hl 2 rfl) ?_
  refine q_bipush (v := (6 : Int32)) hM dX8_add_8 (by decide) ?_
  refine q_callS (As := [.ref (ad sr), .int (6 : Int32)]) (rest := []) hM hW.1 hR hC myX8_packed (kAW (v_3_5 (List.mem_of_getElem? (i := 6) rfl)) rfl) (a_X8_packed _ _ cA ad g0 sr (6 : Int32) hW.2.1 hG hsr (by have := kc_6; omega) (by have := kc_6; omega)) ⟨by decide, by decide⟩ rfl rfl hl.1 (Nat.le_of_ble_eq_true rfl) dX8_add_10 (fun v g1059 H locs hp hW1 => ?_)
  obtain ⟨r1058, rfl, rfl⟩ := hp
  have hW : WS ad cA (fun i k => i = 122 ∨ i = 123 ∨ i = 124 ∨ i = 125 ∨ i = 126 ∨ (i = 120 ∧ (k = 6))) g0 K g0 H locs := ⟨hW1, hW.2.1, hW.2.2⟩
  refine q_lstore (lv9 := [(6, .long r1058), (4, .long r1056), (0, .ref (ad 120)), (1, .ref (ad sr)), (2, .int be), (3, .int k)]) hM dX8_add_13 hl (by decide) rfl (fun ls hl => ?_)
  refine q_iload_n hM dX8_add_15 (lv_at hl 4 rfl) ?_
  refine q_if_ge (tgt := 23) hM dX8_add_16 (by decide) (rfl : be.toInt = be.toInt) (fun h16 => ?_) (fun h16 => ?_)
  · refine q_aload_n hM dX8_add_23 (lv_at hl 2 rfl) ?_
    refine w_get (v := .ref (ad 126)) hM hW FG_X8_28 lb_120 (rf_120_5 hW.2.1) dX8_add_24 ?_
    refine q_iload_n hM dX8_add_27 (lv_at hl 4 rfl) ?_
    refine w_iald hM hW lb_126 (i_in (by omega) (by omega)) dX8_add_28 ?_
    refine q_top (fun y1061 hy1061 => ?_)
    have by1061 := hG.a hy1061 rA_126
    refine q_iconst (v := (1 : Int32)) hM dX8_add_29 (by decide) ?_
    refine q_iadd hM dX8_add_30 (fun z1062 hz1062 => ?_)
    first | have tz1062 := i_addT hz1062 (rfl : y1061.toInt = y1061.toInt) (kc_1 : (1 : Int32).toInt = 1) (by omega) (by omega) | skip
    refine q_istore (lv9 := [(8, .int z1062), (6, .long r1058), (4, .long r1056), (0, .ref (ad 120)), (1, .ref (ad sr)), (2, .int be), (3, .int k)]) hM dX8_add_31 hl (by decide) rfl (fun ls hl => ?_)
    refine q_iload hM dX8_add_33 (lv_at hl 0 rfl) ?_
    refine q_iconst (v := (5 : Int32)) hM dX8_add_35 (by decide) ?_
    refine q_icmp_ge (tgt := 49) hM dX8_add_36 (by decide) (rfl : z1062.toInt = z1062.toInt) (kc_5 : (5 : Int32).toInt = 5) (fun h36 => ?_) (fun h36 => ?_)
    · exact hE _ _ _ _ _ hW.1 ⟨rfl, hW.2.1, hG, hW.2.2⟩ dX8_add_49
    · refine q_aload_n hM dX8_add_39 (lv_at hl 3 rfl) ?_
      refine w_getI hM hW FG_X8_31 lb_120 (by decide) (by decide) dX8_add_40 (fun x1065 fx1065 => ?_)
      have bx1065 := hG.f fx1065 rF_120_6 (by decide)
      refine q_sipush (v := (341 : Int32)) hM dX8_add_43 (by decide) ?_
      refine q_icmp_lt (tgt := 50) hM dX8_add_46 (by decide) (rfl : x1065.toInt = x1065.toInt) (kc_341 : (341 : Int32).toInt = 341) (fun h46 => ?_) (fun h46 => ?_)
      · refine q_iconst (v := (0 : Int32)) hM dX8_add_50 (by decide) ?_
        refine q_istore (lv9 := [(9, .int (0 : Int32)), (8, .int z1062), (6, .long r1058), (4, .long r1056), (0, .ref (ad 120)), (1, .ref (ad sr)), (2, .int be), (3, .int k)]) hM dX8_add_51 hl (by decide) rfl (fun ls hl => ?_)
        have L53 : ∀ (fu53 : Nat) (w53_9 : Int32) (sz : Int32) (g9 : Nat → va_E) (H : Heap) (locs : List Loc) (ls : Array Slot), (341 - w53_9.toInt).toNat < fu53 → (Rng g9) → (0 ≤ w53_9.toInt) → (w53_9.toInt ≤ 341) → (0 ≤ sz.toInt) → (sz.toInt < 341) → (fld g9 120 6 = .int sz) → lv_has ls 10 [(0, .ref (ad 120)), (1, .ref (ad sr)), (2, .int be), (3, .int k), (4, .long r1056), (6, .long r1058), (8, .int z1062), (9, .int w53_9)] → WS ad cA (fun i k => i = 122 ∨ i = 123 ∨ i = 124 ∨ i = 125 ∨ i = 126 ∨ (i = 120 ∧ (k = 6))) g0 K g9 H locs → XX K 0 0 H locs 53 ls [] := by
          intro fu53
          induction fu53 with
          | zero => intro w53_9 sz g9 H locs ls h0; omega
          | succ fu53 ih53 =>
            intro w53_9 sz g9 H locs ls hm53 i53_0 i53_1 i53_2 i53_3 i53_4 c53_120_6 hl hW
            have hG := i53_0
            refine q_iload hM dX8_add_53 (lv_at hl 7 rfl) ?_
            refine q_aload_n hM dX8_add_55 (lv_at hl 0 rfl) ?_
            refine w_get (v := .int sz) hM hW FG_X8_31 lb_120 c53_120_6 dX8_add_56 ?_
            have bsz := hG.f c53_120_6 rF_120_6 (by decide)
            refine q_icmp_ge (tgt := 95) hM dX8_add_59 (by decide) (rfl : w53_9.toInt = w53_9.toInt) (rfl : sz.toInt = sz.toInt) (fun h59 => ?_) (fun h59 => ?_)
            · refine q_aload_n hM dX8_add_95 (lv_at hl 0 rfl) ?_
              refine w_get (v := .ref (ad 122)) hM hW FG_X8_15 lb_120 (rf_120_1 hW.2.1) dX8_add_96 ?_
              refine q_aload_n hM dX8_add_99 (lv_at hl 0 rfl) ?_
              refine w_get (v := .int sz) hM hW FG_X8_31 lb_120 c53_120_6 dX8_add_100 ?_
              have bsz := hG.f c53_120_6 rF_120_6 (by decide)
              refine q_lload hM dX8_add_103 (lv_at hl 4 rfl) ?_
              have hS0 := hW.2.1
              refine w_jast hM hW lb_122 (by omega) (i_in (by omega) (by omega)) dX8_add_105 (fun g1069 H locs hW e2 => ?_)
              have f1070 : fld g1069 120 6 = .int sz := (e2.1 120 6 (by unfold Only; omega)).trans c53_120_6
              have hG := hG.stJ e2 ((arI_ja hW.2.1 lb_122).trans (arI_ja hS0 lb_122).symm)
              refine q_aload_n hM dX8_add_106 (lv_at hl 0 rfl) ?_
              refine w_get (v := .ref (ad 123)) hM hW FG_X8_19 lb_120 (rf_120_2 hW.2.1) dX8_add_107 ?_
              refine q_aload_n hM dX8_add_110 (lv_at hl 0 rfl) ?_
              refine w_get (v := .int sz) hM hW FG_X8_31 lb_120 f1070 dX8_add_111 ?_
              have bsz := hG.f f1070 rF_120_6 (by decide)
              refine q_lload hM dX8_add_114 (lv_at hl 5 rfl) ?_
              have hS0 := hW.2.1
              refine w_jast hM hW lb_123 (by omega) (i_in (by omega) (by omega)) dX8_add_116 (fun g1071 H locs hW e2 => ?_)
              have f1072 : fld g1071 120 6 = .int sz := (e2.1 120 6 (by unfold Only; omega)).trans f1070
              have hG := hG.stJ e2 ((arI_ja hW.2.1 lb_123).trans (arI_ja hS0 lb_123).symm)
              refine q_aload_n hM dX8_add_117 (lv_at hl 0 rfl) ?_
              refine w_get (v := .ref (ad 124)) hM hW FG_X8_22 lb_120 (rf_120_3 hW.2.1) dX8_add_118 ?_
              refine q_aload_n hM dX8_add_121 (lv_at hl 0 rfl) ?_
              refine w_get (v := .int sz) hM hW FG_X8_31 lb_120 f1072 dX8_add_122 ?_
              have bsz := hG.f f1072 rF_120_6 (by decide)
              refine q_iload_n hM dX8_add_125 (lv_at hl 2 rfl) ?_
              refine w_iast hM hW lb_124 (by omega) (i_in (by omega) (by omega)) dX8_add_126 (fun g1073 H locs hW e1 e2 => ?_)
              have f1074 : fld g1073 120 6 = .int sz := (e2.1 120 6 (by unfold Only; omega)).trans f1072
              have hG := hG.st e1 e2 rA_124 (by have := i_rng be; omega) (by have := i_rng be; omega)
              refine q_aload_n hM dX8_add_127 (lv_at hl 0 rfl) ?_
              refine w_get (v := .ref (ad 125)) hM hW FG_X8_25 lb_120 (rf_120_4 hW.2.1) dX8_add_128 ?_
              refine q_aload_n hM dX8_add_131 (lv_at hl 0 rfl) ?_
              refine w_get (v := .int sz) hM hW FG_X8_31 lb_120 f1074 dX8_add_132 ?_
              have bsz := hG.f f1074 rF_120_6 (by decide)
              refine q_iload_n hM dX8_add_135 (lv_at hl 3 rfl) ?_
              refine w_iast hM hW lb_125 (by omega) (i_in (by omega) (by omega)) dX8_add_136 (fun g1075 H locs hW e1 e2 => ?_)
              have f1076 : fld g1075 120 6 = .int sz := (e2.1 120 6 (by unfold Only; omega)).trans f1074
              have hG := hG.st e1 e2 (rfl : rA 125 = (-2147483648, 2147483647)) (by have := i_rng k; omega) (by have := i_rng k; omega)
              refine q_aload_n hM dX8_add_137 (lv_at hl 0 rfl) ?_
              refine w_get (v := .ref (ad 126)) hM hW FG_X8_28 lb_120 (rf_120_5 hW.2.1) dX8_add_138 ?_
              refine q_aload_n hM dX8_add_141 (lv_at hl 0 rfl) ?_
              refine w_get (v := .int sz) hM hW FG_X8_31 lb_120 f1076 dX8_add_142 ?_
              have bsz := hG.f f1076 rF_120_6 (by decide)
              refine q_iload hM dX8_add_145 (lv_at hl 6 rfl) ?_
              refine w_iast hM hW lb_126 (by omega) (i_in (by omega) (by omega)) dX8_add_147 (fun g1077 H locs hW e1 e2 => ?_)
              have f1078 : fld g1077 120 6 = .int sz := (e2.1 120 6 (by unfold Only; omega)).trans f1076
              have hG := hG.st e1 e2 rA_126 (by have := i_rng z1062; omega) (by have := i_rng z1062; omega)
              refine q_aload_n hM dX8_add_148 (lv_at hl 0 rfl) ?_
              refine q_dup hM dX8_add_149 rfl ?_
              refine w_get (v := .int sz) hM hW FG_X8_31 lb_120 f1078 dX8_add_150 ?_
              have bsz := hG.f f1078 rF_120_6 (by decide)
              refine q_iconst (v := (1 : Int32)) hM dX8_add_153 (by decide) ?_
              refine q_iadd hM dX8_add_154 (fun z1079 hz1079 => ?_)
              first | have tz1079 := i_addT hz1079 (rfl : sz.toInt = sz.toInt) (kc_1 : (1 : Int32).toInt = 1) (by omega) (by omega) | skip
              refine w_put hM hW FP_X8_31 lb_120 (by omega) (Or.inl ⟨_, rfl⟩) rfl rfl dX8_add_155 (fun g1080 H locs hW e1 e2 => ?_)
              have f1081 : fld g1080 120 6 = .int z1079 := e1
              have hG := hG.put e1 e2 rF_120_6 (by decide) (by have := i_rng z1079; omega) (by have := i_rng z1079; omega)
              exact hE _ _ _ _ _ hW.1 ⟨rfl, hW.2.1, hG, hW.2.2⟩ dX8_add_158
            · refine q_aload_n hM dX8_add_62 (lv_at hl 0 rfl) ?_
              refine w_get (v := .ref (ad 122)) hM hW FG_X8_15 lb_120 (rf_120_1 hW.2.1) dX8_add_63 ?_
              refine q_iload hM dX8_add_66 (lv_at hl 7 rfl) ?_
              refine w_jald hM hW lb_122 (i_in (by omega) (by omega)) dX8_add_68 ?_
              refine q_lload hM dX8_add_69 (lv_at hl 4 rfl) ?_
              have := lc_all (arJ g9 122 w53_9.toNatClampNeg) r1056
              refine q_lcmp hM dX8_add_71 ?_
              refine q_if_ne (tgt := 89) hM dX8_add_72 (by decide) (rfl : (lg_cmp (arJ g9 122 w53_9.toNatClampNeg) r1056).toInt = (lg_cmp (arJ g9 122 w53_9.toNatClampNeg) r1056).toInt) (fun h72 => ?_) (fun h72 => ?_)
              · refine q_iinc (lv9 := fun z1084 => [(9, .int z1084), (0, .ref (ad 120)), (1, .ref (ad sr)), (2, .int be), (3, .int k), (4, .long r1056), (6, .long r1058), (8, .int z1062)]) hM dX8_add_89 hl (kq := 7) rfl (by decide) (fun _ => rfl) (fun z1084 ls hz1084 hl => ?_)
                first | have tz1084 := i_addT hz1084 (rfl : w53_9.toInt = w53_9.toInt) (kc_1 : (Int32.ofInt 1).toInt = 1) (by omega) (by omega) | skip
                refine q_goto (tgt := 53) hM dX8_add_92 (by decide) ?_
                exact ih53 z1084 sz _ _ _ _ (by omega) hG (by omega) (by omega) (by omega) (by omega) c53_120_6 (lv_sub hl [1, 2, 3, 4, 5, 6, 7, 0] rfl) hW
              · refine q_aload_n hM dX8_add_75 (lv_at hl 0 rfl) ?_
                refine w_get (v := .ref (ad 123)) hM hW FG_X8_19 lb_120 (rf_120_2 hW.2.1) dX8_add_76 ?_
                refine q_iload hM dX8_add_79 (lv_at hl 7 rfl) ?_
                refine w_jald hM hW lb_123 (i_in (by omega) (by omega)) dX8_add_81 ?_
                refine q_lload hM dX8_add_82 (lv_at hl 5 rfl) ?_
                have := lc_all (arJ g9 123 w53_9.toNatClampNeg) r1058
                refine q_lcmp hM dX8_add_84 ?_
                refine q_if_ne (tgt := 89) hM dX8_add_85 (by decide) (rfl : (lg_cmp (arJ g9 123 w53_9.toNatClampNeg) r1058).toInt = (lg_cmp (arJ g9 123 w53_9.toNatClampNeg) r1058).toInt) (fun h85 => ?_) (fun h85 => ?_)
                · refine q_iinc (lv9 := fun z1087 => [(9, .int z1087), (0, .ref (ad 120)), (1, .ref (ad sr)), (2, .int be), (3, .int k), (4, .long r1056), (6, .long r1058), (8, .int z1062)]) hM dX8_add_89 hl (kq := 7) rfl (by decide) (fun _ => rfl) (fun z1087 ls hz1087 hl => ?_)
                  first | have tz1087 := i_addT hz1087 (rfl : w53_9.toInt = w53_9.toInt) (kc_1 : (Int32.ofInt 1).toInt = 1) (by omega) (by omega) | skip
                  refine q_goto (tgt := 53) hM dX8_add_92 (by decide) ?_
                  exact ih53 z1087 sz _ _ _ _ (by omega) hG (by omega) (by omega) (by omega) (by omega) c53_120_6 (lv_sub hl [1, 2, 3, 4, 5, 6, 7, 0] rfl) hW
                · exact hE _ _ _ _ _ hW.1 ⟨rfl, hW.2.1, hG, hW.2.2⟩ dX8_add_88
        have := kc_0
        exact L53 _ (0 : Int32) x1065 _ _ _ _ (Nat.lt_succ_self _) hG (by omega) (by omega) (by omega) (by omega) fx1065 (lv_sub hl [4, 5, 6, 7, 3, 2, 1, 0] rfl) hW
      · exact hE _ _ _ _ _ hW.1 ⟨rfl, hW.2.1, hG, hW.2.2⟩ dX8_add_49
  · refine q_iconst (v := (0 : Int32)) hM dX8_add_19 (by decide) ?_
    refine q_goto (tgt := 31) hM dX8_add_20 (by decide) ?_
    refine q_istore (lv9 := [(8, .int (0 : Int32)), (6, .long r1058), (4, .long r1056), (0, .ref (ad 120)), (1, .ref (ad sr)), (2, .int be), (3, .int k)]) hM dX8_add_31 hl (by decide) rfl (fun ls hl => ?_)
    refine q_iload hM dX8_add_33 (lv_at hl 0 rfl) ?_
    refine q_iconst (v := (5 : Int32)) hM dX8_add_35 (by decide) ?_
    refine q_icmp_ge (tgt := 49) hM dX8_add_36 (by decide) (kc_0 : (0 : Int32).toInt = 0) (kc_5 : (5 : Int32).toInt = 5) (fun h36 => ?_) (fun h36 => ?_)
    · omega
    · refine q_aload_n hM dX8_add_39 (lv_at hl 3 rfl) ?_
      refine w_getI hM hW FG_X8_31 lb_120 (by decide) (by decide) dX8_add_40 (fun x1093 fx1093 => ?_)
      have bx1093 := hG.f fx1093 rF_120_6 (by decide)
      refine q_sipush (v := (341 : Int32)) hM dX8_add_43 (by decide) ?_
      refine q_icmp_lt (tgt := 50) hM dX8_add_46 (by decide) (rfl : x1093.toInt = x1093.toInt) (kc_341 : (341 : Int32).toInt = 341) (fun h46 => ?_) (fun h46 => ?_)
      · refine q_iconst (v := (0 : Int32)) hM dX8_add_50 (by decide) ?_
        refine q_istore (lv9 := [(9, .int (0 : Int32)), (8, .int (0 : Int32)), (6, .long r1058), (4, .long r1056), (0, .ref (ad 120)), (1, .ref (ad sr)), (2, .int be), (3, .int k)]) hM dX8_add_51 hl (by decide) rfl (fun ls hl => ?_)
        have L53 : ∀ (fu53 : Nat) (w53_9 : Int32) (sz : Int32) (g9 : Nat → va_E) (H : Heap) (locs : List Loc) (ls : Array Slot), (341 - w53_9.toInt).toNat < fu53 → (Rng g9) → (0 ≤ w53_9.toInt) → (w53_9.toInt ≤ 341) → (0 ≤ sz.toInt) → (sz.toInt < 341) → (fld g9 120 6 = .int sz) → lv_has ls 10 [(0, .ref (ad 120)), (1, .ref (ad sr)), (2, .int be), (3, .int k), (4, .long r1056), (6, .long r1058), (8, .int (0 : Int32)), (9, .int w53_9)] → WS ad cA (fun i k => i = 122 ∨ i = 123 ∨ i = 124 ∨ i = 125 ∨ i = 126 ∨ (i = 120 ∧ (k = 6))) g0 K g9 H locs → XX K 0 0 H locs 53 ls [] := by
          intro fu53
          induction fu53 with
          | zero => intro w53_9 sz g9 H locs ls h0; omega
          | succ fu53 ih53 =>
            intro w53_9 sz g9 H locs ls hm53 i53_0 i53_1 i53_2 i53_3 i53_4 c53_120_6 hl hW
            have hG := i53_0
            refine q_iload hM dX8_add_53 (lv_at hl 7 rfl) ?_
            refine q_aload_n hM dX8_add_55 (lv_at hl 0 rfl) ?_
            refine w_get (v := .int sz) hM hW FG_X8_31 lb_120 c53_120_6 dX8_add_56 ?_
            have bsz := hG.f c53_120_6 rF_120_6 (by decide)
            refine q_icmp_ge (tgt := 95) hM dX8_add_59 (by decide) (rfl : w53_9.toInt = w53_9.toInt) (rfl : sz.toInt = sz.toInt) (fun h59 => ?_) (fun h59 => ?_)
            · refine q_aload_n hM dX8_add_95 (lv_at hl 0 rfl) ?_
              refine w_get (v := .ref (ad 122)) hM hW FG_X8_15 lb_120 (rf_120_1 hW.2.1) dX8_add_96 ?_
              refine q_aload_n hM dX8_add_99 (lv_at hl 0 rfl) ?_
              refine w_get (v := .int sz) hM hW FG_X8_31 lb_120 c53_120_6 dX8_add_100 ?_
              have bsz := hG.f c53_120_6 rF_120_6 (by decide)
              refine q_lload hM dX8_add_103 (lv_at hl 4 rfl) ?_
              have hS0 := hW.2.1
              refine w_jast hM hW lb_122 (by omega) (i_in (by omega) (by omega)) dX8_add_105 (fun g1097 H locs hW e2 => ?_)
              have f1098 : fld g1097 120 6 = .int sz := (e2.1 120 6 (by unfold Only; omega)).trans c53_120_6
              have hG := hG.stJ e2 ((arI_ja hW.2.1 lb_122).trans (arI_ja hS0 lb_122).symm)
              refine q_aload_n hM dX8_add_106 (lv_at hl 0 rfl) ?_
              refine w_get (v := .ref (ad 123)) hM hW FG_X8_19 lb_120 (rf_120_2 hW.2.1) dX8_add_107 ?_
              refine q_aload_n hM dX8_add_110 (lv_at hl 0 rfl) ?_
              refine w_get (v := .int sz) hM hW FG_X8_31 lb_120 f1098 dX8_add_111 ?_
              have bsz := hG.f f1098 rF_120_6 (by decide)
              refine q_lload hM dX8_add_114 (lv_at hl 5 rfl) ?_
              have hS0 := hW.2.1
              refine w_jast hM hW lb_123 (by omega) (i_in (by omega) (by omega)) dX8_add_116 (fun g1099 H locs hW e2 => ?_)
              have f1100 : fld g1099 120 6 = .int sz := (e2.1 120 6 (by unfold Only; omega)).trans f1098
              have hG := hG.stJ e2 ((arI_ja hW.2.1 lb_123).trans (arI_ja hS0 lb_123).symm)
              refine q_aload_n hM dX8_add_117 (lv_at hl 0 rfl) ?_
              refine w_get (v := .ref (ad 124)) hM hW FG_X8_22 lb_120 (rf_120_3 hW.2.1) dX8_add_118 ?_
              refine q_aload_n hM dX8_add_121 (lv_at hl 0 rfl) ?_
              refine w_get (v := .int sz) hM hW FG_X8_31 lb_120 f1100 dX8_add_122 ?_
              have bsz := hG.f f1100 rF_120_6 (by decide)
              refine q_iload_n hM dX8_add_125 (lv_at hl 2 rfl) ?_
              refine w_iast hM hW lb_124 (by omega) (i_in (by omega) (by omega)) dX8_add_126 (fun g1101 H locs hW e1 e2 => ?_)
              have f1102 : fld g1101 120 6 = .int sz := (e2.1 120 6 (by unfold Only; omega)).trans f1100
              have hG := hG.st e1 e2 rA_124 (by have := i_rng be; omega) (by have := i_rng be; omega)
              refine q_aload_n hM dX8_add_127 (lv_at hl 0 rfl) ?_
              refine w_get (v := .ref (ad 125)) hM hW FG_X8_25 lb_120 (rf_120_4 hW.2.1) dX8_add_128 ?_
              refine q_aload_n hM dX8_add_131 (lv_at hl 0 rfl) ?_
              refine w_get (v := .int sz) hM hW FG_X8_31 lb_120 f1102 dX8_add_132 ?_
              have bsz := hG.f f1102 rF_120_6 (by decide)
              refine q_iload_n hM dX8_add_135 (lv_at hl 3 rfl) ?_
              refine w_iast hM hW lb_125 (by omega) (i_in (by omega) (by omega)) dX8_add_136 (fun g1103 H locs hW e1 e2 => ?_)
              have f1104 : fld g1103 120 6 = .int sz := (e2.1 120 6 (by unfold Only; omega)).trans f1102
              have hG := hG.st e1 e2 (rfl : rA 125 = (-2147483648, 2147483647)) (by have := i_rng k; omega) (by have := i_rng k; omega)
              refine q_aload_n hM dX8_add_137 (lv_at hl 0 rfl) ?_
              refine w_get (v := .ref (ad 126)) hM hW FG_X8_28 lb_120 (rf_120_5 hW.2.1) dX8_add_138 ?_
              refine q_aload_n hM dX8_add_141 (lv_at hl 0 rfl) ?_
              refine w_get (v := .int sz) hM hW FG_X8_31 lb_120 f1104 dX8_add_142 ?_
              have bsz := hG.f f1104 rF_120_6 (by decide)
              refine q_iload hM dX8_add_145 (lv_at hl 6 rfl) ?_
              refine w_iast hM hW lb_126 (by omega) (i_in (by omega) (by omega)) dX8_add_147 (fun g1105 H locs hW e1 e2 => ?_)
              have f1106 : fld g1105 120 6 = .int sz := (e2.1 120 6 (by unfold Only; omega)).trans f1104
              have hG := hG.st e1 e2 rA_126 (by have := kc_0; have := i_rng (0 : Int32); omega) (by have := kc_0; have := i_rng (0 : Int32); omega)
              refine q_aload_n hM dX8_add_148 (lv_at hl 0 rfl) ?_
              refine q_dup hM dX8_add_149 rfl ?_
              refine w_get (v := .int sz) hM hW FG_X8_31 lb_120 f1106 dX8_add_150 ?_
              have bsz := hG.f f1106 rF_120_6 (by decide)
              refine q_iconst (v := (1 : Int32)) hM dX8_add_153 (by decide) ?_
              refine q_iadd hM dX8_add_154 (fun z1107 hz1107 => ?_)
              first | have tz1107 := i_addT hz1107 (rfl : sz.toInt = sz.toInt) (kc_1 : (1 : Int32).toInt = 1) (by omega) (by omega) | skip
              refine w_put hM hW FP_X8_31 lb_120 (by omega) (Or.inl ⟨_, rfl⟩) rfl rfl dX8_add_155 (fun g1108 H locs hW e1 e2 => ?_)
              have f1109 : fld g1108 120 6 = .int z1107 := e1
              have hG := hG.put e1 e2 rF_120_6 (by decide) (by have := i_rng z1107; omega) (by have := i_rng z1107; omega)
              exact hE _ _ _ _ _ hW.1 ⟨rfl, hW.2.1, hG, hW.2.2⟩ dX8_add_158
            · refine q_aload_n hM dX8_add_62 (lv_at hl 0 rfl) ?_
              refine w_get (v := .ref (ad 122)) hM hW FG_X8_15 lb_120 (rf_120_1 hW.2.1) dX8_add_63 ?_
              refine q_iload hM dX8_add_66 (lv_at hl 7 rfl) ?_
              refine w_jald hM hW lb_122 (i_in (by omega) (by omega)) dX8_add_68 ?_
              refine q_lload hM dX8_add_69 (lv_at hl 4 rfl) ?_
              have := lc_all (arJ g9 122 w53_9.toNatClampNeg) r1056
              refine q_lcmp hM dX8_add_71 ?_
              refine q_if_ne (tgt := 89) hM dX8_add_72 (by decide) (rfl : (lg_cmp (arJ g9 122 w53_9.toNatClampNeg) r1056).toInt = (lg_cmp (arJ g9 122 w53_9.toNatClampNeg) r1056).toInt) (fun h72 => ?_) (fun h72 => ?_)
              · refine q_iinc (lv9 := fun z1112 => [(9, .int z1112), (0, .ref (ad 120)), (1, .ref (ad sr)), (2, .int be), (3, .int k), (4, .long r1056), (6, .long r1058), (8, .int (0 : Int32))]) hM dX8_add_89 hl (kq := 7) rfl (by decide) (fun _ => rfl) (fun z1112 ls hz1112 hl => ?_)
                first | have tz1112 := i_addT hz1112 (rfl : w53_9.toInt = w53_9.toInt) (kc_1 : (Int32.ofInt 1).toInt = 1) (by omega) (by omega) | skip
                refine q_goto (tgt := 53) hM dX8_add_92 (by decide) ?_
                exact ih53 z1112 sz _ _ _ _ (by omega) hG (by omega) (by omega) (by omega) (by omega) c53_120_6 (lv_sub hl [1, 2, 3, 4, 5, 6, 7, 0] rfl) hW
              · refine q_aload_n hM dX8_add_75 (lv_at hl 0 rfl) ?_
                refine w_get (v := .ref (ad 123)) hM hW FG_X8_19 lb_120 (rf_120_2 hW.2.1) dX8_add_76 ?_
                refine q_iload hM dX8_add_79 (lv_at hl 7 rfl) ?_
                refine w_jald hM hW lb_123 (i_in (by omega) (by omega)) dX8_add_81 ?_
                refine q_lload hM dX8_add_82 (lv_at hl 5 rfl) ?_
                have := lc_all (arJ g9 123 w53_9.toNatClampNeg) r1058
                refine q_lcmp hM dX8_add_84 ?_
                refine q_if_ne (tgt := 89) hM dX8_add_85 (by decide) (rfl : (lg_cmp (arJ g9 123 w53_9.toNatClampNeg) r1058).toInt = (lg_cmp (arJ g9 123 w53_9.toNatClampNeg) r1058).toInt) (fun h85 => ?_) (fun h85 => ?_)
                · refine q_iinc (lv9 := fun z1115 => [(9, .int z1115), (0, .ref (ad 120)), (1, .ref (ad sr)), (2, .int be), (3, .int k), (4, .long r1056), (6, .long r1058), (8, .int (0 : Int32))]) hM dX8_add_89 hl (kq := 7) rfl (by decide) (fun _ => rfl) (fun z1115 ls hz1115 hl => ?_)
                  first | have tz1115 := i_addT hz1115 (rfl : w53_9.toInt = w53_9.toInt) (kc_1 : (Int32.ofInt 1).toInt = 1) (by omega) (by omega) | skip
                  refine q_goto (tgt := 53) hM dX8_add_92 (by decide) ?_
                  exact ih53 z1115 sz _ _ _ _ (by omega) hG (by omega) (by omega) (by omega) (by omega) c53_120_6 (lv_sub hl [1, 2, 3, 4, 5, 6, 7, 0] rfl) hW
                · exact hE _ _ _ _ _ hW.1 ⟨rfl, hW.2.1, hG, hW.2.2⟩ dX8_add_88
        have := kc_0
        exact L53 _ (0 : Int32) x1093 _ _ _ _ (Nat.lt_succ_self _) hG (by omega) (by omega) (by omega) (by omega) fx1093 (lv_sub hl [4, 5, 6, 7, 3, 2, 1, 0] rfl) hW
      · exact hE _ _ _ _ _ hW.1 ⟨rfl, hW.2.1, hG, hW.2.2⟩ dX8_add_49

theorem dX8_unpack_0 : decode cX8_unpack 0 = .ok (.iconst 0, 1) := by decide +kernel
theorem dX8_unpack_1 : decode cX8_unpack 1 = .ok (.istore_n 3, 1) := by decide +kernel
theorem dX8_unpack_2 : decode cX8_unpack 2 = .ok (.iload_n 3, 1) := by decide +kernel
theorem dX8_unpack_3 : decode cX8_unpack 3 = .ok (.bipush 6, 2) := by decide +kernel
theorem dX8_unpack_5 : decode cX8_unpack 5 = .ok (.if_icmp .ge 63, 3) := by decide +kernel
theorem dX8_unpack_8 : decode cX8_unpack 8 = .ok (.iload_n 3, 1) := by decide +kernel
theorem dX8_unpack_9 : decode cX8_unpack 9 = .ok (.bipush 6, 2) := by decide +kernel
theorem dX8_unpack_11 : decode cX8_unpack 11 = .ok (.iadd, 1) := by decide +kernel
theorem dX8_unpack_12 : decode cX8_unpack 12 = .ok (.aload_n 2, 1) := by decide +kernel
theorem dX8_unpack_13 : decode cX8_unpack 13 = .ok (.arraylength, 1) := by decide +kernel
theorem dX8_unpack_14 : decode cX8_unpack 14 = .ok (.if_icmp .ge 54, 3) := by decide +kernel
theorem dX8_unpack_17 : decode cX8_unpack 17 = .ok (.bipush 7, 2) := by decide +kernel
theorem dX8_unpack_19 : decode cX8_unpack 19 = .ok (.iconst 5, 1) := by decide +kernel
theorem dX8_unpack_20 : decode cX8_unpack 20 = .ok (.iload_n 3, 1) := by decide +kernel
theorem dX8_unpack_21 : decode cX8_unpack 21 = .ok (.isub, 1) := by decide +kernel
theorem dX8_unpack_22 : decode cX8_unpack 22 = .ok (.imul, 1) := by decide +kernel
theorem dX8_unpack_23 : decode cX8_unpack 23 = .ok (.istore 4, 2) := by decide +kernel
theorem dX8_unpack_25 : decode cX8_unpack 25 = .ok (.aload_n 2, 1) := by decide +kernel
theorem dX8_unpack_26 : decode cX8_unpack 26 = .ok (.iload_n 3, 1) := by decide +kernel
theorem dX8_unpack_27 : decode cX8_unpack 27 = .ok (.aload_n 0, 1) := by decide +kernel
theorem dX8_unpack_28 : decode cX8_unpack 28 = .ok (.getfield 15, 3) := by decide +kernel
theorem dX8_unpack_31 : decode cX8_unpack 31 = .ok (.iload_n 1, 1) := by decide +kernel
theorem dX8_unpack_32 : decode cX8_unpack 32 = .ok (.laload, 1) := by decide +kernel
theorem dX8_unpack_33 : decode cX8_unpack 33 = .ok (.iload 4, 2) := by decide +kernel
theorem dX8_unpack_35 : decode cX8_unpack 35 = .ok (.lshr, 1) := by decide +kernel
theorem dX8_unpack_36 : decode cX8_unpack 36 = .ok (.ldc2_w 86, 3) := by decide +kernel
theorem dX8_unpack_39 : decode cX8_unpack 39 = .ok (.land, 1) := by decide +kernel
theorem dX8_unpack_40 : decode cX8_unpack 40 = .ok (.l2i, 1) := by decide +kernel
theorem dX8_unpack_41 : decode cX8_unpack 41 = .ok (.iastore, 1) := by decide +kernel
theorem dX8_unpack_42 : decode cX8_unpack 42 = .ok (.aload_n 2, 1) := by decide +kernel
theorem dX8_unpack_43 : decode cX8_unpack 43 = .ok (.iload_n 3, 1) := by decide +kernel
theorem dX8_unpack_44 : decode cX8_unpack 44 = .ok (.bipush 6, 2) := by decide +kernel
theorem dX8_unpack_46 : decode cX8_unpack 46 = .ok (.iadd, 1) := by decide +kernel
theorem dX8_unpack_47 : decode cX8_unpack 47 = .ok (.aload_n 0, 1) := by decide +kernel
theorem dX8_unpack_48 : decode cX8_unpack 48 = .ok (.getfield 19, 3) := by decide +kernel
theorem dX8_unpack_51 : decode cX8_unpack 51 = .ok (.iload_n 1, 1) := by decide +kernel
theorem dX8_unpack_52 : decode cX8_unpack 52 = .ok (.laload, 1) := by decide +kernel
theorem dX8_unpack_53 : decode cX8_unpack 53 = .ok (.iload 4, 2) := by decide +kernel
theorem dX8_unpack_55 : decode cX8_unpack 55 = .ok (.lshr, 1) := by decide +kernel
theorem dX8_unpack_56 : decode cX8_unpack 56 = .ok (.ldc2_w 86, 3) := by decide +kernel
theorem dX8_unpack_59 : decode cX8_unpack 59 = .ok (.land, 1) := by decide +kernel
theorem dX8_unpack_60 : decode cX8_unpack 60 = .ok (.l2i, 1) := by decide +kernel
theorem dX8_unpack_61 : decode cX8_unpack 61 = .ok (.iastore, 1) := by decide +kernel
theorem dX8_unpack_62 : decode cX8_unpack 62 = .ok (.iinc 3 1, 3) := by decide +kernel
theorem dX8_unpack_65 : decode cX8_unpack 65 = .ok (.goto (-63), 3) := by decide +kernel
theorem dX8_unpack_68 : decode cX8_unpack 68 = .ok (.return_, 1) := by decide +kernel
set_option maxRecDepth 100000 in
set_option maxHeartbeats 4000000 in
theorem a_X8_unpack (l : Launch) (D : va_G) (cA : Nat → ClassId) (ad : Nat → Nat) (g0 : Nat → va_E) (a : Int32) (sr : Nat)   (hSh : Shp ad cA g0) (hG : Rng g0) (hsr : isSr sr) (a0 : 0 ≤ a.toInt) (a1 : a.toInt < 341) : CT l NN ad cA D yX8_unpack cX8_unpack 5 none (0, 0) [.ref (ad 120), .int a, .ref (ad sr)] g0 (fun v g' => v = none ∧ Shp ad cA g' ∧ Rng g' ∧ FR (fun i k => i = sr) g0 g') := by
  refine q_enterV (by decide) (Nat.le_of_ble_eq_true rfl) (fun K H locs ls _ _ hM hW0 hR hC hE hl => ?_)
  have hl : lv_has ls 5 [(0, .ref (ad 120)), (1, .int a), (2, .ref (ad sr))] := hl
  have hW : WS ad cA (fun i k => i = sr) g0 K g0 H locs := ⟨hW0, hSh, FR.rf⟩
  have usr := hsr
  unfold isSr at usr
  refine q_iconst (v := (0 : Int32)) hM dX8_unpack_0 (by decide) ?_
  refine q_istore_n (lv9 := [(3, .int (0 : Int32)), (0, .ref (ad 120)), (1, .int a), (2, .ref (ad sr))]) hM dX8_unpack_1 hl (by decide) rfl (fun ls hl => ?_)
  have L2 : ∀ (fu2 : Nat) (w2_3 : Int32) (g9 : Nat → va_E) (H : Heap) (locs : List Loc) (ls : Array Slot), (6 - w2_3.toInt).toNat < fu2 → (Rng g9) → (0 ≤ w2_3.toInt) → (w2_3.toInt ≤ 6) → lv_has ls 5 [(0, .ref (ad 120)), (1, .int a), (2, .ref (ad sr)), (3, .int w2_3)] → WS ad cA (fun i k => i = sr) g0 K g9 H locs → XX K 0 0 H locs 2 ls [] := by
    intro fu2
    induction fu2 with
    | zero => intro w2_3 g9 H locs ls h0; omega
    | succ fu2 ih2 =>
      intro w2_3 g9 H locs ls hm2 i2_0 i2_1 i2_2 hl hW
      have hG := i2_0
      refine q_iload_n hM dX8_unpack_2 (lv_at hl 3 rfl) ?_
      refine q_bipush (v := (6 : Int32)) hM dX8_unpack_3 (by decide) ?_
      refine q_icmp_ge (tgt := 68) hM dX8_unpack_5 (by decide) (rfl : w2_3.toInt = w2_3.toInt) (kc_6 : (6 : Int32).toInt = 6) (fun h5 => ?_) (fun h5 => ?_)
      · exact hE _ _ _ _ _ hW.1 ⟨rfl, hW.2.1, hG, hW.2.2⟩ dX8_unpack_68
      · refine q_iload_n hM dX8_unpack_8 (lv_at hl 3 rfl) ?_
        refine q_bipush (v := (6 : Int32)) hM dX8_unpack_9 (by decide) ?_
        refine q_iadd hM dX8_unpack_11 (fun z1121 hz1121 => ?_)
        first | have tz1121 := i_addT hz1121 (rfl : w2_3.toInt = w2_3.toInt) (kc_6 : (6 : Int32).toInt = 6) (by omega) (by omega) | skip
        refine q_aload_n hM dX8_unpack_12 (lv_at hl 2 rfl) ?_
        refine q_alen (v := (12 : Int32)) hM hW.1 (la_Sr hsr).1 (shA hW.2.1 (la_Sr hsr)) (by decide) dX8_unpack_13 ?_
        refine q_icmp_ge (tgt := 68) hM dX8_unpack_14 (by decide) (rfl : z1121.toInt = z1121.toInt) (kc_12 : (12 : Int32).toInt = 12) (fun h14 => ?_) (fun h14 => ?_)
        · exact hE _ _ _ _ _ hW.1 ⟨rfl, hW.2.1, hG, hW.2.2⟩ dX8_unpack_68
        · refine q_bipush (v := (7 : Int32)) hM dX8_unpack_17 (by decide) ?_
          refine q_iconst (v := (5 : Int32)) hM dX8_unpack_19 (by decide) ?_
          refine q_iload_n hM dX8_unpack_20 (lv_at hl 3 rfl) ?_
          refine q_isub hM dX8_unpack_21 (fun z1124 hz1124 => ?_)
          first | have tz1124 := i_subT hz1124 (kc_5 : (5 : Int32).toInt = 5) (rfl : w2_3.toInt = w2_3.toInt) (by omega) (by omega) | skip
          refine q_imul hM dX8_unpack_22 (fun z1125 hz1125 => ?_)
          first | have tz1125 := i_mulT hz1125 (kc_7 : (7 : Int32).toInt = 7) (rfl : z1124.toInt = z1124.toInt) (by omega) (by omega) | skip
          refine q_istore (lv9 := [(4, .int z1125), (0, .ref (ad 120)), (1, .int a), (2, .ref (ad sr)), (3, .int w2_3)]) hM dX8_unpack_23 hl (by decide) rfl (fun ls hl => ?_)
          refine q_aload_n hM dX8_unpack_25 (lv_at hl 3 rfl) ?_
          refine q_iload_n hM dX8_unpack_26 (lv_at hl 4 rfl) ?_
          refine q_aload_n hM dX8_unpack_27 (lv_at hl 1 rfl) ?_
          refine w_get (v := .ref (ad 122)) hM hW FG_X8_15 lb_120 (rf_120_1 hW.2.1) dX8_unpack_28 ?_
          refine q_iload_n hM dX8_unpack_31 (lv_at hl 2 rfl) ?_
          refine w_jald hM hW lb_122 (i_in (by omega) (by omega)) dX8_unpack_32 ?_
          refine q_iload hM dX8_unpack_33 (lv_at hl 0 rfl) ?_
          refine q_lshr hM dX8_unpack_35 ?_
          refine q_ldc2 (v := 127) hM (kAW (v_3_5 (List.mem_of_getElem? (i := 14) rfl)) rfl) dX8_unpack_36 ?_
          have := kl_127
          refine q_land hM dX8_unpack_39 ?_
          refine q_l2i hM dX8_unpack_40 ?_
          refine w_iast hM hW (la_Sr hsr) (by omega) (i_in (by omega) (by omega)) dX8_unpack_41 (fun g1126 H locs hW e1 e2 => ?_)
          have hG := hG.st e1 e2 (rA_Sr hsr) (by have := i_rng (((((arJ g9 122 a.toNatClampNeg) >>> (z1125.toInt64 &&& 63)) &&& (127 : Int64))).toInt32); omega) (by have := i_rng (((((arJ g9 122 a.toNatClampNeg) >>> (z1125.toInt64 &&& 63)) &&& (127 : Int64))).toInt32); omega)
          refine q_aload_n hM dX8_unpack_42 (lv_at hl 3 rfl) ?_
          refine q_iload_n hM dX8_unpack_43 (lv_at hl 4 rfl) ?_
          refine q_bipush (v := (6 : Int32)) hM dX8_unpack_44 (by decide) ?_
          refine q_iadd hM dX8_unpack_46 (fun z1127 hz1127 => ?_)
          first | have tz1127 := i_addT hz1127 (rfl : w2_3.toInt = w2_3.toInt) (kc_6 : (6 : Int32).toInt = 6) (by omega) (by omega) | skip
          refine q_aload_n hM dX8_unpack_47 (lv_at hl 1 rfl) ?_
          refine w_get (v := .ref (ad 123)) hM hW FG_X8_19 lb_120 (rf_120_2 hW.2.1) dX8_unpack_48 ?_
          refine q_iload_n hM dX8_unpack_51 (lv_at hl 2 rfl) ?_
          refine w_jald hM hW lb_123 (i_in (by omega) (by omega)) dX8_unpack_52 ?_
          refine q_iload hM dX8_unpack_53 (lv_at hl 0 rfl) ?_
          refine q_lshr hM dX8_unpack_55 ?_
          refine q_ldc2 (v := 127) hM (kAW (v_3_5 (List.mem_of_getElem? (i := 14) rfl)) rfl) dX8_unpack_56 ?_
          have := kl_127
          refine q_land hM dX8_unpack_59 ?_
          refine q_l2i hM dX8_unpack_60 ?_
          refine w_iast hM hW (la_Sr hsr) (by omega) (i_in (by omega) (by omega)) dX8_unpack_61 (fun g1128 H locs hW e1 e2 => ?_)
          have hG := hG.st e1 e2 (rA_Sr hsr) (by have := i_rng (((((arJ g1126 123 a.toNatClampNeg) >>> (z1125.toInt64 &&& 63)) &&& (127 : Int64))).toInt32); omega) (by have := i_rng (((((arJ g1126 123 a.toNatClampNeg) >>> (z1125.toInt64 &&& 63)) &&& (127 : Int64))).toInt32); omega)
          refine q_iinc (lv9 := fun z1129 => [(3, .int z1129), (4, .int z1125), (0, .ref (ad 120)), (1, .int a), (2, .ref (ad sr))]) hM dX8_unpack_62 hl (kq := 4) rfl (by decide) (fun _ => rfl) (fun z1129 ls hz1129 hl => ?_)
          first | have tz1129 := i_addT hz1129 (rfl : w2_3.toInt = w2_3.toInt) (kc_1 : (Int32.ofInt 1).toInt = 1) (by omega) (by omega) | skip
          refine q_goto (tgt := 2) hM dX8_unpack_65 (by decide) ?_
          exact ih2 z1129 _ _ _ _ (by omega) hG (by omega) (by omega) (lv_sub hl [2, 3, 4, 0] rfl) hW
  have := kc_0
  exact L2 _ (0 : Int32) _ _ _ _ (Nat.lt_succ_self _) hG (by omega) (by omega) (lv_sub hl [1, 2, 3, 0] rfl) hW

theorem dX8_write_0 : decode cX8_write 0 = .ok (.aload_n 0, 1) := by decide +kernel
theorem dX8_write_1 : decode cX8_write 1 = .ok (.getfield 28, 3) := by decide +kernel
theorem dX8_write_4 : decode cX8_write 4 = .ok (.iload_n 1, 1) := by decide +kernel
theorem dX8_write_5 : decode cX8_write 5 = .ok (.iaload, 1) := by decide +kernel
theorem dX8_write_6 : decode cX8_write 6 = .ok (.iconst 1, 1) := by decide +kernel
theorem dX8_write_7 : decode cX8_write 7 = .ok (.iadd, 1) := by decide +kernel
theorem dX8_write_8 : decode cX8_write 8 = .ok (.istore_n 3, 1) := by decide +kernel
theorem dX8_write_9 : decode cX8_write 9 = .ok (.aload_n 0, 1) := by decide +kernel
theorem dX8_write_10 : decode cX8_write 10 = .ok (.getfield 11, 3) := by decide +kernel
theorem dX8_write_13 : decode cX8_write 13 = .ok (.iload_n 3, 1) := by decide +kernel
theorem dX8_write_14 : decode cX8_write 14 = .ok (.iconst 5, 1) := by decide +kernel
theorem dX8_write_15 : decode cX8_write 15 = .ok (.invokestatic 88, 3) := by decide +kernel
theorem dX8_write_18 : decode cX8_write 18 = .ok (.iconst 1, 1) := by decide +kernel
theorem dX8_write_19 : decode cX8_write 19 = .ok (.isub, 1) := by decide +kernel
theorem dX8_write_20 : decode cX8_write 20 = .ok (.iload_n 2, 1) := by decide +kernel
theorem dX8_write_21 : decode cX8_write 21 = .ok (.iastore, 1) := by decide +kernel
theorem dX8_write_22 : decode cX8_write 22 = .ok (.iload_n 1, 1) := by decide +kernel
theorem dX8_write_23 : decode cX8_write 23 = .ok (.istore 4, 2) := by decide +kernel
theorem dX8_write_25 : decode cX8_write 25 = .ok (.iload_n 3, 1) := by decide +kernel
theorem dX8_write_26 : decode cX8_write 26 = .ok (.iconst 2, 1) := by decide +kernel
theorem dX8_write_27 : decode cX8_write 27 = .ok (.isub, 1) := by decide +kernel
theorem dX8_write_28 : decode cX8_write 28 = .ok (.istore 5, 2) := by decide +kernel
theorem dX8_write_30 : decode cX8_write 30 = .ok (.iload 5, 2) := by decide +kernel
theorem dX8_write_32 : decode cX8_write 32 = .ok (.ifCond .lt 43, 3) := by decide +kernel
theorem dX8_write_35 : decode cX8_write 35 = .ok (.iload 5, 2) := by decide +kernel
theorem dX8_write_37 : decode cX8_write 37 = .ok (.iconst 5, 1) := by decide +kernel
theorem dX8_write_38 : decode cX8_write 38 = .ok (.if_icmp .ge 37, 3) := by decide +kernel
theorem dX8_write_41 : decode cX8_write 41 = .ok (.iload 4, 2) := by decide +kernel
theorem dX8_write_43 : decode cX8_write 43 = .ok (.ifCond .lt 32, 3) := by decide +kernel
theorem dX8_write_46 : decode cX8_write 46 = .ok (.aload_n 0, 1) := by decide +kernel
theorem dX8_write_47 : decode cX8_write 47 = .ok (.getfield 11, 3) := by decide +kernel
theorem dX8_write_50 : decode cX8_write 50 = .ok (.iload 5, 2) := by decide +kernel
theorem dX8_write_52 : decode cX8_write 52 = .ok (.aload_n 0, 1) := by decide +kernel
theorem dX8_write_53 : decode cX8_write 53 = .ok (.getfield 25, 3) := by decide +kernel
theorem dX8_write_56 : decode cX8_write 56 = .ok (.iload 4, 2) := by decide +kernel
theorem dX8_write_58 : decode cX8_write 58 = .ok (.iaload, 1) := by decide +kernel
theorem dX8_write_59 : decode cX8_write 59 = .ok (.iastore, 1) := by decide +kernel
theorem dX8_write_60 : decode cX8_write 60 = .ok (.aload_n 0, 1) := by decide +kernel
theorem dX8_write_61 : decode cX8_write 61 = .ok (.getfield 22, 3) := by decide +kernel
theorem dX8_write_64 : decode cX8_write 64 = .ok (.iload 4, 2) := by decide +kernel
theorem dX8_write_66 : decode cX8_write 66 = .ok (.iaload, 1) := by decide +kernel
theorem dX8_write_67 : decode cX8_write 67 = .ok (.istore 4, 2) := by decide +kernel
theorem dX8_write_69 : decode cX8_write 69 = .ok (.iinc 5 (-1), 3) := by decide +kernel
theorem dX8_write_72 : decode cX8_write 72 = .ok (.goto (-42), 3) := by decide +kernel
theorem dX8_write_75 : decode cX8_write 75 = .ok (.iload_n 3, 1) := by decide +kernel
theorem dX8_write_76 : decode cX8_write 76 = .ok (.ireturn, 1) := by decide +kernel
theorem FG_X8_11 : FG RX8 11 8 7 0 := ⟨RX8, TX8, rfl, wX8, by decide, kAW (v_1_3 (List.mem_of_getElem? (i := 15) rfl)) rfl, rfl⟩
set_option maxRecDepth 100000 in
set_option maxHeartbeats 4000000 in
theorem a_X8_write (l : Launch) (D : va_G) (cA : Nat → ClassId) (ad : Nat → Nat) (g0 : Nat → va_E) (la : Int32) (k : Int32)   (hSh : Shp ad cA g0) (hG : Rng g0) (la0 : 0 ≤ la.toInt) (la1 : la.toInt ≤ 340) : CT l NN ad cA D yX8_write cX8_write 6 (some FieldType.int) (1, 21) [.ref (ad 120), .int la, .int k] g0 (fun v g' => ∃ (r : Int32), v = some (.int r) ∧ Shp ad cA g' ∧ Rng g' ∧ FR (fun i k => i = 121) g0 g' ∧ (1 ≤ r.toInt ∧ r.toInt ≤ 5)) := by
  refine q_enterI (by decide) (Nat.le_of_ble_eq_true rfl) rfl (fun K H locs ls _ _ hM hW0 hR hC hE hl => ?_)
  have hl : lv_has ls 6 [(0, .ref (ad 120)), (1, .int la), (2, .int k)] := hl
  have hW : WS ad cA (fun i k => i = 121) g0 K g0 H locs := ⟨hW0, hSh, FR.rf⟩
  refine q_aload_n hM dX8_write_0 (lv_at hl 0 rfl) ?_
  refine w_get (v := .ref (ad 126)) hM hW FG_X8_28 lb_120 (rf_120_5 hW.2.1) dX8_write_1 ?_
  refine q_iload_n hM dX8_write_4 (lv_at hl 1 rfl) ?_
  refine w_iald hM hW lb_126 (i_in (by omega) (by omega)) dX8_write_5 ?_
  refine q_top (fun y1130 hy1130 => ?_)
  have by1130 := hG.a hy1130 rA_126
  refine q_iconst (v := (1 : Int32)) hM dX8_write_6 (by decide) ?_
  refine q_iadd hM dX8_write_7 (fun z1131 hz1131 => ?_)
  first | have tz1131 := i_addT hz1131 (rfl : y1130.toInt = y1130.toInt) (kc_1 : (1 : Int32).toInt = 1) (by omega) (by omega) | skip
  refine q_istore_n (lv9 := [(3, .int z1131), (0, .ref (ad 120)), (1, .int la), (2, .int k)]) hM dX8_write_8 hl (by decide) rfl (fun ls hl => ?_)
  refine q_aload_n hM dX8_write_9 (lv_at hl 1 rfl) ?_
  refine w_get (v := .ref (ad 121)) hM hW FG_X8_11 lb_120 (rf_120_0 hW.2.1) dX8_write_10 ?_
  refine q_iload_n hM dX8_write_13 (lv_at hl 0 rfl) ?_
  refine q_iconst (v := (5 : Int32)) hM dX8_write_14 (by decide) ?_
  refine q_mmin hM hR hC (kAW (v_3_6 (List.mem_of_getElem? (i := 7) rfl)) rfl) hl.1 (by decide) (Nat.le_of_ble_eq_true rfl) dX8_write_15 (fun r1132 hr1132 => ?_)
  have := kc_5
  refine q_iconst (v := (1 : Int32)) hM dX8_write_18 (by decide) ?_
  refine q_isub hM dX8_write_19 (fun z1133 hz1133 => ?_)
  first | have tz1133 := i_subT hz1133 (rfl : r1132.toInt = r1132.toInt) (kc_1 : (1 : Int32).toInt = 1) (by omega) (by omega) | skip
  refine q_iload_n hM dX8_write_20 (lv_at hl 3 rfl) ?_
  refine w_iast hM hW lb_121 (by omega) (i_in (by omega) (by omega)) dX8_write_21 (fun g1134 H locs hW e1 e2 => ?_)
  have hG := hG.st e1 e2 (rfl : rA 121 = (-2147483648, 2147483647)) (by have := i_rng k; omega) (by have := i_rng k; omega)
  refine q_iload_n hM dX8_write_22 (lv_at hl 2 rfl) ?_
  refine q_istore (lv9 := [(4, .int la), (3, .int z1131), (0, .ref (ad 120)), (1, .int la), (2, .int k)]) hM dX8_write_23 hl (by decide) rfl (fun ls hl => ?_)
  refine q_iload_n hM dX8_write_25 (lv_at hl 1 rfl) ?_
  refine q_iconst (v := (2 : Int32)) hM dX8_write_26 (by decide) ?_
  refine q_isub hM dX8_write_27 (fun z1135 hz1135 => ?_)
  first | have tz1135 := i_subT hz1135 (rfl : z1131.toInt = z1131.toInt) (kc_2 : (2 : Int32).toInt = 2) (by omega) (by omega) | skip
  refine q_istore (lv9 := [(5, .int z1135), (4, .int la), (3, .int z1131), (0, .ref (ad 120)), (1, .int la), (2, .int k)]) hM dX8_write_28 hl (by decide) rfl (fun ls hl => ?_)
  have L30 : ∀ (fu30 : Nat) (w30_4 : Int32) (w30_5 : Int32) (g9 : Nat → va_E) (H : Heap) (locs : List Loc) (ls : Array Slot), (w30_5.toInt + 1).toNat < fu30 → (Rng g9) → (-1 ≤ w30_5.toInt) → (w30_5.toInt ≤ 4) → (-1 ≤ w30_4.toInt) → (w30_4.toInt ≤ 340) → lv_has ls 6 [(0, .ref (ad 120)), (1, .int la), (2, .int k), (3, .int z1131), (4, .int w30_4), (5, .int w30_5)] → WS ad cA (fun i k => i = 121) g0 K g9 H locs → XX K 0 0 H locs 30 ls [] := by
    intro fu30
    induction fu30 with
    | zero => intro w30_4 w30_5 g9 H locs ls h0; omega
    | succ fu30 ih30 =>
      intro w30_4 w30_5 g9 H locs ls hm30 i30_0 i30_1 i30_2 i30_3 i30_4 hl hW
      have hG := i30_0
      refine q_iload hM dX8_write_30 (lv_at hl 5 rfl) ?_
      refine q_if_lt (tgt := 75) hM dX8_write_32 (by decide) (rfl : w30_5.toInt = w30_5.toInt) (fun h32 => ?_) (fun h32 => ?_)
      · refine q_iload_n hM dX8_write_75 (lv_at hl 3 rfl) ?_
        exact hE _ _ _ _ _ _ hW.1 ⟨_, rfl, hW.2.1, hG, hW.2.2, (by omega)⟩ dX8_write_76
      · refine q_iload hM dX8_write_35 (lv_at hl 5 rfl) ?_
        refine q_iconst (v := (5 : Int32)) hM dX8_write_37 (by decide) ?_
        refine q_icmp_ge (tgt := 75) hM dX8_write_38 (by decide) (rfl : w30_5.toInt = w30_5.toInt) (kc_5 : (5 : Int32).toInt = 5) (fun h38 => ?_) (fun h38 => ?_)
        · refine q_iload_n hM dX8_write_75 (lv_at hl 3 rfl) ?_
          exact hE _ _ _ _ _ _ hW.1 ⟨_, rfl, hW.2.1, hG, hW.2.2, (by omega)⟩ dX8_write_76
        · refine q_iload hM dX8_write_41 (lv_at hl 4 rfl) ?_
          refine q_if_lt (tgt := 75) hM dX8_write_43 (by decide) (rfl : w30_4.toInt = w30_4.toInt) (fun h43 => ?_) (fun h43 => ?_)
          · refine q_iload_n hM dX8_write_75 (lv_at hl 3 rfl) ?_
            exact hE _ _ _ _ _ _ hW.1 ⟨_, rfl, hW.2.1, hG, hW.2.2, (by omega)⟩ dX8_write_76
          · refine q_aload_n hM dX8_write_46 (lv_at hl 0 rfl) ?_
            refine w_get (v := .ref (ad 121)) hM hW FG_X8_11 lb_120 (rf_120_0 hW.2.1) dX8_write_47 ?_
            refine q_iload hM dX8_write_50 (lv_at hl 5 rfl) ?_
            refine q_aload_n hM dX8_write_52 (lv_at hl 0 rfl) ?_
            refine w_get (v := .ref (ad 125)) hM hW FG_X8_25 lb_120 (rf_120_4 hW.2.1) dX8_write_53 ?_
            refine q_iload hM dX8_write_56 (lv_at hl 4 rfl) ?_
            refine w_iald hM hW lb_125 (i_in (by omega) (by omega)) dX8_write_58 ?_
            refine q_top (fun y1143 hy1143 => ?_)
            refine w_iast hM hW lb_121 (by omega) (i_in (by omega) (by omega)) dX8_write_59 (fun g1144 H locs hW e1 e2 => ?_)
            have hG := hG.st e1 e2 (rfl : rA 121 = (-2147483648, 2147483647)) (by have := i_rng y1143; omega) (by have := i_rng y1143; omega)
            refine q_aload_n hM dX8_write_60 (lv_at hl 0 rfl) ?_
            refine w_get (v := .ref (ad 124)) hM hW FG_X8_22 lb_120 (rf_120_3 hW.2.1) dX8_write_61 ?_
            refine q_iload hM dX8_write_64 (lv_at hl 4 rfl) ?_
            refine w_iald hM hW lb_124 (i_in (by omega) (by omega)) dX8_write_66 ?_
            refine q_top (fun y1145 hy1145 => ?_)
            have by1145 := hG.a hy1145 rA_124
            refine q_istore (lv9 := [(4, .int y1145), (0, .ref (ad 120)), (1, .int la), (2, .int k), (3, .int z1131), (5, .int w30_5)]) hM dX8_write_67 hl (by decide) rfl (fun ls hl => ?_)
            refine q_iinc (lv9 := fun z1146 => [(5, .int z1146), (4, .int y1145), (0, .ref (ad 120)), (1, .int la), (2, .int k), (3, .int z1131)]) hM dX8_write_69 hl (kq := 5) rfl (by decide) (fun _ => rfl) (fun z1146 ls hz1146 hl => ?_)
            first | have tz1146 := i_addT hz1146 (rfl : w30_5.toInt = w30_5.toInt) (kc_m1 : (Int32.ofInt (-1)).toInt = (-1)) (by omega) (by omega) | skip
            refine q_goto (tgt := 30) hM dX8_write_72 (by decide) ?_
            exact ih30 y1145 z1146 _ _ _ _ (by omega) hG (by omega) (by omega) (by omega) (by omega) (lv_sub hl [2, 3, 4, 5, 1, 0] rfl) hW
  exact L30 _ la z1135 _ _ _ _ (Nat.lt_succ_self _) hG (by omega) (by omega) (by omega) (by omega) (lv_sub hl [3, 4, 5, 2, 1, 0] rfl) hW
