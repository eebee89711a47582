theorem i_shl1p {p z : Int32} (h : (1 : Int32) <<< (p &&& 31) = z) (h0 : 0 ≤ p.toInt) (h1 : p.toInt < 31) : 1 ≤ z.toInt := by
  obtain ⟨k, hk⟩ : ∃ k : Nat, p.toInt = k := ⟨p.toInt.toNat, by omega⟩
  have hp : p = nI k := nI_k hk (by omega)
  have e := sh1 k (by omega)
  rw [← hp, h] at e
  have h5 := Nat.two_pow_pos k
  omega

theorem dX12_taught_0 : decode cX12_taught 0 = .ok (.iload_n 1, 1) := by decide +kernel
theorem dX12_taught_1 : decode cX12_taught 1 = .ok (.i2l, 1) := by decide +kernel
theorem dX12_taught_2 : decode cX12_taught 2 = .ok (.lconst 1, 1) := by decide +kernel
theorem dX12_taught_3 : decode cX12_taught 3 = .ok (.ldc2_w 575, 3) := by decide +kernel
theorem dX12_taught_6 : decode cX12_taught 6 = .ok (.invokestatic 190, 3) := by decide +kernel
theorem dX12_taught_9 : decode cX12_taught 9 = .ok (.ifCond .eq 63, 3) := by decide +kernel
theorem dX12_taught_12 : decode cX12_taught 12 = .ok (.iload_n 1, 1) := by decide +kernel
theorem dX12_taught_13 : decode cX12_taught 13 = .ok (.aload_n 0, 1) := by decide +kernel
theorem dX12_taught_14 : decode cX12_taught 14 = .ok (.invokevirtual 577, 3) := by decide +kernel
theorem dX12_taught_17 : decode cX12_taught 17 = .ok (.iconst (-1), 1) := by decide +kernel
theorem dX12_taught_18 : decode cX12_taught 18 = .ok (.ixor, 1) := by decide +kernel
theorem dX12_taught_19 : decode cX12_taught 19 = .ok (.iand, 1) := by decide +kernel
theorem dX12_taught_20 : decode cX12_taught 20 = .ok (.ifCond .ne 52, 3) := by decide +kernel
theorem dX12_taught_23 : decode cX12_taught 23 = .ok (.iload_n 2, 1) := by decide +kernel
theorem dX12_taught_24 : decode cX12_taught 24 = .ok (.i2l, 1) := by decide +kernel
theorem dX12_taught_25 : decode cX12_taught 25 = .ok (.lconst 1, 1) := by decide +kernel
theorem dX12_taught_26 : decode cX12_taught 26 = .ok (.ldc2_w 543, 3) := by decide +kernel
theorem dX12_taught_29 : decode cX12_taught 29 = .ok (.invokestatic 190, 3) := by decide +kernel
theorem dX12_taught_32 : decode cX12_taught 32 = .ok (.ifCond .eq 40, 3) := by decide +kernel
theorem dX12_taught_35 : decode cX12_taught 35 = .ok (.iload_n 1, 1) := by decide +kernel
theorem dX12_taught_36 : decode cX12_taught 36 = .ok (.invokestatic 215, 3) := by decide +kernel
theorem dX12_taught_39 : decode cX12_taught 39 = .ok (.iload_n 2, 1) := by decide +kernel
theorem dX12_taught_40 : decode cX12_taught 40 = .ok (.invokestatic 215, 3) := by decide +kernel
theorem dX12_taught_43 : decode cX12_taught 43 = .ok (.if_icmp .ne 29, 3) := by decide +kernel
theorem dX12_taught_46 : decode cX12_taught 46 = .ok (.iload_n 3, 1) := by decide +kernel
theorem dX12_taught_47 : decode cX12_taught 47 = .ok (.bipush 20, 2) := by decide +kernel
theorem dX12_taught_49 : decode cX12_taught 49 = .ok (.if_icmp .eq 25, 3) := by decide +kernel
theorem dX12_taught_52 : decode cX12_taught 52 = .ok (.iload_n 3, 1) := by decide +kernel
theorem dX12_taught_53 : decode cX12_taught 53 = .ok (.i2l, 1) := by decide +kernel
theorem dX12_taught_54 : decode cX12_taught 54 = .ok (.lconst 0, 1) := by decide +kernel
theorem dX12_taught_55 : decode cX12_taught 55 = .ok (.ldc2_w 225, 3) := by decide +kernel
theorem dX12_taught_58 : decode cX12_taught 58 = .ok (.invokestatic 190, 3) := by decide +kernel
theorem dX12_taught_61 : decode cX12_taught 61 = .ok (.ifCond .eq 11, 3) := by decide +kernel
theorem dX12_taught_64 : decode cX12_taught 64 = .ok (.iload_n 2, 1) := by decide +kernel
theorem dX12_taught_65 : decode cX12_taught 65 = .ok (.iload_n 3, 1) := by decide +kernel
theorem dX12_taught_66 : decode cX12_taught 66 = .ok (.invokestatic 204, 3) := by decide +kernel
theorem dX12_taught_69 : decode cX12_taught 69 = .ok (.ifCond .ne 5, 3) := by decide +kernel
theorem dX12_taught_72 : decode cX12_taught 72 = .ok (.iconst (-1), 1) := by decide +kernel
theorem dX12_taught_73 : decode cX12_taught 73 = .ok (.ireturn, 1) := by decide +kernel
theorem dX12_taught_74 : decode cX12_taught 74 = .ok (.aload_n 0, 1) := by decide +kernel
theorem dX12_taught_75 : decode cX12_taught 75 = .ok (.iload_n 2, 1) := by decide +kernel
theorem dX12_taught_76 : decode cX12_taught 76 = .ok (.invokevirtual 551, 3) := by decide +kernel
theorem dX12_taught_79 : decode cX12_taught 79 = .ok (.istore 4, 2) := by decide +kernel
theorem dX12_taught_81 : decode cX12_taught 81 = .ok (.iconst 0, 1) := by decide +kernel
theorem dX12_taught_82 : decode cX12_taught 82 = .ok (.istore 5, 2) := by decide +kernel
theorem dX12_taught_84 : decode cX12_taught 84 = .ok (.iload 5, 2) := by decide +kernel
theorem dX12_taught_86 : decode cX12_taught 86 = .ok (.iload 4, 2) := by decide +kernel
theorem dX12_taught_88 : decode cX12_taught 88 = .ok (.if_icmp .ge 23, 3) := by decide +kernel
theorem dX12_taught_91 : decode cX12_taught 91 = .ok (.aload_n 0, 1) := by decide +kernel
theorem dX12_taught_92 : decode cX12_taught 92 = .ok (.getfield 160, 3) := by decide +kernel
theorem dX12_taught_95 : decode cX12_taught 95 = .ok (.iload 5, 2) := by decide +kernel
theorem dX12_taught_97 : decode cX12_taught 97 = .ok (.aload_n 0, 1) := by decide +kernel
theorem dX12_taught_98 : decode cX12_taught 98 = .ok (.getfield 139, 3) := by decide +kernel
theorem dX12_taught_101 : decode cX12_taught 101 = .ok (.iload 5, 2) := by decide +kernel
theorem dX12_taught_103 : decode cX12_taught 103 = .ok (.iaload, 1) := by decide +kernel
theorem dX12_taught_104 : decode cX12_taught 104 = .ok (.iastore, 1) := by decide +kernel
theorem dX12_taught_105 : decode cX12_taught 105 = .ok (.iinc 5 1, 3) := by decide +kernel
theorem dX12_taught_108 : decode cX12_taught 108 = .ok (.goto (-24), 3) := by decide +kernel
theorem dX12_taught_111 : decode cX12_taught 111 = .ok (.aload_n 0, 1) := by decide +kernel
theorem dX12_taught_112 : decode cX12_taught 112 = .ok (.iload_n 1, 1) := by decide +kernel
theorem dX12_taught_113 : decode cX12_taught 113 = .ok (.invokevirtual 551, 3) := by decide +kernel
theorem dX12_taught_116 : decode cX12_taught 116 = .ok (.istore 5, 2) := by decide +kernel
theorem dX12_taught_118 : decode cX12_taught 118 = .ok (.iconst (-1), 1) := by decide +kernel
theorem dX12_taught_119 : decode cX12_taught 119 = .ok (.istore 6, 2) := by decide +kernel
theorem dX12_taught_121 : decode cX12_taught 121 = .ok (.iconst 0, 1) := by decide +kernel
theorem dX12_taught_122 : decode cX12_taught 122 = .ok (.istore 7, 2) := by decide +kernel
theorem dX12_taught_124 : decode cX12_taught 124 = .ok (.iload 7, 2) := by decide +kernel
theorem dX12_taught_126 : decode cX12_taught 126 = .ok (.iload 4, 2) := by decide +kernel
theorem dX12_taught_128 : decode cX12_taught 128 = .ok (.iload 4, 2) := by decide +kernel
theorem dX12_taught_130 : decode cX12_taught 130 = .ok (.invokestatic 533, 3) := by decide +kernel
theorem dX12_taught_133 : decode cX12_taught 133 = .ok (.if_icmp .ge 127, 3) := by decide +kernel
theorem dX12_taught_136 : decode cX12_taught 136 = .ok (.aload_n 0, 1) := by decide +kernel
theorem dX12_taught_137 : decode cX12_taught 137 = .ok (.iload 7, 2) := by decide +kernel
theorem dX12_taught_139 : decode cX12_taught 139 = .ok (.iload 4, 2) := by decide +kernel
theorem dX12_taught_141 : decode cX12_taught 141 = .ok (.iload 4, 2) := by decide +kernel
theorem dX12_taught_143 : decode cX12_taught 143 = .ok (.invokevirtual 536, 3) := by decide +kernel
theorem dX12_taught_146 : decode cX12_taught 146 = .ok (.aload_n 0, 1) := by decide +kernel
theorem dX12_taught_147 : decode cX12_taught 147 = .ok (.iload 4, 2) := by decide +kernel
theorem dX12_taught_149 : decode cX12_taught 149 = .ok (.invokevirtual 580, 3) := by decide +kernel
theorem dX12_taught_152 : decode cX12_taught 152 = .ok (.ifCond .ne 6, 3) := by decide +kernel
theorem dX12_taught_155 : decode cX12_taught 155 = .ok (.goto 99, 3) := by decide +kernel
theorem dX12_taught_158 : decode cX12_taught 158 = .ok (.iconst 0, 1) := by decide +kernel
theorem dX12_taught_159 : decode cX12_taught 159 = .ok (.istore 8, 2) := by decide +kernel
theorem dX12_taught_161 : decode cX12_taught 161 = .ok (.iconst 0, 1) := by decide +kernel
theorem dX12_taught_162 : decode cX12_taught 162 = .ok (.istore 9, 2) := by decide +kernel
theorem dX12_taught_164 : decode cX12_taught 164 = .ok (.iload 9, 2) := by decide +kernel
theorem dX12_taught_166 : decode cX12_taught 166 = .ok (.iload 5, 2) := by decide +kernel
theorem dX12_taught_168 : decode cX12_taught 168 = .ok (.if_icmp .ge 42, 3) := by decide +kernel
theorem dX12_taught_171 : decode cX12_taught 171 = .ok (.iload 8, 2) := by decide +kernel
theorem dX12_taught_173 : decode cX12_taught 173 = .ok (.aload_n 0, 1) := by decide +kernel
theorem dX12_taught_174 : decode cX12_taught 174 = .ok (.getfield 157, 3) := by decide +kernel
theorem dX12_taught_177 : decode cX12_taught 177 = .ok (.bipush 6, 2) := by decide +kernel
theorem dX12_taught_179 : decode cX12_taught 179 = .ok (.aload_n 0, 1) := by decide +kernel
theorem dX12_taught_180 : decode cX12_taught 180 = .ok (.getfield 139, 3) := by decide +kernel
theorem dX12_taught_183 : decode cX12_taught 183 = .ok (.aload_n 0, 1) := by decide +kernel
theorem dX12_taught_184 : decode cX12_taught 184 = .ok (.getfield 142, 3) := by decide +kernel
theorem dX12_taught_187 : decode cX12_taught 187 = .ok (.iload 9, 2) := by decide +kernel
theorem dX12_taught_189 : decode cX12_taught 189 = .ok (.iaload, 1) := by decide +kernel
theorem dX12_taught_190 : decode cX12_taught 190 = .ok (.iaload, 1) := by decide +kernel
theorem dX12_taught_191 : decode cX12_taught 191 = .ok (.imul, 1) := by decide +kernel
theorem dX12_taught_192 : decode cX12_taught 192 = .ok (.aload_n 0, 1) := by decide +kernel
theorem dX12_taught_193 : decode cX12_taught 193 = .ok (.getfield 160, 3) := by decide +kernel
theorem dX12_taught_196 : decode cX12_taught 196 = .ok (.iload 9, 2) := by decide +kernel
theorem dX12_taught_198 : decode cX12_taught 198 = .ok (.iaload, 1) := by decide +kernel
theorem dX12_taught_199 : decode cX12_taught 199 = .ok (.iadd, 1) := by decide +kernel
theorem dX12_taught_200 : decode cX12_taught 200 = .ok (.iaload, 1) := by decide +kernel
theorem dX12_taught_201 : decode cX12_taught 201 = .ok (.iadd, 1) := by decide +kernel
theorem dX12_taught_202 : decode cX12_taught 202 = .ok (.istore 8, 2) := by decide +kernel
theorem dX12_taught_204 : decode cX12_taught 204 = .ok (.iinc 9 1, 3) := by decide +kernel
theorem dX12_taught_207 : decode cX12_taught 207 = .ok (.goto (-43), 3) := by decide +kernel
theorem dX12_taught_210 : decode cX12_taught 210 = .ok (.iload 8, 2) := by decide +kernel
theorem dX12_taught_212 : decode cX12_taught 212 = .ok (.iload 6, 2) := by decide +kernel
theorem dX12_taught_214 : decode cX12_taught 214 = .ok (.if_icmp .gt 6, 3) := by decide +kernel
theorem dX12_taught_217 : decode cX12_taught 217 = .ok (.goto 37, 3) := by decide +kernel
theorem dX12_taught_220 : decode cX12_taught 220 = .ok (.iload 8, 2) := by decide +kernel
theorem dX12_taught_222 : decode cX12_taught 222 = .ok (.istore 6, 2) := by decide +kernel
theorem dX12_taught_224 : decode cX12_taught 224 = .ok (.iconst 0, 1) := by decide +kernel
theorem dX12_taught_225 : decode cX12_taught 225 = .ok (.istore 9, 2) := by decide +kernel
theorem dX12_taught_227 : decode cX12_taught 227 = .ok (.iload 9, 2) := by decide +kernel
theorem dX12_taught_229 : decode cX12_taught 229 = .ok (.iload 4, 2) := by decide +kernel
theorem dX12_taught_231 : decode cX12_taught 231 = .ok (.if_icmp .ge 23, 3) := by decide +kernel
theorem dX12_taught_234 : decode cX12_taught 234 = .ok (.aload_n 0, 1) := by decide +kernel
theorem dX12_taught_235 : decode cX12_taught 235 = .ok (.getfield 145, 3) := by decide +kernel
theorem dX12_taught_238 : decode cX12_taught 238 = .ok (.iload 9, 2) := by decide +kernel
theorem dX12_taught_240 : decode cX12_taught 240 = .ok (.aload_n 0, 1) := by decide +kernel
theorem dX12_taught_241 : decode cX12_taught 241 = .ok (.getfield 142, 3) := by decide +kernel
theorem dX12_taught_244 : decode cX12_taught 244 = .ok (.iload 9, 2) := by decide +kernel
theorem dX12_taught_246 : decode cX12_taught 246 = .ok (.iaload, 1) := by decide +kernel
theorem dX12_taught_247 : decode cX12_taught 247 = .ok (.iastore, 1) := by decide +kernel
theorem dX12_taught_248 : decode cX12_taught 248 = .ok (.iinc 9 1, 3) := by decide +kernel
theorem dX12_taught_251 : decode cX12_taught 251 = .ok (.goto (-24), 3) := by decide +kernel
theorem dX12_taught_254 : decode cX12_taught 254 = .ok (.iinc 7 1, 3) := by decide +kernel
theorem dX12_taught_257 : decode cX12_taught 257 = .ok (.goto (-133), 3) := by decide +kernel
theorem dX12_taught_260 : decode cX12_taught 260 = .ok (.iload_n 3, 1) := by decide +kernel
theorem dX12_taught_261 : decode cX12_taught 261 = .ok (.bipush 20, 2) := by decide +kernel
theorem dX12_taught_263 : decode cX12_taught 263 = .ok (.if_icmp .ne 8, 3) := by decide +kernel
theorem dX12_taught_266 : decode cX12_taught 266 = .ok (.iload 6, 2) := by decide +kernel
theorem dX12_taught_268 : decode cX12_taught 268 = .ok (.goto 23, 3) := by decide +kernel
theorem dX12_taught_271 : decode cX12_taught 271 = .ok (.aload_n 0, 1) := by decide +kernel
theorem dX12_taught_272 : decode cX12_taught 272 = .ok (.getfield 139, 3) := by decide +kernel
theorem dX12_taught_275 : decode cX12_taught 275 = .ok (.aload_n 0, 1) := by decide +kernel
theorem dX12_taught_276 : decode cX12_taught 276 = .ok (.getfield 145, 3) := by decide +kernel
theorem dX12_taught_279 : decode cX12_taught 279 = .ok (.iload_n 2, 1) := by decide +kernel
theorem dX12_taught_280 : decode cX12_taught 280 = .ok (.iconst 1, 1) := by decide +kernel
theorem dX12_taught_281 : decode cX12_taught 281 = .ok (.iload_n 3, 1) := by decide +kernel
theorem dX12_taught_282 : decode cX12_taught 282 = .ok (.ishl, 1) := by decide +kernel
theorem dX12_taught_283 : decode cX12_taught 283 = .ok (.iconst 1, 1) := by decide +kernel
theorem dX12_taught_284 : decode cX12_taught 284 = .ok (.isub, 1) := by decide +kernel
theorem dX12_taught_285 : decode cX12_taught 285 = .ok (.iand, 1) := by decide +kernel
theorem dX12_taught_286 : decode cX12_taught 286 = .ok (.invokestatic 215, 3) := by decide +kernel
theorem dX12_taught_289 : decode cX12_taught 289 = .ok (.iaload, 1) := by decide +kernel
theorem dX12_taught_290 : decode cX12_taught 290 = .ok (.iaload, 1) := by decide +kernel
theorem dX12_taught_291 : decode cX12_taught 291 = .ok (.ireturn, 1) := by decide +kernel
theorem myX12_toldMasters : MI yX12_toldMasters cX12_toldMasters 3 (some FieldType.int) 0 := ⟨kAW (v_7_2 (List.mem_of_getElem? (i := 13) rfl)) rfl, kAW (v_0_0 (List.mem_of_getElem? (i := 13) rfl)) rfl, kAW (v_7_2 (List.mem_of_getElem? (i := 12) rfl)) rfl, kAW (tp_t6 (List.mem_of_getElem? (i := 6) rfl)) rfl, by decide, by decide, by decide +kernel⟩
theorem FG_X12_145 : FG RX12 145 12 86 79 := ⟨RX12, TX12, rfl, wX12, by decide, kAW (v_4_7 (List.mem_of_getElem? (i := 12) rfl)) rfl, rfl⟩
theorem myX12_isOrder : MI yX12_isOrder cX12_isOrder 4 (some FieldType.boolean) 1 := ⟨kAW (v_7_3 (List.mem_of_getElem? (i := 1) rfl)) rfl, kAW (v_0_0 (List.mem_of_getElem? (i := 13) rfl)) rfl, kAW (v_7_3 (List.mem_of_getElem? (i := 0) rfl)) rfl, kAW (tp_t6 (List.mem_of_getElem? (i := 7) rfl)) rfl, by decide, by decide, by decide +kernel⟩
theorem FG_X12_160 : FG RX12 160 12 86 84 := ⟨RX12, TX12, rfl, wX12, by decide, kAW (v_4_8 (List.mem_of_getElem? (i := 1) rfl)) rfl, rfl⟩
set_option maxRecDepth 100000 in
set_option maxHeartbeats 4000000 in
theorem p_X12_taught (l : Launch) (D : va_G) (cA : Nat → ClassId) (ad : Nat → Nat) (g0 : Nat → va_E) (a : Int32) (b : Int32) (c : Int32)   (hSh : Shp ad cA g0) (hG : Rng g0) : CT l NN ad cA D yX12_taught cX12_taught 10 (some FieldType.int) (2, 44) [.ref (ad 129), .int a, .int b, .int c] g0 (fun v g' => ∃ (r : Int32), v = some (.int r) ∧ Shp ad cA g' ∧ Rng g' ∧ FR (fun i k => (171 ≤ i ∧ i < 174) ∨ i = 178) g0 g') := by
  refine q_enterI (by decide) (Nat.le_of_ble_eq_true rfl) rfl (fun K H locs ls _ _ hM hW0 hR hC hE hl => ?_)
  have hl : lv_has ls 10 [(0, .ref (ad 129)), (1, .int a), (2, .int b), (3, .int c)] := hl
  have hW : WS ad cA (fun i k => (171 ≤ i ∧ i < 174) ∨ i = 178) g0 K g0 H locs := ⟨hW0, hSh, FR.rf⟩
  have := kc_0
  have := kc_1
  have := kc_m1
  have := kc_m2
  refine q_iload_n hM dX12_taught_0 (lv_at hl 1 rfl) ?_
  refine q_i2l hM dX12_taught_1 ?_
  have := l_i2l a
  refine q_lconst (v := 1) hM dX12_taught_2 (by decide) ?_
  have := kl_1
  refine q_ldc2 (v := 31) hM (kAW (v_7_2 (List.mem_of_getElem? (i := 9) rfl)) rfl) dX12_taught_3 ?_
  have := kl_31
  refine q_callS (As := [.long a.toInt64, .long (1 : Int64), .long (31 : Int64)]) (rest := []) hM hW.1 hR hC myX12_lies (kAW (v_5_4 (List.mem_of_getElem? (i := 14) rfl)) rfl) (c_X12_lies _ _ cA ad g0 a.toInt64 (1 : Int64) (31 : Int64) hW.2.1) ⟨by decide, by decide⟩ rfl rfl hl.1 (Nat.le_of_ble_eq_true rfl) dX12_taught_6 (fun v g7547 H locs hp hW1 => ?_)
  obtain ⟨r7546, rfl, hr7546, rfl⟩ := hp
  have hW : WS ad cA (fun i k => (171 ≤ i ∧ i < 174) ∨ i = 178) g0 K g0 H locs := ⟨hW1, hW.2.1, hW.2.2⟩
  refine q_if_eq (tgt := 72) hM dX12_taught_9 (by decide) (rfl : r7546.toInt = r7546.toInt) (fun h9 => ?_) (fun h9 => ?_)
  · refine q_iconst (v := ((-1) : Int32)) hM dX12_taught_72 (by decide) ?_
    exact hE _ _ _ _ _ _ hW.1 ⟨_, rfl, hW.2.1, hG, hW.2.2⟩ dX12_taught_73
  · refine q_iload_n hM dX12_taught_12 (lv_at hl 1 rfl) ?_
    refine q_aload_n hM dX12_taught_13 (lv_at hl 0 rfl) ?_
    refine q_callV (As := []) (rest := [.int a]) hM hW.1 hR hC myX12_toldMasters (kAW (v_7_2 (List.mem_of_getElem? (i := 10) rfl)) rfl) (rfl : vwCl[12]? = some (RX12, TX12, 86)) rfl lb_129.1 (shO hW.2.1 lb_129) (a_X12_toldMasters _ _ cA ad g0  hW.2.1 hG) ⟨by decide, by decide⟩ rfl rfl hl.1 (Nat.le_of_ble_eq_true rfl) dX12_taught_14 (fun v g7551 H locs hp hW1 => ?_)
    obtain ⟨r7550, rfl, hr7550, rfl⟩ := hp
    have hW : WS ad cA (fun i k => (171 ≤ i ∧ i < 174) ∨ i = 178) g0 K g0 H locs := ⟨hW1, hW.2.1, hW.2.2⟩
    refine q_iconst (v := ((-1) : Int32)) hM dX12_taught_17 (by decide) ?_
    refine q_ixor hM dX12_taught_18 (fun z7552 hz7552 => ?_)
    refine q_iand hM dX12_taught_19 (fun z7553 hz7553 => ?_)
    refine q_if_ne (tgt := 72) hM dX12_taught_20 (by decide) (rfl : z7553.toInt = z7553.toInt) (fun h20 => ?_) (fun h20 => ?_)
    · refine q_iconst (v := ((-1) : Int32)) hM dX12_taught_72 (by decide) ?_
      exact hE _ _ _ _ _ _ hW.1 ⟨_, rfl, hW.2.1, hG, hW.2.2⟩ dX12_taught_73
    · refine q_iload_n hM dX12_taught_23 (lv_at hl 2 rfl) ?_
      refine q_i2l hM dX12_taught_24 ?_
      have := l_i2l b
      refine q_lconst (v := 1) hM dX12_taught_25 (by decide) ?_
      have := kl_1
      refine q_ldc2 (v := 63) hM (kAW (v_6_12 (List.mem_of_getElem? (i := 14) rfl)) rfl) dX12_taught_26 ?_
      have := kl_63
      refine q_callS (As := [.long b.toInt64, .long (1 : Int64), .long (63 : Int64)]) (rest := []) hM hW.1 hR hC myX12_lies (kAW (v_5_4 (List.mem_of_getElem? (i := 14) rfl)) rfl) (c_X12_lies _ _ cA ad g0 b.toInt64 (1 : Int64) (63 : Int64) hW.2.1) ⟨by decide, by decide⟩ rfl rfl hl.1 (Nat.le_of_ble_eq_true rfl) dX12_taught_29 (fun v g7557 H locs hp hW1 => ?_)
      obtain ⟨r7556, rfl, hr7556, rfl⟩ := hp
      have hW : WS ad cA (fun i k => (171 ≤ i ∧ i < 174) ∨ i = 178) g0 K g0 H locs := ⟨hW1, hW.2.1, hW.2.2⟩
      refine q_if_eq (tgt := 72) hM dX12_taught_32 (by decide) (rfl : r7556.toInt = r7556.toInt) (fun h32 => ?_) (fun h32 => ?_)
      · refine q_iconst (v := ((-1) : Int32)) hM dX12_taught_72 (by decide) ?_
        exact hE _ _ _ _ _ _ hW.1 ⟨_, rfl, hW.2.1, hG, hW.2.2⟩ dX12_taught_73
      · refine q_iload_n hM dX12_taught_35 (lv_at hl 1 rfl) ?_
        refine q_callS (As := [.int a]) (rest := []) hM hW.1 hR hC myX12_sizeOf (kAW (v_5_6 (List.mem_of_getElem? (i := 14) rfl)) rfl) (a_X12_sizeOf _ _ cA ad g0 a hW.2.1 hG (by  omega)) ⟨by decide, by decide⟩ rfl rfl hl.1 (Nat.le_of_ble_eq_true rfl) dX12_taught_36 (fun v g7561 H locs hp hW1 => ?_)
        obtain ⟨r7560, rfl, hr7560, rfl⟩ := hp
        have hW : WS ad cA (fun i k => (171 ≤ i ∧ i < 174) ∨ i = 178) g0 K g0 H locs := ⟨hW1, hW.2.1, hW.2.2⟩
        refine q_iload_n hM dX12_taught_39 (lv_at hl 2 rfl) ?_
        refine q_callS (As := [.int b]) (rest := [.int r7560]) hM hW.1 hR hC myX12_sizeOf (kAW (v_5_6 (List.mem_of_getElem? (i := 14) rfl)) rfl) (a_X12_sizeOf _ _ cA ad g0 b hW.2.1 hG (by  omega)) ⟨by decide, by decide⟩ rfl rfl hl.1 (Nat.le_of_ble_eq_true rfl) dX12_taught_40 (fun v g7563 H locs hp hW1 => ?_)
        obtain ⟨r7562, rfl, hr7562, rfl⟩ := hp
        have hW : WS ad cA (fun i k => (171 ≤ i ∧ i < 174) ∨ i = 178) g0 K g0 H locs := ⟨hW1, hW.2.1, hW.2.2⟩
        refine q_icmp_ne (tgt := 72) hM dX12_taught_43 (by decide) (rfl : r7560.toInt = r7560.toInt) (rfl : r7562.toInt = r7562.toInt) (fun h43 => ?_) (fun h43 => ?_)
        · refine q_iconst (v := ((-1) : Int32)) hM dX12_taught_72 (by decide) ?_
          exact hE _ _ _ _ _ _ hW.1 ⟨_, rfl, hW.2.1, hG, hW.2.2⟩ dX12_taught_73
        · refine q_iload_n hM dX12_taught_46 (lv_at hl 3 rfl) ?_
          refine q_bipush (v := (20 : Int32)) hM dX12_taught_47 (by decide) ?_
          refine q_icmp_eq (tgt := 74) hM dX12_taught_49 (by decide) (rfl : c.toInt = c.toInt) (kc_20 : (20 : Int32).toInt = 20) (fun h49 => ?_) (fun h49 => ?_)
          · refine q_aload_n hM dX12_taught_74 (lv_at hl 0 rfl) ?_
            refine q_iload_n hM dX12_taught_75 (lv_at hl 2 rfl) ?_
            refine q_callV (As := [.int b]) (rest := []) hM hW.1 hR hC myX12_takesSome (kAW (v_6_13 (List.mem_of_getElem? (i := 3) rfl)) rfl) (rfl : vwCl[12]? = some (RX12, TX12, 86)) rfl lb_129.1 (shO hW.2.1 lb_129) (a_X12_takesSome_6 _ _ cA ad g0 b hW.2.1 hG (by  omega) (by  omega)) ⟨by decide, by decide⟩ rfl rfl hl.1 (Nat.le_of_ble_eq_true rfl) dX12_taught_76 (fun v g7568 H locs hp hW1 => ?_)
            obtain ⟨r7567, rfl, hs1, hG, hf1, hr7567⟩ := hp
            have hW : WS ad cA (fun i k => (171 ≤ i ∧ i < 174) ∨ i = 178) g0 K g7568 H locs := ⟨hW1, hs1, hW.2.2.tr hf1 (fun i k h => (Or.inl (by omega)))⟩
            have qA : ∀ j : Nat, (j : Int) < r7567.toInt → (arI g7568 171 j).toInt < 6 := hr7567.2.2.2
            refine q_istore (lv9 := [(4, .int r7567), (0, .ref (ad 129)), (1, .int a), (2, .int b), (3, .int c)]) hM dX12_taught_79 hl (by decide) rfl (fun ls hl => ?_)
            refine q_iconst (v := (0 : Int32)) hM dX12_taught_81 (by decide) ?_
            refine q_istore (lv9 := [(5, .int (0 : Int32)), (4, .int r7567), (0, .ref (ad 129)), (1, .int a), (2, .int b), (3, .int c)]) hM dX12_taught_82 hl (by decide) rfl (fun ls hl => ?_)
            have L84 : ∀ (fu84 : Nat) (w84_5 : Int32) (g9 : Nat → va_E) (H : Heap) (locs : List Loc) (ls : Array Slot), (r7567.toInt - w84_5.toInt + 1).toNat < fu84 → (Rng g9) → (0 ≤ w84_5.toInt) → (∀ j : Nat, (j : Int) < w84_5.toInt → (arI g9 178 j).toInt < 6) → (arI g9 171 = arI g7568 171) → lv_has ls 10 [(0, .ref (ad 129)), (1, .int a), (2, .int b), (3, .int c), (4, .int r7567), (5, .int w84_5)] → WS ad cA (fun i k => (171 ≤ i ∧ i < 174) ∨ i = 178) g0 K g9 H locs → XX K 0 0 H locs 84 ls [] := by
              intro fu84
              induction fu84 with
              | zero => intro w84_5 g9 H locs ls h0; omega
              | succ fu84 ih84 =>
                intro w84_5 g9 H locs ls hm84 i84_0 i84_1 i84_2 d84_171 hl hW
                have hG := i84_0
                have := i_rng r7567
                refine q_iload hM dX12_taught_84 (lv_at hl 5 rfl) ?_
                refine q_iload hM dX12_taught_86 (lv_at hl 4 rfl) ?_
                refine q_icmp_ge (tgt := 111) hM dX12_taught_88 (by decide) (rfl : w84_5.toInt = w84_5.toInt) (rfl : r7567.toInt = r7567.toInt) (fun h88 => ?_) (fun h88 => ?_)
                · refine q_aload_n hM dX12_taught_111 (lv_at hl 0 rfl) ?_
                  refine q_iload_n hM dX12_taught_112 (lv_at hl 1 rfl) ?_
                  refine q_callV (As := [.int a]) (rest := []) hM hW.1 hR hC myX12_takesSome (kAW (v_6_13 (List.mem_of_getElem? (i := 3) rfl)) rfl) (rfl : vwCl[12]? = some (RX12, TX12, 86)) rfl lb_129.1 (shO hW.2.1 lb_129) (a_X12_takesSome_5 _ _ cA ad g9 a hW.2.1 hG (by  omega) (by  omega)) ⟨by decide, by decide⟩ rfl rfl hl.1 (Nat.le_of_ble_eq_true rfl) dX12_taught_113 (fun v g7572 H locs hp hW1 => ?_)
                  obtain ⟨r7571, rfl, hs1, hG, hf1, hr7571⟩ := hp
                  have hW : WS ad cA (fun i k => (171 ≤ i ∧ i < 174) ∨ i = 178) g0 K g7572 H locs := ⟨hW1, hs1, hW.2.2.tr hf1 (fun i k h => (Or.inl (by omega)))⟩
                  have qT : ∀ j : Nat, (j : Int) < r7567.toInt → (arI g7572 178 j).toInt < 6 := by rw [hf1.2.1 178 (by omega)]; exact fun j hj => i84_2 j (by omega)
                  have qS : ∀ j : Nat, (j : Int) < r7571.toInt → (arI g7572 171 j).toInt < 5 := hr7571.2.2.2
                  refine q_istore (lv9 := [(5, .int r7571), (0, .ref (ad 129)), (1, .int a), (2, .int b), (3, .int c), (4, .int r7567)]) hM dX12_taught_116 hl (by decide) rfl (fun ls hl => ?_)
                  refine q_iconst (v := ((-1) : Int32)) hM dX12_taught_118 (by decide) ?_
                  refine q_istore (lv9 := [(6, .int ((-1) : Int32)), (5, .int r7571), (0, .ref (ad 129)), (1, .int a), (2, .int b), (3, .int c), (4, .int r7567)]) hM dX12_taught_119 hl (by decide) rfl (fun ls hl => ?_)
                  refine q_iconst (v := (0 : Int32)) hM dX12_taught_121 (by decide) ?_
                  refine q_istore (lv9 := [(7, .int (0 : Int32)), (6, .int ((-1) : Int32)), (5, .int r7571), (0, .ref (ad 129)), (1, .int a), (2, .int b), (3, .int c), (4, .int r7567)]) hM dX12_taught_122 hl (by decide) rfl (fun ls hl => ?_)
                  have L124 : ∀ (fu124 : Nat) (w124_6 : Int32) (w124_7 : Int32) (g9 : Nat → va_E) (H : Heap) (locs : List Loc) (ls : Array Slot), (2147483647 - w124_7.toInt).toNat < fu124 → (Rng g9) → (0 ≤ w124_7.toInt) → (arI g9 171 = arI g7572 171) → (arI g9 178 = arI g7572 178) → lv_has ls 10 [(0, .ref (ad 129)), (1, .int a), (2, .int b), (3, .int c), (4, .int r7567), (5, .int r7571), (6, .int w124_6), (7, .int w124_7)] → WS ad cA (fun i k => (171 ≤ i ∧ i < 174) ∨ i = 178) g0 K g9 H locs → XX K 0 0 H locs 124 ls [] := by
                    intro fu124
                    induction fu124 with
                    | zero => intro w124_6 w124_7 g9 H locs ls h0; omega
                    | succ fu124 ih124 =>
                      intro w124_6 w124_7 g9 H locs ls hm124 i124_0 i124_1 d124_171 d124_178 hl hW
                      have hG := i124_0
                      refine q_iload hM dX12_taught_124 (lv_at hl 7 rfl) ?_
                      refine q_iload hM dX12_taught_126 (lv_at hl 4 rfl) ?_
                      refine q_iload hM dX12_taught_128 (lv_at hl 4 rfl) ?_
                      refine q_callS (As := [.int r7567, .int r7567]) (rest := [.int w124_7]) hM hW.1 hR hC myX12_powerOf (kAW (v_6_13 (List.mem_of_getElem? (i := 15) rfl)) rfl) (a_X12_powerOf _ _ cA ad g9 r7567 r7567 hW.2.1 hG) ⟨by decide, by decide⟩ rfl rfl hl.1 (Nat.le_of_ble_eq_true rfl) dX12_taught_130 (fun v g7575 H locs hp hW1 => ?_)
                      obtain ⟨r7574, rfl, hr7574, rfl⟩ := hp
                      have hW : WS ad cA (fun i k => (171 ≤ i ∧ i < 174) ∨ i = 178) g0 K g9 H locs := ⟨hW1, hW.2.1, hW.2.2⟩
                      have := i_rng r7574
                      refine q_icmp_ge (tgt := 260) hM dX12_taught_133 (by decide) (rfl : w124_7.toInt = w124_7.toInt) (rfl : r7574.toInt = r7574.toInt) (fun h133 => ?_) (fun h133 => ?_)
                      · refine q_iload_n hM dX12_taught_260 (lv_at hl 3 rfl) ?_
                        refine q_bipush (v := (20 : Int32)) hM dX12_taught_261 (by decide) ?_
                        refine q_icmp_ne (tgt := 271) hM dX12_taught_263 (by decide) (rfl : c.toInt = c.toInt) (kc_20 : (20 : Int32).toInt = 20) (fun h263 => ?_) (fun h263 => ?_)
                        · refine q_aload_n hM dX12_taught_271 (lv_at hl 0 rfl) ?_
                          refine w_get (v := .ref (ad 171)) hM hW FG_X12_139 lb_129 (rf_129_77 hW.2.1) dX12_taught_272 ?_
                          refine q_aload_n hM dX12_taught_275 (lv_at hl 0 rfl) ?_
                          refine w_get (v := .ref (ad 173)) hM hW FG_X12_145 lb_129 (rf_129_79 hW.2.1) dX12_taught_276 ?_
                          refine q_iload_n hM dX12_taught_279 (lv_at hl 2 rfl) ?_
                          refine q_iconst (v := (1 : Int32)) hM dX12_taught_280 (by decide) ?_
                          refine q_iload_n hM dX12_taught_281 (lv_at hl 3 rfl) ?_
                          refine q_ishl hM dX12_taught_282 (fun z7578 hz7578 => ?_)
                          have sp := i_shl1p hz7578 (by omega) (by omega)
                          have := i_rng z7578
                          refine q_iconst (v := (1 : Int32)) hM dX12_taught_283 (by decide) ?_
                          refine q_isub hM dX12_taught_284 (fun z7579 hz7579 => ?_)
                          first | have tz7579 := i_subT hz7579 (rfl : z7578.toInt = z7578.toInt) (kc_1 : (1 : Int32).toInt = 1) (by omega) (by omega) | skip
                          refine q_iand hM dX12_taught_285 (fun z7580 hz7580 => ?_)
                          have al := i_and_le hz7580 (by omega) (by omega)
                          refine q_callS (As := [.int z7580]) (rest := [.ref (ad 173), .ref (ad 171)]) hM hW.1 hR hC myX12_sizeOf (kAW (v_5_6 (List.mem_of_getElem? (i := 14) rfl)) rfl) (a_X12_sizeOf _ _ cA ad g9 z7580 hW.2.1 hG (by  omega)) ⟨by decide, by decide⟩ rfl rfl hl.1 (Nat.le_of_ble_eq_true rfl) dX12_taught_286 (fun v g7582 H locs hp hW1 => ?_)
                          obtain ⟨r7581, rfl, hr7581, rfl⟩ := hp
                          have hW : WS ad cA (fun i k => (171 ≤ i ∧ i < 174) ∨ i = 178) g0 K g9 H locs := ⟨hW1, hW.2.1, hW.2.2⟩
                          have pl := pcT_le z7580.toInt.toNat 6
                          refine w_iald hM hW lb_173 (i_in (by omega) (by omega)) dX12_taught_289 ?_
                          refine q_top (fun y7583 hy7583 => ?_)
                          have by7583 := hG.a hy7583 rA_173
                          refine w_iald hM hW lb_171 (i_in (by omega) (by omega)) dX12_taught_290 ?_
                          refine q_top (fun y7584 hy7584 => ?_)
                          have by7584 := hG.a hy7584 rA_171
                          exact hE _ _ _ _ _ _ hW.1 ⟨_, rfl, hW.2.1, hG, hW.2.2⟩ dX12_taught_291
                        · refine q_iload hM dX12_taught_266 (lv_at hl 6 rfl) ?_
                          refine q_goto (tgt := 291) hM dX12_taught_268 (by decide) ?_
                          exact hE _ _ _ _ _ _ hW.1 ⟨_, rfl, hW.2.1, hG, hW.2.2⟩ dX12_taught_291
                      · refine q_aload_n hM dX12_taught_136 (lv_at hl 0 rfl) ?_
                        refine q_iload hM dX12_taught_137 (lv_at hl 7 rfl) ?_
                        refine q_iload hM dX12_taught_139 (lv_at hl 4 rfl) ?_
                        refine q_iload hM dX12_taught_141 (lv_at hl 4 rfl) ?_
                        refine q_callV (As := [.int w124_7, .int r7567, .int r7567]) (rest := []) hM hW.1 hR hC myX12_opensRow (kAW (v_6_14 (List.mem_of_getElem? (i := 2) rfl)) rfl) (rfl : vwCl[12]? = some (RX12, TX12, 86)) rfl lb_129.1 (shO hW.2.1 lb_129) (a_X12_opensRow _ _ cA ad g9 w124_7 r7567 r7567 hW.2.1 hG (by  omega) (by  omega) (by  omega) (by  omega) (by  omega)) ⟨by decide, by decide⟩ rfl rfl hl.1 (Nat.le_of_ble_eq_true rfl) dX12_taught_143 (fun v g7588 H locs hp hW1 => ?_)
                        obtain ⟨rfl, hs1, hG, hf1, e7587⟩ := hp
                        have f7589 : arI g7588 171 = arI g7572 171 := (hf1.2.1 171 (by omega)).trans d124_171
                        have f7590 : arI g7588 178 = arI g7572 178 := (hf1.2.1 178 (by omega)).trans d124_178
                        have hW : WS ad cA (fun i k => (171 ≤ i ∧ i < 174) ∨ i = 178) g0 K g7588 H locs := ⟨hW1, hs1, hW.2.2.tr hf1 (fun i k h => (Or.inl (by omega)))⟩
                        refine q_aload_n hM dX12_taught_146 (lv_at hl 0 rfl) ?_
                        refine q_iload hM dX12_taught_147 (lv_at hl 4 rfl) ?_
                        refine q_callV (As := [.int r7567]) (rest := []) hM hW.1 hR hC myX12_isOrder (kAW (v_7_2 (List.mem_of_getElem? (i := 14) rfl)) rfl) (rfl : vwCl[12]? = some (RX12, TX12, 86)) rfl lb_129.1 (shO hW.2.1 lb_129) (a_X12_isOrder _ _ cA ad g7588 r7567 hW.2.1 hG (by  omega) (by  omega)) ⟨by decide, by decide⟩ rfl rfl hl.1 (Nat.le_of_ble_eq_true rfl) dX12_taught_149 (fun v g7592 H locs hp hW1 => ?_)
                        obtain ⟨r7591, rfl, hr7591, rfl⟩ := hp
                        have hW : WS ad cA (fun i k => (171 ≤ i ∧ i < 174) ∨ i = 178) g0 K g7588 H locs := ⟨hW1, hW.2.1, hW.2.2⟩
                        refine q_if_ne (tgt := 158) hM dX12_taught_152 (by decide) (rfl : r7591.toInt = r7591.toInt) (fun h152 => ?_) (fun h152 => ?_)
                        · refine q_iconst (v := (0 : Int32)) hM dX12_taught_158 (by decide) ?_
                          refine q_istore (lv9 := [(8, .int (0 : Int32)), (0, .ref (ad 129)), (1, .int a), (2, .int b), (3, .int c), (4, .int r7567), (5, .int r7571), (6, .int w124_6), (7, .int w124_7)]) hM dX12_taught_159 hl (by decide) rfl (fun ls hl => ?_)
                          refine q_iconst (v := (0 : Int32)) hM dX12_taught_161 (by decide) ?_
                          refine q_istore (lv9 := [(9, .int (0 : Int32)), (8, .int (0 : Int32)), (0, .ref (ad 129)), (1, .int a), (2, .int b), (3, .int c), (4, .int r7567), (5, .int r7571), (6, .int w124_6), (7, .int w124_7)]) hM dX12_taught_162 hl (by decide) rfl (fun ls hl => ?_)
                          have L164 : ∀ (fu164 : Nat) (w164_8 : Int32) (w164_9 : Int32) (H : Heap) (locs : List Loc) (ls : Array Slot), (r7571.toInt - w164_9.toInt + 1).toNat < fu164 → (Rng g7588) → (0 ≤ w164_9.toInt) → lv_has ls 10 [(0, .ref (ad 129)), (1, .int a), (2, .int b), (3, .int c), (4, .int r7567), (5, .int r7571), (6, .int w124_6), (7, .int w124_7), (8, .int w164_8), (9, .int w164_9)] → WS ad cA (fun i k => (171 ≤ i ∧ i < 174) ∨ i = 178) g0 K g7588 H locs → XX K 0 0 H locs 164 ls [] := by
                            intro fu164
                            induction fu164 with
                            | zero => intro w164_8 w164_9 H locs ls h0; omega
                            | succ fu164 ih164 =>
                              intro w164_8 w164_9 H locs ls hm164 i164_0 i164_1 hl hW
                              have hG := i164_0
                              have := i_rng r7571
                              refine q_iload hM dX12_taught_164 (lv_at hl 9 rfl) ?_
                              refine q_iload hM dX12_taught_166 (lv_at hl 5 rfl) ?_
                              refine q_icmp_ge (tgt := 210) hM dX12_taught_168 (by decide) (rfl : w164_9.toInt = w164_9.toInt) (rfl : r7571.toInt = r7571.toInt) (fun h168 => ?_) (fun h168 => ?_)
                              · refine q_iload hM dX12_taught_210 (lv_at hl 8 rfl) ?_
                                refine q_iload hM dX12_taught_212 (lv_at hl 6 rfl) ?_
                                refine q_icmp_gt (tgt := 220) hM dX12_taught_214 (by decide) (rfl : w164_8.toInt = w164_8.toInt) (rfl : w124_6.toInt = w124_6.toInt) (fun h214 => ?_) (fun h214 => ?_)
                                · refine q_iload hM dX12_taught_220 (lv_at hl 8 rfl) ?_
                                  refine q_istore (lv9 := [(6, .int w164_8), (0, .ref (ad 129)), (1, .int a), (2, .int b), (3, .int c), (4, .int r7567), (5, .int r7571), (7, .int w124_7), (8, .int w164_8), (9, .int w164_9)]) hM dX12_taught_222 hl (by decide) rfl (fun ls hl => ?_)
                                  refine q_iconst (v := (0 : Int32)) hM dX12_taught_224 (by decide) ?_
                                  refine q_istore (lv9 := [(9, .int (0 : Int32)), (6, .int w164_8), (0, .ref (ad 129)), (1, .int a), (2, .int b), (3, .int c), (4, .int r7567), (5, .int r7571), (7, .int w124_7), (8, .int w164_8)]) hM dX12_taught_225 hl (by decide) rfl (fun ls hl => ?_)
                                  have L227 : ∀ (fu227 : Nat) (w227_9 : Int32) (g9 : Nat → va_E) (H : Heap) (locs : List Loc) (ls : Array Slot), (r7567.toInt - w227_9.toInt + 1).toNat < fu227 → (Rng g9) → (0 ≤ w227_9.toInt) → (arI g9 171 = arI g7572 171) → (arI g9 178 = arI g7572 178) → lv_has ls 10 [(0, .ref (ad 129)), (1, .int a), (2, .int b), (3, .int c), (4, .int r7567), (5, .int r7571), (6, .int w164_8), (7, .int w124_7), (8, .int w164_8), (9, .int w227_9)] → WS ad cA (fun i k => (171 ≤ i ∧ i < 174) ∨ i = 178) g0 K g9 H locs → XX K 0 0 H locs 227 ls [] := by
                                    intro fu227
                                    induction fu227 with
                                    | zero => intro w227_9 g9 H locs ls h0; omega
                                    | succ fu227 ih227 =>
                                      intro w227_9 g9 H locs ls hm227 i227_0 i227_1 d227_171 d227_178 hl hW
                                      have hG := i227_0
                                      have := i_rng r7567
                                      refine q_iload hM dX12_taught_227 (lv_at hl 9 rfl) ?_
                                      refine q_iload hM dX12_taught_229 (lv_at hl 4 rfl) ?_
                                      refine q_icmp_ge (tgt := 254) hM dX12_taught_231 (by decide) (rfl : w227_9.toInt = w227_9.toInt) (rfl : r7567.toInt = r7567.toInt) (fun h231 => ?_) (fun h231 => ?_)
                                      · refine q_iinc (lv9 := fun z7599 => [(7, .int z7599), (0, .ref (ad 129)), (1, .int a), (2, .int b), (3, .int c), (4, .int r7567), (5, .int r7571), (6, .int w164_8), (8, .int w164_8), (9, .int w227_9)]) hM dX12_taught_254 hl (kq := 7) rfl (by decide) (fun _ => rfl) (fun z7599 ls hz7599 hl => ?_)
                                        first | have tz7599 := i_addT hz7599 (rfl : w124_7.toInt = w124_7.toInt) (kc_1 : (Int32.ofInt 1).toInt = 1) (by omega) (by omega) | skip
                                        refine q_goto (tgt := 124) hM dX12_taught_257 (by decide) ?_
                                        exact ih124 w164_8 z7599 _ _ _ _ (by omega) hG (by omega) d227_171 d227_178 (lv_sub hl [1, 2, 3, 4, 5, 6, 7, 0] rfl) hW
                                      · refine q_aload_n hM dX12_taught_234 (lv_at hl 0 rfl) ?_
                                        refine w_get (v := .ref (ad 173)) hM hW FG_X12_145 lb_129 (rf_129_79 hW.2.1) dX12_taught_235 ?_
                                        refine q_iload hM dX12_taught_238 (lv_at hl 9 rfl) ?_
                                        refine q_aload_n hM dX12_taught_240 (lv_at hl 0 rfl) ?_
                                        refine w_get (v := .ref (ad 172)) hM hW FG_X12_142 lb_129 (rf_129_78 hW.2.1) dX12_taught_241 ?_
                                        refine q_iload hM dX12_taught_244 (lv_at hl 9 rfl) ?_
                                        refine w_iald hM hW lb_172 (i_in (by omega) (by omega)) dX12_taught_246 ?_
                                        refine q_top (fun y7601 hy7601 => ?_)
                                        have by7601 := hG.a hy7601 rA_172
                                        refine w_iast hM hW lb_173 (by omega) (i_in (by omega) (by omega)) dX12_taught_247 (fun g7602 H locs hW e1 e2 => ?_)
                                        have f7603 : arI g7602 171 = arI g7572 171 := (e2.2.1 171 (by unfold Only; omega)).trans d227_171
                                        have f7604 : arI g7602 178 = arI g7572 178 := (e2.2.1 178 (by unfold Only; omega)).trans d227_178
                                        have hG := hG.st e1 e2 rA_173 (by have := i_rng y7601; omega) (by have := i_rng y7601; omega)
                                        refine q_iinc (lv9 := fun z7605 => [(9, .int z7605), (0, .ref (ad 129)), (1, .int a), (2, .int b), (3, .int c), (4, .int r7567), (5, .int r7571), (6, .int w164_8), (7, .int w124_7), (8, .int w164_8)]) hM dX12_taught_248 hl (kq := 9) rfl (by decide) (fun _ => rfl) (fun z7605 ls hz7605 hl => ?_)
                                        first | have tz7605 := i_addT hz7605 (rfl : w227_9.toInt = w227_9.toInt) (kc_1 : (Int32.ofInt 1).toInt = 1) (by omega) (by omega) | skip
                                        refine q_goto (tgt := 227) hM dX12_taught_251 (by decide) ?_
                                        exact ih227 z7605 _ _ _ _ (by omega) hG (by omega) f7603 f7604 (lv_sub hl [1, 2, 3, 4, 5, 6, 7, 8, 9, 0] rfl) hW
                                  have := kc_0
                                  exact L227 _ (0 : Int32) _ _ _ _ (Nat.lt_succ_self _) hG (by omega) f7589 f7590 (lv_sub hl [2, 3, 4, 5, 6, 7, 1, 8, 9, 0] rfl) hW
                                · refine q_goto (tgt := 254) hM dX12_taught_217 (by decide) ?_
                                  refine q_iinc (lv9 := fun z7607 => [(7, .int z7607), (0, .ref (ad 129)), (1, .int a), (2, .int b), (3, .int c), (4, .int r7567), (5, .int r7571), (6, .int w124_6), (8, .int w164_8), (9, .int w164_9)]) hM dX12_taught_254 hl (kq := 7) rfl (by decide) (fun _ => rfl) (fun z7607 ls hz7607 hl => ?_)
                                  first | have tz7607 := i_addT hz7607 (rfl : w124_7.toInt = w124_7.toInt) (kc_1 : (Int32.ofInt 1).toInt = 1) (by omega) (by omega) | skip
                                  refine q_goto (tgt := 124) hM dX12_taught_257 (by decide) ?_
                                  exact ih124 w124_6 z7607 _ _ _ _ (by omega) hG (by omega) f7589 f7590 (lv_sub hl [1, 2, 3, 4, 5, 6, 7, 0] rfl) hW
                              · refine q_iload hM dX12_taught_171 (lv_at hl 8 rfl) ?_
                                refine q_aload_n hM dX12_taught_173 (lv_at hl 0 rfl) ?_
                                refine w_get (v := .ref (ad 177)) hM hW FG_X12_157 lb_129 (rf_129_83 hW.2.1) dX12_taught_174 ?_
                                refine q_bipush (v := (6 : Int32)) hM dX12_taught_177 (by decide) ?_
                                refine q_aload_n hM dX12_taught_179 (lv_at hl 0 rfl) ?_
                                refine w_get (v := .ref (ad 171)) hM hW FG_X12_139 lb_129 (rf_129_77 hW.2.1) dX12_taught_180 ?_
                                refine q_aload_n hM dX12_taught_183 (lv_at hl 0 rfl) ?_
                                refine w_get (v := .ref (ad 172)) hM hW FG_X12_142 lb_129 (rf_129_78 hW.2.1) dX12_taught_184 ?_
                                refine q_iload hM dX12_taught_187 (lv_at hl 9 rfl) ?_
                                refine w_iald hM hW lb_172 (i_in (by omega) (by omega)) dX12_taught_189 ?_
                                refine q_top (fun y7609 hy7609 => ?_)
                                have er : y7609.toInt < r7567.toInt := by rw [hy7609]; exact e7587 _ (by show ((w164_9.toInt.toNat : Nat) : Int) < _; omega)
                                have by7609 := hG.a hy7609 rA_172
                                refine w_iald hM hW lb_171 (i_in (by omega) (by omega)) dX12_taught_190 ?_
                                refine q_top (fun y7610 hy7610 => ?_)
                                have es : y7610.toInt < 5 := by rw [hy7610, f7589]; exact qS _ (by show ((y7609.toInt.toNat : Nat) : Int) < _; omega)
                                have by7610 := hG.a hy7610 rA_171
                                refine q_imul hM dX12_taught_191 (fun z7611 hz7611 => ?_)
                                first | have tz7611 := i_mulT hz7611 (kc_6 : (6 : Int32).toInt = 6) (rfl : y7610.toInt = y7610.toInt) (by omega) (by omega) | skip
                                refine q_aload_n hM dX12_taught_192 (lv_at hl 0 rfl) ?_
                                refine w_get (v := .ref (ad 178)) hM hW FG_X12_160 lb_129 (rf_129_84 hW.2.1) dX12_taught_193 ?_
                                refine q_iload hM dX12_taught_196 (lv_at hl 9 rfl) ?_
                                refine w_iald hM hW lb_178 (i_in (by omega) (by omega)) dX12_taught_198 ?_
                                refine q_top (fun y7612 hy7612 => ?_)
                                have et : y7612.toInt < 6 := by rw [hy7612, f7590]; exact qT _ (by show ((w164_9.toInt.toNat : Nat) : Int) < _; omega)
                                have by7612 := hG.a hy7612 rA_178
                                refine q_iadd hM dX12_taught_199 (fun z7613 hz7613 => ?_)
                                first | have tz7613 := i_addT hz7613 (rfl : z7611.toInt = z7611.toInt) (rfl : y7612.toInt = y7612.toInt) (by omega) (by omega) | skip
                                refine w_iald hM hW lb_177 (i_in (by omega) (by omega)) dX12_taught_200 ?_
                                refine q_top (fun y7614 hy7614 => ?_)
                                refine q_iadd hM dX12_taught_201 (fun z7615 hz7615 => ?_)
                                first | have tz7615 := i_addT hz7615 (rfl : w164_8.toInt = w164_8.toInt) (rfl : y7614.toInt = y7614.toInt) (by omega) (by omega) | skip
                                refine q_istore (lv9 := [(8, .int z7615), (0, .ref (ad 129)), (1, .int a), (2, .int b), (3, .int c), (4, .int r7567), (5, .int r7571), (6, .int w124_6), (7, .int w124_7), (9, .int w164_9)]) hM dX12_taught_202 hl (by decide) rfl (fun ls hl => ?_)
                                refine q_iinc (lv9 := fun z7616 => [(9, .int z7616), (8, .int z7615), (0, .ref (ad 129)), (1, .int a), (2, .int b), (3, .int c), (4, .int r7567), (5, .int r7571), (6, .int w124_6), (7, .int w124_7)]) hM dX12_taught_204 hl (kq := 9) rfl (by decide) (fun _ => rfl) (fun z7616 ls hz7616 hl => ?_)
                                first | have tz7616 := i_addT hz7616 (rfl : w164_9.toInt = w164_9.toInt) (kc_1 : (Int32.ofInt 1).toInt = 1) (by omega) (by omega) | skip
                                refine q_goto (tgt := 164) hM dX12_taught_207 (by decide) ?_
                                exact ih164 z7615 z7616 _ _ _ (by omega) hG (by omega) (lv_sub hl [2, 3, 4, 5, 6, 7, 8, 9, 1, 0] rfl) hW
                          have := kc_0
                          have := kc_0
                          exact L164 _ (0 : Int32) (0 : Int32) _ _ _ (Nat.lt_succ_self _) hG (by omega) (lv_sub hl [2, 3, 4, 5, 6, 7, 8, 9, 1, 0] rfl) hW
                        · refine q_goto (tgt := 254) hM dX12_taught_155 (by decide) ?_
                          refine q_iinc (lv9 := fun z7618 => [(7, .int z7618), (0, .ref (ad 129)), (1, .int a), (2, .int b), (3, .int c), (4, .int r7567), (5, .int r7571), (6, .int w124_6)]) hM dX12_taught_254 hl (kq := 7) rfl (by decide) (fun _ => rfl) (fun z7618 ls hz7618 hl => ?_)
                          first | have tz7618 := i_addT hz7618 (rfl : w124_7.toInt = w124_7.toInt) (kc_1 : (Int32.ofInt 1).toInt = 1) (by omega) (by omega) | skip
                          refine q_goto (tgt := 124) hM dX12_taught_257 (by decide) ?_
                          exact ih124 w124_6 z7618 _ _ _ _ (by omega) hG (by omega) f7589 f7590 (lv_sub hl [1, 2, 3, 4, 5, 6, 7, 0] rfl) hW
                  have := kc_m1
                  have := kc_0
                  exact L124 _ ((-1) : Int32) (0 : Int32) _ _ _ _ (Nat.lt_succ_self _) hG (by omega) (rfl : arI g7572 171 = arI g7572 171) (rfl : arI g7572 178 = arI g7572 178) (lv_sub hl [3, 4, 5, 6, 7, 2, 1, 0] rfl) hW
                · refine q_aload_n hM dX12_taught_91 (lv_at hl 0 rfl) ?_
                  refine w_get (v := .ref (ad 178)) hM hW FG_X12_160 lb_129 (rf_129_84 hW.2.1) dX12_taught_92 ?_
                  refine q_iload hM dX12_taught_95 (lv_at hl 5 rfl) ?_
                  refine q_aload_n hM dX12_taught_97 (lv_at hl 0 rfl) ?_
                  refine w_get (v := .ref (ad 171)) hM hW FG_X12_139 lb_129 (rf_129_77 hW.2.1) dX12_taught_98 ?_
                  refine q_iload hM dX12_taught_101 (lv_at hl 5 rfl) ?_
                  refine w_iald hM hW lb_171 (i_in (by omega) (by omega)) dX12_taught_103 ?_
                  refine q_top (fun y7620 hy7620 => ?_)
                  have by7620 := hG.a hy7620 rA_171
                  refine w_iast hM hW lb_178 (by omega) (i_in (by omega) (by omega)) dX12_taught_104 (fun g7621 H locs hW e1 e2 => ?_)
                  have f7622 : arI g7621 171 = arI g7568 171 := (e2.2.1 171 (by unfold Only; omega)).trans d84_171
                  have hG := hG.st e1 e2 rA_178 (by have := i_rng y7620; omega) (by have := i_rng y7620; omega)
                  refine q_iinc (lv9 := fun z7623 => [(5, .int z7623), (0, .ref (ad 129)), (1, .int a), (2, .int b), (3, .int c), (4, .int r7567)]) hM dX12_taught_105 hl (kq := 5) rfl (by decide) (fun _ => rfl) (fun z7623 ls hz7623 hl => ?_)
                  first | have tz7623 := i_addT hz7623 (rfl : w84_5.toInt = w84_5.toInt) (kc_1 : (Int32.ofInt 1).toInt = 1) (by omega) (by omega) | skip
                  refine q_goto (tgt := 84) hM dX12_taught_108 (by decide) ?_
                  exact ih84 z7623 _ _ _ _ (by omega) hG (by omega) (ent_upd e1 i84_2 (by rw [hy7620, d84_171]; exact qA _ (by show ((w84_5.toInt.toNat : Nat) : Int) < _; omega)) (by omega) (by omega)) f7622 (lv_sub hl [1, 2, 3, 4, 5, 0] rfl) hW
            have := kc_0
            exact L84 _ (0 : Int32) _ _ _ _ (Nat.lt_succ_self _) hG (by omega) (fun j h => absurd h (by have := kc_0; omega)) (rfl : arI g7568 171 = arI g7568 171) (lv_sub hl [2, 3, 4, 5, 1, 0] rfl) hW
          · refine q_iload_n hM dX12_taught_52 (lv_at hl 3 rfl) ?_
            refine q_i2l hM dX12_taught_53 ?_
            have := l_i2l c
            refine q_lconst (v := 0) hM dX12_taught_54 (by decide) ?_
            have := kl_0
            refine q_ldc2 (v := 5) hM (kAW (v_5_8 (List.mem_of_getElem? (i := 5) rfl)) rfl) dX12_taught_55 ?_
            have := kl_5
            refine q_callS (As := [.long c.toInt64, .long (0 : Int64), .long (5 : Int64)]) (rest := []) hM hW.1 hR hC myX12_lies (kAW (v_5_4 (List.mem_of_getElem? (i := 14) rfl)) rfl) (c_X12_lies _ _ cA ad g0 c.toInt64 (0 : Int64) (5 : Int64) hW.2.1) ⟨by decide, by decide⟩ rfl rfl hl.1 (Nat.le_of_ble_eq_true rfl) dX12_taught_58 (fun v g7626 H locs hp hW1 => ?_)
            obtain ⟨r7625, rfl, hr7625, rfl⟩ := hp
            have hW : WS ad cA (fun i k => (171 ≤ i ∧ i < 174) ∨ i = 178) g0 K g0 H locs := ⟨hW1, hW.2.1, hW.2.2⟩
            refine q_if_eq (tgt := 72) hM dX12_taught_61 (by decide) (rfl : r7625.toInt = r7625.toInt) (fun h61 => ?_) (fun h61 => ?_)
            · refine q_iconst (v := ((-1) : Int32)) hM dX12_taught_72 (by decide) ?_
              exact hE _ _ _ _ _ _ hW.1 ⟨_, rfl, hW.2.1, hG, hW.2.2⟩ dX12_taught_73
            · refine q_iload_n hM dX12_taught_64 (lv_at hl 2 rfl) ?_
              refine q_iload_n hM dX12_taught_65 (lv_at hl 3 rfl) ?_
              refine q_callS (As := [.int b, .int c]) (rest := []) hM hW.1 hR hC myX12_has (kAW (v_5_6 (List.mem_of_getElem? (i := 7) rfl)) rfl) (c_X12_has _ _ cA ad g0 b c hW.2.1 (by omega) (by omega)) ⟨by decide, by decide⟩ rfl rfl hl.1 (Nat.le_of_ble_eq_true rfl) dX12_taught_66 (fun v g7630 H locs hp hW1 => ?_)
              obtain ⟨r7629, rfl, hr7629, rfl⟩ := hp
              have hW : WS ad cA (fun i k => (171 ≤ i ∧ i < 174) ∨ i = 178) g0 K g0 H locs := ⟨hW1, hW.2.1, hW.2.2⟩
              refine q_if_ne (tgt := 74) hM dX12_taught_69 (by decide) (rfl : r7629.toInt = r7629.toInt) (fun h69 => ?_) (fun h69 => ?_)
              · refine q_aload_n hM dX12_taught_74 (lv_at hl 0 rfl) ?_
                refine q_iload_n hM dX12_taught_75 (lv_at hl 2 rfl) ?_
                refine q_callV (As := [.int b]) (rest := []) hM hW.1 hR hC myX12_takesSome (kAW (v_6_13 (List.mem_of_getElem? (i := 3) rfl)) rfl) (rfl : vwCl[12]? = some (RX12, TX12, 86)) rfl lb_129.1 (shO hW.2.1 lb_129) (a_X12_takesSome_6 _ _ cA ad g0 b hW.2.1 hG (by  omega) (by  omega)) ⟨by decide, by decide⟩ rfl rfl hl.1 (Nat.le_of_ble_eq_true rfl) dX12_taught_76 (fun v g7633 H locs hp hW1 => ?_)
                obtain ⟨r7632, rfl, hs1, hG, hf1, hr7632⟩ := hp
                have hW : WS ad cA (fun i k => (171 ≤ i ∧ i < 174) ∨ i = 178) g0 K g7633 H locs := ⟨hW1, hs1, hW.2.2.tr hf1 (fun i k h => (Or.inl (by omega)))⟩
                have qA : ∀ j : Nat, (j : Int) < r7632.toInt → (arI g7633 171 j).toInt < 6 := hr7632.2.2.2
                refine q_istore (lv9 := [(4, .int r7632), (0, .ref (ad 129)), (1, .int a), (2, .int b), (3, .int c)]) hM dX12_taught_79 hl (by decide) rfl (fun ls hl => ?_)
                refine q_iconst (v := (0 : Int32)) hM dX12_taught_81 (by decide) ?_
                refine q_istore (lv9 := [(5, .int (0 : Int32)), (4, .int r7632), (0, .ref (ad 129)), (1, .int a), (2, .int b), (3, .int c)]) hM dX12_taught_82 hl (by decide) rfl (fun ls hl => ?_)
                have L84 : ∀ (fu84 : Nat) (w84_5 : Int32) (g9 : Nat → va_E) (H : Heap) (locs : List Loc) (ls : Array Slot), (r7632.toInt - w84_5.toInt + 1).toNat < fu84 → (Rng g9) → (0 ≤ w84_5.toInt) → (∀ j : Nat, (j : Int) < w84_5.toInt → (arI g9 178 j).toInt < 6) → (arI g9 171 = arI g7633 171) → lv_has ls 10 [(0, .ref (ad 129)), (1, .int a), (2, .int b), (3, .int c), (4, .int r7632), (5, .int w84_5)] → WS ad cA (fun i k => (171 ≤ i ∧ i < 174) ∨ i = 178) g0 K g9 H locs → XX K 0 0 H locs 84 ls [] := by
                  intro fu84
                  induction fu84 with
                  | zero => intro w84_5 g9 H locs ls h0; omega
                  | succ fu84 ih84 =>
                    intro w84_5 g9 H locs ls hm84 i84_0 i84_1 i84_2 d84_171 hl hW
                    have hG := i84_0
                    have := i_rng r7632
                    refine q_iload hM dX12_taught_84 (lv_at hl 5 rfl) ?_
                    refine q_iload hM dX12_taught_86 (lv_at hl 4 rfl) ?_
                    refine q_icmp_ge (tgt := 111) hM dX12_taught_88 (by decide) (rfl : w84_5.toInt = w84_5.toInt) (rfl : r7632.toInt = r7632.toInt) (fun h88 => ?_) (fun h88 => ?_)
                    · refine q_aload_n hM dX12_taught_111 (lv_at hl 0 rfl) ?_
                      refine q_iload_n hM dX12_taught_112 (lv_at hl 1 rfl) ?_
                      refine q_callV (As := [.int a]) (rest := []) hM hW.1 hR hC myX12_takesSome (kAW (v_6_13 (List.mem_of_getElem? (i := 3) rfl)) rfl) (rfl : vwCl[12]? = some (RX12, TX12, 86)) rfl lb_129.1 (shO hW.2.1 lb_129) (a_X12_takesSome_5 _ _ cA ad g9 a hW.2.1 hG (by  omega) (by  omega)) ⟨by decide, by decide⟩ rfl rfl hl.1 (Nat.le_of_ble_eq_true rfl) dX12_taught_113 (fun v g7637 H locs hp hW1 => ?_)
                      obtain ⟨r7636, rfl, hs1, hG, hf1, hr7636⟩ := hp
                      have hW : WS ad cA (fun i k => (171 ≤ i ∧ i < 174) ∨ i = 178) g0 K g7637 H locs := ⟨hW1, hs1, hW.2.2.tr hf1 (fun i k h => (Or.inl (by omega)))⟩
                      have qT : ∀ j : Nat, (j : Int) < r7632.toInt → (arI g7637 178 j).toInt < 6 := by rw [hf1.2.1 178 (by omega)]; exact fun j hj => i84_2 j (by omega)
                      have qS : ∀ j : Nat, (j : Int) < r7636.toInt → (arI g7637 171 j).toInt < 5 := hr7636.2.2.2
                      refine q_istore (lv9 := [(5, .int r7636), (0, .ref (ad 129)), (1, .int a), (2, .int b), (3, .int c), (4, .int r7632)]) hM dX12_taught_116 hl (by decide) rfl (fun ls hl => ?_)
                      refine q_iconst (v := ((-1) : Int32)) hM dX12_taught_118 (by decide) ?_
                      refine q_istore (lv9 := [(6, .int ((-1) : Int32)), (5, .int r7636), (0, .ref (ad 129)), (1, .int a), (2, .int b), (3, .int c), (4, .int r7632)]) hM dX12_taught_119 hl (by decide) rfl (fun ls hl => ?_)
                      refine q_iconst (v := (0 : Int32)) hM dX12_taught_121 (by decide) ?_
                      refine q_istore (lv9 := [(7, .int (0 : Int32)), (6, .int ((-1) : Int32)), (5, .int r7636), (0, .ref (ad 129)), (1, .int a), (2, .int b), (3, .int c), (4, .int r7632)]) hM dX12_taught_122 hl (by decide) rfl (fun ls hl => ?_)
                      have L124 : ∀ (fu124 : Nat) (w124_6 : Int32) (w124_7 : Int32) (g9 : Nat → va_E) (H : Heap) (locs : List Loc) (ls : Array Slot), (2147483647 - w124_7.toInt).toNat < fu124 → (Rng g9) → (0 ≤ w124_7.toInt) → (arI g9 171 = arI g7637 171) → (arI g9 178 = arI g7637 178) → lv_has ls 10 [(0, .ref (ad 129)), (1, .int a), (2, .int b), (3, .int c), (4, .int r7632), (5, .int r7636), (6, .int w124_6), (7, .int w124_7)] → WS ad cA (fun i k => (171 ≤ i ∧ i < 174) ∨ i = 178) g0 K g9 H locs → XX K 0 0 H locs 124 ls [] := by
                        intro fu124
                        induction fu124 with
                        | zero => intro w124_6 w124_7 g9 H locs ls h0; omega
                        | succ fu124 ih124 =>
                          intro w124_6 w124_7 g9 H locs ls hm124 i124_0 i124_1 d124_171 d124_178 hl hW
                          have hG := i124_0
                          refine q_iload hM dX12_taught_124 (lv_at hl 7 rfl) ?_
                          refine q_iload hM dX12_taught_126 (lv_at hl 4 rfl) ?_
                          refine q_iload hM dX12_taught_128 (lv_at hl 4 rfl) ?_
                          refine q_callS (As := [.int r7632, .int r7632]) (rest := [.int w124_7]) hM hW.1 hR hC myX12_powerOf (kAW (v_6_13 (List.mem_of_getElem? (i := 15) rfl)) rfl) (a_X12_powerOf _ _ cA ad g9 r7632 r7632 hW.2.1 hG) ⟨by decide, by decide⟩ rfl rfl hl.1 (Nat.le_of_ble_eq_true rfl) dX12_taught_130 (fun v g7640 H locs hp hW1 => ?_)
                          obtain ⟨r7639, rfl, hr7639, rfl⟩ := hp
                          have hW : WS ad cA (fun i k => (171 ≤ i ∧ i < 174) ∨ i = 178) g0 K g9 H locs := ⟨hW1, hW.2.1, hW.2.2⟩
                          have := i_rng r7639
                          refine q_icmp_ge (tgt := 260) hM dX12_taught_133 (by decide) (rfl : w124_7.toInt = w124_7.toInt) (rfl : r7639.toInt = r7639.toInt) (fun h133 => ?_) (fun h133 => ?_)
                          · refine q_iload_n hM dX12_taught_260 (lv_at hl 3 rfl) ?_
                            refine q_bipush (v := (20 : Int32)) hM dX12_taught_261 (by decide) ?_
                            refine q_icmp_ne (tgt := 271) hM dX12_taught_263 (by decide) (rfl : c.toInt = c.toInt) (kc_20 : (20 : Int32).toInt = 20) (fun h263 => ?_) (fun h263 => ?_)
                            · refine q_aload_n hM dX12_taught_271 (lv_at hl 0 rfl) ?_
                              refine w_get (v := .ref (ad 171)) hM hW FG_X12_139 lb_129 (rf_129_77 hW.2.1) dX12_taught_272 ?_
                              refine q_aload_n hM dX12_taught_275 (lv_at hl 0 rfl) ?_
                              refine w_get (v := .ref (ad 173)) hM hW FG_X12_145 lb_129 (rf_129_79 hW.2.1) dX12_taught_276 ?_
                              refine q_iload_n hM dX12_taught_279 (lv_at hl 2 rfl) ?_
                              refine q_iconst (v := (1 : Int32)) hM dX12_taught_280 (by decide) ?_
                              refine q_iload_n hM dX12_taught_281 (lv_at hl 3 rfl) ?_
                              refine q_ishl hM dX12_taught_282 (fun z7643 hz7643 => ?_)
                              have sp := i_shl1p hz7643 (by omega) (by omega)
                              have := i_rng z7643
                              refine q_iconst (v := (1 : Int32)) hM dX12_taught_283 (by decide) ?_
                              refine q_isub hM dX12_taught_284 (fun z7644 hz7644 => ?_)
                              first | have tz7644 := i_subT hz7644 (rfl : z7643.toInt = z7643.toInt) (kc_1 : (1 : Int32).toInt = 1) (by omega) (by omega) | skip
                              refine q_iand hM dX12_taught_285 (fun z7645 hz7645 => ?_)
                              have al := i_and_le hz7645 (by omega) (by omega)
                              refine q_callS (As := [.int z7645]) (rest := [.ref (ad 173), .ref (ad 171)]) hM hW.1 hR hC myX12_sizeOf (kAW (v_5_6 (List.mem_of_getElem? (i := 14) rfl)) rfl) (a_X12_sizeOf _ _ cA ad g9 z7645 hW.2.1 hG (by  omega)) ⟨by decide, by decide⟩ rfl rfl hl.1 (Nat.le_of_ble_eq_true rfl) dX12_taught_286 (fun v g7647 H locs hp hW1 => ?_)
                              obtain ⟨r7646, rfl, hr7646, rfl⟩ := hp
                              have hW : WS ad cA (fun i k => (171 ≤ i ∧ i < 174) ∨ i = 178) g0 K g9 H locs := ⟨hW1, hW.2.1, hW.2.2⟩
                              have pl := pcT_le z7645.toInt.toNat 6
                              refine w_iald hM hW lb_173 (i_in (by omega) (by omega)) dX12_taught_289 ?_
                              refine q_top (fun y7648 hy7648 => ?_)
                              have by7648 := hG.a hy7648 rA_173
                              refine w_iald hM hW lb_171 (i_in (by omega) (by omega)) dX12_taught_290 ?_
                              refine q_top (fun y7649 hy7649 => ?_)
                              have by7649 := hG.a hy7649 rA_171
                              exact hE _ _ _ _ _ _ hW.1 ⟨_, rfl, hW.2.1, hG, hW.2.2⟩ dX12_taught_291
                            · refine q_iload hM dX12_taught_266 (lv_at hl 6 rfl) ?_
                              refine q_goto (tgt := 291) hM dX12_taught_268 (by decide) ?_
                              exact hE _ _ _ _ _ _ hW.1 ⟨_, rfl, hW.2.1, hG, hW.2.2⟩ dX12_taught_291
                          · refine q_aload_n hM dX12_taught_136 (lv_at hl 0 rfl) ?_
                            refine q_iload hM dX12_taught_137 (lv_at hl 7 rfl) ?_
                            refine q_iload hM dX12_taught_139 (lv_at hl 4 rfl) ?_
                            refine q_iload hM dX12_taught_141 (lv_at hl 4 rfl) ?_
                            refine q_callV (As := [.int w124_7, .int r7632, .int r7632]) (rest := []) hM hW.1 hR hC myX12_opensRow (kAW (v_6_14 (List.mem_of_getElem? (i := 2) rfl)) rfl) (rfl : vwCl[12]? = some (RX12, TX12, 86)) rfl lb_129.1 (shO hW.2.1 lb_129) (a_X12_opensRow _ _ cA ad g9 w124_7 r7632 r7632 hW.2.1 hG (by  omega) (by  omega) (by  omega) (by  omega) (by  omega)) ⟨by decide, by decide⟩ rfl rfl hl.1 (Nat.le_of_ble_eq_true rfl) dX12_taught_143 (fun v g7653 H locs hp hW1 => ?_)
                            obtain ⟨rfl, hs1, hG, hf1, e7652⟩ := hp
                            have f7654 : arI g7653 171 = arI g7637 171 := (hf1.2.1 171 (by omega)).trans d124_171
                            have f7655 : arI g7653 178 = arI g7637 178 := (hf1.2.1 178 (by omega)).trans d124_178
                            have hW : WS ad cA (fun i k => (171 ≤ i ∧ i < 174) ∨ i = 178) g0 K g7653 H locs := ⟨hW1, hs1, hW.2.2.tr hf1 (fun i k h => (Or.inl (by omega)))⟩
                            refine q_aload_n hM dX12_taught_146 (lv_at hl 0 rfl) ?_
                            refine q_iload hM dX12_taught_147 (lv_at hl 4 rfl) ?_
                            refine q_callV (As := [.int r7632]) (rest := []) hM hW.1 hR hC myX12_isOrder (kAW (v_7_2 (List.mem_of_getElem? (i := 14) rfl)) rfl) (rfl : vwCl[12]? = some (RX12, TX12, 86)) rfl lb_129.1 (shO hW.2.1 lb_129) (a_X12_isOrder _ _ cA ad g7653 r7632 hW.2.1 hG (by  omega) (by  omega)) ⟨by decide, by decide⟩ rfl rfl hl.1 (Nat.le_of_ble_eq_true rfl) dX12_taught_149 (fun v g7657 H locs hp hW1 => ?_)
                            obtain ⟨r7656, rfl, hr7656, rfl⟩ := hp
                            have hW : WS ad cA (fun i k => (171 ≤ i ∧ i < 174) ∨ i = 178) g0 K g7653 H locs := ⟨hW1, hW.2.1, hW.2.2⟩
                            refine q_if_ne (tgt := 158) hM dX12_taught_152 (by decide) (rfl : r7656.toInt = r7656.toInt) (fun h152 => ?_) (fun h152 => ?_)
                            · refine q_iconst (v := (0 : Int32)) hM dX12_taught_158 (by decide) ?_
                              refine q_istore (lv9 := [(8, .int (0 : Int32)), (0, .ref (ad 129)), (1, .int a), (2, .int b), (3, .int c), (4, .int r7632), (5, .int r7636), (6, .int w124_6), (7, .int w124_7)]) hM dX12_taught_159 hl (by decide) rfl (fun ls hl => ?_)
                              refine q_iconst (v := (0 : Int32)) hM dX12_taught_161 (by decide) ?_
                              refine q_istore (lv9 := [(9, .int (0 : Int32)), (8, .int (0 : Int32)), (0, .ref (ad 129)), (1, .int a), (2, .int b), (3, .int c), (4, .int r7632), (5, .int r7636), (6, .int w124_6), (7, .int w124_7)]) hM dX12_taught_162 hl (by decide) rfl (fun ls hl => ?_)
                              have L164 : ∀ (fu164 : Nat) (w164_8 : Int32) (w164_9 : Int32) (H : Heap) (locs : List Loc) (ls : Array Slot), (r7636.toInt - w164_9.toInt + 1).toNat < fu164 → (Rng g7653) → (0 ≤ w164_9.toInt) → lv_has ls 10 [(0, .ref (ad 129)), (1, .int a), (2, .int b), (3, .int c), (4, .int r7632), (5, .int r7636), (6, .int w124_6), (7, .int w124_7), (8, .int w164_8), (9, .int w164_9)] → WS ad cA (fun i k => (171 ≤ i ∧ i < 174) ∨ i = 178) g0 K g7653 H locs → XX K 0 0 H locs 164 ls [] := by
                                intro fu164
                                induction fu164 with
                                | zero => intro w164_8 w164_9 H locs ls h0; omega
                                | succ fu164 ih164 =>
                                  intro w164_8 w164_9 H locs ls hm164 i164_0 i164_1 hl hW
                                  have hG := i164_0
                                  have := i_rng r7636
                                  refine q_iload hM dX12_taught_164 (lv_at hl 9 rfl) ?_
                                  refine q_iload hM dX12_taught_166 (lv_at hl 5 rfl) ?_
                                  refine q_icmp_ge (tgt := 210) hM dX12_taught_168 (by decide) (rfl : w164_9.toInt = w164_9.toInt) (rfl : r7636.toInt = r7636.toInt) (fun h168 => ?_) (fun h168 => ?_)
                                  · refine q_iload hM dX12_taught_210 (lv_at hl 8 rfl) ?_
                                    refine q_iload hM dX12_taught_212 (lv_at hl 6 rfl) ?_
                                    refine q_icmp_gt (tgt := 220) hM dX12_taught_214 (by decide) (rfl : w164_8.toInt = w164_8.toInt) (rfl : w124_6.toInt = w124_6.toInt) (fun h214 => ?_) (fun h214 => ?_)
                                    · refine q_iload hM dX12_taught_220 (lv_at hl 8 rfl) ?_
                                      refine q_istore (lv9 := [(6, .int w164_8), (0, .ref (ad 129)), (1, .int a), (2, .int b), (3, .int c), (4, .int r7632), (5, .int r7636), (7, .int w124_7), (8, .int w164_8), (9, .int w164_9)]) hM dX12_taught_222 hl (by decide) rfl (fun ls hl => ?_)
                                      refine q_iconst (v := (0 : Int32)) hM dX12_taught_224 (by decide) ?_
                                      refine q_istore (lv9 := [(9, .int (0 : Int32)), (6, .int w164_8), (0, .ref (ad 129)), (1, .int a), (2, .int b), (3, .int c), (4, .int r7632), (5, .int r7636), (7, .int w124_7), (8, .int w164_8)]) hM dX12_taught_225 hl (by decide) rfl (fun ls hl => ?_)
                                      have L227 : ∀ (fu227 : Nat) (w227_9 : Int32) (g9 : Nat → va_E) (H : Heap) (locs : List Loc) (ls : Array Slot), (r7632.toInt - w227_9.toInt + 1).toNat < fu227 → (Rng g9) → (0 ≤ w227_9.toInt) → (arI g9 171 = arI g7637 171) → (arI g9 178 = arI g7637 178) → lv_has ls 10 [(0, .ref (ad 129)), (1, .int a), (2, .int b), (3, .int c), (4, .int r7632), (5, .int r7636), (6, .int w164_8), (7, .int w124_7), (8, .int w164_8), (9, .int w227_9)] → WS ad cA (fun i k => (171 ≤ i ∧ i < 174) ∨ i = 178) g0 K g9 H locs → XX K 0 0 H locs 227 ls [] := by
                                        intro fu227
                                        induction fu227 with
                                        | zero => intro w227_9 g9 H locs ls h0; omega
                                        | succ fu227 ih227 =>
                                          intro w227_9 g9 H locs ls hm227 i227_0 i227_1 d227_171 d227_178 hl hW
                                          have hG := i227_0
                                          have := i_rng r7632
                                          refine q_iload hM dX12_taught_227 (lv_at hl 9 rfl) ?_
                                          refine q_iload hM dX12_taught_229 (lv_at hl 4 rfl) ?_
                                          refine q_icmp_ge (tgt := 254) hM dX12_taught_231 (by decide) (rfl : w227_9.toInt = w227_9.toInt) (rfl : r7632.toInt = r7632.toInt) (fun h231 => ?_) (fun h231 => ?_)
                                          · refine q_iinc (lv9 := fun z7664 => [(7, .int z7664), (0, .ref (ad 129)), (1, .int a), (2, .int b), (3, .int c), (4, .int r7632), (5, .int r7636), (6, .int w164_8), (8, .int w164_8), (9, .int w227_9)]) hM dX12_taught_254 hl (kq := 7) rfl (by decide) (fun _ => rfl) (fun z7664 ls hz7664 hl => ?_)
                                            first | have tz7664 := i_addT hz7664 (rfl : w124_7.toInt = w124_7.toInt) (kc_1 : (Int32.ofInt 1).toInt = 1) (by omega) (by omega) | skip
                                            refine q_goto (tgt := 124) hM dX12_taught_257 (by decide) ?_
                                            exact ih124 w164_8 z7664 _ _ _ _ (by omega) hG (by omega) d227_171 d227_178 (lv_sub hl [1, 2, 3, 4, 5, 6, 7, 0] rfl) hW
                                          · refine q_aload_n hM dX12_taught_234 (lv_at hl 0 rfl) ?_
                                            refine w_get (v := .ref (ad 173)) hM hW FG_X12_145 lb_129 (rf_129_79 hW.2.1) dX12_taught_235 ?_
                                            refine q_iload hM dX12_taught_238 (lv_at hl 9 rfl) ?_
                                            refine q_aload_n hM dX12_taught_240 (lv_at hl 0 rfl) ?_
                                            refine w_get (v := .ref (ad 172)) hM hW FG_X12_142 lb_129 (rf_129_78 hW.2.1) dX12_taught_241 ?_
                                            refine q_iload hM dX12_taught_244 (lv_at hl 9 rfl) ?_
                                            refine w_iald hM hW lb_172 (i_in (by omega) (by omega)) dX12_taught_246 ?_
                                            refine q_top (fun y7666 hy7666 => ?_)
                                            have by7666 := hG.a hy7666 rA_172
                                            refine w_iast hM hW lb_173 (by omega) (i_in (by omega) (by omega)) dX12_taught_247 (fun g7667 H locs hW e1 e2 => ?_)
                                            have f7668 : arI g7667 171 = arI g7637 171 := (e2.2.1 171 (by unfold Only; omega)).trans d227_171
                                            have f7669 : arI g7667 178 = arI g7637 178 := (e2.2.1 178 (by unfold Only; omega)).trans d227_178
                                            have hG := hG.st e1 e2 rA_173 (by have := i_rng y7666; omega) (by have := i_rng y7666; omega)
                                            refine q_iinc (lv9 := fun z7670 => [(9, .int z7670), (0, .ref (ad 129)), (1, .int a), (2, .int b), (3, .int c), (4, .int r7632), (5, .int r7636), (6, .int w164_8), (7, .int w124_7), (8, .int w164_8)]) hM dX12_taught_248 hl (kq := 9) rfl (by decide) (fun _ => rfl) (fun z7670 ls hz7670 hl => ?_)
                                            first | have tz7670 := i_addT hz7670 (rfl : w227_9.toInt = w227_9.toInt) (kc_1 : (Int32.ofInt 1).toInt = 1) (by omega) (by omega) | skip
                                            refine q_goto (tgt := 227) hM dX12_taught_251 (by decide) ?_
                                            exact ih227 z7670 _ _ _ _ (by omega) hG (by omega) f7668 f7669 (lv_sub hl [1, 2, 3, 4, 5, 6, 7, 8, 9, 0] rfl) hW
                                      have := kc_0
                                      exact L227 _ (0 : Int32) _ _ _ _ (Nat.lt_succ_self _) hG (by omega) f7654 f7655 (lv_sub hl [2, 3, 4, 5, 6, 7, 1, 8, 9, 0] rfl) hW
                                    · refine q_goto (tgt := 254) hM dX12_taught_217 (by decide) ?_
                                      refine q_iinc (lv9 := fun z7672 => [(7, .int z7672), (0, .ref (ad 129)), (1, .int a), (2, .int b), (3, .int c), (4, .int r7632), (5, .int r7636), (6, .int w124_6), (8, .int w164_8), (9, .int w164_9)]) hM dX12_taught_254 hl (kq := 7) rfl (by decide) (fun _ => rfl) (fun z7672 ls hz7672 hl => ?_)
                                      first | have tz7672 := i_addT hz7672 (rfl : w124_7.toInt = w124_7.toInt) (kc_1 : (Int32.ofInt 1).toInt = 1) (by omega) (by omega) | skip
                                      refine q_goto (tgt := 124) hM dX12_taught_257 (by decide) ?_
                                      exact ih124 w124_6 z7672 _ _ _ _ (by omega) hG (by omega) f7654 f7655 (lv_sub hl [1, 2, 3, 4, 5, 6, 7, 0] rfl) hW
                                  · refine q_iload hM dX12_taught_171 (lv_at hl 8 rfl) ?_
                                    refine q_aload_n hM dX12_taught_173 (lv_at hl 0 rfl) ?_
                                    refine w_get (v := .ref (ad 177)) hM hW FG_X12_157 lb_129 (rf_129_83 hW.2.1) dX12_taught_174 ?_
                                    refine q_bipush (v := (6 : Int32)) hM dX12_taught_177 (by decide) ?_
                                    refine q_aload_n hM dX12_taught_179 (lv_at hl 0 rfl) ?_
                                    refine w_get (v := .ref (ad 171)) hM hW FG_X12_139 lb_129 (rf_129_77 hW.2.1) dX12_taught_180 ?_
                                    refine q_aload_n hM dX12_taught_183 (lv_at hl 0 rfl) ?_
                                    refine w_get (v := .ref (ad 172)) hM hW FG_X12_142 lb_129 (rf_129_78 hW.2.1) dX12_taught_184 ?_
                                    refine q_iload hM dX12_taught_187 (lv_at hl 9 rfl) ?_
                                    refine w_iald hM hW lb_172 (i_in (by omega) (by omega)) dX12_taught_189 ?_
                                    refine q_top (fun y7674 hy7674 => ?_)
                                    have er : y7674.toInt < r7632.toInt := by rw [hy7674]; exact e7652 _ (by show ((w164_9.toInt.toNat : Nat) : Int) < _; omega)
                                    have by7674 := hG.a hy7674 rA_172
                                    refine w_iald hM hW lb_171 (i_in (by omega) (by omega)) dX12_taught_190 ?_
                                    refine q_top (fun y7675 hy7675 => ?_)
                                    have es : y7675.toInt < 5 := by rw [hy7675, f7654]; exact qS _ (by show ((y7674.toInt.toNat : Nat) : Int) < _; omega)
                                    have by7675 := hG.a hy7675 rA_171
                                    refine q_imul hM dX12_taught_191 (fun z7676 hz7676 => ?_)
                                    first | have tz7676 := i_mulT hz7676 (kc_6 : (6 : Int32).toInt = 6) (rfl : y7675.toInt = y7675.toInt) (by omega) (by omega) | skip
                                    refine q_aload_n hM dX12_taught_192 (lv_at hl 0 rfl) ?_
                                    refine w_get (v := .ref (ad 178)) hM hW FG_X12_160 lb_129 (rf_129_84 hW.2.1) dX12_taught_193 ?_
                                    refine q_iload hM dX12_taught_196 (lv_at hl 9 rfl) ?_
                                    refine w_iald hM hW lb_178 (i_in (by omega) (by omega)) dX12_taught_198 ?_
                                    refine q_top (fun y7677 hy7677 => ?_)
                                    have et : y7677.toInt < 6 := by rw [hy7677, f7655]; exact qT _ (by show ((w164_9.toInt.toNat : Nat) : Int) < _; omega)
                                    have by7677 := hG.a hy7677 rA_178
                                    refine q_iadd hM dX12_taught_199 (fun z7678 hz7678 => ?_)
                                    first | have tz7678 := i_addT hz7678 (rfl : z7676.toInt = z7676.toInt) (rfl : y7677.toInt = y7677.toInt) (by omega) (by omega) | skip
                                    refine w_iald hM hW lb_177 (i_in (by omega) (by omega)) dX12_taught_200 ?_
                                    refine q_top (fun y7679 hy7679 => ?_)
                                    refine q_iadd hM dX12_taught_201 (fun z7680 hz7680 => ?_)
                                    first | have tz7680 := i_addT hz7680 (rfl : w164_8.toInt = w164_8.toInt) (rfl : y7679.toInt = y7679.toInt) (by omega) (by omega) | skip
                                    refine q_istore (lv9 := [(8, .int z7680), (0, .ref (ad 129)), (1, .int a), (2, .int b), (3, .int c), (4, .int r7632), (5, .int r7636), (6, .int w124_6), (7, .int w124_7), (9, .int w164_9)]) hM dX12_taught_202 hl (by decide) rfl (fun ls hl => ?_)
                                    refine q_iinc (lv9 := fun z7681 => [(9, .int z7681), (8, .int z7680), (0, .ref (ad 129)), (1, .int a), (2, .int b), (3, .int c), (4, .int r7632), (5, .int r7636), (6, .int w124_6), (7, .int w124_7)]) hM dX12_taught_204 hl (kq := 9) rfl (by decide) (fun _ => rfl) (fun z7681 ls hz7681 hl => ?_)
                                    first | have tz7681 := i_addT hz7681 (rfl : w164_9.toInt = w164_9.toInt) (kc_1 : (Int32.ofInt 1).toInt = 1) (by omega) (by omega) | skip
                                    refine q_goto (tgt := 164) hM dX12_taught_207 (by decide) ?_
                                    exact ih164 z7680 z7681 _ _ _ (by omega) hG (by omega) (lv_sub hl [2, 3, 4, 5, 6, 7, 8, 9, 1, 0] rfl) hW
                              have := kc_0
                              have := kc_0
                              exact L164 _ (0 : Int32) (0 : Int32) _ _ _ (Nat.lt_succ_self _) hG (by omega) (lv_sub hl [2, 3, 4, 5, 6, 7, 8, 9, 1, 0] rfl) hW
                            · refine q_goto (tgt := 254) hM dX12_taught_155 (by decide) ?_
                              refine q_iinc (lv9 := fun z7683 => [(7, .int z7683), (0, .ref (ad 129)), (1, .int a), (2, .int b), (3, .int c), (4, .int r7632), (5, .int r7636), (6, .int w124_6)]) hM dX12_taught_254 hl (kq := 7) rfl (by decide) (fun _ => rfl) (fun z7683 ls hz7683 hl => ?_)
                              first | have tz7683 := i_addT hz7683 (rfl : w124_7.toInt = w124_7.toInt) (kc_1 : (Int32.ofInt 1).toInt = 1) (by omega) (by omega) | skip
                              refine q_goto (tgt := 124) hM dX12_taught_257 (by decide) ?_
                              exact ih124 w124_6 z7683 _ _ _ _ (by omega) hG (by omega) f7654 f7655 (lv_sub hl [1, 2, 3, 4, 5, 6, 7, 0] rfl) hW
                      have := kc_m1
                      have := kc_0
                      exact L124 _ ((-1) : Int32) (0 : Int32) _ _ _ _ (Nat.lt_succ_self _) hG (by omega) (rfl : arI g7637 171 = arI g7637 171) (rfl : arI g7637 178 = arI g7637 178) (lv_sub hl [3, 4, 5, 6, 7, 2, 1, 0] rfl) hW
                    · refine q_aload_n hM dX12_taught_91 (lv_at hl 0 rfl) ?_
                      refine w_get (v := .ref (ad 178)) hM hW FG_X12_160 lb_129 (rf_129_84 hW.2.1) dX12_taught_92 ?_
                      refine q_iload hM dX12_taught_95 (lv_at hl 5 rfl) ?_
                      refine q_aload_n hM dX12_taught_97 (lv_at hl 0 rfl) ?_
                      refine w_get (v := .ref (ad 171)) hM hW FG_X12_139 lb_129 (rf_129_77 hW.2.1) dX12_taught_98 ?_
                      refine q_iload hM dX12_taught_101 (lv_at hl 5 rfl) ?_
                      refine w_iald hM hW lb_171 (i_in (by omega) (by omega)) dX12_taught_103 ?_
                      refine q_top (fun y7685 hy7685 => ?_)
                      have by7685 := hG.a hy7685 rA_171
                      refine w_iast hM hW lb_178 (by omega) (i_in (by omega) (by omega)) dX12_taught_104 (fun g7686 H locs hW e1 e2 => ?_)
                      have f7687 : arI g7686 171 = arI g7633 171 := (e2.2.1 171 (by unfold Only; omega)).trans d84_171
                      have hG := hG.st e1 e2 rA_178 (by have := i_rng y7685; omega) (by have := i_rng y7685; omega)
                      refine q_iinc (lv9 := fun z7688 => [(5, .int z7688), (0, .ref (ad 129)), (1, .int a), (2, .int b), (3, .int c), (4, .int r7632)]) hM dX12_taught_105 hl (kq := 5) rfl (by decide) (fun _ => rfl) (fun z7688 ls hz7688 hl => ?_)
                      first | have tz7688 := i_addT hz7688 (rfl : w84_5.toInt = w84_5.toInt) (kc_1 : (Int32.ofInt 1).toInt = 1) (by omega) (by omega) | skip
                      refine q_goto (tgt := 84) hM dX12_taught_108 (by decide) ?_
                      exact ih84 z7688 _ _ _ _ (by omega) hG (by omega) (ent_upd e1 i84_2 (by rw [hy7685, d84_171]; exact qA _ (by show ((w84_5.toInt.toNat : Nat) : Int) < _; omega)) (by omega) (by omega)) f7687 (lv_sub hl [1, 2, 3, 4, 5, 0] rfl) hW
                have := kc_0
                exact L84 _ (0 : Int32) _ _ _ _ (Nat.lt_succ_self _) hG (by omega) (fun j h => absurd h (by have := kc_0; omega)) (rfl : arI g7633 171 = arI g7633 171) (lv_sub hl [2, 3, 4, 5, 1, 0] rfl) hW
              · refine q_iconst (v := ((-1) : Int32)) hM dX12_taught_72 (by decide) ?_
                exact hE _ _ _ _ _ _ hW.1 ⟨_, rfl, hW.2.1, hG, hW.2.2⟩ dX12_taught_73

theorem dX12_hummed_0 : decode cX12_hummed 0 = .ok (.iload_n 1, 1) := by decide +kernel
theorem dX12_hummed_1 : decode cX12_hummed 1 = .ok (.i2l, 1) := by decide +kernel
theorem dX12_hummed_2 : decode cX12_hummed 2 = .ok (.lconst 1, 1) := by decide +kernel
theorem dX12_hummed_3 : decode cX12_hummed 3 = .ok (.ldc2_w 587, 3) := by decide +kernel
theorem dX12_hummed_6 : decode cX12_hummed 6 = .ok (.invokestatic 190, 3) := by decide +kernel
theorem dX12_hummed_9 : decode cX12_hummed 9 = .ok (.ifCond .eq 33, 3) := by decide +kernel
theorem dX12_hummed_12 : decode cX12_hummed 12 = .ok (.iload_n 2, 1) := by decide +kernel
theorem dX12_hummed_13 : decode cX12_hummed 13 = .ok (.i2l, 1) := by decide +kernel
theorem dX12_hummed_14 : decode cX12_hummed 14 = .ok (.lconst 1, 1) := by decide +kernel
theorem dX12_hummed_15 : decode cX12_hummed 15 = .ok (.ldc2_w 202, 3) := by decide +kernel
theorem dX12_hummed_18 : decode cX12_hummed 18 = .ok (.invokestatic 190, 3) := by decide +kernel
theorem dX12_hummed_21 : decode cX12_hummed 21 = .ok (.ifCond .eq 21, 3) := by decide +kernel
theorem dX12_hummed_24 : decode cX12_hummed 24 = .ok (.iload_n 3, 1) := by decide +kernel
theorem dX12_hummed_25 : decode cX12_hummed 25 = .ok (.i2l, 1) := by decide +kernel
theorem dX12_hummed_26 : decode cX12_hummed 26 = .ok (.lconst 0, 1) := by decide +kernel
theorem dX12_hummed_27 : decode cX12_hummed 27 = .ok (.lconst 1, 1) := by decide +kernel
theorem dX12_hummed_28 : decode cX12_hummed 28 = .ok (.invokestatic 190, 3) := by decide +kernel
theorem dX12_hummed_31 : decode cX12_hummed 31 = .ok (.ifCond .eq 11, 3) := by decide +kernel
theorem dX12_hummed_34 : decode cX12_hummed 34 = .ok (.iload_n 1, 1) := by decide +kernel
theorem dX12_hummed_35 : decode cX12_hummed 35 = .ok (.aload_n 0, 1) := by decide +kernel
theorem dX12_hummed_36 : decode cX12_hummed 36 = .ok (.getfield 166, 3) := by decide +kernel
theorem dX12_hummed_39 : decode cX12_hummed 39 = .ok (.if_icmp .le 5, 3) := by decide +kernel
theorem dX12_hummed_42 : decode cX12_hummed 42 = .ok (.iconst (-1), 1) := by decide +kernel
theorem dX12_hummed_43 : decode cX12_hummed 43 = .ok (.ireturn, 1) := by decide +kernel
theorem dX12_hummed_44 : decode cX12_hummed 44 = .ok (.aload_n 0, 1) := by decide +kernel
theorem dX12_hummed_45 : decode cX12_hummed 45 = .ok (.iconst 0, 1) := by decide +kernel
theorem dX12_hummed_46 : decode cX12_hummed 46 = .ok (.putfield 166, 3) := by decide +kernel
theorem dX12_hummed_49 : decode cX12_hummed 49 = .ok (.iconst 0, 1) := by decide +kernel
theorem dX12_hummed_50 : decode cX12_hummed 50 = .ok (.istore 4, 2) := by decide +kernel
theorem dX12_hummed_52 : decode cX12_hummed 52 = .ok (.iload 4, 2) := by decide +kernel
theorem dX12_hummed_54 : decode cX12_hummed 54 = .ok (.iload_n 1, 1) := by decide +kernel
theorem dX12_hummed_55 : decode cX12_hummed 55 = .ok (.if_icmp .ge 25, 3) := by decide +kernel
theorem dX12_hummed_58 : decode cX12_hummed 58 = .ok (.aload_n 0, 1) := by decide +kernel
theorem dX12_hummed_59 : decode cX12_hummed 59 = .ok (.aload_n 0, 1) := by decide +kernel
theorem dX12_hummed_60 : decode cX12_hummed 60 = .ok (.iload 4, 2) := by decide +kernel
theorem dX12_hummed_62 : decode cX12_hummed 62 = .ok (.invokevirtual 589, 3) := by decide +kernel
theorem dX12_hummed_65 : decode cX12_hummed 65 = .ok (.invokevirtual 198, 3) := by decide +kernel
theorem dX12_hummed_68 : decode cX12_hummed 68 = .ok (.ifCond .ne 6, 3) := by decide +kernel
theorem dX12_hummed_71 : decode cX12_hummed 71 = .ok (.bipush (-2), 2) := by decide +kernel
theorem dX12_hummed_73 : decode cX12_hummed 73 = .ok (.ireturn, 1) := by decide +kernel
theorem dX12_hummed_74 : decode cX12_hummed 74 = .ok (.iinc 4 1, 3) := by decide +kernel
theorem dX12_hummed_77 : decode cX12_hummed 77 = .ok (.goto (-25), 3) := by decide +kernel
theorem dX12_hummed_80 : decode cX12_hummed 80 = .ok (.iconst 1, 1) := by decide +kernel
theorem dX12_hummed_81 : decode cX12_hummed 81 = .ok (.istore 4, 2) := by decide +kernel
theorem dX12_hummed_83 : decode cX12_hummed 83 = .ok (.iconst 0, 1) := by decide +kernel
theorem dX12_hummed_84 : decode cX12_hummed 84 = .ok (.istore 5, 2) := by decide +kernel
theorem dX12_hummed_86 : decode cX12_hummed 86 = .ok (.iconst 0, 1) := by decide +kernel
theorem dX12_hummed_87 : decode cX12_hummed 87 = .ok (.istore 6, 2) := by decide +kernel
theorem dX12_hummed_89 : decode cX12_hummed 89 = .ok (.iload 6, 2) := by decide +kernel
theorem dX12_hummed_91 : decode cX12_hummed 91 = .ok (.iload_n 1, 1) := by decide +kernel
theorem dX12_hummed_92 : decode cX12_hummed 92 = .ok (.if_icmp .ge 22, 3) := by decide +kernel
theorem dX12_hummed_95 : decode cX12_hummed 95 = .ok (.iload 5, 2) := by decide +kernel
theorem dX12_hummed_97 : decode cX12_hummed 97 = .ok (.iconst 1, 1) := by decide +kernel
theorem dX12_hummed_98 : decode cX12_hummed 98 = .ok (.aload_n 0, 1) := by decide +kernel
theorem dX12_hummed_99 : decode cX12_hummed 99 = .ok (.iload 6, 2) := by decide +kernel
theorem dX12_hummed_101 : decode cX12_hummed 101 = .ok (.invokevirtual 589, 3) := by decide +kernel
theorem dX12_hummed_104 : decode cX12_hummed 104 = .ok (.ishl, 1) := by decide +kernel
theorem dX12_hummed_105 : decode cX12_hummed 105 = .ok (.ior, 1) := by decide +kernel
theorem dX12_hummed_106 : decode cX12_hummed 106 = .ok (.istore 5, 2) := by decide +kernel
theorem dX12_hummed_108 : decode cX12_hummed 108 = .ok (.iinc 6 1, 3) := by decide +kernel
theorem dX12_hummed_111 : decode cX12_hummed 111 = .ok (.goto (-22), 3) := by decide +kernel
theorem dX12_hummed_114 : decode cX12_hummed 114 = .ok (.iconst 0, 1) := by decide +kernel
theorem dX12_hummed_115 : decode cX12_hummed 115 = .ok (.istore 6, 2) := by decide +kernel
theorem dX12_hummed_117 : decode cX12_hummed 117 = .ok (.iload 6, 2) := by decide +kernel
theorem dX12_hummed_119 : decode cX12_hummed 119 = .ok (.iconst 1, 1) := by decide +kernel
theorem dX12_hummed_120 : decode cX12_hummed 120 = .ok (.iadd, 1) := by decide +kernel
theorem dX12_hummed_121 : decode cX12_hummed 121 = .ok (.iload_n 1, 1) := by decide +kernel
theorem dX12_hummed_122 : decode cX12_hummed 122 = .ok (.if_icmp .ge 97, 3) := by decide +kernel
theorem dX12_hummed_125 : decode cX12_hummed 125 = .ok (.aload_n 0, 1) := by decide +kernel
theorem dX12_hummed_126 : decode cX12_hummed 126 = .ok (.aload_n 0, 1) := by decide +kernel
theorem dX12_hummed_127 : decode cX12_hummed 127 = .ok (.iload 6, 2) := by decide +kernel
theorem dX12_hummed_129 : decode cX12_hummed 129 = .ok (.invokevirtual 589, 3) := by decide +kernel
theorem dX12_hummed_132 : decode cX12_hummed 132 = .ok (.aload_n 0, 1) := by decide +kernel
theorem dX12_hummed_133 : decode cX12_hummed 133 = .ok (.iload 6, 2) := by decide +kernel
theorem dX12_hummed_135 : decode cX12_hummed 135 = .ok (.iconst 1, 1) := by decide +kernel
theorem dX12_hummed_136 : decode cX12_hummed 136 = .ok (.iadd, 1) := by decide +kernel
theorem dX12_hummed_137 : decode cX12_hummed 137 = .ok (.invokevirtual 589, 3) := by decide +kernel
theorem dX12_hummed_140 : decode cX12_hummed 140 = .ok (.iload_n 2, 1) := by decide +kernel
theorem dX12_hummed_141 : decode cX12_hummed 141 = .ok (.invokevirtual 592, 3) := by decide +kernel
theorem dX12_hummed_144 : decode cX12_hummed 144 = .ok (.istore 7, 2) := by decide +kernel
theorem dX12_hummed_146 : decode cX12_hummed 146 = .ok (.aload_n 0, 1) := by decide +kernel
theorem dX12_hummed_147 : decode cX12_hummed 147 = .ok (.aload_n 0, 1) := by decide +kernel
theorem dX12_hummed_148 : decode cX12_hummed 148 = .ok (.iload 6, 2) := by decide +kernel
theorem dX12_hummed_150 : decode cX12_hummed 150 = .ok (.invokevirtual 589, 3) := by decide +kernel
theorem dX12_hummed_153 : decode cX12_hummed 153 = .ok (.aload_n 0, 1) := by decide +kernel
theorem dX12_hummed_154 : decode cX12_hummed 154 = .ok (.iload 6, 2) := by decide +kernel
theorem dX12_hummed_156 : decode cX12_hummed 156 = .ok (.iconst 1, 1) := by decide +kernel
theorem dX12_hummed_157 : decode cX12_hummed 157 = .ok (.iadd, 1) := by decide +kernel
theorem dX12_hummed_158 : decode cX12_hummed 158 = .ok (.invokevirtual 589, 3) := by decide +kernel
theorem dX12_hummed_161 : decode cX12_hummed 161 = .ok (.iload_n 2, 1) := by decide +kernel
theorem dX12_hummed_162 : decode cX12_hummed 162 = .ok (.invokevirtual 583, 3) := by decide +kernel
theorem dX12_hummed_165 : decode cX12_hummed 165 = .ok (.istore 8, 2) := by decide +kernel
theorem dX12_hummed_167 : decode cX12_hummed 167 = .ok (.iload 4, 2) := by decide +kernel
theorem dX12_hummed_169 : decode cX12_hummed 169 = .ok (.iload 7, 2) := by decide +kernel
theorem dX12_hummed_171 : decode cX12_hummed 171 = .ok (.invokestatic 215, 3) := by decide +kernel
theorem dX12_hummed_174 : decode cX12_hummed 174 = .ok (.iload 8, 2) := by decide +kernel
theorem dX12_hummed_176 : decode cX12_hummed 176 = .ok (.ifCond .eq 7, 3) := by decide +kernel
theorem dX12_hummed_179 : decode cX12_hummed 179 = .ok (.iconst 1, 1) := by decide +kernel
theorem dX12_hummed_180 : decode cX12_hummed 180 = .ok (.goto 4, 3) := by decide +kernel
theorem dX12_hummed_183 : decode cX12_hummed 183 = .ok (.iconst 0, 1) := by decide +kernel
theorem dX12_hummed_184 : decode cX12_hummed 184 = .ok (.iadd, 1) := by decide +kernel
theorem dX12_hummed_185 : decode cX12_hummed 185 = .ok (.imul, 1) := by decide +kernel
theorem dX12_hummed_186 : decode cX12_hummed 186 = .ok (.istore 4, 2) := by decide +kernel
theorem dX12_hummed_188 : decode cX12_hummed 188 = .ok (.iload 5, 2) := by decide +kernel
theorem dX12_hummed_190 : decode cX12_hummed 190 = .ok (.iload 7, 2) := by decide +kernel
theorem dX12_hummed_192 : decode cX12_hummed 192 = .ok (.invokestatic 215, 3) := by decide +kernel
theorem dX12_hummed_195 : decode cX12_hummed 195 = .ok (.iconst 1, 1) := by decide +kernel
theorem dX12_hummed_196 : decode cX12_hummed 196 = .ok (.if_icmp .ne 13, 3) := by decide +kernel
theorem dX12_hummed_199 : decode cX12_hummed 199 = .ok (.iload 8, 2) := by decide +kernel
theorem dX12_hummed_201 : decode cX12_hummed 201 = .ok (.ifCond .ne 8, 3) := by decide +kernel
theorem dX12_hummed_204 : decode cX12_hummed 204 = .ok (.iload 7, 2) := by decide +kernel
theorem dX12_hummed_206 : decode cX12_hummed 206 = .ok (.goto 4, 3) := by decide +kernel
theorem dX12_hummed_209 : decode cX12_hummed 209 = .ok (.iconst 0, 1) := by decide +kernel
theorem dX12_hummed_210 : decode cX12_hummed 210 = .ok (.ior, 1) := by decide +kernel
theorem dX12_hummed_211 : decode cX12_hummed 211 = .ok (.istore 5, 2) := by decide +kernel
theorem dX12_hummed_213 : decode cX12_hummed 213 = .ok (.iinc 6 1, 3) := by decide +kernel
theorem dX12_hummed_216 : decode cX12_hummed 216 = .ok (.goto (-99), 3) := by decide +kernel
theorem dX12_hummed_219 : decode cX12_hummed 219 = .ok (.iload_n 3, 1) := by decide +kernel
theorem dX12_hummed_220 : decode cX12_hummed 220 = .ok (.ifCond .ne 8, 3) := by decide +kernel
theorem dX12_hummed_223 : decode cX12_hummed 223 = .ok (.iload 4, 2) := by decide +kernel
theorem dX12_hummed_225 : decode cX12_hummed 225 = .ok (.goto 14, 3) := by decide +kernel
theorem dX12_hummed_228 : decode cX12_hummed 228 = .ok (.iload 4, 2) := by decide +kernel
theorem dX12_hummed_230 : decode cX12_hummed 230 = .ok (.ifCond .ne 7, 3) := by decide +kernel
theorem dX12_hummed_233 : decode cX12_hummed 233 = .ok (.iconst 0, 1) := by decide +kernel
theorem dX12_hummed_234 : decode cX12_hummed 234 = .ok (.goto 5, 3) := by decide +kernel
theorem dX12_hummed_237 : decode cX12_hummed 237 = .ok (.iload 5, 2) := by decide +kernel
theorem dX12_hummed_239 : decode cX12_hummed 239 = .ok (.ireturn, 1) := by decide +kernel
theorem myX12_byteAt : MI yX12_byteAt cX12_byteAt 2 (some FieldType.int) 1 := ⟨kAW (v_7_3 (List.mem_of_getElem? (i := 10) rfl)) rfl, kAW (v_0_0 (List.mem_of_getElem? (i := 13) rfl)) rfl, kAW (v_7_3 (List.mem_of_getElem? (i := 9) rfl)) rfl, kAW (tp_t6 (List.mem_of_getElem? (i := 8) rfl)) rfl, by decide, by decide, by decide +kernel⟩
theorem myX12_between : MI yX12_between cX12_between 6 (some FieldType.int) 3 := ⟨kAW (v_7_3 (List.mem_of_getElem? (i := 14) rfl)) rfl, kAW (v_0_0 (List.mem_of_getElem? (i := 13) rfl)) rfl, kAW (v_7_3 (List.mem_of_getElem? (i := 13) rfl)) rfl, kAW (tp_t6 (List.mem_of_getElem? (i := 9) rfl)) rfl, by decide, by decide, by decide +kernel⟩
set_option maxRecDepth 100000 in
set_option maxHeartbeats 4000000 in
theorem p_X12_hummed (l : Launch) (D : va_G) (cA : Nat → ClassId) (ad : Nat → Nat) (g0 : Nat → va_E) (a : Int32) (b : Int32) (c : Int32)   (hSh : Shp ad cA g0) (hG : Rng g0) : CT l NN ad cA D yX12_hummed cX12_hummed 9 (some FieldType.int) (2, 48) [.ref (ad 129), .int a, .int b, .int c] g0 (fun v g' => ∃ (r : Int32), v = some (.int r) ∧ Shp ad cA g' ∧ Rng g' ∧ FR (fun i k => (i = 129 ∧ (k = 1))) g0 g') := by
  refine q_enterI (by decide) (Nat.le_of_ble_eq_true rfl) rfl (fun K H locs ls _ _ hM hW0 hR hC hE hl => ?_)
  have hl : lv_has ls 9 [(0, .ref (ad 129)), (1, .int a), (2, .int b), (3, .int c)] := hl
  have hW : WS ad cA (fun i k => (i = 129 ∧ (k = 1))) g0 K g0 H locs := ⟨hW0, hSh, FR.rf⟩
  have := kc_0
  have := kc_1
  have := kc_m1
  have := kc_m2
  refine q_iload_n hM dX12_hummed_0 (lv_at hl 1 rfl) ?_
  refine q_i2l hM dX12_hummed_1 ?_
  have := l_i2l a
  refine q_lconst (v := 1) hM dX12_hummed_2 (by decide) ?_
  have := kl_1
  refine q_ldc2 (v := 6) hM (kAW (v_7_3 (List.mem_of_getElem? (i := 6) rfl)) rfl) dX12_hummed_3 ?_
  have := kl_6
  refine q_callS (As := [.long a.toInt64, .long (1 : Int64), .long (6 : Int64)]) (rest := []) hM hW.1 hR hC myX12_lies (kAW (v_5_4 (List.mem_of_getElem? (i := 14) rfl)) rfl) (c_X12_lies _ _ cA ad g0 a.toInt64 (1 : Int64) (6 : Int64) hW.2.1) ⟨by decide, by decide⟩ rfl rfl hl.1 (Nat.le_of_ble_eq_true rfl) dX12_hummed_6 (fun v g7691 H locs hp hW1 => ?_)
  obtain ⟨r7690, rfl, hr7690, rfl⟩ := hp
  have hW : WS ad cA (fun i k => (i = 129 ∧ (k = 1))) g0 K g0 H locs := ⟨hW1, hW.2.1, hW.2.2⟩
  refine q_if_eq (tgt := 42) hM dX12_hummed_9 (by decide) (rfl : r7690.toInt = r7690.toInt) (fun h9 => ?_) (fun h9 => ?_)
  · refine q_iconst (v := ((-1) : Int32)) hM dX12_hummed_42 (by decide) ?_
    exact hE _ _ _ _ _ _ hW.1 ⟨_, rfl, hW.2.1, hG, hW.2.2⟩ dX12_hummed_43
  · refine q_iload_n hM dX12_hummed_12 (lv_at hl 2 rfl) ?_
    refine q_i2l hM dX12_hummed_13 ?_
    have := l_i2l b
    refine q_lconst (v := 1) hM dX12_hummed_14 (by decide) ?_
    have := kl_1
    refine q_ldc2 (v := 9) hM (kAW (v_5_5 (List.mem_of_getElem? (i := 10) rfl)) rfl) dX12_hummed_15 ?_
    have := kl_9
    refine q_callS (As := [.long b.toInt64, .long (1 : Int64), .long (9 : Int64)]) (rest := []) hM hW.1 hR hC myX12_lies (kAW (v_5_4 (List.mem_of_getElem? (i := 14) rfl)) rfl) (c_X12_lies _ _ cA ad g0 b.toInt64 (1 : Int64) (9 : Int64) hW.2.1) ⟨by decide, by decide⟩ rfl rfl hl.1 (Nat.le_of_ble_eq_true rfl) dX12_hummed_18 (fun v g7695 H locs hp hW1 => ?_)
    obtain ⟨r7694, rfl, hr7694, rfl⟩ := hp
    have hW : WS ad cA (fun i k => (i = 129 ∧ (k = 1))) g0 K g0 H locs := ⟨hW1, hW.2.1, hW.2.2⟩
    refine q_if_eq (tgt := 42) hM dX12_hummed_21 (by decide) (rfl : r7694.toInt = r7694.toInt) (fun h21 => ?_) (fun h21 => ?_)
    · refine q_iconst (v := ((-1) : Int32)) hM dX12_hummed_42 (by decide) ?_
      exact hE _ _ _ _ _ _ hW.1 ⟨_, rfl, hW.2.1, hG, hW.2.2⟩ dX12_hummed_43
    · refine q_iload_n hM dX12_hummed_24 (lv_at hl 3 rfl) ?_
      refine q_i2l hM dX12_hummed_25 ?_
      have := l_i2l c
      refine q_lconst (v := 0) hM dX12_hummed_26 (by decide) ?_
      have := kl_0
      refine q_lconst (v := 1) hM dX12_hummed_27 (by decide) ?_
      have := kl_1
      refine q_callS (As := [.long c.toInt64, .long (0 : Int64), .long (1 : Int64)]) (rest := []) hM hW.1 hR hC myX12_lies (kAW (v_5_4 (List.mem_of_getElem? (i := 14) rfl)) rfl) (c_X12_lies _ _ cA ad g0 c.toInt64 (0 : Int64) (1 : Int64) hW.2.1) ⟨by decide, by decide⟩ rfl rfl hl.1 (Nat.le_of_ble_eq_true rfl) dX12_hummed_28 (fun v g7699 H locs hp hW1 => ?_)
      obtain ⟨r7698, rfl, hr7698, rfl⟩ := hp
      have hW : WS ad cA (fun i k => (i = 129 ∧ (k = 1))) g0 K g0 H locs := ⟨hW1, hW.2.1, hW.2.2⟩
      refine q_if_eq (tgt := 42) hM dX12_hummed_31 (by decide) (rfl : r7698.toInt = r7698.toInt) (fun h31 => ?_) (fun h31 => ?_)
      · refine q_iconst (v := ((-1) : Int32)) hM dX12_hummed_42 (by decide) ?_
        exact hE _ _ _ _ _ _ hW.1 ⟨_, rfl, hW.2.1, hG, hW.2.2⟩ dX12_hummed_43
      · refine q_iload_n hM dX12_hummed_34 (lv_at hl 1 rfl) ?_
        refine q_aload_n hM dX12_hummed_35 (lv_at hl 0 rfl) ?_
        refine w_getI hM hW FG_X12_166 lb_129 (by decide) (by decide) dX12_hummed_36 (fun x7702 fx7702 => ?_)
        have bx7702 := hG.f fx7702 rF_129_1 (by decide)
        refine q_icmp_le (tgt := 44) hM dX12_hummed_39 (by decide) (rfl : a.toInt = a.toInt) (rfl : x7702.toInt = x7702.toInt) (fun h39 => ?_) (fun h39 => ?_)
        · refine q_aload_n hM dX12_hummed_44 (lv_at hl 0 rfl) ?_
          refine q_iconst (v := (0 : Int32)) hM dX12_hummed_45 (by decide) ?_
          refine w_put hM hW FP_X12_166 lb_129 (by omega) (Or.inl ⟨_, rfl⟩) rfl rfl dX12_hummed_46 (fun g7704 H locs hW e1 e2 => ?_)
          have f7705 : fld g7704 129 1 = .int (0 : Int32) := e1
          have hG := hG.put e1 e2 rF_129_1 (by decide) (by have := kc_0; have := i_rng (0 : Int32); omega) (by have := kc_0; have := i_rng (0 : Int32); omega)
          refine q_iconst (v := (0 : Int32)) hM dX12_hummed_49 (by decide) ?_
          refine q_istore (lv9 := [(4, .int (0 : Int32)), (0, .ref (ad 129)), (1, .int a), (2, .int b), (3, .int c)]) hM dX12_hummed_50 hl (by decide) rfl (fun ls hl => ?_)
          have L52 : ∀ (fu52 : Nat) (w52_4 : Int32) (H : Heap) (locs : List Loc) (ls : Array Slot), (a.toInt - w52_4.toInt + 1).toNat < fu52 → (Rng g7704) → (0 ≤ w52_4.toInt) → (∀ q : Nat, (q : Int) < w52_4.toInt → (arI g7704 130 q &&& 255).toInt ≤ 11) → lv_has ls 9 [(0, .ref (ad 129)), (1, .int a), (2, .int b), (3, .int c), (4, .int w52_4)] → WS ad cA (fun i k => (i = 129 ∧ (k = 1))) g0 K g7704 H locs → XX K 0 0 H locs 52 ls [] := by
            intro fu52
            induction fu52 with
            | zero => intro w52_4 H locs ls h0; omega
            | succ fu52 ih52 =>
              intro w52_4 H locs ls hm52 i52_0 i52_1 i52_2 hl hW
              have hG := i52_0
              have := i_rng a
              refine q_iload hM dX12_hummed_52 (lv_at hl 4 rfl) ?_
              refine q_iload_n hM dX12_hummed_54 (lv_at hl 1 rfl) ?_
              refine q_icmp_ge (tgt := 80) hM dX12_hummed_55 (by decide) (rfl : w52_4.toInt = w52_4.toInt) (rfl : a.toInt = a.toInt) (fun h55 => ?_) (fun h55 => ?_)
              · refine q_iconst (v := (1 : Int32)) hM dX12_hummed_80 (by decide) ?_
                refine q_istore (lv9 := [(4, .int (1 : Int32)), (0, .ref (ad 129)), (1, .int a), (2, .int b), (3, .int c)]) hM dX12_hummed_81 hl (by decide) rfl (fun ls hl => ?_)
                refine q_iconst (v := (0 : Int32)) hM dX12_hummed_83 (by decide) ?_
                refine q_istore (lv9 := [(5, .int (0 : Int32)), (4, .int (1 : Int32)), (0, .ref (ad 129)), (1, .int a), (2, .int b), (3, .int c)]) hM dX12_hummed_84 hl (by decide) rfl (fun ls hl => ?_)
                refine q_iconst (v := (0 : Int32)) hM dX12_hummed_86 (by decide) ?_
                refine q_istore (lv9 := [(6, .int (0 : Int32)), (5, .int (0 : Int32)), (4, .int (1 : Int32)), (0, .ref (ad 129)), (1, .int a), (2, .int b), (3, .int c)]) hM dX12_hummed_87 hl (by decide) rfl (fun ls hl => ?_)
                have L89 : ∀ (fu89 : Nat) (w89_5 : Int32) (w89_6 : Int32) (H : Heap) (locs : List Loc) (ls : Array Slot), (a.toInt - w89_6.toInt + 1).toNat < fu89 → (Rng g7704) → (0 ≤ w89_6.toInt) → lv_has ls 9 [(0, .ref (ad 129)), (1, .int a), (2, .int b), (3, .int c), (4, .int (1 : Int32)), (5, .int w89_5), (6, .int w89_6)] → WS ad cA (fun i k => (i = 129 ∧ (k = 1))) g0 K g7704 H locs → XX K 0 0 H locs 89 ls [] := by
                  intro fu89
                  induction fu89 with
                  | zero => intro w89_5 w89_6 H locs ls h0; omega
                  | succ fu89 ih89 =>
                    intro w89_5 w89_6 H locs ls hm89 i89_0 i89_1 hl hW
                    have hG := i89_0
                    have := i_rng a
                    refine q_iload hM dX12_hummed_89 (lv_at hl 6 rfl) ?_
                    refine q_iload_n hM dX12_hummed_91 (lv_at hl 1 rfl) ?_
                    refine q_icmp_ge (tgt := 114) hM dX12_hummed_92 (by decide) (rfl : w89_6.toInt = w89_6.toInt) (rfl : a.toInt = a.toInt) (fun h92 => ?_) (fun h92 => ?_)
                    · refine q_iconst (v := (0 : Int32)) hM dX12_hummed_114 (by decide) ?_
                      refine q_istore (lv9 := [(6, .int (0 : Int32)), (0, .ref (ad 129)), (1, .int a), (2, .int b), (3, .int c), (4, .int (1 : Int32)), (5, .int w89_5)]) hM dX12_hummed_115 hl (by decide) rfl (fun ls hl => ?_)
                      have L117 : ∀ (fu117 : Nat) (w117_4 : Int32) (w117_5 : Int32) (w117_6 : Int32) (H : Heap) (locs : List Loc) (ls : Array Slot), (a.toInt - w117_6.toInt + 1).toNat < fu117 → (Rng g7704) → (0 ≤ w117_6.toInt) → (w117_6.toInt ≤ 6) → lv_has ls 9 [(0, .ref (ad 129)), (1, .int a), (2, .int b), (3, .int c), (4, .int w117_4), (5, .int w117_5), (6, .int w117_6)] → WS ad cA (fun i k => (i = 129 ∧ (k = 1))) g0 K g7704 H locs → XX K 0 0 H locs 117 ls [] := by
                        intro fu117
                        induction fu117 with
                        | zero => intro w117_4 w117_5 w117_6 H locs ls h0; omega
                        | succ fu117 ih117 =>
                          intro w117_4 w117_5 w117_6 H locs ls hm117 i117_0 i117_1 i117_2 hl hW
                          have hG := i117_0
                          refine q_iload hM dX12_hummed_117 (lv_at hl 6 rfl) ?_
                          refine q_iconst (v := (1 : Int32)) hM dX12_hummed_119 (by decide) ?_
                          refine q_iadd hM dX12_hummed_120 (fun z7711 hz7711 => ?_)
                          first | have tz7711 := i_addT hz7711 (rfl : w117_6.toInt = w117_6.toInt) (kc_1 : (1 : Int32).toInt = 1) (by omega) (by omega) | skip
                          refine q_iload_n hM dX12_hummed_121 (lv_at hl 1 rfl) ?_
                          refine q_icmp_ge (tgt := 219) hM dX12_hummed_122 (by decide) (rfl : z7711.toInt = z7711.toInt) (rfl : a.toInt = a.toInt) (fun h122 => ?_) (fun h122 => ?_)
                          · refine q_iload_n hM dX12_hummed_219 (lv_at hl 3 rfl) ?_
                            refine q_if_ne (tgt := 228) hM dX12_hummed_220 (by decide) (rfl : c.toInt = c.toInt) (fun h220 => ?_) (fun h220 => ?_)
                            · refine q_iload hM dX12_hummed_228 (lv_at hl 4 rfl) ?_
                              refine q_if_ne (tgt := 237) hM dX12_hummed_230 (by decide) (rfl : w117_4.toInt = w117_4.toInt) (fun h230 => ?_) (fun h230 => ?_)
                              · refine q_iload hM dX12_hummed_237 (lv_at hl 5 rfl) ?_
                                exact hE _ _ _ _ _ _ hW.1 ⟨_, rfl, hW.2.1, hG, hW.2.2⟩ dX12_hummed_239
                              · refine q_iconst (v := (0 : Int32)) hM dX12_hummed_233 (by decide) ?_
                                refine q_goto (tgt := 239) hM dX12_hummed_234 (by decide) ?_
                                exact hE _ _ _ _ _ _ hW.1 ⟨_, rfl, hW.2.1, hG, hW.2.2⟩ dX12_hummed_239
                            · refine q_iload hM dX12_hummed_223 (lv_at hl 4 rfl) ?_
                              refine q_goto (tgt := 239) hM dX12_hummed_225 (by decide) ?_
                              exact hE _ _ _ _ _ _ hW.1 ⟨_, rfl, hW.2.1, hG, hW.2.2⟩ dX12_hummed_239
                          · refine q_aload_n hM dX12_hummed_125 (lv_at hl 0 rfl) ?_
                            refine q_aload_n hM dX12_hummed_126 (lv_at hl 0 rfl) ?_
                            refine q_iload hM dX12_hummed_127 (lv_at hl 6 rfl) ?_
                            refine q_callV (As := [.int w117_6]) (rest := [.ref (ad 129)]) hM hW.1 hR hC myX12_byteAt (kAW (v_7_3 (List.mem_of_getElem? (i := 7) rfl)) rfl) (rfl : vwCl[12]? = some (RX12, TX12, 86)) rfl lb_129.1 (shO hW.2.1 lb_129) (a_X12_byteAt _ _ cA ad g7704 w117_6 hW.2.1 hG (by  omega) (by  omega)) ⟨by decide, by decide⟩ rfl rfl hl.1 (Nat.le_of_ble_eq_true rfl) dX12_hummed_129 (fun v g7719 H locs hp hW1 => ?_)
                            obtain ⟨r7718, rfl, hr7718, rfl⟩ := hp
                            have hW : WS ad cA (fun i k => (i = 129 ∧ (k = 1))) g0 K g7704 H locs := ⟨hW1, hW.2.1, hW.2.2⟩
                            have mr7718 := i52_2 w117_6.toNatClampNeg (by show ((w117_6.toInt.toNat : Nat) : Int) < _; omega)
                            refine q_aload_n hM dX12_hummed_132 (lv_at hl 0 rfl) ?_
                            refine q_iload hM dX12_hummed_133 (lv_at hl 6 rfl) ?_
                            refine q_iconst (v := (1 : Int32)) hM dX12_hummed_135 (by decide) ?_
                            refine q_iadd hM dX12_hummed_136 (fun z7720 hz7720 => ?_)
                            first | have tz7720 := i_addT hz7720 (rfl : w117_6.toInt = w117_6.toInt) (kc_1 : (1 : Int32).toInt = 1) (by omega) (by omega) | skip
                            refine q_callV (As := [.int z7720]) (rest := [.int r7718, .ref (ad 129)]) hM hW.1 hR hC myX12_byteAt (kAW (v_7_3 (List.mem_of_getElem? (i := 7) rfl)) rfl) (rfl : vwCl[12]? = some (RX12, TX12, 86)) rfl lb_129.1 (shO hW.2.1 lb_129) (a_X12_byteAt _ _ cA ad g7704 z7720 hW.2.1 hG (by  omega) (by  omega)) ⟨by decide, by decide⟩ rfl rfl hl.1 (Nat.le_of_ble_eq_true rfl) dX12_hummed_137 (fun v g7722 H locs hp hW1 => ?_)
                            obtain ⟨r7721, rfl, hr7721, rfl⟩ := hp
                            have hW : WS ad cA (fun i k => (i = 129 ∧ (k = 1))) g0 K g7704 H locs := ⟨hW1, hW.2.1, hW.2.2⟩
                            have mr7721 := i52_2 z7720.toNatClampNeg (by show ((z7720.toInt.toNat : Nat) : Int) < _; omega)
                            refine q_iload_n hM dX12_hummed_140 (lv_at hl 2 rfl) ?_
                            refine q_callV (As := [.int r7718, .int r7721, .int b]) (rest := []) hM hW.1 hR hC myX12_between (kAW (v_7_3 (List.mem_of_getElem? (i := 11) rfl)) rfl) (rfl : vwCl[12]? = some (RX12, TX12, 86)) rfl lb_129.1 (shO hW.2.1 lb_129) (a_X12_between _ _ cA ad g7704 r7718 r7721 b hW.2.1 hG (by  omega) (by  omega) (by  omega) (by  omega)) ⟨by decide, by decide⟩ rfl rfl hl.1 (Nat.le_of_ble_eq_true rfl) dX12_hummed_141 (fun v g7724 H locs hp hW1 => ?_)
                            obtain ⟨r7723, rfl, hr7723, rfl⟩ := hp
                            have hW : WS ad cA (fun i k => (i = 129 ∧ (k = 1))) g0 K g7704 H locs := ⟨hW1, hW.2.1, hW.2.2⟩
                            refine q_istore (lv9 := [(7, .int r7723), (0, .ref (ad 129)), (1, .int a), (2, .int b), (3, .int c), (4, .int w117_4), (5, .int w117_5), (6, .int w117_6)]) hM dX12_hummed_144 hl (by decide) rfl (fun ls hl => ?_)
                            refine q_aload_n hM dX12_hummed_146 (lv_at hl 1 rfl) ?_
                            refine q_aload_n hM dX12_hummed_147 (lv_at hl 1 rfl) ?_
                            refine q_iload hM dX12_hummed_148 (lv_at hl 7 rfl) ?_
                            refine q_callV (As := [.int w117_6]) (rest := [.ref (ad 129)]) hM hW.1 hR hC myX12_byteAt (kAW (v_7_3 (List.mem_of_getElem? (i := 7) rfl)) rfl) (rfl : vwCl[12]? = some (RX12, TX12, 86)) rfl lb_129.1 (shO hW.2.1 lb_129) (a_X12_byteAt _ _ cA ad g7704 w117_6 hW.2.1 hG (by  omega) (by  omega)) ⟨by decide, by decide⟩ rfl rfl hl.1 (Nat.le_of_ble_eq_true rfl) dX12_hummed_150 (fun v g7726 H locs hp hW1 => ?_)
                            obtain ⟨r7725, rfl, hr7725, rfl⟩ := hp
                            have hW : WS ad cA (fun i k => (i = 129 ∧ (k = 1))) g0 K g7704 H locs := ⟨hW1, hW.2.1, hW.2.2⟩
                            have mr7725 := i52_2 w117_6.toNatClampNeg (by show ((w117_6.toInt.toNat : Nat) : Int) < _; omega)
                            refine q_aload_n hM dX12_hummed_153 (lv_at hl 1 rfl) ?_
                            refine q_iload hM dX12_hummed_154 (lv_at hl 7 rfl) ?_
                            refine q_iconst (v := (1 : Int32)) hM dX12_hummed_156 (by decide) ?_
                            refine q_iadd hM dX12_hummed_157 (fun z7727 hz7727 => ?_)
                            first | have tz7727 := i_addT hz7727 (rfl : w117_6.toInt = w117_6.toInt) (kc_1 : (1 : Int32).toInt = 1) (by omega) (by omega) | skip
                            refine q_callV (As := [.int z7727]) (rest := [.int r7725, .ref (ad 129)]) hM hW.1 hR hC myX12_byteAt (kAW (v_7_3 (List.mem_of_getElem? (i := 7) rfl)) rfl) (rfl : vwCl[12]? = some (RX12, TX12, 86)) rfl lb_129.1 (shO hW.2.1 lb_129) (a_X12_byteAt _ _ cA ad g7704 z7727 hW.2.1 hG (by  omega) (by  omega)) ⟨by decide, by decide⟩ rfl rfl hl.1 (Nat.le_of_ble_eq_true rfl) dX12_hummed_158 (fun v g7729 H locs hp hW1 => ?_)
                            obtain ⟨r7728, rfl, hr7728, rfl⟩ := hp
                            have hW : WS ad cA (fun i k => (i = 129 ∧ (k = 1))) g0 K g7704 H locs := ⟨hW1, hW.2.1, hW.2.2⟩
                            have mr7728 := i52_2 z7727.toNatClampNeg (by show ((z7727.toInt.toNat : Nat) : Int) < _; omega)
                            refine q_iload_n hM dX12_hummed_161 (lv_at hl 3 rfl) ?_
                            refine q_callV (As := [.int r7725, .int r7728, .int b]) (rest := []) hM hW.1 hR hC myX12_isLinked (kAW (v_7_3 (List.mem_of_getElem? (i := 15) rfl)) rfl) (rfl : vwCl[12]? = some (RX12, TX12, 86)) rfl lb_129.1 (shO hW.2.1 lb_129) (a_X12_isLinked _ _ cA ad g7704 r7725 r7728 b hW.2.1 hG (by  omega) (by  omega) (by  omega) (by  omega)) ⟨by decide, by decide⟩ rfl rfl hl.1 (Nat.le_of_ble_eq_true rfl) dX12_hummed_162 (fun v g7731 H locs hp hW1 => ?_)
                            obtain ⟨r7730, rfl, hr7730, rfl⟩ := hp
                            have hW : WS ad cA (fun i k => (i = 129 ∧ (k = 1))) g0 K g7704 H locs := ⟨hW1, hW.2.1, hW.2.2⟩
                            refine q_istore (lv9 := [(8, .int r7730), (7, .int r7723), (0, .ref (ad 129)), (1, .int a), (2, .int b), (3, .int c), (4, .int w117_4), (5, .int w117_5), (6, .int w117_6)]) hM dX12_hummed_165 hl (by decide) rfl (fun ls hl => ?_)
                            refine q_iload hM dX12_hummed_167 (lv_at hl 6 rfl) ?_
                            refine q_iload hM dX12_hummed_169 (lv_at hl 1 rfl) ?_
                            refine q_callS (As := [.int r7723]) (rest := [.int w117_4]) hM hW.1 hR hC myX12_sizeOf (kAW (v_5_6 (List.mem_of_getElem? (i := 14) rfl)) rfl) (a_X12_sizeOf _ _ cA ad g7704 r7723 hW.2.1 hG (by  omega)) ⟨by decide, by decide⟩ rfl rfl hl.1 (Nat.le_of_ble_eq_true rfl) dX12_hummed_171 (fun v g7733 H locs hp hW1 => ?_)
                            obtain ⟨r7732, rfl, hr7732, rfl⟩ := hp
                            have hW : WS ad cA (fun i k => (i = 129 ∧ (k = 1))) g0 K g7704 H locs := ⟨hW1, hW.2.1, hW.2.2⟩
                            refine q_iload hM dX12_hummed_174 (lv_at hl 0 rfl) ?_
                            refine q_if_eq (tgt := 183) hM dX12_hummed_176 (by decide) (rfl : r7730.toInt = r7730.toInt) (fun h176 => ?_) (fun h176 => ?_)
                            · refine q_iconst (v := (0 : Int32)) hM dX12_hummed_183 (by decide) ?_
                              refine q_iadd hM dX12_hummed_184 (fun z7735 hz7735 => ?_)
                              first | have tz7735 := i_addT hz7735 (rfl : r7732.toInt = r7732.toInt) (kc_0 : (0 : Int32).toInt = 0) (by omega) (by omega) | skip
                              refine q_imul hM dX12_hummed_185 (fun z7736 hz7736 => ?_)
                              first | have tz7736 := i_mulT hz7736 (rfl : w117_4.toInt = w117_4.toInt) (rfl : z7735.toInt = z7735.toInt) (by omega) (by omega) | skip
                              refine q_istore (lv9 := [(4, .int z7736), (8, .int r7730), (7, .int r7723), (0, .ref (ad 129)), (1, .int a), (2, .int b), (3, .int c), (5, .int w117_5), (6, .int w117_6)]) hM dX12_hummed_186 hl (by decide) rfl (fun ls hl => ?_)
                              refine q_iload hM dX12_hummed_188 (lv_at hl 7 rfl) ?_
                              refine q_iload hM dX12_hummed_190 (lv_at hl 2 rfl) ?_
                              refine q_callS (As := [.int r7723]) (rest := [.int w117_5]) hM hW.1 hR hC myX12_sizeOf (kAW (v_5_6 (List.mem_of_getElem? (i := 14) rfl)) rfl) (a_X12_sizeOf _ _ cA ad g7704 r7723 hW.2.1 hG (by  omega)) ⟨by decide, by decide⟩ rfl rfl hl.1 (Nat.le_of_ble_eq_true rfl) dX12_hummed_192 (fun v g7738 H locs hp hW1 => ?_)
                              obtain ⟨r7737, rfl, hr7737, rfl⟩ := hp
                              have hW : WS ad cA (fun i k => (i = 129 ∧ (k = 1))) g0 K g7704 H locs := ⟨hW1, hW.2.1, hW.2.2⟩
                              refine q_iconst (v := (1 : Int32)) hM dX12_hummed_195 (by decide) ?_
                              refine q_icmp_ne (tgt := 209) hM dX12_hummed_196 (by decide) (rfl : r7737.toInt = r7737.toInt) (kc_1 : (1 : Int32).toInt = 1) (fun h196 => ?_) (fun h196 => ?_)
                              · refine q_iconst (v := (0 : Int32)) hM dX12_hummed_209 (by decide) ?_
                                refine q_ior hM dX12_hummed_210 (fun z7740 hz7740 => ?_)
                                refine q_istore (lv9 := [(5, .int z7740), (4, .int z7736), (8, .int r7730), (7, .int r7723), (0, .ref (ad 129)), (1, .int a), (2, .int b), (3, .int c), (6, .int w117_6)]) hM dX12_hummed_211 hl (by decide) rfl (fun ls hl => ?_)
                                refine q_iinc (lv9 := fun z7741 => [(6, .int z7741), (5, .int z7740), (4, .int z7736), (8, .int r7730), (7, .int r7723), (0, .ref (ad 129)), (1, .int a), (2, .int b), (3, .int c)]) hM dX12_hummed_213 hl (kq := 8) rfl (by decide) (fun _ => rfl) (fun z7741 ls hz7741 hl => ?_)
                                first | have tz7741 := i_addT hz7741 (rfl : w117_6.toInt = w117_6.toInt) (kc_1 : (Int32.ofInt 1).toInt = 1) (by omega) (by omega) | skip
                                refine q_goto (tgt := 117) hM dX12_hummed_216 (by decide) ?_
                                exact ih117 z7736 z7740 z7741 _ _ _ (by omega) hG (by omega) (by omega) (lv_sub hl [5, 6, 7, 8, 2, 1, 0] rfl) hW
                              · refine q_iload hM dX12_hummed_199 (lv_at hl 1 rfl) ?_
                                refine q_if_ne (tgt := 209) hM dX12_hummed_201 (by decide) (rfl : r7730.toInt = r7730.toInt) (fun h201 => ?_) (fun h201 => ?_)
                                · refine q_iconst (v := (0 : Int32)) hM dX12_hummed_209 (by decide) ?_
                                  refine q_ior hM dX12_hummed_210 (fun z7744 hz7744 => ?_)
                                  refine q_istore (lv9 := [(5, .int z7744), (4, .int z7736), (8, .int r7730), (7, .int r7723), (0, .ref (ad 129)), (1, .int a), (2, .int b), (3, .int c), (6, .int w117_6)]) hM dX12_hummed_211 hl (by decide) rfl (fun ls hl => ?_)
                                  refine q_iinc (lv9 := fun z7745 => [(6, .int z7745), (5, .int z7744), (4, .int z7736), (8, .int r7730), (7, .int r7723), (0, .ref (ad 129)), (1, .int a), (2, .int b), (3, .int c)]) hM dX12_hummed_213 hl (kq := 8) rfl (by decide) (fun _ => rfl) (fun z7745 ls hz7745 hl => ?_)
                                  first | have tz7745 := i_addT hz7745 (rfl : w117_6.toInt = w117_6.toInt) (kc_1 : (Int32.ofInt 1).toInt = 1) (by omega) (by omega) | skip
                                  refine q_goto (tgt := 117) hM dX12_hummed_216 (by decide) ?_
                                  exact ih117 z7736 z7744 z7745 _ _ _ (by omega) hG (by omega) (by omega) (lv_sub hl [5, 6, 7, 8, 2, 1, 0] rfl) hW
                                · refine q_iload hM dX12_hummed_204 (lv_at hl 2 rfl) ?_
                                  refine q_goto (tgt := 210) hM dX12_hummed_206 (by decide) ?_
                                  refine q_ior hM dX12_hummed_210 (fun z7747 hz7747 => ?_)
                                  refine q_istore (lv9 := [(5, .int z7747), (4, .int z7736), (8, .int r7730), (7, .int r7723), (0, .ref (ad 129)), (1, .int a), (2, .int b), (3, .int c), (6, .int w117_6)]) hM dX12_hummed_211 hl (by decide) rfl (fun ls hl => ?_)
                                  refine q_iinc (lv9 := fun z7748 => [(6, .int z7748), (5, .int z7747), (4, .int z7736), (8, .int r7730), (7, .int r7723), (0, .ref (ad 129)), (1, .int a), (2, .int b), (3, .int c)]) hM dX12_hummed_213 hl (kq := 8) rfl (by decide) (fun _ => rfl) (fun z7748 ls hz7748 hl => ?_)
                                  first | have tz7748 := i_addT hz7748 (rfl : w117_6.toInt = w117_6.toInt) (kc_1 : (Int32.ofInt 1).toInt = 1) (by omega) (by omega) | skip
                                  refine q_goto (tgt := 117) hM dX12_hummed_216 (by decide) ?_
                                  exact ih117 z7736 z7747 z7748 _ _ _ (by omega) hG (by omega) (by omega) (lv_sub hl [5, 6, 7, 8, 2, 1, 0] rfl) hW
                            · refine q_iconst (v := (1 : Int32)) hM dX12_hummed_179 (by decide) ?_
                              refine q_goto (tgt := 184) hM dX12_hummed_180 (by decide) ?_
                              refine q_iadd hM dX12_hummed_184 (fun z7750 hz7750 => ?_)
                              first | have tz7750 := i_addT hz7750 (rfl : r7732.toInt = r7732.toInt) (kc_1 : (1 : Int32).toInt = 1) (by omega) (by omega) | skip
                              refine q_imul hM dX12_hummed_185 (fun z7751 hz7751 => ?_)
                              first | have tz7751 := i_mulT hz7751 (rfl : w117_4.toInt = w117_4.toInt) (rfl : z7750.toInt = z7750.toInt) (by omega) (by omega) | skip
                              refine q_istore (lv9 := [(4, .int z7751), (8, .int r7730), (7, .int r7723), (0, .ref (ad 129)), (1, .int a), (2, .int b), (3, .int c), (5, .int w117_5), (6, .int w117_6)]) hM dX12_hummed_186 hl (by decide) rfl (fun ls hl => ?_)
                              refine q_iload hM dX12_hummed_188 (lv_at hl 7 rfl) ?_
                              refine q_iload hM dX12_hummed_190 (lv_at hl 2 rfl) ?_
                              refine q_callS (As := [.int r7723]) (rest := [.int w117_5]) hM hW.1 hR hC myX12_sizeOf (kAW (v_5_6 (List.mem_of_getElem? (i := 14) rfl)) rfl) (a_X12_sizeOf _ _ cA ad g7704 r7723 hW.2.1 hG (by  omega)) ⟨by decide, by decide⟩ rfl rfl hl.1 (Nat.le_of_ble_eq_true rfl) dX12_hummed_192 (fun v g7753 H locs hp hW1 => ?_)
                              obtain ⟨r7752, rfl, hr7752, rfl⟩ := hp
                              have hW : WS ad cA (fun i k => (i = 129 ∧ (k = 1))) g0 K g7704 H locs := ⟨hW1, hW.2.1, hW.2.2⟩
                              refine q_iconst (v := (1 : Int32)) hM dX12_hummed_195 (by decide) ?_
                              refine q_icmp_ne (tgt := 209) hM dX12_hummed_196 (by decide) (rfl : r7752.toInt = r7752.toInt) (kc_1 : (1 : Int32).toInt = 1) (fun h196 => ?_) (fun h196 => ?_)
                              · refine q_iconst (v := (0 : Int32)) hM dX12_hummed_209 (by decide) ?_
                                refine q_ior hM dX12_hummed_210 (fun z7755 hz7755 => ?_)
                                refine q_istore (lv9 := [(5, .int z7755), (4, .int z7751), (8, .int r7730), (7, .int r7723), (0, .ref (ad 129)), (1, .int a), (2, .int b), (3, .int c), (6, .int w117_6)]) hM dX12_hummed_211 hl (by decide) rfl (fun ls hl => ?_)
                                refine q_iinc (lv9 := fun z7756 => [(6, .int z7756), (5, .int z7755), (4, .int z7751), (8, .int r7730), (7, .int r7723), (0, .ref (ad 129)), (1, .int a), (2, .int b), (3, .int c)]) hM dX12_hummed_213 hl (kq := 8) rfl (by decide) (fun _ => rfl) (fun z7756 ls hz7756 hl => ?_)
                                first | have tz7756 := i_addT hz7756 (rfl : w117_6.toInt = w117_6.toInt) (kc_1 : (Int32.ofInt 1).toInt = 1) (by omega) (by omega) | skip
                                refine q_goto (tgt := 117) hM dX12_hummed_216 (by decide) ?_
                                exact ih117 z7751 z7755 z7756 _ _ _ (by omega) hG (by omega) (by omega) (lv_sub hl [5, 6, 7, 8, 2, 1, 0] rfl) hW
                              · refine q_iload hM dX12_hummed_199 (lv_at hl 1 rfl) ?_
                                refine q_if_ne (tgt := 209) hM dX12_hummed_201 (by decide) (rfl : r7730.toInt = r7730.toInt) (fun h201 => ?_) (fun h201 => ?_)
                                · refine q_iconst (v := (0 : Int32)) hM dX12_hummed_209 (by decide) ?_
                                  refine q_ior hM dX12_hummed_210 (fun z7759 hz7759 => ?_)
                                  refine q_istore (lv9 := [(5, .int z7759), (4, .int z7751), (8, .int r7730), (7, .int r7723), (0, .ref (ad 129)), (1, .int a), (2, .int b), (3, .int c), (6, .int w117_6)]) hM dX12_hummed_211 hl (by decide) rfl (fun ls hl => ?_)
                                  refine q_iinc (lv9 := fun z7760 => [(6, .int z7760), (5, .int z7759), (4, .int z7751), (8, .int r7730), (7, .int r7723), (0, .ref (ad 129)), (1, .int a), (2, .int b), (3, .int c)]) hM dX12_hummed_213 hl (kq := 8) rfl (by decide) (fun _ => rfl) (fun z7760 ls hz7760 hl => ?_)
                                  first | have tz7760 := i_addT hz7760 (rfl : w117_6.toInt = w117_6.toInt) (kc_1 : (Int32.ofInt 1).toInt = 1) (by omega) (by omega) | skip
                                  refine q_goto (tgt := 117) hM dX12_hummed_216 (by decide) ?_
                                  exact ih117 z7751 z7759 z7760 _ _ _ (by omega) hG (by omega) (by omega) (lv_sub hl [5, 6, 7, 8, 2, 1, 0] rfl) hW
                                · refine q_iload hM dX12_hummed_204 (lv_at hl 2 rfl) ?_
                                  refine q_goto (tgt := 210) hM dX12_hummed_206 (by decide) ?_
                                  refine q_ior hM dX12_hummed_210 (fun z7762 hz7762 => ?_)
                                  refine q_istore (lv9 := [(5, .int z7762), (4, .int z7751), (8, .int r7730), (7, .int r7723), (0, .ref (ad 129)), (1, .int a), (2, .int b), (3, .int c), (6, .int w117_6)]) hM dX12_hummed_211 hl (by decide) rfl (fun ls hl => ?_)
                                  refine q_iinc (lv9 := fun z7763 => [(6, .int z7763), (5, .int z7762), (4, .int z7751), (8, .int r7730), (7, .int r7723), (0, .ref (ad 129)), (1, .int a), (2, .int b), (3, .int c)]) hM dX12_hummed_213 hl (kq := 8) rfl (by decide) (fun _ => rfl) (fun z7763 ls hz7763 hl => ?_)
                                  first | have tz7763 := i_addT hz7763 (rfl : w117_6.toInt = w117_6.toInt) (kc_1 : (Int32.ofInt 1).toInt = 1) (by omega) (by omega) | skip
                                  refine q_goto (tgt := 117) hM dX12_hummed_216 (by decide) ?_
                                  exact ih117 z7751 z7762 z7763 _ _ _ (by omega) hG (by omega) (by omega) (lv_sub hl [5, 6, 7, 8, 2, 1, 0] rfl) hW
                      have := kc_1
                      have := kc_0
                      exact L117 _ (1 : Int32) w89_5 (0 : Int32) _ _ _ (Nat.lt_succ_self _) hG (by omega) (by omega) (lv_sub hl [1, 2, 3, 4, 5, 6, 0] rfl) hW
                    · refine q_iload hM dX12_hummed_95 (lv_at hl 5 rfl) ?_
                      refine q_iconst (v := (1 : Int32)) hM dX12_hummed_97 (by decide) ?_
                      refine q_aload_n hM dX12_hummed_98 (lv_at hl 0 rfl) ?_
                      refine q_iload hM dX12_hummed_99 (lv_at hl 6 rfl) ?_
                      refine q_callV (As := [.int w89_6]) (rest := [.int (1 : Int32), .int w89_5]) hM hW.1 hR hC myX12_byteAt (kAW (v_7_3 (List.mem_of_getElem? (i := 7) rfl)) rfl) (rfl : vwCl[12]? = some (RX12, TX12, 86)) rfl lb_129.1 (shO hW.2.1 lb_129) (a_X12_byteAt _ _ cA ad g7704 w89_6 hW.2.1 hG (by  omega) (by  omega)) ⟨by decide, by decide⟩ rfl rfl hl.1 (Nat.le_of_ble_eq_true rfl) dX12_hummed_101 (fun v g7766 H locs hp hW1 => ?_)
                      obtain ⟨r7765, rfl, hr7765, rfl⟩ := hp
                      have hW : WS ad cA (fun i k => (i = 129 ∧ (k = 1))) g0 K g7704 H locs := ⟨hW1, hW.2.1, hW.2.2⟩
                      refine q_ishl hM dX12_hummed_104 (fun z7767 hz7767 => ?_)
                      refine q_ior hM dX12_hummed_105 (fun z7768 hz7768 => ?_)
                      refine q_istore (lv9 := [(5, .int z7768), (0, .ref (ad 129)), (1, .int a), (2, .int b), (3, .int c), (4, .int (1 : Int32)), (6, .int w89_6)]) hM dX12_hummed_106 hl (by decide) rfl (fun ls hl => ?_)
                      refine q_iinc (lv9 := fun z7769 => [(6, .int z7769), (5, .int z7768), (0, .ref (ad 129)), (1, .int a), (2, .int b), (3, .int c), (4, .int (1 : Int32))]) hM dX12_hummed_108 hl (kq := 6) rfl (by decide) (fun _ => rfl) (fun z7769 ls hz7769 hl => ?_)
                      first | have tz7769 := i_addT hz7769 (rfl : w89_6.toInt = w89_6.toInt) (kc_1 : (Int32.ofInt 1).toInt = 1) (by omega) (by omega) | skip
                      refine q_goto (tgt := 89) hM dX12_hummed_111 (by decide) ?_
                      exact ih89 z7768 z7769 _ _ _ (by omega) hG (by omega) (lv_sub hl [2, 3, 4, 5, 6, 1, 0] rfl) hW
                have := kc_0
                have := kc_0
                exact L89 _ (0 : Int32) (0 : Int32) _ _ _ (Nat.lt_succ_self _) hG (by omega) (lv_sub hl [3, 4, 5, 6, 2, 1, 0] rfl) hW
              · refine q_aload_n hM dX12_hummed_58 (lv_at hl 0 rfl) ?_
                refine q_aload_n hM dX12_hummed_59 (lv_at hl 0 rfl) ?_
                refine q_iload hM dX12_hummed_60 (lv_at hl 4 rfl) ?_
                refine q_callV (As := [.int w52_4]) (rest := [.ref (ad 129)]) hM hW.1 hR hC myX12_byteAt (kAW (v_7_3 (List.mem_of_getElem? (i := 7) rfl)) rfl) (rfl : vwCl[12]? = some (RX12, TX12, 86)) rfl lb_129.1 (shO hW.2.1 lb_129) (a_X12_byteAt _ _ cA ad g7704 w52_4 hW.2.1 hG (by  omega) (by  omega)) ⟨by decide, by decide⟩ rfl rfl hl.1 (Nat.le_of_ble_eq_true rfl) dX12_hummed_62 (fun v g7772 H locs hp hW1 => ?_)
                obtain ⟨r7771, rfl, hr7771, rfl⟩ := hp
                have hW : WS ad cA (fun i k => (i = 129 ∧ (k = 1))) g0 K g7704 H locs := ⟨hW1, hW.2.1, hW.2.2⟩
                refine q_callV (As := [.int r7771]) (rest := []) hM hW.1 hR hC myX12_isTold (kAW (v_5_5 (List.mem_of_getElem? (i := 6) rfl)) rfl) (rfl : vwCl[12]? = some (RX12, TX12, 86)) rfl lb_129.1 (shO hW.2.1 lb_129) (a_X12_isTold _ _ cA ad g7704 r7771 hW.2.1 hG) ⟨by decide, by decide⟩ rfl rfl hl.1 (Nat.le_of_ble_eq_true rfl) dX12_hummed_65 (fun v g7774 H locs hp hW1 => ?_)
                obtain ⟨r7773, rfl, hr7773, rfl⟩ := hp
                have hW : WS ad cA (fun i k => (i = 129 ∧ (k = 1))) g0 K g7704 H locs := ⟨hW1, hW.2.1, hW.2.2⟩
                refine q_if_ne (tgt := 74) hM dX12_hummed_68 (by decide) (rfl : r7773.toInt = r7773.toInt) (fun h68 => ?_) (fun h68 => ?_)
                · refine q_iinc (lv9 := fun z7776 => [(4, .int z7776), (0, .ref (ad 129)), (1, .int a), (2, .int b), (3, .int c)]) hM dX12_hummed_74 hl (kq := 4) rfl (by decide) (fun _ => rfl) (fun z7776 ls hz7776 hl => ?_)
                  first | have tz7776 := i_addT hz7776 (rfl : w52_4.toInt = w52_4.toInt) (kc_1 : (Int32.ofInt 1).toInt = 1) (by omega) (by omega) | skip
                  refine q_goto (tgt := 52) hM dX12_hummed_77 (by decide) ?_
                  exact ih52 z7776 _ _ _ (by omega) hG (by omega) (fun q h => by
                      by_cases e : (q : Int) = w52_4.toInt
                      · have e9 : w52_4.toNatClampNeg = q := by show w52_4.toInt.toNat = q; omega
                        have e8 := hr7771; rw [e9] at e8; omega
                      · exact i52_2 q (by omega)) (lv_sub hl [1, 2, 3, 4, 0] rfl) hW
                · refine q_bipush (v := ((-2) : Int32)) hM dX12_hummed_71 (by decide) ?_
                  exact hE _ _ _ _ _ _ hW.1 ⟨_, rfl, hW.2.1, hG, hW.2.2⟩ dX12_hummed_73
          have := kc_0
          exact L52 _ (0 : Int32) _ _ _ (Nat.lt_succ_self _) hG (by omega) (fun q h => absurd h (by have := kc_0; omega)) (lv_sub hl [1, 2, 3, 4, 0] rfl) hW
        · refine q_iconst (v := ((-1) : Int32)) hM dX12_hummed_42 (by decide) ?_
          exact hE _ _ _ _ _ _ hW.1 ⟨_, rfl, hW.2.1, hG, hW.2.2⟩ dX12_hummed_43

theorem dX12_odds_0 : decode cX12_odds 0 = .ok (.aload_n 0, 1) := by decide +kernel
theorem dX12_odds_1 : decode cX12_odds 1 = .ok (.iload_n 1, 1) := by decide +kernel
theorem dX12_odds_2 : decode cX12_odds 2 = .ok (.invokevirtual 421, 3) := by decide +kernel
theorem dX12_odds_5 : decode cX12_odds 5 = .ok (.ifCond .eq 43, 3) := by decide +kernel
theorem dX12_odds_8 : decode cX12_odds 8 = .ok (.aload_n 0, 1) := by decide +kernel
theorem dX12_odds_9 : decode cX12_odds 9 = .ok (.iload_n 2, 1) := by decide +kernel
theorem dX12_odds_10 : decode cX12_odds 10 = .ok (.invokevirtual 548, 3) := by decide +kernel
theorem dX12_odds_13 : decode cX12_odds 13 = .ok (.ifCond .eq 35, 3) := by decide +kernel
theorem dX12_odds_16 : decode cX12_odds 16 = .ok (.iload_n 2, 1) := by decide +kernel
theorem dX12_odds_17 : decode cX12_odds 17 = .ok (.invokestatic 215, 3) := by decide +kernel
theorem dX12_odds_20 : decode cX12_odds 20 = .ok (.bipush 8, 2) := by decide +kernel
theorem dX12_odds_22 : decode cX12_odds 22 = .ok (.if_icmp .gt 26, 3) := by decide +kernel
theorem dX12_odds_25 : decode cX12_odds 25 = .ok (.iload_n 3, 1) := by decide +kernel
theorem dX12_odds_26 : decode cX12_odds 26 = .ok (.i2l, 1) := by decide +kernel
theorem dX12_odds_27 : decode cX12_odds 27 = .ok (.lconst 0, 1) := by decide +kernel
theorem dX12_odds_28 : decode cX12_odds 28 = .ok (.ldc2_w 426, 3) := by decide +kernel
theorem dX12_odds_31 : decode cX12_odds 31 = .ok (.invokestatic 190, 3) := by decide +kernel
theorem dX12_odds_34 : decode cX12_odds 34 = .ok (.ifCond .eq 14, 3) := by decide +kernel
theorem dX12_odds_37 : decode cX12_odds 37 = .ok (.iload 4, 2) := by decide +kernel
theorem dX12_odds_39 : decode cX12_odds 39 = .ok (.i2l, 1) := by decide +kernel
theorem dX12_odds_40 : decode cX12_odds 40 = .ok (.lconst 0, 1) := by decide +kernel
theorem dX12_odds_41 : decode cX12_odds 41 = .ok (.lconst 1, 1) := by decide +kernel
theorem dX12_odds_42 : decode cX12_odds 42 = .ok (.invokestatic 190, 3) := by decide +kernel
theorem dX12_odds_45 : decode cX12_odds 45 = .ok (.ifCond .ne 5, 3) := by decide +kernel
theorem dX12_odds_48 : decode cX12_odds 48 = .ok (.iconst (-1), 1) := by decide +kernel
theorem dX12_odds_49 : decode cX12_odds 49 = .ok (.ireturn, 1) := by decide +kernel
theorem dX12_odds_50 : decode cX12_odds 50 = .ok (.iconst 0, 1) := by decide +kernel
theorem dX12_odds_51 : decode cX12_odds 51 = .ok (.istore 5, 2) := by decide +kernel
theorem dX12_odds_53 : decode cX12_odds 53 = .ok (.iload 5, 2) := by decide +kernel
theorem dX12_odds_55 : decode cX12_odds 55 = .ok (.bipush 8, 2) := by decide +kernel
theorem dX12_odds_57 : decode cX12_odds 57 = .ok (.if_icmp .gt 26, 3) := by decide +kernel
theorem dX12_odds_60 : decode cX12_odds 60 = .ok (.aload_n 0, 1) := by decide +kernel
theorem dX12_odds_61 : decode cX12_odds 61 = .ok (.getfield 163, 3) := by decide +kernel
theorem dX12_odds_64 : decode cX12_odds 64 = .ok (.iload 5, 2) := by decide +kernel
theorem dX12_odds_66 : decode cX12_odds 66 = .ok (.iload 5, 2) := by decide +kernel
theorem dX12_odds_68 : decode cX12_odds 68 = .ok (.ifCond .ne 7, 3) := by decide +kernel
theorem dX12_odds_71 : decode cX12_odds 71 = .ok (.iconst 1, 1) := by decide +kernel
theorem dX12_odds_72 : decode cX12_odds 72 = .ok (.goto 4, 3) := by decide +kernel
theorem dX12_odds_75 : decode cX12_odds 75 = .ok (.iconst 0, 1) := by decide +kernel
theorem dX12_odds_76 : decode cX12_odds 76 = .ok (.iastore, 1) := by decide +kernel
theorem dX12_odds_77 : decode cX12_odds 77 = .ok (.iinc 5 1, 3) := by decide +kernel
theorem dX12_odds_80 : decode cX12_odds 80 = .ok (.goto (-27), 3) := by decide +kernel
theorem dX12_odds_83 : decode cX12_odds 83 = .ok (.iconst 1, 1) := by decide +kernel
theorem dX12_odds_84 : decode cX12_odds 84 = .ok (.istore 5, 2) := by decide +kernel
theorem dX12_odds_86 : decode cX12_odds 86 = .ok (.iconst 0, 1) := by decide +kernel
theorem dX12_odds_87 : decode cX12_odds 87 = .ok (.istore 6, 2) := by decide +kernel
theorem dX12_odds_89 : decode cX12_odds 89 = .ok (.iload 6, 2) := by decide +kernel
theorem dX12_odds_91 : decode cX12_odds 91 = .ok (.bipush 12, 2) := by decide +kernel
theorem dX12_odds_93 : decode cX12_odds 93 = .ok (.if_icmp .ge 102, 3) := by decide +kernel
theorem dX12_odds_96 : decode cX12_odds 96 = .ok (.iload_n 2, 1) := by decide +kernel
theorem dX12_odds_97 : decode cX12_odds 97 = .ok (.iload 6, 2) := by decide +kernel
theorem dX12_odds_99 : decode cX12_odds 99 = .ok (.invokestatic 204, 3) := by decide +kernel
theorem dX12_odds_102 : decode cX12_odds 102 = .ok (.ifCond .ne 6, 3) := by decide +kernel
theorem dX12_odds_105 : decode cX12_odds 105 = .ok (.goto 84, 3) := by decide +kernel
theorem dX12_odds_108 : decode cX12_odds 108 = .ok (.aload_n 0, 1) := by decide +kernel
theorem dX12_odds_109 : decode cX12_odds 109 = .ok (.getfield 109, 3) := by decide +kernel
theorem dX12_odds_112 : decode cX12_odds 112 = .ok (.bipush 12, 2) := by decide +kernel
theorem dX12_odds_114 : decode cX12_odds 114 = .ok (.iload_n 1, 1) := by decide +kernel
theorem dX12_odds_115 : decode cX12_odds 115 = .ok (.imul, 1) := by decide +kernel
theorem dX12_odds_116 : decode cX12_odds 116 = .ok (.iload 6, 2) := by decide +kernel
theorem dX12_odds_118 : decode cX12_odds 118 = .ok (.iadd, 1) := by decide +kernel
theorem dX12_odds_119 : decode cX12_odds 119 = .ok (.iaload, 1) := by decide +kernel
theorem dX12_odds_120 : decode cX12_odds 120 = .ok (.invokestatic 465, 3) := by decide +kernel
theorem dX12_odds_123 : decode cX12_odds 123 = .ok (.istore 7, 2) := by decide +kernel
theorem dX12_odds_125 : decode cX12_odds 125 = .ok (.bipush 8, 2) := by decide +kernel
theorem dX12_odds_127 : decode cX12_odds 127 = .ok (.istore 8, 2) := by decide +kernel
theorem dX12_odds_129 : decode cX12_odds 129 = .ok (.iload 8, 2) := by decide +kernel
theorem dX12_odds_131 : decode cX12_odds 131 = .ok (.ifCond .lt 51, 3) := by decide +kernel
theorem dX12_odds_134 : decode cX12_odds 134 = .ok (.aload_n 0, 1) := by decide +kernel
theorem dX12_odds_135 : decode cX12_odds 135 = .ok (.getfield 163, 3) := by decide +kernel
theorem dX12_odds_138 : decode cX12_odds 138 = .ok (.iload 8, 2) := by decide +kernel
theorem dX12_odds_140 : decode cX12_odds 140 = .ok (.aload_n 0, 1) := by decide +kernel
theorem dX12_odds_141 : decode cX12_odds 141 = .ok (.getfield 163, 3) := by decide +kernel
theorem dX12_odds_144 : decode cX12_odds 144 = .ok (.iload 8, 2) := by decide +kernel
theorem dX12_odds_146 : decode cX12_odds 146 = .ok (.iaload, 1) := by decide +kernel
theorem dX12_odds_147 : decode cX12_odds 147 = .ok (.bipush 10, 2) := by decide +kernel
theorem dX12_odds_149 : decode cX12_odds 149 = .ok (.iload 7, 2) := by decide +kernel
theorem dX12_odds_151 : decode cX12_odds 151 = .ok (.isub, 1) := by decide +kernel
theorem dX12_odds_152 : decode cX12_odds 152 = .ok (.imul, 1) := by decide +kernel
theorem dX12_odds_153 : decode cX12_odds 153 = .ok (.iload 8, 2) := by decide +kernel
theorem dX12_odds_155 : decode cX12_odds 155 = .ok (.ifCond .ne 7, 3) := by decide +kernel
theorem dX12_odds_158 : decode cX12_odds 158 = .ok (.iconst 0, 1) := by decide +kernel
theorem dX12_odds_159 : decode cX12_odds 159 = .ok (.goto 15, 3) := by decide +kernel
theorem dX12_odds_162 : decode cX12_odds 162 = .ok (.aload_n 0, 1) := by decide +kernel
theorem dX12_odds_163 : decode cX12_odds 163 = .ok (.getfield 163, 3) := by decide +kernel
theorem dX12_odds_166 : decode cX12_odds 166 = .ok (.iload 8, 2) := by decide +kernel
theorem dX12_odds_168 : decode cX12_odds 168 = .ok (.iconst 1, 1) := by decide +kernel
theorem dX12_odds_169 : decode cX12_odds 169 = .ok (.isub, 1) := by decide +kernel
theorem dX12_odds_170 : decode cX12_odds 170 = .ok (.iaload, 1) := by decide +kernel
theorem dX12_odds_171 : decode cX12_odds 171 = .ok (.iload 7, 2) := by decide +kernel
theorem dX12_odds_173 : decode cX12_odds 173 = .ok (.imul, 1) := by decide +kernel
theorem dX12_odds_174 : decode cX12_odds 174 = .ok (.iadd, 1) := by decide +kernel
theorem dX12_odds_175 : decode cX12_odds 175 = .ok (.iastore, 1) := by decide +kernel
theorem dX12_odds_176 : decode cX12_odds 176 = .ok (.iinc 8 (-1), 3) := by decide +kernel
theorem dX12_odds_179 : decode cX12_odds 179 = .ok (.goto (-50), 3) := by decide +kernel
theorem dX12_odds_182 : decode cX12_odds 182 = .ok (.iload 5, 2) := by decide +kernel
theorem dX12_odds_184 : decode cX12_odds 184 = .ok (.bipush 10, 2) := by decide +kernel
theorem dX12_odds_186 : decode cX12_odds 186 = .ok (.imul, 1) := by decide +kernel
theorem dX12_odds_187 : decode cX12_odds 187 = .ok (.istore 5, 2) := by decide +kernel
theorem dX12_odds_189 : decode cX12_odds 189 = .ok (.iinc 6 1, 3) := by decide +kernel
theorem dX12_odds_192 : decode cX12_odds 192 = .ok (.goto (-103), 3) := by decide +kernel
theorem dX12_odds_195 : decode cX12_odds 195 = .ok (.iconst 0, 1) := by decide +kernel
theorem dX12_odds_196 : decode cX12_odds 196 = .ok (.istore 6, 2) := by decide +kernel
theorem dX12_odds_198 : decode cX12_odds 198 = .ok (.iconst 0, 1) := by decide +kernel
theorem dX12_odds_199 : decode cX12_odds 199 = .ok (.istore 7, 2) := by decide +kernel
theorem dX12_odds_201 : decode cX12_odds 201 = .ok (.iload 7, 2) := by decide +kernel
theorem dX12_odds_203 : decode cX12_odds 203 = .ok (.bipush 8, 2) := by decide +kernel
theorem dX12_odds_205 : decode cX12_odds 205 = .ok (.if_icmp .gt 27, 3) := by decide +kernel
theorem dX12_odds_208 : decode cX12_odds 208 = .ok (.iload 7, 2) := by decide +kernel
theorem dX12_odds_210 : decode cX12_odds 210 = .ok (.iload_n 3, 1) := by decide +kernel
theorem dX12_odds_211 : decode cX12_odds 211 = .ok (.if_icmp .gt 21, 3) := by decide +kernel
theorem dX12_odds_214 : decode cX12_odds 214 = .ok (.iload 6, 2) := by decide +kernel
theorem dX12_odds_216 : decode cX12_odds 216 = .ok (.aload_n 0, 1) := by decide +kernel
theorem dX12_odds_217 : decode cX12_odds 217 = .ok (.getfield 163, 3) := by decide +kernel
theorem dX12_odds_220 : decode cX12_odds 220 = .ok (.iload 7, 2) := by decide +kernel
theorem dX12_odds_222 : decode cX12_odds 222 = .ok (.iaload, 1) := by decide +kernel
theorem dX12_odds_223 : decode cX12_odds 223 = .ok (.iadd, 1) := by decide +kernel
theorem dX12_odds_224 : decode cX12_odds 224 = .ok (.istore 6, 2) := by decide +kernel
theorem dX12_odds_226 : decode cX12_odds 226 = .ok (.iinc 7 1, 3) := by decide +kernel
theorem dX12_odds_229 : decode cX12_odds 229 = .ok (.goto (-28), 3) := by decide +kernel
theorem dX12_odds_232 : decode cX12_odds 232 = .ok (.iload 6, 2) := by decide +kernel
theorem dX12_odds_234 : decode cX12_odds 234 = .ok (.iload 5, 2) := by decide +kernel
theorem dX12_odds_236 : decode cX12_odds 236 = .ok (.invokestatic 595, 3) := by decide +kernel
theorem dX12_odds_239 : decode cX12_odds 239 = .ok (.istore 7, 2) := by decide +kernel
theorem dX12_odds_241 : decode cX12_odds 241 = .ok (.iload 4, 2) := by decide +kernel
theorem dX12_odds_243 : decode cX12_odds 243 = .ok (.ifCond .ne 11, 3) := by decide +kernel
theorem dX12_odds_246 : decode cX12_odds 246 = .ok (.iload 6, 2) := by decide +kernel
theorem dX12_odds_248 : decode cX12_odds 248 = .ok (.iload 7, 2) := by decide +kernel
theorem dX12_odds_250 : decode cX12_odds 250 = .ok (.idiv, 1) := by decide +kernel
theorem dX12_odds_251 : decode cX12_odds 251 = .ok (.goto 8, 3) := by decide +kernel
theorem dX12_odds_254 : decode cX12_odds 254 = .ok (.iload 5, 2) := by decide +kernel
theorem dX12_odds_256 : decode cX12_odds 256 = .ok (.iload 7, 2) := by decide +kernel
theorem dX12_odds_258 : decode cX12_odds 258 = .ok (.idiv, 1) := by decide +kernel
theorem dX12_odds_259 : decode cX12_odds 259 = .ok (.ireturn, 1) := by decide +kernel
theorem myX12_dividing : MS yX12_dividing cX12_dividing 5 (some FieldType.int) 2 := ⟨kAW (v_7_4 (List.mem_of_getElem? (i := 9) rfl)) rfl, kAW (v_0_0 (List.mem_of_getElem? (i := 13) rfl)) rfl, kAW (v_7_4 (List.mem_of_getElem? (i := 8) rfl)) rfl, by decide, by decide, by decide +kernel⟩
theorem FG_X12_163 : FG RX12 163 12 86 85 := ⟨RX12, TX12, rfl, wX12, by decide, kAW (v_4_8 (List.mem_of_getElem? (i := 2) rfl)) rfl, rfl⟩
set_option maxRecDepth 100000 in
set_option maxHeartbeats 4000000 in
theorem p_X12_odds (l : Launch) (D : va_G) (cA : Nat → ClassId) (ad : Nat → Nat) (g0 : Nat → va_E) (a : Int32) (b : Int32) (c : Int32) (d : Int32)   (hSh : Shp ad cA g0) (hG : Rng g0) : CT l NN ad cA D yX12_odds cX12_odds 9 (some FieldType.int) (2, 46) [.ref (ad 129), .int a, .int b, .int c, .int d] g0 (fun v g' => ∃ (r : Int32), v = some (.int r) ∧ Shp ad cA g' ∧ Rng g' ∧ FR (fun i k => i = 179) g0 g') := by
  refine q_enterI (by decide) (Nat.le_of_ble_eq_true rfl) rfl (fun K H locs ls _ _ hM hW0 hR hC hE hl => ?_)
  have hl : lv_has ls 9 [(0, .ref (ad 129)), (1, .int a), (2, .int b), (3, .int c), (4, .int d)] := hl
  have hW : WS ad cA (fun i k => i = 179) g0 K g0 H locs := ⟨hW0, hSh, FR.rf⟩
  have := kc_0
  have := kc_1
  have := kc_m1
  have := kc_m2
  refine q_aload_n hM dX12_odds_0 (lv_at hl 0 rfl) ?_
  refine q_iload_n hM dX12_odds_1 (lv_at hl 1 rfl) ?_
  refine q_callV (As := [.int a]) (rest := []) hM hW.1 hR hC myX12_isThat (kAW (v_6_2 (List.mem_of_getElem? (i := 9) rfl)) rfl) (rfl : vwCl[12]? = some (RX12, TX12, 86)) rfl lb_129.1 (shO hW.2.1 lb_129) (a_X12_isThat _ _ cA ad g0 a hW.2.1 hG) ⟨by decide, by decide⟩ rfl rfl hl.1 (Nat.le_of_ble_eq_true rfl) dX12_odds_2 (fun v g7780 H locs hp hW1 => ?_)
  obtain ⟨r7779, rfl, hr7779, rfl⟩ := hp
  have hW : WS ad cA (fun i k => i = 179) g0 K g0 H locs := ⟨hW1, hW.2.1, hW.2.2⟩
  refine q_if_eq (tgt := 48) hM dX12_odds_5 (by decide) (rfl : r7779.toInt = r7779.toInt) (fun h5 => ?_) (fun h5 => ?_)
  · refine q_iconst (v := ((-1) : Int32)) hM dX12_odds_48 (by decide) ?_
    exact hE _ _ _ _ _ _ hW.1 ⟨_, rfl, hW.2.1, hG, hW.2.2⟩ dX12_odds_49
  · refine q_aload_n hM dX12_odds_8 (lv_at hl 0 rfl) ?_
    refine q_iload_n hM dX12_odds_9 (lv_at hl 2 rfl) ?_
    refine q_callV (As := [.int b]) (rest := []) hM hW.1 hR hC myX12_areFacts (kAW (v_6_12 (List.mem_of_getElem? (i := 15) rfl)) rfl) (rfl : vwCl[12]? = some (RX12, TX12, 86)) rfl lb_129.1 (shO hW.2.1 lb_129) (a_X12_areFacts _ _ cA ad g0 b hW.2.1 hG) ⟨by decide, by decide⟩ rfl rfl hl.1 (Nat.le_of_ble_eq_true rfl) dX12_odds_10 (fun v g7784 H locs hp hW1 => ?_)
    obtain ⟨r7783, rfl, hr7783, rfl⟩ := hp
    have hW : WS ad cA (fun i k => i = 179) g0 K g0 H locs := ⟨hW1, hW.2.1, hW.2.2⟩
    refine q_if_eq (tgt := 48) hM dX12_odds_13 (by decide) (rfl : r7783.toInt = r7783.toInt) (fun h13 => ?_) (fun h13 => ?_)
    · refine q_iconst (v := ((-1) : Int32)) hM dX12_odds_48 (by decide) ?_
      exact hE _ _ _ _ _ _ hW.1 ⟨_, rfl, hW.2.1, hG, hW.2.2⟩ dX12_odds_49
    · refine q_iload_n hM dX12_odds_16 (lv_at hl 2 rfl) ?_
      refine q_callS (As := [.int b]) (rest := []) hM hW.1 hR hC myX12_sizeOf (kAW (v_5_6 (List.mem_of_getElem? (i := 14) rfl)) rfl) (a_X12_sizeOf _ _ cA ad g0 b hW.2.1 hG (by  omega)) ⟨by decide, by decide⟩ rfl rfl hl.1 (Nat.le_of_ble_eq_true rfl) dX12_odds_17 (fun v g7788 H locs hp hW1 => ?_)
      obtain ⟨r7787, rfl, hr7787, rfl⟩ := hp
      have hW : WS ad cA (fun i k => i = 179) g0 K g0 H locs := ⟨hW1, hW.2.1, hW.2.2⟩
      refine q_bipush (v := (8 : Int32)) hM dX12_odds_20 (by decide) ?_
      refine q_icmp_gt (tgt := 48) hM dX12_odds_22 (by decide) (rfl : r7787.toInt = r7787.toInt) (kc_8 : (8 : Int32).toInt = 8) (fun h22 => ?_) (fun h22 => ?_)
      · refine q_iconst (v := ((-1) : Int32)) hM dX12_odds_48 (by decide) ?_
        exact hE _ _ _ _ _ _ hW.1 ⟨_, rfl, hW.2.1, hG, hW.2.2⟩ dX12_odds_49
      · refine q_iload_n hM dX12_odds_25 (lv_at hl 3 rfl) ?_
        refine q_i2l hM dX12_odds_26 ?_
        have := l_i2l c
        refine q_lconst (v := 0) hM dX12_odds_27 (by decide) ?_
        have := kl_0
        refine q_ldc2 (v := 12) hM (kAW (v_6_3 (List.mem_of_getElem? (i := 2) rfl)) rfl) dX12_odds_28 ?_
        have := kl_12
        refine q_callS (As := [.long c.toInt64, .long (0 : Int64), .long (12 : Int64)]) (rest := []) hM hW.1 hR hC myX12_lies (kAW (v_5_4 (List.mem_of_getElem? (i := 14) rfl)) rfl) (c_X12_lies _ _ cA ad g0 c.toInt64 (0 : Int64) (12 : Int64) hW.2.1) ⟨by decide, by decide⟩ rfl rfl hl.1 (Nat.le_of_ble_eq_true rfl) dX12_odds_31 (fun v g7792 H locs hp hW1 => ?_)
        obtain ⟨r7791, rfl, hr7791, rfl⟩ := hp
        have hW : WS ad cA (fun i k => i = 179) g0 K g0 H locs := ⟨hW1, hW.2.1, hW.2.2⟩
        refine q_if_eq (tgt := 48) hM dX12_odds_34 (by decide) (rfl : r7791.toInt = r7791.toInt) (fun h34 => ?_) (fun h34 => ?_)
        · refine q_iconst (v := ((-1) : Int32)) hM dX12_odds_48 (by decide) ?_
          exact hE _ _ _ _ _ _ hW.1 ⟨_, rfl, hW.2.1, hG, hW.2.2⟩ dX12_odds_49
        · refine q_iload hM dX12_odds_37 (lv_at hl 4 rfl) ?_
          refine q_i2l hM dX12_odds_39 ?_
          have := l_i2l d
          refine q_lconst (v := 0) hM dX12_odds_40 (by decide) ?_
          have := kl_0
          refine q_lconst (v := 1) hM dX12_odds_41 (by decide) ?_
          have := kl_1
          refine q_callS (As := [.long d.toInt64, .long (0 : Int64), .long (1 : Int64)]) (rest := []) hM hW.1 hR hC myX12_lies (kAW (v_5_4 (List.mem_of_getElem? (i := 14) rfl)) rfl) (c_X12_lies _ _ cA ad g0 d.toInt64 (0 : Int64) (1 : Int64) hW.2.1) ⟨by decide, by decide⟩ rfl rfl hl.1 (Nat.le_of_ble_eq_true rfl) dX12_odds_42 (fun v g7796 H locs hp hW1 => ?_)
          obtain ⟨r7795, rfl, hr7795, rfl⟩ := hp
          have hW : WS ad cA (fun i k => i = 179) g0 K g0 H locs := ⟨hW1, hW.2.1, hW.2.2⟩
          refine q_if_ne (tgt := 50) hM dX12_odds_45 (by decide) (rfl : r7795.toInt = r7795.toInt) (fun h45 => ?_) (fun h45 => ?_)
          · refine q_iconst (v := (0 : Int32)) hM dX12_odds_50 (by decide) ?_
            refine q_istore (lv9 := [(5, .int (0 : Int32)), (0, .ref (ad 129)), (1, .int a), (2, .int b), (3, .int c), (4, .int d)]) hM dX12_odds_51 hl (by decide) rfl (fun ls hl => ?_)
            have L53 : ∀ (fu53 : Nat) (w53_5 : Int32) (g9 : Nat → va_E) (H : Heap) (locs : List Loc) (ls : Array Slot), (9 - w53_5.toInt).toNat < fu53 → (Rng g9) → (0 ≤ w53_5.toInt) → (w53_5.toInt ≤ 9) → lv_has ls 9 [(0, .ref (ad 129)), (1, .int a), (2, .int b), (3, .int c), (4, .int d), (5, .int w53_5)] → WS ad cA (fun i k => i = 179) g0 K g9 H locs → XX K 0 0 H locs 53 ls [] := by
              intro fu53
              induction fu53 with
              | zero => intro w53_5 g9 H locs ls h0; omega
              | succ fu53 ih53 =>
                intro w53_5 g9 H locs ls hm53 i53_0 i53_1 i53_2 hl hW
                have hG := i53_0
                refine q_iload hM dX12_odds_53 (lv_at hl 5 rfl) ?_
                refine q_bipush (v := (8 : Int32)) hM dX12_odds_55 (by decide) ?_
                refine q_icmp_gt (tgt := 83) hM dX12_odds_57 (by decide) (rfl : w53_5.toInt = w53_5.toInt) (kc_8 : (8 : Int32).toInt = 8) (fun h57 => ?_) (fun h57 => ?_)
                · refine q_iconst (v := (1 : Int32)) hM dX12_odds_83 (by decide) ?_
                  refine q_istore (lv9 := [(5, .int (1 : Int32)), (0, .ref (ad 129)), (1, .int a), (2, .int b), (3, .int c), (4, .int d)]) hM dX12_odds_84 hl (by decide) rfl (fun ls hl => ?_)
                  refine q_iconst (v := (0 : Int32)) hM dX12_odds_86 (by decide) ?_
                  refine q_istore (lv9 := [(6, .int (0 : Int32)), (5, .int (1 : Int32)), (0, .ref (ad 129)), (1, .int a), (2, .int b), (3, .int c), (4, .int d)]) hM dX12_odds_87 hl (by decide) rfl (fun ls hl => ?_)
                  have L89 : ∀ (fu89 : Nat) (w89_5 : Int32) (w89_6 : Int32) (g9 : Nat → va_E) (H : Heap) (locs : List Loc) (ls : Array Slot), (12 - w89_6.toInt).toNat < fu89 → (Rng g9) → (0 ≤ w89_6.toInt) → (w89_6.toInt ≤ 12) → (∃ j : Nat, (j : Int) ≤ w89_6.toInt ∧ w89_5 = pw j) → lv_has ls 9 [(0, .ref (ad 129)), (1, .int a), (2, .int b), (3, .int c), (4, .int d), (5, .int w89_5), (6, .int w89_6)] → WS ad cA (fun i k => i = 179) g0 K g9 H locs → XX K 0 0 H locs 89 ls [] := by
                    intro fu89
                    induction fu89 with
                    | zero => intro w89_5 w89_6 g9 H locs ls h0; omega
                    | succ fu89 ih89 =>
                      intro w89_5 w89_6 g9 H locs ls hm89 i89_0 i89_1 i89_2 i89_3 hl hW
                      have hG := i89_0
                      refine q_iload hM dX12_odds_89 (lv_at hl 6 rfl) ?_
                      refine q_bipush (v := (12 : Int32)) hM dX12_odds_91 (by decide) ?_
                      refine q_icmp_ge (tgt := 195) hM dX12_odds_93 (by decide) (rfl : w89_6.toInt = w89_6.toInt) (kc_12 : (12 : Int32).toInt = 12) (fun h93 => ?_) (fun h93 => ?_)
                      · have b9 : w89_5.toInt ≠ 0 := by obtain ⟨j9, ja, jb⟩ := i89_3; rw [jb]; exact pw_ne j9 (by omega)
                        refine q_iconst (v := (0 : Int32)) hM dX12_odds_195 (by decide) ?_
                        refine q_istore (lv9 := [(6, .int (0 : Int32)), (0, .ref (ad 129)), (1, .int a), (2, .int b), (3, .int c), (4, .int d), (5, .int w89_5)]) hM dX12_odds_196 hl (by decide) rfl (fun ls hl => ?_)
                        refine q_iconst (v := (0 : Int32)) hM dX12_odds_198 (by decide) ?_
                        refine q_istore (lv9 := [(7, .int (0 : Int32)), (6, .int (0 : Int32)), (0, .ref (ad 129)), (1, .int a), (2, .int b), (3, .int c), (4, .int d), (5, .int w89_5)]) hM dX12_odds_199 hl (by decide) rfl (fun ls hl => ?_)
                        have L201 : ∀ (fu201 : Nat) (w201_6 : Int32) (w201_7 : Int32) (H : Heap) (locs : List Loc) (ls : Array Slot), (9 - w201_7.toInt).toNat < fu201 → (Rng g9) → (0 ≤ w201_7.toInt) → (w201_7.toInt ≤ 9) → lv_has ls 9 [(0, .ref (ad 129)), (1, .int a), (2, .int b), (3, .int c), (4, .int d), (5, .int w89_5), (6, .int w201_6), (7, .int w201_7)] → WS ad cA (fun i k => i = 179) g0 K g9 H locs → XX K 0 0 H locs 201 ls [] := by
                          intro fu201
                          induction fu201 with
                          | zero => intro w201_6 w201_7 H locs ls h0; omega
                          | succ fu201 ih201 =>
                            intro w201_6 w201_7 H locs ls hm201 i201_0 i201_1 i201_2 hl hW
                            have hG := i201_0
                            refine q_iload hM dX12_odds_201 (lv_at hl 7 rfl) ?_
                            refine q_bipush (v := (8 : Int32)) hM dX12_odds_203 (by decide) ?_
                            refine q_icmp_gt (tgt := 232) hM dX12_odds_205 (by decide) (rfl : w201_7.toInt = w201_7.toInt) (kc_8 : (8 : Int32).toInt = 8) (fun h205 => ?_) (fun h205 => ?_)
                            · refine q_iload hM dX12_odds_232 (lv_at hl 6 rfl) ?_
                              refine q_iload hM dX12_odds_234 (lv_at hl 5 rfl) ?_
                              refine q_callS (As := [.int w201_6, .int w89_5]) (rest := []) hM hW.1 hR hC myX12_dividing (kAW (v_7_4 (List.mem_of_getElem? (i := 7) rfl)) rfl) (a_X12_dividing _ _ cA ad g9 w201_6 w89_5 hW.2.1 hG (by  omega)) ⟨by decide, by decide⟩ rfl rfl hl.1 (Nat.le_of_ble_eq_true rfl) dX12_odds_236 (fun v g7805 H locs hp hW1 => ?_)
                              obtain ⟨r7804, rfl, hr7804, rfl⟩ := hp
                              have hW : WS ad cA (fun i k => i = 179) g0 K g9 H locs := ⟨hW1, hW.2.1, hW.2.2⟩
                              refine q_istore (lv9 := [(7, .int r7804), (0, .ref (ad 129)), (1, .int a), (2, .int b), (3, .int c), (4, .int d), (5, .int w89_5), (6, .int w201_6)]) hM dX12_odds_239 hl (by decide) rfl (fun ls hl => ?_)
                              refine q_iload hM dX12_odds_241 (lv_at hl 5 rfl) ?_
                              refine q_if_ne (tgt := 254) hM dX12_odds_243 (by decide) (rfl : d.toInt = d.toInt) (fun h243 => ?_) (fun h243 => ?_)
                              · refine q_iload hM dX12_odds_254 (lv_at hl 6 rfl) ?_
                                refine q_iload hM dX12_odds_256 (lv_at hl 0 rfl) ?_
                                refine q_idiv hM (by intro e9; have e8 := congrArg Int32.toInt e9; have := kc_0; have e7 := kc_0; omega) dX12_odds_258 (fun z7807 hz7807 => ?_)
                                first | have tz7807 := i_divT hz7807 (rfl : w89_5.toInt = w89_5.toInt) (rfl : r7804.toInt = r7804.toInt) (by omega) (by omega) | skip
                                exact hE _ _ _ _ _ _ hW.1 ⟨_, rfl, hW.2.1, hG, hW.2.2⟩ dX12_odds_259
                              · refine q_iload hM dX12_odds_246 (lv_at hl 7 rfl) ?_
                                refine q_iload hM dX12_odds_248 (lv_at hl 0 rfl) ?_
                                refine q_idiv hM (by intro e9; have e8 := congrArg Int32.toInt e9; have := kc_0; have e7 := kc_0; omega) dX12_odds_250 (fun z7809 hz7809 => ?_)
                                first | have tz7809 := i_divT hz7809 (rfl : w201_6.toInt = w201_6.toInt) (rfl : r7804.toInt = r7804.toInt) (by omega) (by omega) | skip
                                refine q_goto (tgt := 259) hM dX12_odds_251 (by decide) ?_
                                exact hE _ _ _ _ _ _ hW.1 ⟨_, rfl, hW.2.1, hG, hW.2.2⟩ dX12_odds_259
                            · refine q_iload hM dX12_odds_208 (lv_at hl 7 rfl) ?_
                              refine q_iload_n hM dX12_odds_210 (lv_at hl 3 rfl) ?_
                              refine q_icmp_gt (tgt := 232) hM dX12_odds_211 (by decide) (rfl : w201_7.toInt = w201_7.toInt) (rfl : c.toInt = c.toInt) (fun h211 => ?_) (fun h211 => ?_)
                              · refine q_iload hM dX12_odds_232 (lv_at hl 6 rfl) ?_
                                refine q_iload hM dX12_odds_234 (lv_at hl 5 rfl) ?_
                                refine q_callS (As := [.int w201_6, .int w89_5]) (rest := []) hM hW.1 hR hC myX12_dividing (kAW (v_7_4 (List.mem_of_getElem? (i := 7) rfl)) rfl) (a_X12_dividing _ _ cA ad g9 w201_6 w89_5 hW.2.1 hG (by  omega)) ⟨by decide, by decide⟩ rfl rfl hl.1 (Nat.le_of_ble_eq_true rfl) dX12_odds_236 (fun v g7813 H locs hp hW1 => ?_)
                                obtain ⟨r7812, rfl, hr7812, rfl⟩ := hp
                                have hW : WS ad cA (fun i k => i = 179) g0 K g9 H locs := ⟨hW1, hW.2.1, hW.2.2⟩
                                refine q_istore (lv9 := [(7, .int r7812), (0, .ref (ad 129)), (1, .int a), (2, .int b), (3, .int c), (4, .int d), (5, .int w89_5), (6, .int w201_6)]) hM dX12_odds_239 hl (by decide) rfl (fun ls hl => ?_)
                                refine q_iload hM dX12_odds_241 (lv_at hl 5 rfl) ?_
                                refine q_if_ne (tgt := 254) hM dX12_odds_243 (by decide) (rfl : d.toInt = d.toInt) (fun h243 => ?_) (fun h243 => ?_)
                                · refine q_iload hM dX12_odds_254 (lv_at hl 6 rfl) ?_
                                  refine q_iload hM dX12_odds_256 (lv_at hl 0 rfl) ?_
                                  refine q_idiv hM (by intro e9; have e8 := congrArg Int32.toInt e9; have := kc_0; have e7 := kc_0; omega) dX12_odds_258 (fun z7815 hz7815 => ?_)
                                  first | have tz7815 := i_divT hz7815 (rfl : w89_5.toInt = w89_5.toInt) (rfl : r7812.toInt = r7812.toInt) (by omega) (by omega) | skip
                                  exact hE _ _ _ _ _ _ hW.1 ⟨_, rfl, hW.2.1, hG, hW.2.2⟩ dX12_odds_259
                                · refine q_iload hM dX12_odds_246 (lv_at hl 7 rfl) ?_
                                  refine q_iload hM dX12_odds_248 (lv_at hl 0 rfl) ?_
                                  refine q_idiv hM (by intro e9; have e8 := congrArg Int32.toInt e9; have := kc_0; have e7 := kc_0; omega) dX12_odds_250 (fun z7817 hz7817 => ?_)
                                  first | have tz7817 := i_divT hz7817 (rfl : w201_6.toInt = w201_6.toInt) (rfl : r7812.toInt = r7812.toInt) (by omega) (by omega) | skip
                                  refine q_goto (tgt := 259) hM dX12_odds_251 (by decide) ?_
                                  exact hE _ _ _ _ _ _ hW.1 ⟨_, rfl, hW.2.1, hG, hW.2.2⟩ dX12_odds_259
                              · refine q_iload hM dX12_odds_214 (lv_at hl 6 rfl) ?_
                                refine q_aload_n hM dX12_odds_216 (lv_at hl 0 rfl) ?_
                                refine w_get (v := .ref (ad 179)) hM hW FG_X12_163 lb_129 (rf_129_85 hW.2.1) dX12_odds_217 ?_
                                refine q_iload hM dX12_odds_220 (lv_at hl 7 rfl) ?_
                                refine w_iald hM hW lb_179 (i_in (by omega) (by omega)) dX12_odds_222 ?_
                                refine q_top (fun y7819 hy7819 => ?_)
                                refine q_iadd hM dX12_odds_223 (fun z7820 hz7820 => ?_)
                                first | have tz7820 := i_addT hz7820 (rfl : w201_6.toInt = w201_6.toInt) (rfl : y7819.toInt = y7819.toInt) (by omega) (by omega) | skip
                                refine q_istore (lv9 := [(6, .int z7820), (0, .ref (ad 129)), (1, .int a), (2, .int b), (3, .int c), (4, .int d), (5, .int w89_5), (7, .int w201_7)]) hM dX12_odds_224 hl (by decide) rfl (fun ls hl => ?_)
                                refine q_iinc (lv9 := fun z7821 => [(7, .int z7821), (6, .int z7820), (0, .ref (ad 129)), (1, .int a), (2, .int b), (3, .int c), (4, .int d), (5, .int w89_5)]) hM dX12_odds_226 hl (kq := 7) rfl (by decide) (fun _ => rfl) (fun z7821 ls hz7821 hl => ?_)
                                first | have tz7821 := i_addT hz7821 (rfl : w201_7.toInt = w201_7.toInt) (kc_1 : (Int32.ofInt 1).toInt = 1) (by omega) (by omega) | skip
                                refine q_goto (tgt := 201) hM dX12_odds_229 (by decide) ?_
                                exact ih201 z7820 z7821 _ _ _ (by omega) hG (by omega) (by omega) (lv_sub hl [2, 3, 4, 5, 6, 7, 1, 0] rfl) hW
                        have := kc_0
                        have := kc_0
                        exact L201 _ (0 : Int32) (0 : Int32) _ _ _ (Nat.lt_succ_self _) hG (by omega) (by omega) (lv_sub hl [2, 3, 4, 5, 6, 7, 1, 0] rfl) hW
                      · refine q_iload_n hM dX12_odds_96 (lv_at hl 2 rfl) ?_
                        refine q_iload hM dX12_odds_97 (lv_at hl 6 rfl) ?_
                        refine q_callS (As := [.int b, .int w89_6]) (rest := []) hM hW.1 hR hC myX12_has (kAW (v_5_6 (List.mem_of_getElem? (i := 7) rfl)) rfl) (c_X12_has _ _ cA ad g9 b w89_6 hW.2.1 (by omega) (by omega)) ⟨by decide, by decide⟩ rfl rfl hl.1 (Nat.le_of_ble_eq_true rfl) dX12_odds_99 (fun v g7824 H locs hp hW1 => ?_)
                        obtain ⟨r7823, rfl, hr7823, rfl⟩ := hp
                        have hW : WS ad cA (fun i k => i = 179) g0 K g9 H locs := ⟨hW1, hW.2.1, hW.2.2⟩
                        refine q_if_ne (tgt := 108) hM dX12_odds_102 (by decide) (rfl : r7823.toInt = r7823.toInt) (fun h102 => ?_) (fun h102 => ?_)
                        · refine q_aload_n hM dX12_odds_108 (lv_at hl 0 rfl) ?_
                          refine w_get (v := .ref (ad 161)) hM hW FG_X12_109 lb_129 (rf_129_55 hW.2.1) dX12_odds_109 ?_
                          refine q_bipush (v := (12 : Int32)) hM dX12_odds_112 (by decide) ?_
                          refine q_iload_n hM dX12_odds_114 (lv_at hl 1 rfl) ?_
                          refine q_imul hM dX12_odds_115 (fun z7826 hz7826 => ?_)
                          first | have tz7826 := i_mulT hz7826 (kc_12 : (12 : Int32).toInt = 12) (rfl : a.toInt = a.toInt) (by omega) (by omega) | skip
                          refine q_iload hM dX12_odds_116 (lv_at hl 6 rfl) ?_
                          refine q_iadd hM dX12_odds_118 (fun z7827 hz7827 => ?_)
                          first | have tz7827 := i_addT hz7827 (rfl : z7826.toInt = z7826.toInt) (rfl : w89_6.toInt = w89_6.toInt) (by omega) (by omega) | skip
                          refine w_iald hM hW lb_161 (i_in (by omega) (by omega)) dX12_odds_119 ?_
                          refine q_top (fun y7828 hy7828 => ?_)
                          refine q_callS (As := [.int y7828]) (rest := []) hM hW.1 hR hC myX12_tenthsOf (kAW (v_6_9 (List.mem_of_getElem? (i := 6) rfl)) rfl) (a_X12_tenthsOf _ _ cA ad g9 y7828 hW.2.1 hG) ⟨by decide, by decide⟩ rfl rfl hl.1 (Nat.le_of_ble_eq_true rfl) dX12_odds_120 (fun v g7830 H locs hp hW1 => ?_)
                          obtain ⟨r7829, rfl, hr7829, rfl⟩ := hp
                          have hW : WS ad cA (fun i k => i = 179) g0 K g9 H locs := ⟨hW1, hW.2.1, hW.2.2⟩
                          refine q_istore (lv9 := [(7, .int r7829), (0, .ref (ad 129)), (1, .int a), (2, .int b), (3, .int c), (4, .int d), (5, .int w89_5), (6, .int w89_6)]) hM dX12_odds_123 hl (by decide) rfl (fun ls hl => ?_)
                          refine q_bipush (v := (8 : Int32)) hM dX12_odds_125 (by decide) ?_
                          refine q_istore (lv9 := [(8, .int (8 : Int32)), (7, .int r7829), (0, .ref (ad 129)), (1, .int a), (2, .int b), (3, .int c), (4, .int d), (5, .int w89_5), (6, .int w89_6)]) hM dX12_odds_127 hl (by decide) rfl (fun ls hl => ?_)
                          have L129 : ∀ (fu129 : Nat) (w129_8 : Int32) (g9 : Nat → va_E) (H : Heap) (locs : List Loc) (ls : Array Slot), (w129_8.toInt + 1).toNat < fu129 → (Rng g9) → (-1 ≤ w129_8.toInt) → (w129_8.toInt ≤ 8) → lv_has ls 9 [(0, .ref (ad 129)), (1, .int a), (2, .int b), (3, .int c), (4, .int d), (5, .int w89_5), (6, .int w89_6), (7, .int r7829), (8, .int w129_8)] → WS ad cA (fun i k => i = 179) g0 K g9 H locs → XX K 0 0 H locs 129 ls [] := by
                            intro fu129
                            induction fu129 with
                            | zero => intro w129_8 g9 H locs ls h0; omega
                            | succ fu129 ih129 =>
                              intro w129_8 g9 H locs ls hm129 i129_0 i129_1 i129_2 hl hW
                              have hG := i129_0
                              refine q_iload hM dX12_odds_129 (lv_at hl 8 rfl) ?_
                              refine q_if_lt (tgt := 182) hM dX12_odds_131 (by decide) (rfl : w129_8.toInt = w129_8.toInt) (fun h131 => ?_) (fun h131 => ?_)
                              · refine q_iload hM dX12_odds_182 (lv_at hl 5 rfl) ?_
                                refine q_bipush (v := (10 : Int32)) hM dX12_odds_184 (by decide) ?_
                                refine q_imul hM dX12_odds_186 (fun z7833 hz7833 => ?_)
                                first | have tz7833 := i_mulT hz7833 (rfl : w89_5.toInt = w89_5.toInt) (kc_10 : (10 : Int32).toInt = 10) (by omega) (by omega) | skip
                                refine q_istore (lv9 := [(5, .int z7833), (0, .ref (ad 129)), (1, .int a), (2, .int b), (3, .int c), (4, .int d), (6, .int w89_6), (7, .int r7829), (8, .int w129_8)]) hM dX12_odds_187 hl (by decide) rfl (fun ls hl => ?_)
                                refine q_iinc (lv9 := fun z7834 => [(6, .int z7834), (5, .int z7833), (0, .ref (ad 129)), (1, .int a), (2, .int b), (3, .int c), (4, .int d), (7, .int r7829), (8, .int w129_8)]) hM dX12_odds_189 hl (kq := 6) rfl (by decide) (fun _ => rfl) (fun z7834 ls hz7834 hl => ?_)
                                first | have tz7834 := i_addT hz7834 (rfl : w89_6.toInt = w89_6.toInt) (kc_1 : (Int32.ofInt 1).toInt = 1) (by omega) (by omega) | skip
                                refine q_goto (tgt := 89) hM dX12_odds_192 (by decide) ?_
                                exact ih89 z7833 z7834 _ _ _ _ (by omega) hG (by omega) (by omega) (by obtain ⟨j9, ja, jb⟩ := i89_3; exact ⟨j9 + 1, by omega, by rw [← hz7833, jb]; rfl⟩) (lv_sub hl [2, 3, 4, 5, 6, 1, 0] rfl) hW
                              · refine q_aload_n hM dX12_odds_134 (lv_at hl 0 rfl) ?_
                                refine w_get (v := .ref (ad 179)) hM hW FG_X12_163 lb_129 (rf_129_85 hW.2.1) dX12_odds_135 ?_
                                refine q_iload hM dX12_odds_138 (lv_at hl 8 rfl) ?_
                                refine q_aload_n hM dX12_odds_140 (lv_at hl 0 rfl) ?_
                                refine w_get (v := .ref (ad 179)) hM hW FG_X12_163 lb_129 (rf_129_85 hW.2.1) dX12_odds_141 ?_
                                refine q_iload hM dX12_odds_144 (lv_at hl 8 rfl) ?_
                                refine w_iald hM hW lb_179 (i_in (by omega) (by omega)) dX12_odds_146 ?_
                                refine q_top (fun y7836 hy7836 => ?_)
                                refine q_bipush (v := (10 : Int32)) hM dX12_odds_147 (by decide) ?_
                                refine q_iload hM dX12_odds_149 (lv_at hl 7 rfl) ?_
                                refine q_isub hM dX12_odds_151 (fun z7837 hz7837 => ?_)
                                first | have tz7837 := i_subT hz7837 (kc_10 : (10 : Int32).toInt = 10) (rfl : r7829.toInt = r7829.toInt) (by omega) (by omega) | skip
                                refine q_imul hM dX12_odds_152 (fun z7838 hz7838 => ?_)
                                first | have tz7838 := i_mulT hz7838 (rfl : y7836.toInt = y7836.toInt) (rfl : z7837.toInt = z7837.toInt) (by omega) (by omega) | skip
                                refine q_iload hM dX12_odds_153 (lv_at hl 8 rfl) ?_
                                refine q_if_ne (tgt := 162) hM dX12_odds_155 (by decide) (rfl : w129_8.toInt = w129_8.toInt) (fun h155 => ?_) (fun h155 => ?_)
                                · refine q_aload_n hM dX12_odds_162 (lv_at hl 0 rfl) ?_
                                  refine w_get (v := .ref (ad 179)) hM hW FG_X12_163 lb_129 (rf_129_85 hW.2.1) dX12_odds_163 ?_
                                  refine q_iload hM dX12_odds_166 (lv_at hl 8 rfl) ?_
                                  refine q_iconst (v := (1 : Int32)) hM dX12_odds_168 (by decide) ?_
                                  refine q_isub hM dX12_odds_169 (fun z7840 hz7840 => ?_)
                                  first | have tz7840 := i_subT hz7840 (rfl : w129_8.toInt = w129_8.toInt) (kc_1 : (1 : Int32).toInt = 1) (by omega) (by omega) | skip
                                  refine w_iald hM hW lb_179 (i_in (by omega) (by omega)) dX12_odds_170 ?_
                                  refine q_top (fun y7841 hy7841 => ?_)
                                  refine q_iload hM dX12_odds_171 (lv_at hl 7 rfl) ?_
                                  refine q_imul hM dX12_odds_173 (fun z7842 hz7842 => ?_)
                                  first | have tz7842 := i_mulT hz7842 (rfl : y7841.toInt = y7841.toInt) (rfl : r7829.toInt = r7829.toInt) (by omega) (by omega) | skip
                                  refine q_iadd hM dX12_odds_174 (fun z7843 hz7843 => ?_)
                                  first | have tz7843 := i_addT hz7843 (rfl : z7838.toInt = z7838.toInt) (rfl : z7842.toInt = z7842.toInt) (by omega) (by omega) | skip
                                  refine w_iast hM hW lb_179 (by omega) (i_in (by omega) (by omega)) dX12_odds_175 (fun g7844 H locs hW e1 e2 => ?_)
                                  have hG := hG.st e1 e2 (rfl : rA 179 = (-2147483648, 2147483647)) (by have := i_rng z7843; omega) (by have := i_rng z7843; omega)
                                  refine q_iinc (lv9 := fun z7845 => [(8, .int z7845), (0, .ref (ad 129)), (1, .int a), (2, .int b), (3, .int c), (4, .int d), (5, .int w89_5), (6, .int w89_6), (7, .int r7829)]) hM dX12_odds_176 hl (kq := 8) rfl (by decide) (fun _ => rfl) (fun z7845 ls hz7845 hl => ?_)
                                  first | have tz7845 := i_addT hz7845 (rfl : w129_8.toInt = w129_8.toInt) (kc_m1 : (Int32.ofInt (-1)).toInt = (-1)) (by omega) (by omega) | skip
                                  refine q_goto (tgt := 129) hM dX12_odds_179 (by decide) ?_
                                  exact ih129 z7845 _ _ _ _ (by omega) hG (by omega) (by omega) (lv_sub hl [1, 2, 3, 4, 5, 6, 7, 8, 0] rfl) hW
                                · refine q_iconst (v := (0 : Int32)) hM dX12_odds_158 (by decide) ?_
                                  refine q_goto (tgt := 174) hM dX12_odds_159 (by decide) ?_
                                  refine q_iadd hM dX12_odds_174 (fun z7847 hz7847 => ?_)
                                  first | have tz7847 := i_addT hz7847 (rfl : z7838.toInt = z7838.toInt) (kc_0 : (0 : Int32).toInt = 0) (by omega) (by omega) | skip
                                  refine w_iast hM hW lb_179 (by omega) (i_in (by omega) (by omega)) dX12_odds_175 (fun g7848 H locs hW e1 e2 => ?_)
                                  have hG := hG.st e1 e2 (rfl : rA 179 = (-2147483648, 2147483647)) (by have := i_rng z7847; omega) (by have := i_rng z7847; omega)
                                  refine q_iinc (lv9 := fun z7849 => [(8, .int z7849), (0, .ref (ad 129)), (1, .int a), (2, .int b), (3, .int c), (4, .int d), (5, .int w89_5), (6, .int w89_6), (7, .int r7829)]) hM dX12_odds_176 hl (kq := 8) rfl (by decide) (fun _ => rfl) (fun z7849 ls hz7849 hl => ?_)
                                  first | have tz7849 := i_addT hz7849 (rfl : w129_8.toInt = w129_8.toInt) (kc_m1 : (Int32.ofInt (-1)).toInt = (-1)) (by omega) (by omega) | skip
                                  refine q_goto (tgt := 129) hM dX12_odds_179 (by decide) ?_
                                  exact ih129 z7849 _ _ _ _ (by omega) hG (by omega) (by omega) (lv_sub hl [1, 2, 3, 4, 5, 6, 7, 8, 0] rfl) hW
                          have := kc_8
                          exact L129 _ (8 : Int32) _ _ _ _ (Nat.lt_succ_self _) hG (by omega) (by omega) (lv_sub hl [2, 3, 4, 5, 6, 7, 8, 1, 0] rfl) hW
                        · refine q_goto (tgt := 189) hM dX12_odds_105 (by decide) ?_
                          refine q_iinc (lv9 := fun z7851 => [(6, .int z7851), (0, .ref (ad 129)), (1, .int a), (2, .int b), (3, .int c), (4, .int d), (5, .int w89_5)]) hM dX12_odds_189 hl (kq := 6) rfl (by decide) (fun _ => rfl) (fun z7851 ls hz7851 hl => ?_)
                          first | have tz7851 := i_addT hz7851 (rfl : w89_6.toInt = w89_6.toInt) (kc_1 : (Int32.ofInt 1).toInt = 1) (by omega) (by omega) | skip
                          refine q_goto (tgt := 89) hM dX12_odds_192 (by decide) ?_
                          exact ih89 w89_5 z7851 _ _ _ _ (by omega) hG (by omega) (by omega) (by obtain ⟨j9, ja, jb⟩ := i89_3; exact ⟨j9, by omega, jb⟩) (lv_sub hl [1, 2, 3, 4, 5, 6, 0] rfl) hW
                  have := kc_1
                  have := kc_0
                  exact L89 _ (1 : Int32) (0 : Int32) _ _ _ _ (Nat.lt_succ_self _) hG (by omega) (by omega) ⟨0, by have := kc_0; omega, rfl⟩ (lv_sub hl [2, 3, 4, 5, 6, 1, 0] rfl) hW
                · refine q_aload_n hM dX12_odds_60 (lv_at hl 0 rfl) ?_
                  refine w_get (v := .ref (ad 179)) hM hW FG_X12_163 lb_129 (rf_129_85 hW.2.1) dX12_odds_61 ?_
                  refine q_iload hM dX12_odds_64 (lv_at hl 5 rfl) ?_
                  refine q_iload hM dX12_odds_66 (lv_at hl 5 rfl) ?_
                  refine q_if_ne (tgt := 75) hM dX12_odds_68 (by decide) (rfl : w53_5.toInt = w53_5.toInt) (fun h68 => ?_) (fun h68 => ?_)
                  · refine q_iconst (v := (0 : Int32)) hM dX12_odds_75 (by decide) ?_
                    refine w_iast hM hW lb_179 (by omega) (i_in (by omega) (by omega)) dX12_odds_76 (fun g7854 H locs hW e1 e2 => ?_)
                    have hG := hG.st e1 e2 (rfl : rA 179 = (-2147483648, 2147483647)) (by have := kc_0; have := i_rng (0 : Int32); omega) (by have := kc_0; have := i_rng (0 : Int32); omega)
                    refine q_iinc (lv9 := fun z7855 => [(5, .int z7855), (0, .ref (ad 129)), (1, .int a), (2, .int b), (3, .int c), (4, .int d)]) hM dX12_odds_77 hl (kq := 5) rfl (by decide) (fun _ => rfl) (fun z7855 ls hz7855 hl => ?_)
                    first | have tz7855 := i_addT hz7855 (rfl : w53_5.toInt = w53_5.toInt) (kc_1 : (Int32.ofInt 1).toInt = 1) (by omega) (by omega) | skip
                    refine q_goto (tgt := 53) hM dX12_odds_80 (by decide) ?_
                    exact ih53 z7855 _ _ _ _ (by omega) hG (by omega) (by omega) (lv_sub hl [1, 2, 3, 4, 5, 0] rfl) hW
                  · refine q_iconst (v := (1 : Int32)) hM dX12_odds_71 (by decide) ?_
                    refine q_goto (tgt := 76) hM dX12_odds_72 (by decide) ?_
                    refine w_iast hM hW lb_179 (by omega) (i_in (by omega) (by omega)) dX12_odds_76 (fun g7857 H locs hW e1 e2 => ?_)
                    have hG := hG.st e1 e2 (rfl : rA 179 = (-2147483648, 2147483647)) (by have := kc_1; have := i_rng (1 : Int32); omega) (by have := kc_1; have := i_rng (1 : Int32); omega)
                    refine q_iinc (lv9 := fun z7858 => [(5, .int z7858), (0, .ref (ad 129)), (1, .int a), (2, .int b), (3, .int c), (4, .int d)]) hM dX12_odds_77 hl (kq := 5) rfl (by decide) (fun _ => rfl) (fun z7858 ls hz7858 hl => ?_)
                    first | have tz7858 := i_addT hz7858 (rfl : w53_5.toInt = w53_5.toInt) (kc_1 : (Int32.ofInt 1).toInt = 1) (by omega) (by omega) | skip
                    refine q_goto (tgt := 53) hM dX12_odds_80 (by decide) ?_
                    exact ih53 z7858 _ _ _ _ (by omega) hG (by omega) (by omega) (lv_sub hl [1, 2, 3, 4, 5, 0] rfl) hW
            have := kc_0
            exact L53 _ (0 : Int32) _ _ _ _ (Nat.lt_succ_self _) hG (by omega) (by omega) (lv_sub hl [1, 2, 3, 4, 5, 0] rfl) hW
          · refine q_iconst (v := ((-1) : Int32)) hM dX12_odds_48 (by decide) ?_
            exact hE _ _ _ _ _ _ hW.1 ⟨_, rfl, hW.2.1, hG, hW.2.2⟩ dX12_odds_49

theorem dX12_crib_0 : decode cX12_crib 0 = .ok (.aload_n 0, 1) := by decide +kernel
theorem dX12_crib_1 : decode cX12_crib 1 = .ok (.iload_n 1, 1) := by decide +kernel
theorem dX12_crib_2 : decode cX12_crib 2 = .ok (.invokevirtual 421, 3) := by decide +kernel
theorem dX12_crib_5 : decode cX12_crib 5 = .ok (.ifCond .eq 13, 3) := by decide +kernel
theorem dX12_crib_8 : decode cX12_crib 8 = .ok (.iload_n 2, 1) := by decide +kernel
theorem dX12_crib_9 : decode cX12_crib 9 = .ok (.i2l, 1) := by decide +kernel
theorem dX12_crib_10 : decode cX12_crib 10 = .ok (.lconst 0, 1) := by decide +kernel
theorem dX12_crib_11 : decode cX12_crib 11 = .ok (.lconst 1, 1) := by decide +kernel
theorem dX12_crib_12 : decode cX12_crib 12 = .ok (.invokestatic 190, 3) := by decide +kernel
theorem dX12_crib_15 : decode cX12_crib 15 = .ok (.ifCond .ne 5, 3) := by decide +kernel
theorem dX12_crib_18 : decode cX12_crib 18 = .ok (.iconst (-1), 1) := by decide +kernel
theorem dX12_crib_19 : decode cX12_crib 19 = .ok (.ireturn, 1) := by decide +kernel
theorem dX12_crib_20 : decode cX12_crib 20 = .ok (.bipush (-2), 2) := by decide +kernel
theorem dX12_crib_22 : decode cX12_crib 22 = .ok (.istore_n 3, 1) := by decide +kernel
theorem dX12_crib_23 : decode cX12_crib 23 = .ok (.iconst (-1), 1) := by decide +kernel
theorem dX12_crib_24 : decode cX12_crib 24 = .ok (.istore 4, 2) := by decide +kernel
theorem dX12_crib_26 : decode cX12_crib 26 = .ok (.iconst 0, 1) := by decide +kernel
theorem dX12_crib_27 : decode cX12_crib 27 = .ok (.istore 5, 2) := by decide +kernel
theorem dX12_crib_29 : decode cX12_crib 29 = .ok (.iload 5, 2) := by decide +kernel
theorem dX12_crib_31 : decode cX12_crib 31 = .ok (.bipush 12, 2) := by decide +kernel
theorem dX12_crib_33 : decode cX12_crib 33 = .ok (.if_icmp .ge 61, 3) := by decide +kernel
theorem dX12_crib_36 : decode cX12_crib 36 = .ok (.aload_n 0, 1) := by decide +kernel
theorem dX12_crib_37 : decode cX12_crib 37 = .ok (.getfield 17, 3) := by decide +kernel
theorem dX12_crib_40 : decode cX12_crib 40 = .ok (.iload 5, 2) := by decide +kernel
theorem dX12_crib_42 : decode cX12_crib 42 = .ok (.baload, 1) := by decide +kernel
theorem dX12_crib_43 : decode cX12_crib 43 = .ok (.ifCond .eq 45, 3) := by decide +kernel
theorem dX12_crib_46 : decode cX12_crib 46 = .ok (.aload_n 0, 1) := by decide +kernel
theorem dX12_crib_47 : decode cX12_crib 47 = .ok (.getfield 109, 3) := by decide +kernel
theorem dX12_crib_50 : decode cX12_crib 50 = .ok (.bipush 12, 2) := by decide +kernel
theorem dX12_crib_52 : decode cX12_crib 52 = .ok (.iload_n 1, 1) := by decide +kernel
theorem dX12_crib_53 : decode cX12_crib 53 = .ok (.imul, 1) := by decide +kernel
theorem dX12_crib_54 : decode cX12_crib 54 = .ok (.iload 5, 2) := by decide +kernel
theorem dX12_crib_56 : decode cX12_crib 56 = .ok (.iadd, 1) := by decide +kernel
theorem dX12_crib_57 : decode cX12_crib 57 = .ok (.iaload, 1) := by decide +kernel
theorem dX12_crib_58 : decode cX12_crib 58 = .ok (.ifCond .gt 30, 3) := by decide +kernel
theorem dX12_crib_61 : decode cX12_crib 61 = .ok (.aload_n 0, 1) := by decide +kernel
theorem dX12_crib_62 : decode cX12_crib 62 = .ok (.iload_n 1, 1) := by decide +kernel
theorem dX12_crib_63 : decode cX12_crib 63 = .ok (.iload 5, 2) := by decide +kernel
theorem dX12_crib_65 : decode cX12_crib 65 = .ok (.invokevirtual 598, 3) := by decide +kernel
theorem dX12_crib_68 : decode cX12_crib 68 = .ok (.iload 4, 2) := by decide +kernel
theorem dX12_crib_70 : decode cX12_crib 70 = .ok (.if_icmp .gt 6, 3) := by decide +kernel
theorem dX12_crib_73 : decode cX12_crib 73 = .ok (.goto 15, 3) := by decide +kernel
theorem dX12_crib_76 : decode cX12_crib 76 = .ok (.iload 5, 2) := by decide +kernel
theorem dX12_crib_78 : decode cX12_crib 78 = .ok (.istore_n 3, 1) := by decide +kernel
theorem dX12_crib_79 : decode cX12_crib 79 = .ok (.aload_n 0, 1) := by decide +kernel
theorem dX12_crib_80 : decode cX12_crib 80 = .ok (.iload_n 1, 1) := by decide +kernel
theorem dX12_crib_81 : decode cX12_crib 81 = .ok (.iload 5, 2) := by decide +kernel
theorem dX12_crib_83 : decode cX12_crib 83 = .ok (.invokevirtual 598, 3) := by decide +kernel
theorem dX12_crib_86 : decode cX12_crib 86 = .ok (.istore 4, 2) := by decide +kernel
theorem dX12_crib_88 : decode cX12_crib 88 = .ok (.iinc 5 1, 3) := by decide +kernel
theorem dX12_crib_91 : decode cX12_crib 91 = .ok (.goto (-62), 3) := by decide +kernel
theorem dX12_crib_94 : decode cX12_crib 94 = .ok (.iload_n 3, 1) := by decide +kernel
theorem dX12_crib_95 : decode cX12_crib 95 = .ok (.bipush (-2), 2) := by decide +kernel
theorem dX12_crib_97 : decode cX12_crib 97 = .ok (.if_icmp .ne 8, 3) := by decide +kernel
theorem dX12_crib_100 : decode cX12_crib 100 = .ok (.bipush (-2), 2) := by decide +kernel
theorem dX12_crib_102 : decode cX12_crib 102 = .ok (.goto 13, 3) := by decide +kernel
theorem dX12_crib_105 : decode cX12_crib 105 = .ok (.iload_n 2, 1) := by decide +kernel
theorem dX12_crib_106 : decode cX12_crib 106 = .ok (.ifCond .ne 7, 3) := by decide +kernel
theorem dX12_crib_109 : decode cX12_crib 109 = .ok (.iload_n 3, 1) := by decide +kernel
theorem dX12_crib_110 : decode cX12_crib 110 = .ok (.goto 5, 3) := by decide +kernel
theorem dX12_crib_113 : decode cX12_crib 113 = .ok (.iload 4, 2) := by decide +kernel
theorem dX12_crib_115 : decode cX12_crib 115 = .ok (.ireturn, 1) := by decide +kernel
theorem myX12_recalledBy : MI yX12_recalledBy cX12_recalledBy 4 (some FieldType.int) 2 := ⟨kAW (v_7_5 (List.mem_of_getElem? (i := 1) rfl)) rfl, kAW (v_0_0 (List.mem_of_getElem? (i := 13) rfl)) rfl, kAW (v_7_5 (List.mem_of_getElem? (i := 0) rfl)) rfl, kAW (tp_t6 (List.mem_of_getElem? (i := 11) rfl)) rfl, by decide, by decide, by decide +kernel⟩
set_option maxRecDepth 100000 in
set_option maxHeartbeats 4000000 in
theorem p_X12_crib (l : Launch) (D : va_G) (cA : Nat → ClassId) (ad : Nat → Nat) (g0 : Nat → va_E) (a : Int32) (b : Int32)   (hSh : Shp ad cA g0) (hG : Rng g0) (hL : LawOK g0) : CT l NN ad cA D yX12_crib cX12_crib 6 (some FieldType.int) (7, 161) [.ref (ad 129), .int a, .int b] g0 (fun v g' => ∃ (r : Int32), v = some (.int r) ∧ Shp ad cA g' ∧ Rng g' ∧ FR (fun i k => i = 161 ∨ i = 156 ∨ i = 157 ∨ (i = 129 ∧ (k = 42 ∨ k = 43 ∨ k = 44 ∨ k = 45 ∨ k = 46 ∨ k = 47 ∨ k = 48 ∨ k = 49)) ∨ i = 170) g0 g') := by
  refine q_enterI (by decide) (Nat.le_of_ble_eq_true rfl) rfl (fun K H locs ls _ _ hM hW0 hR hC hE hl => ?_)
  have hl : lv_has ls 6 [(0, .ref (ad 129)), (1, .int a), (2, .int b)] := hl
  have hW : WS ad cA (fun i k => i = 161 ∨ i = 156 ∨ i = 157 ∨ (i = 129 ∧ (k = 42 ∨ k = 43 ∨ k = 44 ∨ k = 45 ∨ k = 46 ∨ k = 47 ∨ k = 48 ∨ k = 49)) ∨ i = 170) g0 K g0 H locs := ⟨hW0, hSh, FR.rf⟩
  have := kc_0
  have := kc_1
  have := kc_m1
  have := kc_m2
  refine q_aload_n hM dX12_crib_0 (lv_at hl 0 rfl) ?_
  refine q_iload_n hM dX12_crib_1 (lv_at hl 1 rfl) ?_
  refine q_callV (As := [.int a]) (rest := []) hM hW.1 hR hC myX12_isThat (kAW (v_6_2 (List.mem_of_getElem? (i := 9) rfl)) rfl) (rfl : vwCl[12]? = some (RX12, TX12, 86)) rfl lb_129.1 (shO hW.2.1 lb_129) (a_X12_isThat _ _ cA ad g0 a hW.2.1 hG) ⟨by decide, by decide⟩ rfl rfl hl.1 (Nat.le_of_ble_eq_true rfl) dX12_crib_2 (fun v g7861 H locs hp hW1 => ?_)
  obtain ⟨r7860, rfl, hr7860, rfl⟩ := hp
  have hW : WS ad cA (fun i k => i = 161 ∨ i = 156 ∨ i = 157 ∨ (i = 129 ∧ (k = 42 ∨ k = 43 ∨ k = 44 ∨ k = 45 ∨ k = 46 ∨ k = 47 ∨ k = 48 ∨ k = 49)) ∨ i = 170) g0 K g0 H locs := ⟨hW1, hW.2.1, hW.2.2⟩
  refine q_if_eq (tgt := 18) hM dX12_crib_5 (by decide) (rfl : r7860.toInt = r7860.toInt) (fun h5 => ?_) (fun h5 => ?_)
  · refine q_iconst (v := ((-1) : Int32)) hM dX12_crib_18 (by decide) ?_
    exact hE _ _ _ _ _ _ hW.1 ⟨_, rfl, hW.2.1, hG, hW.2.2⟩ dX12_crib_19
  · refine q_iload_n hM dX12_crib_8 (lv_at hl 2 rfl) ?_
    refine q_i2l hM dX12_crib_9 ?_
    have := l_i2l b
    refine q_lconst (v := 0) hM dX12_crib_10 (by decide) ?_
    have := kl_0
    refine q_lconst (v := 1) hM dX12_crib_11 (by decide) ?_
    have := kl_1
    refine q_callS (As := [.long b.toInt64, .long (0 : Int64), .long (1 : Int64)]) (rest := []) hM hW.1 hR hC myX12_lies (kAW (v_5_4 (List.mem_of_getElem? (i := 14) rfl)) rfl) (c_X12_lies _ _ cA ad g0 b.toInt64 (0 : Int64) (1 : Int64) hW.2.1) ⟨by decide, by decide⟩ rfl rfl hl.1 (Nat.le_of_ble_eq_true rfl) dX12_crib_12 (fun v g7865 H locs hp hW1 => ?_)
    obtain ⟨r7864, rfl, hr7864, rfl⟩ := hp
    have hW : WS ad cA (fun i k => i = 161 ∨ i = 156 ∨ i = 157 ∨ (i = 129 ∧ (k = 42 ∨ k = 43 ∨ k = 44 ∨ k = 45 ∨ k = 46 ∨ k = 47 ∨ k = 48 ∨ k = 49)) ∨ i = 170) g0 K g0 H locs := ⟨hW1, hW.2.1, hW.2.2⟩
    refine q_if_ne (tgt := 20) hM dX12_crib_15 (by decide) (rfl : r7864.toInt = r7864.toInt) (fun h15 => ?_) (fun h15 => ?_)
    · refine q_bipush (v := ((-2) : Int32)) hM dX12_crib_20 (by decide) ?_
      refine q_istore_n (lv9 := [(3, .int ((-2) : Int32)), (0, .ref (ad 129)), (1, .int a), (2, .int b)]) hM dX12_crib_22 hl (by decide) rfl (fun ls hl => ?_)
      refine q_iconst (v := ((-1) : Int32)) hM dX12_crib_23 (by decide) ?_
      refine q_istore (lv9 := [(4, .int ((-1) : Int32)), (3, .int ((-2) : Int32)), (0, .ref (ad 129)), (1, .int a), (2, .int b)]) hM dX12_crib_24 hl (by decide) rfl (fun ls hl => ?_)
      refine q_iconst (v := (0 : Int32)) hM dX12_crib_26 (by decide) ?_
      refine q_istore (lv9 := [(5, .int (0 : Int32)), (4, .int ((-1) : Int32)), (3, .int ((-2) : Int32)), (0, .ref (ad 129)), (1, .int a), (2, .int b)]) hM dX12_crib_27 hl (by decide) rfl (fun ls hl => ?_)
      have L29 : ∀ (fu29 : Nat) (w29_3 : Int32) (w29_4 : Int32) (w29_5 : Int32) (g9 : Nat → va_E) (H : Heap) (locs : List Loc) (ls : Array Slot), (12 - w29_5.toInt).toNat < fu29 → (Rng g9) → (0 ≤ w29_5.toInt) → (w29_5.toInt ≤ 12) → lv_has ls 6 [(0, .ref (ad 129)), (1, .int a), (2, .int b), (3, .int w29_3), (4, .int w29_4), (5, .int w29_5)] → WS ad cA (fun i k => i = 161 ∨ i = 156 ∨ i = 157 ∨ (i = 129 ∧ (k = 42 ∨ k = 43 ∨ k = 44 ∨ k = 45 ∨ k = 46 ∨ k = 47 ∨ k = 48 ∨ k = 49)) ∨ i = 170) g0 K g9 H locs → XX K 0 0 H locs 29 ls [] := by
        intro fu29
        induction fu29 with
        | zero => intro w29_3 w29_4 w29_5 g9 H locs ls h0; omega
        | succ fu29 ih29 =>
          intro w29_3 w29_4 w29_5 g9 H locs ls hm29 i29_0 i29_1 i29_2 hl hW
          have hG := i29_0
          refine q_iload hM dX12_crib_29 (lv_at hl 5 rfl) ?_
          refine q_bipush (v := (12 : Int32)) hM dX12_crib_31 (by decide) ?_
          refine q_icmp_ge (tgt := 94) hM dX12_crib_33 (by decide) (rfl : w29_5.toInt = w29_5.toInt) (kc_12 : (12 : Int32).toInt = 12) (fun h33 => ?_) (fun h33 => ?_)
          · refine q_iload_n hM dX12_crib_94 (lv_at hl 3 rfl) ?_
            refine q_bipush (v := ((-2) : Int32)) hM dX12_crib_95 (by decide) ?_
            refine q_icmp_ne (tgt := 105) hM dX12_crib_97 (by decide) (rfl : w29_3.toInt = w29_3.toInt) (kc_m2 : ((-2) : Int32).toInt = (-2)) (fun h97 => ?_) (fun h97 => ?_)
            · refine q_iload_n hM dX12_crib_105 (lv_at hl 2 rfl) ?_
              refine q_if_ne (tgt := 113) hM dX12_crib_106 (by decide) (rfl : b.toInt = b.toInt) (fun h106 => ?_) (fun h106 => ?_)
              · refine q_iload hM dX12_crib_113 (lv_at hl 4 rfl) ?_
                exact hE _ _ _ _ _ _ hW.1 ⟨_, rfl, hW.2.1, hG, hW.2.2⟩ dX12_crib_115
              · refine q_iload_n hM dX12_crib_109 (lv_at hl 3 rfl) ?_
                refine q_goto (tgt := 115) hM dX12_crib_110 (by decide) ?_
                exact hE _ _ _ _ _ _ hW.1 ⟨_, rfl, hW.2.1, hG, hW.2.2⟩ dX12_crib_115
            · refine q_bipush (v := ((-2) : Int32)) hM dX12_crib_100 (by decide) ?_
              refine q_goto (tgt := 115) hM dX12_crib_102 (by decide) ?_
              exact hE _ _ _ _ _ _ hW.1 ⟨_, rfl, hW.2.1, hG, hW.2.2⟩ dX12_crib_115
          · refine q_aload_n hM dX12_crib_36 (lv_at hl 0 rfl) ?_
            refine w_get (v := .ref (ad 131)) hM hW FG_X12_17 lb_129 (rf_129_10 hW.2.1) dX12_crib_37 ?_
            refine q_iload hM dX12_crib_40 (lv_at hl 5 rfl) ?_
            refine w_zald hM hW lb_131 (i_in (by omega) (by omega)) dX12_crib_42 ?_
            refine q_top (fun y7874 hy7874 => ?_)
            refine q_if_eq (tgt := 88) hM dX12_crib_43 (by decide) (rfl : y7874.toInt = y7874.toInt) (fun h43 => ?_) (fun h43 => ?_)
            · refine q_iinc (lv9 := fun z7876 => [(5, .int z7876), (0, .ref (ad 129)), (1, .int a), (2, .int b), (3, .int w29_3), (4, .int w29_4)]) hM dX12_crib_88 hl (kq := 5) rfl (by decide) (fun _ => rfl) (fun z7876 ls hz7876 hl => ?_)
              first | have tz7876 := i_addT hz7876 (rfl : w29_5.toInt = w29_5.toInt) (kc_1 : (Int32.ofInt 1).toInt = 1) (by omega) (by omega) | skip
              refine q_goto (tgt := 29) hM dX12_crib_91 (by decide) ?_
              exact ih29 w29_3 w29_4 z7876 _ _ _ _ (by omega) hG (by omega) (by omega) (lv_sub hl [1, 2, 3, 4, 5, 0] rfl) hW
            · refine q_aload_n hM dX12_crib_46 (lv_at hl 0 rfl) ?_
              refine w_get (v := .ref (ad 161)) hM hW FG_X12_109 lb_129 (rf_129_55 hW.2.1) dX12_crib_47 ?_
              refine q_bipush (v := (12 : Int32)) hM dX12_crib_50 (by decide) ?_
              refine q_iload_n hM dX12_crib_52 (lv_at hl 1 rfl) ?_
              refine q_imul hM dX12_crib_53 (fun z7878 hz7878 => ?_)
              first | have tz7878 := i_mulT hz7878 (kc_12 : (12 : Int32).toInt = 12) (rfl : a.toInt = a.toInt) (by omega) (by omega) | skip
              refine q_iload hM dX12_crib_54 (lv_at hl 5 rfl) ?_
              refine q_iadd hM dX12_crib_56 (fun z7879 hz7879 => ?_)
              first | have tz7879 := i_addT hz7879 (rfl : z7878.toInt = z7878.toInt) (rfl : w29_5.toInt = w29_5.toInt) (by omega) (by omega) | skip
              refine w_iald hM hW lb_161 (i_in (by omega) (by omega)) dX12_crib_57 ?_
              refine q_top (fun y7880 hy7880 => ?_)
              refine q_if_gt (tgt := 88) hM dX12_crib_58 (by decide) (rfl : y7880.toInt = y7880.toInt) (fun h58 => ?_) (fun h58 => ?_)
              · refine q_iinc (lv9 := fun z7882 => [(5, .int z7882), (0, .ref (ad 129)), (1, .int a), (2, .int b), (3, .int w29_3), (4, .int w29_4)]) hM dX12_crib_88 hl (kq := 5) rfl (by decide) (fun _ => rfl) (fun z7882 ls hz7882 hl => ?_)
                first | have tz7882 := i_addT hz7882 (rfl : w29_5.toInt = w29_5.toInt) (kc_1 : (Int32.ofInt 1).toInt = 1) (by omega) (by omega) | skip
                refine q_goto (tgt := 29) hM dX12_crib_91 (by decide) ?_
                exact ih29 w29_3 w29_4 z7882 _ _ _ _ (by omega) hG (by omega) (by omega) (lv_sub hl [1, 2, 3, 4, 5, 0] rfl) hW
              · refine q_aload_n hM dX12_crib_61 (lv_at hl 0 rfl) ?_
                refine q_iload_n hM dX12_crib_62 (lv_at hl 1 rfl) ?_
                refine q_iload hM dX12_crib_63 (lv_at hl 5 rfl) ?_
                refine q_callV (As := [.int a, .int w29_5]) (rest := []) hM hW.1 hR hC myX12_recalledBy (kAW (v_7_4 (List.mem_of_getElem? (i := 14) rfl)) rfl) (rfl : vwCl[12]? = some (RX12, TX12, 86)) rfl lb_129.1 (shO hW.2.1 lb_129) (a_X12_recalledBy _ _ cA ad g9 a w29_5 hW.2.1 hG (by  omega) (by  omega) (by  omega) (by  omega) (LawOK_fr hL hW.2.2 (by omega) (by omega) (by omega) (by omega) (by omega))) ⟨by decide, by decide⟩ rfl rfl hl.1 (Nat.le_of_ble_eq_true rfl) dX12_crib_65 (fun v g7885 H locs hp hW1 => ?_)
                obtain ⟨r7884, rfl, hs1, hG, hf1⟩ := hp
                have hW : WS ad cA (fun i k => i = 161 ∨ i = 156 ∨ i = 157 ∨ (i = 129 ∧ (k = 42 ∨ k = 43 ∨ k = 44 ∨ k = 45 ∨ k = 46 ∨ k = 47 ∨ k = 48 ∨ k = 49)) ∨ i = 170) g0 K g7885 H locs := ⟨hW1, hs1, hW.2.2.tr hf1 (fun i k h => h.elim (fun h => (Or.inl h)) (fun h => h.elim (fun h => (Or.inr (Or.inl h))) (fun h => h.elim (fun h => (Or.inr (Or.inr (Or.inl h)))) (fun h => h.elim (fun h => (Or.inr (Or.inr (Or.inr (Or.inl h))))) (fun h => (Or.inr (Or.inr (Or.inr (Or.inr h)))))))))⟩
                refine q_iload hM dX12_crib_68 (lv_at hl 4 rfl) ?_
                refine q_icmp_gt (tgt := 76) hM dX12_crib_70 (by decide) (rfl : r7884.toInt = r7884.toInt) (rfl : w29_4.toInt = w29_4.toInt) (fun h70 => ?_) (fun h70 => ?_)
                · refine q_iload hM dX12_crib_76 (lv_at hl 5 rfl) ?_
                  refine q_istore_n (lv9 := [(3, .int w29_5), (0, .ref (ad 129)), (1, .int a), (2, .int b), (4, .int w29_4), (5, .int w29_5)]) hM dX12_crib_78 hl (by decide) rfl (fun ls hl => ?_)
                  refine q_aload_n hM dX12_crib_79 (lv_at hl 1 rfl) ?_
                  refine q_iload_n hM dX12_crib_80 (lv_at hl 2 rfl) ?_
                  refine q_iload hM dX12_crib_81 (lv_at hl 5 rfl) ?_
                  refine q_callV (As := [.int a, .int w29_5]) (rest := []) hM hW.1 hR hC myX12_recalledBy (kAW (v_7_4 (List.mem_of_getElem? (i := 14) rfl)) rfl) (rfl : vwCl[12]? = some (RX12, TX12, 86)) rfl lb_129.1 (shO hW.2.1 lb_129) (a_X12_recalledBy _ _ cA ad g7885 a w29_5 hW.2.1 hG (by  omega) (by  omega) (by  omega) (by  omega) (LawOK_fr hL hW.2.2 (by omega) (by omega) (by omega) (by omega) (by omega))) ⟨by decide, by decide⟩ rfl rfl hl.1 (Nat.le_of_ble_eq_true rfl) dX12_crib_83 (fun v g7888 H locs hp hW1 => ?_)
                  obtain ⟨r7887, rfl, hs1, hG, hf1⟩ := hp
                  have hW : WS ad cA (fun i k => i = 161 ∨ i = 156 ∨ i = 157 ∨ (i = 129 ∧ (k = 42 ∨ k = 43 ∨ k = 44 ∨ k = 45 ∨ k = 46 ∨ k = 47 ∨ k = 48 ∨ k = 49)) ∨ i = 170) g0 K g7888 H locs := ⟨hW1, hs1, hW.2.2.tr hf1 (fun i k h => h.elim (fun h => (Or.inl h)) (fun h => h.elim (fun h => (Or.inr (Or.inl h))) (fun h => h.elim (fun h => (Or.inr (Or.inr (Or.inl h)))) (fun h => h.elim (fun h => (Or.inr (Or.inr (Or.inr (Or.inl h))))) (fun h => (Or.inr (Or.inr (Or.inr (Or.inr h)))))))))⟩
                  refine q_istore (lv9 := [(4, .int r7887), (3, .int w29_5), (0, .ref (ad 129)), (1, .int a), (2, .int b), (5, .int w29_5)]) hM dX12_crib_86 hl (by decide) rfl (fun ls hl => ?_)
                  refine q_iinc (lv9 := fun z7889 => [(5, .int z7889), (4, .int r7887), (3, .int w29_5), (0, .ref (ad 129)), (1, .int a), (2, .int b)]) hM dX12_crib_88 hl (kq := 5) rfl (by decide) (fun _ => rfl) (fun z7889 ls hz7889 hl => ?_)
                  first | have tz7889 := i_addT hz7889 (rfl : w29_5.toInt = w29_5.toInt) (kc_1 : (Int32.ofInt 1).toInt = 1) (by omega) (by omega) | skip
                  refine q_goto (tgt := 29) hM dX12_crib_91 (by decide) ?_
                  exact ih29 w29_5 r7887 z7889 _ _ _ _ (by omega) hG (by omega) (by omega) (lv_sub hl [3, 4, 5, 2, 1, 0] rfl) hW
                · refine q_goto (tgt := 88) hM dX12_crib_73 (by decide) ?_
                  refine q_iinc (lv9 := fun z7891 => [(5, .int z7891), (0, .ref (ad 129)), (1, .int a), (2, .int b), (3, .int w29_3), (4, .int w29_4)]) hM dX12_crib_88 hl (kq := 5) rfl (by decide) (fun _ => rfl) (fun z7891 ls hz7891 hl => ?_)
                  first | have tz7891 := i_addT hz7891 (rfl : w29_5.toInt = w29_5.toInt) (kc_1 : (Int32.ofInt 1).toInt = 1) (by omega) (by omega) | skip
                  refine q_goto (tgt := 29) hM dX12_crib_91 (by decide) ?_
                  exact ih29 w29_3 w29_4 z7891 _ _ _ _ (by omega) hG (by omega) (by omega) (lv_sub hl [1, 2, 3, 4, 5, 0] rfl) hW
      have := kc_m2
      have := kc_m1
      have := kc_0
      exact L29 _ ((-2) : Int32) ((-1) : Int32) (0 : Int32) _ _ _ _ (Nat.lt_succ_self _) hG (by omega) (by omega) (lv_sub hl [3, 4, 5, 2, 1, 0] rfl) hW
    · refine q_iconst (v := ((-1) : Int32)) hM dX12_crib_18 (by decide) ?_
      exact hE _ _ _ _ _ _ hW.1 ⟨_, rfl, hW.2.1, hG, hW.2.2⟩ dX12_crib_19

theorem dX12_seed_0 : decode cX12_seed 0 = .ok (.iload_n 1, 1) := by decide +kernel
theorem dX12_seed_1 : decode cX12_seed 1 = .ok (.i2l, 1) := by decide +kernel
theorem dX12_seed_2 : decode cX12_seed 2 = .ok (.lconst 0, 1) := by decide +kernel
theorem dX12_seed_3 : decode cX12_seed 3 = .ok (.ldc2_w 601, 3) := by decide +kernel
theorem dX12_seed_6 : decode cX12_seed 6 = .ok (.invokestatic 190, 3) := by decide +kernel
theorem dX12_seed_9 : decode cX12_seed 9 = .ok (.ifCond .ne 5, 3) := by decide +kernel
theorem dX12_seed_12 : decode cX12_seed 12 = .ok (.iconst 0, 1) := by decide +kernel
theorem dX12_seed_13 : decode cX12_seed 13 = .ok (.ireturn, 1) := by decide +kernel
theorem dX12_seed_14 : decode cX12_seed 14 = .ok (.aload_n 0, 1) := by decide +kernel
theorem dX12_seed_15 : decode cX12_seed 15 = .ok (.iload_n 1, 1) := by decide +kernel
theorem dX12_seed_16 : decode cX12_seed 16 = .ok (.putfield 13, 3) := by decide +kernel
theorem dX12_seed_19 : decode cX12_seed 19 = .ok (.iconst 1, 1) := by decide +kernel
theorem dX12_seed_20 : decode cX12_seed 20 = .ok (.ireturn, 1) := by decide +kernel
set_option maxRecDepth 100000 in
set_option maxHeartbeats 4000000 in
theorem p_X12_seed (l : Launch) (D : va_G) (cA : Nat → ClassId) (ad : Nat → Nat) (g0 : Nat → va_E) (a : Int32)   (hSh : Shp ad cA g0) (hG : Rng g0) : CT l NN ad cA D yX12_seed cX12_seed 2 (some FieldType.boolean) (1, 25) [.ref (ad 129), .int a] g0 (fun v g' => ∃ (r : Int32), v = some (.int r) ∧ Shp ad cA g' ∧ Rng g' ∧ FR (fun i k => (i = 129 ∧ (k = 2))) g0 g' ∧ ((r.toInt = 1 ∧ 0 ≤ a.toInt ∧ a.toInt ≤ 65535) ∨ (r.toInt = 0 ∧ ¬ (0 ≤ a.toInt ∧ a.toInt ≤ 65535)))) := by
  refine q_enterZ (by decide) (Nat.le_of_ble_eq_true rfl) (fun K H locs ls _ _ hM hW0 hR hC hE hl => ?_)
  have hl : lv_has ls 2 [(0, .ref (ad 129)), (1, .int a)] := hl
  have hW : WS ad cA (fun i k => (i = 129 ∧ (k = 2))) g0 K g0 H locs := ⟨hW0, hSh, FR.rf⟩
  have := kc_0
  have := kc_1
  have := kc_m1
  have := kc_m2
  refine q_iload_n hM dX12_seed_0 (lv_at hl 1 rfl) ?_
  refine q_i2l hM dX12_seed_1 ?_
  have := l_i2l a
  refine q_lconst (v := 0) hM dX12_seed_2 (by decide) ?_
  have := kl_0
  refine q_ldc2 (v := 65535) hM (kAW (v_7_5 (List.mem_of_getElem? (i := 6) rfl)) rfl) dX12_seed_3 ?_
  have := kl_65535
  refine q_callS (As := [.long a.toInt64, .long (0 : Int64), .long (65535 : Int64)]) (rest := []) hM hW.1 hR hC myX12_lies (kAW (v_5_4 (List.mem_of_getElem? (i := 14) rfl)) rfl) (c_X12_lies _ _ cA ad g0 a.toInt64 (0 : Int64) (65535 : Int64) hW.2.1) ⟨by decide, by decide⟩ rfl rfl hl.1 (Nat.le_of_ble_eq_true rfl) dX12_seed_6 (fun v g7894 H locs hp hW1 => ?_)
  obtain ⟨r7893, rfl, hr7893, rfl⟩ := hp
  have hW : WS ad cA (fun i k => (i = 129 ∧ (k = 2))) g0 K g0 H locs := ⟨hW1, hW.2.1, hW.2.2⟩
  refine q_if_ne (tgt := 14) hM dX12_seed_9 (by decide) (rfl : r7893.toInt = r7893.toInt) (fun h9 => ?_) (fun h9 => ?_)
  · refine q_aload_n hM dX12_seed_14 (lv_at hl 0 rfl) ?_
    refine q_iload_n hM dX12_seed_15 (lv_at hl 1 rfl) ?_
    refine w_put hM hW FP_X12_13 lb_129 (by omega) (Or.inl ⟨_, rfl⟩) rfl rfl dX12_seed_16 (fun g7896 H locs hW e1 e2 => ?_)
    have f7897 : fld g7896 129 2 = .int a := e1
    have hG := hG.put e1 e2 (rfl : rF 129 2 = (-2147483648, 2147483647)) (by decide) (by have := i_rng a; omega) (by have := i_rng a; omega)
    refine q_iconst (v := (1 : Int32)) hM dX12_seed_19 (by decide) ?_
    exact hE _ _ _ _ _ _ hW.1 nz_1 ⟨_, rfl, hW.2.1, hG, hW.2.2, (by have := kc_1; omega)⟩ dX12_seed_20
  · refine q_iconst (v := (0 : Int32)) hM dX12_seed_12 (by decide) ?_
    exact hE _ _ _ _ _ _ hW.1 nz_0 ⟨_, rfl, hW.2.1, hG, hW.2.2, (by have := kc_0; omega)⟩ dX12_seed_13

theorem dX12_keep_0 : decode cX12_keep 0 = .ok (.aload_n 0, 1) := by decide +kernel
theorem dX12_keep_1 : decode cX12_keep 1 = .ok (.iconst 1, 1) := by decide +kernel
theorem dX12_keep_2 : decode cX12_keep 2 = .ok (.putfield 603, 3) := by decide +kernel
theorem dX12_keep_5 : decode cX12_keep 5 = .ok (.aload_n 0, 1) := by decide +kernel
theorem dX12_keep_6 : decode cX12_keep 6 = .ok (.iconst 1, 1) := by decide +kernel
theorem dX12_keep_7 : decode cX12_keep 7 = .ok (.invokevirtual 509, 3) := by decide +kernel
theorem dX12_keep_10 : decode cX12_keep 10 = .ok (.aload_n 0, 1) := by decide +kernel
theorem dX12_keep_11 : decode cX12_keep 11 = .ok (.getfield 416, 3) := by decide +kernel
theorem dX12_keep_14 : decode cX12_keep 14 = .ok (.ireturn, 1) := by decide +kernel
theorem FP_X12_603 : FPX RX12 603 12 86 75 .boolean := ⟨⟨RX12, TX12, tyX12, rfl, wX12, by decide, kAW (v_4_7 (List.mem_of_getElem? (i := 8) rfl)) rfl, rfl, tyX12_ok, nmX12, by decide +kernel, rfl⟩, by decide +kernel⟩
set_option maxRecDepth 100000 in
set_option maxHeartbeats 4000000 in
theorem p_X12_keep (l : Launch) (D : va_G) (cA : Nat → ClassId) (ad : Nat → Nat) (g0 : Nat → va_E)    (hSh : Shp ad cA g0) (hG : Rng g0) : CT l NN ad cA D yX12_keep cX12_keep 1 (some FieldType.int) (1, 22) [.ref (ad 129)] g0 (fun v g' => ∃ (r : Int32), v = some (.int r) ∧ Shp ad cA g' ∧ Rng g' ∧ FR (fun i k => (162 ≤ i ∧ i < 170) ∨ (i = 129 ∧ (k = 75))) g0 g') := by
  refine q_enterI (by decide) (Nat.le_of_ble_eq_true rfl) rfl (fun K H locs ls _ _ hM hW0 hR hC hE hl => ?_)
  have hl : lv_has ls 1 [(0, .ref (ad 129))] := hl
  have hW : WS ad cA (fun i k => (162 ≤ i ∧ i < 170) ∨ (i = 129 ∧ (k = 75))) g0 K g0 H locs := ⟨hW0, hSh, FR.rf⟩
  have := kc_0
  have := kc_1
  have := kc_m1
  have := kc_m2
  refine q_aload_n hM dX12_keep_0 (lv_at hl 0 rfl) ?_
  refine q_iconst (v := (1 : Int32)) hM dX12_keep_1 (by decide) ?_
  refine w_put hM hW FP_X12_603 lb_129 (by omega) (Or.inl ⟨_, rfl⟩) rfl rfl dX12_keep_2 (fun g7899 H locs hW e1 e2 => ?_)
  have f7900 : fld g7899 129 75 = .int (1 : Int32) := e1
  have hG := hG.put e1 e2 (rfl : rF 129 75 = (-2147483648, 2147483647)) (by decide) (by have := kc_1; have := i_rng (1 : Int32); omega) (by have := kc_1; have := i_rng (1 : Int32); omega)
  refine q_aload_n hM dX12_keep_5 (lv_at hl 0 rfl) ?_
  refine q_iconst (v := (1 : Int32)) hM dX12_keep_6 (by decide) ?_
  refine q_callV (As := [.int (1 : Int32)]) (rest := []) hM hW.1 hR hC myX12_laysAside (kAW (v_6_10 (List.mem_of_getElem? (i := 2) rfl)) rfl) (rfl : vwCl[12]? = some (RX12, TX12, 86)) rfl lb_129.1 (shO hW.2.1 lb_129) (a_X12_laysAside _ _ cA ad g7899 (1 : Int32) hW.2.1 hG (by have := kc_1; omega) (by have := kc_1; omega)) ⟨by decide, by decide⟩ rfl rfl hl.1 (Nat.le_of_ble_eq_true rfl) dX12_keep_7 (fun v g7901 H locs hp hW1 => ?_)
  obtain ⟨rfl, hs1, hG, hf1⟩ := hp
  have f7902 : fld g7901 129 75 = .int (1 : Int32) := (hf1.1 129 75 (by omega)).trans f7900
  have hW : WS ad cA (fun i k => (162 ≤ i ∧ i < 170) ∨ (i = 129 ∧ (k = 75))) g0 K g7901 H locs := ⟨hW1, hs1, hW.2.2.tr hf1 (fun i k h => (Or.inl h))⟩
  refine q_aload_n hM dX12_keep_10 (lv_at hl 0 rfl) ?_
  refine w_getI hM hW FG_X12_416 lb_129 (by decide) (by decide) dX12_keep_11 (fun x7903 fx7903 => ?_)
  exact hE _ _ _ _ _ _ hW.1 ⟨_, rfl, hW.2.1, hG, hW.2.2⟩ dX12_keep_14

theorem dX12_undo_0 : decode cX12_undo 0 = .ok (.aload_n 0, 1) := by decide +kernel
theorem dX12_undo_1 : decode cX12_undo 1 = .ok (.getfield 603, 3) := by decide +kernel
theorem dX12_undo_4 : decode cX12_undo 4 = .ok (.ifCond .ne 5, 3) := by decide +kernel
theorem dX12_undo_7 : decode cX12_undo 7 = .ok (.iconst 0, 1) := by decide +kernel
theorem dX12_undo_8 : decode cX12_undo 8 = .ok (.ireturn, 1) := by decide +kernel
theorem dX12_undo_9 : decode cX12_undo 9 = .ok (.aload_n 0, 1) := by decide +kernel
theorem dX12_undo_10 : decode cX12_undo 10 = .ok (.iconst 1, 1) := by decide +kernel
theorem dX12_undo_11 : decode cX12_undo 11 = .ok (.invokevirtual 515, 3) := by decide +kernel
theorem dX12_undo_14 : decode cX12_undo 14 = .ok (.iconst 1, 1) := by decide +kernel
theorem dX12_undo_15 : decode cX12_undo 15 = .ok (.ireturn, 1) := by decide +kernel
theorem FG_X12_603 : FG RX12 603 12 86 75 := ⟨RX12, TX12, rfl, wX12, by decide, kAW (v_4_7 (List.mem_of_getElem? (i := 8) rfl)) rfl, rfl⟩
set_option maxRecDepth 100000 in
set_option maxHeartbeats 4000000 in
theorem p_X12_undo (l : Launch) (D : va_G) (cA : Nat → ClassId) (ad : Nat → Nat) (g0 : Nat → va_E)    (hSh : Shp ad cA g0) (hG : Rng g0) : CT l NN ad cA D yX12_undo cX12_undo 1 (some FieldType.boolean) (1, 22) [.ref (ad 129)] g0 (fun v g' => ∃ (r : Int32), v = some (.int r) ∧ Shp ad cA g' ∧ Rng g' ∧ FR (fun i k => (158 ≤ i ∧ i < 162) ∨ (i = 129 ∧ (k = 2 ∨ k = 56 ∨ k = 57 ∨ k = 58))) g0 g' ∧ (r.toInt = 0 ∨ r.toInt = 1)) := by
  refine q_enterZ (by decide) (Nat.le_of_ble_eq_true rfl) (fun K H locs ls _ _ hM hW0 hR hC hE hl => ?_)
  have hl : lv_has ls 1 [(0, .ref (ad 129))] := hl
  have hW : WS ad cA (fun i k => (158 ≤ i ∧ i < 162) ∨ (i = 129 ∧ (k = 2 ∨ k = 56 ∨ k = 57 ∨ k = 58))) g0 K g0 H locs := ⟨hW0, hSh, FR.rf⟩
  have := kc_0
  have := kc_1
  have := kc_m1
  have := kc_m2
  refine q_aload_n hM dX12_undo_0 (lv_at hl 0 rfl) ?_
  refine w_getI hM hW FG_X12_603 lb_129 (by decide) (by decide) dX12_undo_1 (fun x7904 fx7904 => ?_)
  refine q_if_ne (tgt := 9) hM dX12_undo_4 (by decide) (rfl : x7904.toInt = x7904.toInt) (fun h4 => ?_) (fun h4 => ?_)
  · refine q_aload_n hM dX12_undo_9 (lv_at hl 0 rfl) ?_
    refine q_iconst (v := (1 : Int32)) hM dX12_undo_10 (by decide) ?_
    refine q_callV (As := [.int (1 : Int32)]) (rest := []) hM hW.1 hR hC myX12_bringsBack (kAW (v_6_10 (List.mem_of_getElem? (i := 10) rfl)) rfl) (rfl : vwCl[12]? = some (RX12, TX12, 86)) rfl lb_129.1 (shO hW.2.1 lb_129) (a_X12_bringsBack _ _ cA ad g0 (1 : Int32) hW.2.1 hG (by have := kc_1; omega) (by have := kc_1; omega)) ⟨by decide, by decide⟩ rfl rfl hl.1 (Nat.le_of_ble_eq_true rfl) dX12_undo_11 (fun v g7906 H locs hp hW1 => ?_)
    obtain ⟨rfl, hs1, hG, hf1⟩ := hp
    have f7907 : fld g7906 129 75 = .int x7904 := (hf1.1 129 75 (by omega)).trans fx7904
    have hW : WS ad cA (fun i k => (158 ≤ i ∧ i < 162) ∨ (i = 129 ∧ (k = 2 ∨ k = 56 ∨ k = 57 ∨ k = 58))) g0 K g7906 H locs := ⟨hW1, hs1, hW.2.2.tr hf1 (fun i k h => h.elim (fun h => (Or.inl h)) (fun h => (Or.inr h)))⟩
    refine q_iconst (v := (1 : Int32)) hM dX12_undo_14 (by decide) ?_
    exact hE _ _ _ _ _ _ hW.1 nz_1 ⟨_, rfl, hW.2.1, hG, hW.2.2, (by have := kc_1; omega)⟩ dX12_undo_15
  · refine q_iconst (v := (0 : Int32)) hM dX12_undo_7 (by decide) ?_
    exact hE _ _ _ _ _ _ hW.1 nz_0 ⟨_, rfl, hW.2.1, hG, hW.2.2, (by have := kc_0; omega)⟩ dX12_undo_8

theorem dX12_check_0 : decode cX12_check 0 = .ok (.aload_n 0, 1) := by decide +kernel
theorem dX12_check_1 : decode cX12_check 1 = .ok (.iload_n 1, 1) := by decide +kernel
theorem dX12_check_2 : decode cX12_check 2 = .ok (.invokevirtual 421, 3) := by decide +kernel
theorem dX12_check_5 : decode cX12_check 5 = .ok (.ifCond .eq 23, 3) := by decide +kernel
theorem dX12_check_8 : decode cX12_check 8 = .ok (.iload_n 2, 1) := by decide +kernel
theorem dX12_check_9 : decode cX12_check 9 = .ok (.i2l, 1) := by decide +kernel
theorem dX12_check_10 : decode cX12_check 10 = .ok (.lconst 0, 1) := by decide +kernel
theorem dX12_check_11 : decode cX12_check 11 = .ok (.ldc2_w 426, 3) := by decide +kernel
theorem dX12_check_14 : decode cX12_check 14 = .ok (.invokestatic 190, 3) := by decide +kernel
theorem dX12_check_17 : decode cX12_check 17 = .ok (.ifCond .eq 11, 3) := by decide +kernel
theorem dX12_check_20 : decode cX12_check 20 = .ok (.iload_n 2, 1) := by decide +kernel
theorem dX12_check_21 : decode cX12_check 21 = .ok (.aload_n 0, 1) := by decide +kernel
theorem dX12_check_22 : decode cX12_check 22 = .ok (.getfield 166, 3) := by decide +kernel
theorem dX12_check_25 : decode cX12_check 25 = .ok (.if_icmp .le 6, 3) := by decide +kernel
theorem dX12_check_28 : decode cX12_check 28 = .ok (.bipush (-2), 2) := by decide +kernel
theorem dX12_check_30 : decode cX12_check 30 = .ok (.ireturn, 1) := by decide +kernel
theorem dX12_check_31 : decode cX12_check 31 = .ok (.aload_n 0, 1) := by decide +kernel
theorem dX12_check_32 : decode cX12_check 32 = .ok (.iconst 0, 1) := by decide +kernel
theorem dX12_check_33 : decode cX12_check 33 = .ok (.putfield 166, 3) := by decide +kernel
theorem dX12_check_36 : decode cX12_check 36 = .ok (.iconst 0, 1) := by decide +kernel
theorem dX12_check_37 : decode cX12_check 37 = .ok (.istore_n 3, 1) := by decide +kernel
theorem dX12_check_38 : decode cX12_check 38 = .ok (.iload_n 3, 1) := by decide +kernel
theorem dX12_check_39 : decode cX12_check 39 = .ok (.iload_n 2, 1) := by decide +kernel
theorem dX12_check_40 : decode cX12_check 40 = .ok (.if_icmp .ge 30, 3) := by decide +kernel
theorem dX12_check_43 : decode cX12_check 43 = .ok (.aload_n 0, 1) := by decide +kernel
theorem dX12_check_44 : decode cX12_check 44 = .ok (.iload_n 3, 1) := by decide +kernel
theorem dX12_check_45 : decode cX12_check 45 = .ok (.invokevirtual 589, 3) := by decide +kernel
theorem dX12_check_48 : decode cX12_check 48 = .ok (.aload_n 0, 1) := by decide +kernel
theorem dX12_check_49 : decode cX12_check 49 = .ok (.getfield 109, 3) := by decide +kernel
theorem dX12_check_52 : decode cX12_check 52 = .ok (.bipush 12, 2) := by decide +kernel
theorem dX12_check_54 : decode cX12_check 54 = .ok (.iload_n 1, 1) := by decide +kernel
theorem dX12_check_55 : decode cX12_check 55 = .ok (.imul, 1) := by decide +kernel
theorem dX12_check_56 : decode cX12_check 56 = .ok (.iload_n 3, 1) := by decide +kernel
theorem dX12_check_57 : decode cX12_check 57 = .ok (.iadd, 1) := by decide +kernel
theorem dX12_check_58 : decode cX12_check 58 = .ok (.iaload, 1) := by decide +kernel
theorem dX12_check_59 : decode cX12_check 59 = .ok (.if_icmp .eq 5, 3) := by decide +kernel
theorem dX12_check_62 : decode cX12_check 62 = .ok (.iload_n 3, 1) := by decide +kernel
theorem dX12_check_63 : decode cX12_check 63 = .ok (.ireturn, 1) := by decide +kernel
theorem dX12_check_64 : decode cX12_check 64 = .ok (.iinc 3 1, 3) := by decide +kernel
theorem dX12_check_67 : decode cX12_check 67 = .ok (.goto (-29), 3) := by decide +kernel
theorem dX12_check_70 : decode cX12_check 70 = .ok (.iconst (-1), 1) := by decide +kernel
theorem dX12_check_71 : decode cX12_check 71 = .ok (.ireturn, 1) := by decide +kernel
set_option maxRecDepth 100000 in
set_option maxHeartbeats 4000000 in
theorem p_X12_check (l : Launch) (D : va_G) (cA : Nat → ClassId) (ad : Nat → Nat) (g0 : Nat → va_E) (a : Int32) (b : Int32)   (hSh : Shp ad cA g0) (hG : Rng g0) : CT l NN ad cA D yX12_check cX12_check 4 (some FieldType.int) (2, 46) [.ref (ad 129), .int a, .int b] g0 (fun v g' => ∃ (r : Int32), v = some (.int r) ∧ Shp ad cA g' ∧ Rng g' ∧ FR (fun i k => (i = 129 ∧ (k = 1))) g0 g') := by
  refine q_enterI (by decide) (Nat.le_of_ble_eq_true rfl) rfl (fun K H locs ls _ _ hM hW0 hR hC hE hl => ?_)
  have hl : lv_has ls 4 [(0, .ref (ad 129)), (1, .int a), (2, .int b)] := hl
  have hW : WS ad cA (fun i k => (i = 129 ∧ (k = 1))) g0 K g0 H locs := ⟨hW0, hSh, FR.rf⟩
  have := kc_0
  have := kc_1
  have := kc_m1
  have := kc_m2
  have := i_rng b
  refine q_aload_n hM dX12_check_0 (lv_at hl 0 rfl) ?_
  refine q_iload_n hM dX12_check_1 (lv_at hl 1 rfl) ?_
  refine q_callV (As := [.int a]) (rest := []) hM hW.1 hR hC myX12_isThat (kAW (v_6_2 (List.mem_of_getElem? (i := 9) rfl)) rfl) (rfl : vwCl[12]? = some (RX12, TX12, 86)) rfl lb_129.1 (shO hW.2.1 lb_129) (a_X12_isThat _ _ cA ad g0 a hW.2.1 hG) ⟨by decide, by decide⟩ rfl rfl hl.1 (Nat.le_of_ble_eq_true rfl) dX12_check_2 (fun v g7910 H locs hp hW1 => ?_)
  obtain ⟨r7909, rfl, hr7909, rfl⟩ := hp
  have hW : WS ad cA (fun i k => (i = 129 ∧ (k = 1))) g0 K g0 H locs := ⟨hW1, hW.2.1, hW.2.2⟩
  refine q_if_eq (tgt := 28) hM dX12_check_5 (by decide) (rfl : r7909.toInt = r7909.toInt) (fun h5 => ?_) (fun h5 => ?_)
  · refine q_bipush (v := ((-2) : Int32)) hM dX12_check_28 (by decide) ?_
    exact hE _ _ _ _ _ _ hW.1 ⟨_, rfl, hW.2.1, hG, hW.2.2⟩ dX12_check_30
  · refine q_iload_n hM dX12_check_8 (lv_at hl 2 rfl) ?_
    refine q_i2l hM dX12_check_9 ?_
    have := l_i2l b
    refine q_lconst (v := 0) hM dX12_check_10 (by decide) ?_
    have := kl_0
    refine q_ldc2 (v := 12) hM (kAW (v_6_3 (List.mem_of_getElem? (i := 2) rfl)) rfl) dX12_check_11 ?_
    have := kl_12
    refine q_callS (As := [.long b.toInt64, .long (0 : Int64), .long (12 : Int64)]) (rest := []) hM hW.1 hR hC myX12_lies (kAW (v_5_4 (List.mem_of_getElem? (i := 14) rfl)) rfl) (c_X12_lies _ _ cA ad g0 b.toInt64 (0 : Int64) (12 : Int64) hW.2.1) ⟨by decide, by decide⟩ rfl rfl hl.1 (Nat.le_of_ble_eq_true rfl) dX12_check_14 (fun v g7914 H locs hp hW1 => ?_)
    obtain ⟨r7913, rfl, hr7913, rfl⟩ := hp
    have hW : WS ad cA (fun i k => (i = 129 ∧ (k = 1))) g0 K g0 H locs := ⟨hW1, hW.2.1, hW.2.2⟩
    refine q_if_eq (tgt := 28) hM dX12_check_17 (by decide) (rfl : r7913.toInt = r7913.toInt) (fun h17 => ?_) (fun h17 => ?_)
    · refine q_bipush (v := ((-2) : Int32)) hM dX12_check_28 (by decide) ?_
      exact hE _ _ _ _ _ _ hW.1 ⟨_, rfl, hW.2.1, hG, hW.2.2⟩ dX12_check_30
    · refine q_iload_n hM dX12_check_20 (lv_at hl 2 rfl) ?_
      refine q_aload_n hM dX12_check_21 (lv_at hl 0 rfl) ?_
      refine w_getI hM hW FG_X12_166 lb_129 (by decide) (by decide) dX12_check_22 (fun x7917 fx7917 => ?_)
      have bx7917 := hG.f fx7917 rF_129_1 (by decide)
      refine q_icmp_le (tgt := 31) hM dX12_check_25 (by decide) (rfl : b.toInt = b.toInt) (rfl : x7917.toInt = x7917.toInt) (fun h25 => ?_) (fun h25 => ?_)
      · refine q_aload_n hM dX12_check_31 (lv_at hl 0 rfl) ?_
        refine q_iconst (v := (0 : Int32)) hM dX12_check_32 (by decide) ?_
        refine w_put hM hW FP_X12_166 lb_129 (by omega) (Or.inl ⟨_, rfl⟩) rfl rfl dX12_check_33 (fun g7919 H locs hW e1 e2 => ?_)
        have f7920 : fld g7919 129 1 = .int (0 : Int32) := e1
        have hG := hG.put e1 e2 rF_129_1 (by decide) (by have := kc_0; have := i_rng (0 : Int32); omega) (by have := kc_0; have := i_rng (0 : Int32); omega)
        refine q_iconst (v := (0 : Int32)) hM dX12_check_36 (by decide) ?_
        refine q_istore_n (lv9 := [(3, .int (0 : Int32)), (0, .ref (ad 129)), (1, .int a), (2, .int b)]) hM dX12_check_37 hl (by decide) rfl (fun ls hl => ?_)
        have L38 : ∀ (fu38 : Nat) (w38_3 : Int32) (g9 : Nat → va_E) (H : Heap) (locs : List Loc) (ls : Array Slot), (b.toInt - w38_3.toInt + 1).toNat < fu38 → (Rng g9) → (0 ≤ w38_3.toInt) → lv_has ls 4 [(0, .ref (ad 129)), (1, .int a), (2, .int b), (3, .int w38_3)] → WS ad cA (fun i k => (i = 129 ∧ (k = 1))) g0 K g9 H locs → XX K 0 0 H locs 38 ls [] := by
          intro fu38
          induction fu38 with
          | zero => intro w38_3 g9 H locs ls h0; omega
          | succ fu38 ih38 =>
            intro w38_3 g9 H locs ls hm38 i38_0 i38_1 hl hW
            have hG := i38_0
            have := i_rng b
            refine q_iload_n hM dX12_check_38 (lv_at hl 3 rfl) ?_
            refine q_iload_n hM dX12_check_39 (lv_at hl 2 rfl) ?_
            refine q_icmp_ge (tgt := 70) hM dX12_check_40 (by decide) (rfl : w38_3.toInt = w38_3.toInt) (rfl : b.toInt = b.toInt) (fun h40 => ?_) (fun h40 => ?_)
            · refine q_iconst (v := ((-1) : Int32)) hM dX12_check_70 (by decide) ?_
              exact hE _ _ _ _ _ _ hW.1 ⟨_, rfl, hW.2.1, hG, hW.2.2⟩ dX12_check_71
            · refine q_aload_n hM dX12_check_43 (lv_at hl 0 rfl) ?_
              refine q_iload_n hM dX12_check_44 (lv_at hl 3 rfl) ?_
              refine q_callV (As := [.int w38_3]) (rest := []) hM hW.1 hR hC myX12_byteAt (kAW (v_7_3 (List.mem_of_getElem? (i := 7) rfl)) rfl) (rfl : vwCl[12]? = some (RX12, TX12, 86)) rfl lb_129.1 (shO hW.2.1 lb_129) (a_X12_byteAt _ _ cA ad g9 w38_3 hW.2.1 hG (by  omega) (by  omega)) ⟨by decide, by decide⟩ rfl rfl hl.1 (Nat.le_of_ble_eq_true rfl) dX12_check_45 (fun v g7925 H locs hp hW1 => ?_)
              obtain ⟨r7924, rfl, hr7924, rfl⟩ := hp
              have hW : WS ad cA (fun i k => (i = 129 ∧ (k = 1))) g0 K g9 H locs := ⟨hW1, hW.2.1, hW.2.2⟩
              refine q_aload_n hM dX12_check_48 (lv_at hl 0 rfl) ?_
              refine w_get (v := .ref (ad 161)) hM hW FG_X12_109 lb_129 (rf_129_55 hW.2.1) dX12_check_49 ?_
              refine q_bipush (v := (12 : Int32)) hM dX12_check_52 (by decide) ?_
              refine q_iload_n hM dX12_check_54 (lv_at hl 1 rfl) ?_
              refine q_imul hM dX12_check_55 (fun z7926 hz7926 => ?_)
              first | have tz7926 := i_mulT hz7926 (kc_12 : (12 : Int32).toInt = 12) (rfl : a.toInt = a.toInt) (by omega) (by omega) | skip
              refine q_iload_n hM dX12_check_56 (lv_at hl 3 rfl) ?_
              refine q_iadd hM dX12_check_57 (fun z7927 hz7927 => ?_)
              first | have tz7927 := i_addT hz7927 (rfl : z7926.toInt = z7926.toInt) (rfl : w38_3.toInt = w38_3.toInt) (by omega) (by omega) | skip
              refine w_iald hM hW lb_161 (i_in (by omega) (by omega)) dX12_check_58 ?_
              refine q_top (fun y7928 hy7928 => ?_)
              refine q_icmp_eq (tgt := 64) hM dX12_check_59 (by decide) (rfl : r7924.toInt = r7924.toInt) (rfl : y7928.toInt = y7928.toInt) (fun h59 => ?_) (fun h59 => ?_)
              · refine q_iinc (lv9 := fun z7930 => [(3, .int z7930), (0, .ref (ad 129)), (1, .int a), (2, .int b)]) hM dX12_check_64 hl (kq := 3) rfl (by decide) (fun _ => rfl) (fun z7930 ls hz7930 hl => ?_)
                first | have tz7930 := i_addT hz7930 (rfl : w38_3.toInt = w38_3.toInt) (kc_1 : (Int32.ofInt 1).toInt = 1) (by omega) (by omega) | skip
                refine q_goto (tgt := 38) hM dX12_check_67 (by decide) ?_
                exact ih38 z7930 _ _ _ _ (by omega) hG (by omega) (lv_sub hl [1, 2, 3, 0] rfl) hW
              · refine q_iload_n hM dX12_check_62 (lv_at hl 3 rfl) ?_
                exact hE _ _ _ _ _ _ hW.1 ⟨_, rfl, hW.2.1, hG, hW.2.2⟩ dX12_check_63
        have := kc_0
        exact L38 _ (0 : Int32) _ _ _ _ (Nat.lt_succ_self _) hG (by omega) (lv_sub hl [1, 2, 3, 0] rfl) hW
      · refine q_bipush (v := ((-2) : Int32)) hM dX12_check_28 (by decide) ?_
        exact hE _ _ _ _ _ _ hW.1 ⟨_, rfl, hW.2.1, hG, hW.2.2⟩ dX12_check_30

theorem dX12_count_0 : decode cX12_count 0 = .ok (.aload_n 0, 1) := by decide +kernel
theorem dX12_count_1 : decode cX12_count 1 = .ok (.iload_n 1, 1) := by decide +kernel
theorem dX12_count_2 : decode cX12_count 2 = .ok (.bipush 20, 2) := by decide +kernel
theorem dX12_count_4 : decode cX12_count 4 = .ok (.isub, 1) := by decide +kernel
theorem dX12_count_5 : decode cX12_count 5 = .ok (.invokevirtual 452, 3) := by decide +kernel
theorem dX12_count_8 : decode cX12_count 8 = .ok (.ifCond .eq 13, 3) := by decide +kernel
theorem dX12_count_11 : decode cX12_count 11 = .ok (.aload_n 0, 1) := by decide +kernel
theorem dX12_count_12 : decode cX12_count 12 = .ok (.getfield 31, 3) := by decide +kernel
theorem dX12_count_15 : decode cX12_count 15 = .ok (.iload_n 1, 1) := by decide +kernel
theorem dX12_count_16 : decode cX12_count 16 = .ok (.bipush 20, 2) := by decide +kernel
theorem dX12_count_18 : decode cX12_count 18 = .ok (.isub, 1) := by decide +kernel
theorem dX12_count_19 : decode cX12_count 19 = .ok (.iaload, 1) := by decide +kernel
theorem dX12_count_20 : decode cX12_count 20 = .ok (.ireturn, 1) := by decide +kernel
theorem dX12_count_21 : decode cX12_count 21 = .ok (.iload_n 1, 1) := by decide +kernel
theorem dX12_count_22 : decode cX12_count 22 = .ok (.bipush 30, 2) := by decide +kernel
theorem dX12_count_24 : decode cX12_count 24 = .ok (.isub, 1) := by decide +kernel
theorem dX12_count_25 : decode cX12_count 25 = .ok (.i2l, 1) := by decide +kernel
theorem dX12_count_26 : decode cX12_count 26 = .ok (.lconst 1, 1) := by decide +kernel
theorem dX12_count_27 : decode cX12_count 27 = .ok (.ldc2_w 202, 3) := by decide +kernel
theorem dX12_count_30 : decode cX12_count 30 = .ok (.invokestatic 190, 3) := by decide +kernel
theorem dX12_count_33 : decode cX12_count 33 = .ok (.ifCond .eq 31, 3) := by decide +kernel
theorem dX12_count_36 : decode cX12_count 36 = .ok (.aload_n 0, 1) := by decide +kernel
theorem dX12_count_37 : decode cX12_count 37 = .ok (.getfield 40, 3) := by decide +kernel
theorem dX12_count_40 : decode cX12_count 40 = .ok (.iload_n 1, 1) := by decide +kernel
theorem dX12_count_41 : decode cX12_count 41 = .ok (.bipush 30, 2) := by decide +kernel
theorem dX12_count_43 : decode cX12_count 43 = .ok (.isub, 1) := by decide +kernel
theorem dX12_count_44 : decode cX12_count 44 = .ok (.iaload, 1) := by decide +kernel
theorem dX12_count_45 : decode cX12_count 45 = .ok (.iconst (-1), 1) := by decide +kernel
theorem dX12_count_46 : decode cX12_count 46 = .ok (.if_icmp .ne 8, 3) := by decide +kernel
theorem dX12_count_49 : decode cX12_count 49 = .ok (.bipush (-2), 2) := by decide +kernel
theorem dX12_count_51 : decode cX12_count 51 = .ok (.goto 12, 3) := by decide +kernel
theorem dX12_count_54 : decode cX12_count 54 = .ok (.aload_n 0, 1) := by decide +kernel
theorem dX12_count_55 : decode cX12_count 55 = .ok (.getfield 40, 3) := by decide +kernel
theorem dX12_count_58 : decode cX12_count 58 = .ok (.iload_n 1, 1) := by decide +kernel
theorem dX12_count_59 : decode cX12_count 59 = .ok (.bipush 30, 2) := by decide +kernel
theorem dX12_count_61 : decode cX12_count 61 = .ok (.isub, 1) := by decide +kernel
theorem dX12_count_62 : decode cX12_count 62 = .ok (.iaload, 1) := by decide +kernel
theorem dX12_count_63 : decode cX12_count 63 = .ok (.ireturn, 1) := by decide +kernel
theorem dX12_count_64 : decode cX12_count 64 = .ok (.aload_n 0, 1) := by decide +kernel
theorem dX12_count_65 : decode cX12_count 65 = .ok (.iload_n 1, 1) := by decide +kernel
theorem dX12_count_66 : decode cX12_count 66 = .ok (.bipush 40, 2) := by decide +kernel
theorem dX12_count_68 : decode cX12_count 68 = .ok (.isub, 1) := by decide +kernel
theorem dX12_count_69 : decode cX12_count 69 = .ok (.invokevirtual 198, 3) := by decide +kernel
theorem dX12_count_72 : decode cX12_count 72 = .ok (.ifCond .eq 13, 3) := by decide +kernel
theorem dX12_count_75 : decode cX12_count 75 = .ok (.aload_n 0, 1) := by decide +kernel
theorem dX12_count_76 : decode cX12_count 76 = .ok (.getfield 21, 3) := by decide +kernel
theorem dX12_count_79 : decode cX12_count 79 = .ok (.iload_n 1, 1) := by decide +kernel
theorem dX12_count_80 : decode cX12_count 80 = .ok (.bipush 40, 2) := by decide +kernel
theorem dX12_count_82 : decode cX12_count 82 = .ok (.isub, 1) := by decide +kernel
theorem dX12_count_83 : decode cX12_count 83 = .ok (.iaload, 1) := by decide +kernel
theorem dX12_count_84 : decode cX12_count 84 = .ok (.ireturn, 1) := by decide +kernel
theorem dX12_count_85 : decode cX12_count 85 = .ok (.iload_n 1, 1) := by decide +kernel
theorem dX12_count_86 : decode cX12_count 86 = .ok (.tableswitch 124 0 11 #[62, 67, 72, 77, 82, 87, 92, 97, 104, 109, 114, 119], 62) := by decide +kernel
theorem dX12_count_148 : decode cX12_count 148 = .ok (.aload_n 0, 1) := by decide +kernel
theorem dX12_count_149 : decode cX12_count 149 = .ok (.getfield 416, 3) := by decide +kernel
theorem dX12_count_152 : decode cX12_count 152 = .ok (.ireturn, 1) := by decide +kernel
theorem dX12_count_153 : decode cX12_count 153 = .ok (.aload_n 0, 1) := by decide +kernel
theorem dX12_count_154 : decode cX12_count 154 = .ok (.getfield 471, 3) := by decide +kernel
theorem dX12_count_157 : decode cX12_count 157 = .ok (.ireturn, 1) := by decide +kernel
theorem dX12_count_158 : decode cX12_count 158 = .ok (.aload_n 0, 1) := by decide +kernel
theorem dX12_count_159 : decode cX12_count 159 = .ok (.getfield 486, 3) := by decide +kernel
theorem dX12_count_162 : decode cX12_count 162 = .ok (.ireturn, 1) := by decide +kernel
theorem dX12_count_163 : decode cX12_count 163 = .ok (.aload_n 0, 1) := by decide +kernel
theorem dX12_count_164 : decode cX12_count 164 = .ok (.invokevirtual 222, 3) := by decide +kernel
theorem dX12_count_167 : decode cX12_count 167 = .ok (.ireturn, 1) := by decide +kernel
theorem dX12_count_168 : decode cX12_count 168 = .ok (.aload_n 0, 1) := by decide +kernel
theorem dX12_count_169 : decode cX12_count 169 = .ok (.invokevirtual 606, 3) := by decide +kernel
theorem dX12_count_172 : decode cX12_count 172 = .ok (.ireturn, 1) := by decide +kernel
theorem dX12_count_173 : decode cX12_count 173 = .ok (.aload_n 0, 1) := by decide +kernel
theorem dX12_count_174 : decode cX12_count 174 = .ok (.invokevirtual 609, 3) := by decide +kernel
theorem dX12_count_177 : decode cX12_count 177 = .ok (.ireturn, 1) := by decide +kernel
theorem dX12_count_178 : decode cX12_count 178 = .ok (.aload_n 0, 1) := by decide +kernel
theorem dX12_count_179 : decode cX12_count 179 = .ok (.invokevirtual 577, 3) := by decide +kernel
theorem dX12_count_182 : decode cX12_count 182 = .ok (.ireturn, 1) := by decide +kernel
theorem dX12_count_183 : decode cX12_count 183 = .ok (.aload_n 0, 1) := by decide +kernel
theorem dX12_count_184 : decode cX12_count 184 = .ok (.getfield 70, 3) := by decide +kernel
theorem dX12_count_187 : decode cX12_count 187 = .ok (.iconst 0, 1) := by decide +kernel
theorem dX12_count_188 : decode cX12_count 188 = .ok (.iaload, 1) := by decide +kernel
theorem dX12_count_189 : decode cX12_count 189 = .ok (.ireturn, 1) := by decide +kernel
theorem dX12_count_190 : decode cX12_count 190 = .ok (.aload_n 0, 1) := by decide +kernel
theorem dX12_count_191 : decode cX12_count 191 = .ok (.getfield 166, 3) := by decide +kernel
theorem dX12_count_194 : decode cX12_count 194 = .ok (.ireturn, 1) := by decide +kernel
theorem dX12_count_195 : decode cX12_count 195 = .ok (.aload_n 0, 1) := by decide +kernel
theorem dX12_count_196 : decode cX12_count 196 = .ok (.getfield 13, 3) := by decide +kernel
theorem dX12_count_199 : decode cX12_count 199 = .ok (.ireturn, 1) := by decide +kernel
theorem dX12_count_200 : decode cX12_count 200 = .ok (.aload_n 0, 1) := by decide +kernel
theorem dX12_count_201 : decode cX12_count 201 = .ok (.getfield 428, 3) := by decide +kernel
theorem dX12_count_204 : decode cX12_count 204 = .ok (.ireturn, 1) := by decide +kernel
theorem dX12_count_205 : decode cX12_count 205 = .ok (.aload_n 0, 1) := by decide +kernel
theorem dX12_count_206 : decode cX12_count 206 = .ok (.getfield 431, 3) := by decide +kernel
theorem dX12_count_209 : decode cX12_count 209 = .ok (.ireturn, 1) := by decide +kernel
theorem dX12_count_210 : decode cX12_count 210 = .ok (.iconst (-1), 1) := by decide +kernel
theorem dX12_count_211 : decode cX12_count 211 = .ok (.ireturn, 1) := by decide +kernel
theorem myX12_toldPupils : MI yX12_toldPupils cX12_toldPupils 3 (some FieldType.int) 0 := ⟨kAW (v_7_6 (List.mem_of_getElem? (i := 10) rfl)) rfl, kAW (v_0_0 (List.mem_of_getElem? (i := 13) rfl)) rfl, kAW (v_7_6 (List.mem_of_getElem? (i := 9) rfl)) rfl, kAW (tp_t6 (List.mem_of_getElem? (i := 12) rfl)) rfl, by decide, by decide, by decide +kernel⟩
theorem myX12_toldArts : MI yX12_toldArts cX12_toldArts 3 (some FieldType.int) 0 := ⟨kAW (v_7_6 (List.mem_of_getElem? (i := 14) rfl)) rfl, kAW (v_0_0 (List.mem_of_getElem? (i := 13) rfl)) rfl, kAW (v_7_6 (List.mem_of_getElem? (i := 13) rfl)) rfl, kAW (tp_t6 (List.mem_of_getElem? (i := 13) rfl)) rfl, by decide, by decide, by decide +kernel⟩
set_option maxRecDepth 100000 in
set_option maxHeartbeats 4000000 in
theorem p_X12_count (l : Launch) (D : va_G) (cA : Nat → ClassId) (ad : Nat → Nat) (g0 : Nat → va_E) (a : Int32)   (hSh : Shp ad cA g0) (hG : Rng g0) : CT l NN ad cA D yX12_count cX12_count 2 (some FieldType.int) (2, 46) [.ref (ad 129), .int a] g0 (fun v g' => ∃ (r : Int32), v = some (.int r) ∧ Shp ad cA g' ∧ Rng g' ∧ FR (fun i k => False) g0 g') := by
  refine q_enterI (by decide) (Nat.le_of_ble_eq_true rfl) rfl (fun K H locs ls _ _ hM hW0 hR hC hE hl => ?_)
  have hl : lv_has ls 2 [(0, .ref (ad 129)), (1, .int a)] := hl
  have hW : WS ad cA (fun i k => False) g0 K g0 H locs := ⟨hW0, hSh, FR.rf⟩
  have := kc_0
  have := kc_1
  have := kc_m1
  have := kc_m2
  refine q_aload_n hM dX12_count_0 (lv_at hl 0 rfl) ?_
  refine q_iload_n hM dX12_count_1 (lv_at hl 1 rfl) ?_
  refine q_bipush (v := (20 : Int32)) hM dX12_count_2 (by decide) ?_
  refine q_isub hM dX12_count_4 (fun z7933 hz7933 => ?_)
  first | have tz7933 := i_subT hz7933 (rfl : a.toInt = a.toInt) (kc_20 : (20 : Int32).toInt = 20) (by omega) (by omega) | skip
  refine q_callV (As := [.int z7933]) (rest := []) hM hW.1 hR hC myX12_isThere (kAW (v_6_3 (List.mem_of_getElem? (i := 7) rfl)) rfl) (rfl : vwCl[12]? = some (RX12, TX12, 86)) rfl lb_129.1 (shO hW.2.1 lb_129) (a_X12_isThere _ _ cA ad g0 z7933 hW.2.1 hG) ⟨by decide, by decide⟩ rfl rfl hl.1 (Nat.le_of_ble_eq_true rfl) dX12_count_5 (fun v g7935 H locs hp hW1 => ?_)
  obtain ⟨r7934, rfl, hr7934, rfl⟩ := hp
  have hW : WS ad cA (fun i k => False) g0 K g0 H locs := ⟨hW1, hW.2.1, hW.2.2⟩
  refine q_if_eq (tgt := 21) hM dX12_count_8 (by decide) (rfl : r7934.toInt = r7934.toInt) (fun h8 => ?_) (fun h8 => ?_)
  · refine q_iload_n hM dX12_count_21 (lv_at hl 1 rfl) ?_
    refine q_bipush (v := (30 : Int32)) hM dX12_count_22 (by decide) ?_
    refine q_isub hM dX12_count_24 (fun z7937 hz7937 => ?_)
    first | have tz7937 := i_subT hz7937 (rfl : a.toInt = a.toInt) (kc_30 : (30 : Int32).toInt = 30) (by omega) (by omega) | skip
    refine q_i2l hM dX12_count_25 ?_
    have := l_i2l z7937
    refine q_lconst (v := 1) hM dX12_count_26 (by decide) ?_
    have := kl_1
    refine q_ldc2 (v := 9) hM (kAW (v_5_5 (List.mem_of_getElem? (i := 10) rfl)) rfl) dX12_count_27 ?_
    have := kl_9
    refine q_callS (As := [.long z7937.toInt64, .long (1 : Int64), .long (9 : Int64)]) (rest := []) hM hW.1 hR hC myX12_lies (kAW (v_5_4 (List.mem_of_getElem? (i := 14) rfl)) rfl) (c_X12_lies _ _ cA ad g0 z7937.toInt64 (1 : Int64) (9 : Int64) hW.2.1) ⟨by decide, by decide⟩ rfl rfl hl.1 (Nat.le_of_ble_eq_true rfl) dX12_count_30 (fun v g7939 H locs hp hW1 => ?_)
    obtain ⟨r7938, rfl, hr7938, rfl⟩ := hp
    have hW : WS ad cA (fun i k => False) g0 K g0 H locs := ⟨hW1, hW.2.1, hW.2.2⟩
    refine q_if_eq (tgt := 64) hM dX12_count_33 (by decide) (rfl : r7938.toInt = r7938.toInt) (fun h33 => ?_) (fun h33 => ?_)
    · refine q_aload_n hM dX12_count_64 (lv_at hl 0 rfl) ?_
      refine q_iload_n hM dX12_count_65 (lv_at hl 1 rfl) ?_
      refine q_bipush (v := (40 : Int32)) hM dX12_count_66 (by decide) ?_
      refine q_isub hM dX12_count_68 (fun z7941 hz7941 => ?_)
      first | have tz7941 := i_subT hz7941 (rfl : a.toInt = a.toInt) (kc_40 : (40 : Int32).toInt = 40) (by omega) (by omega) | skip
      refine q_callV (As := [.int z7941]) (rest := []) hM hW.1 hR hC myX12_isTold (kAW (v_5_5 (List.mem_of_getElem? (i := 6) rfl)) rfl) (rfl : vwCl[12]? = some (RX12, TX12, 86)) rfl lb_129.1 (shO hW.2.1 lb_129) (a_X12_isTold _ _ cA ad g0 z7941 hW.2.1 hG) ⟨by decide, by decide⟩ rfl rfl hl.1 (Nat.le_of_ble_eq_true rfl) dX12_count_69 (fun v g7943 H locs hp hW1 => ?_)
      obtain ⟨r7942, rfl, hr7942, rfl⟩ := hp
      have hW : WS ad cA (fun i k => False) g0 K g0 H locs := ⟨hW1, hW.2.1, hW.2.2⟩
      refine q_if_eq (tgt := 85) hM dX12_count_72 (by decide) (rfl : r7942.toInt = r7942.toInt) (fun h72 => ?_) (fun h72 => ?_)
      · refine q_iload_n hM dX12_count_85 (lv_at hl 1 rfl) ?_
        rcases (show a.toInt < 0 ∨ 11 < a.toInt ∨ a.toInt = 0 ∨ a.toInt = 1 ∨ a.toInt = 2 ∨ a.toInt = 3 ∨ a.toInt = 4 ∨ a.toInt = 5 ∨ a.toInt = 6 ∨ a.toInt = 7 ∨ a.toInt = 8 ∨ a.toInt = 9 ∨ a.toInt = 10 ∨ a.toInt = 11 from by omega) with h86 | h86 | h86 | h86 | h86 | h86 | h86 | h86 | h86 | h86 | h86 | h86 | h86 | h86
        · refine q_tableOut (tgt := 210) hM dX12_count_86 rfl (by omega) (by decide) ?_
          refine q_iconst (v := ((-1) : Int32)) hM dX12_count_210 (by decide) ?_
          exact hE _ _ _ _ _ _ hW.1 ⟨_, rfl, hW.2.1, hG, hW.2.2⟩ dX12_count_211
        · refine q_tableOut (tgt := 210) hM dX12_count_86 rfl (by omega) (by decide) ?_
          refine q_iconst (v := ((-1) : Int32)) hM dX12_count_210 (by decide) ?_
          exact hE _ _ _ _ _ _ hW.1 ⟨_, rfl, hW.2.1, hG, hW.2.2⟩ dX12_count_211
        · refine q_tableIn (tgt := 148) hM dX12_count_86 ((rfl : a.toInt = _).trans h86) (by decide) (by decide) rfl (by decide) ?_
          refine q_aload_n hM dX12_count_148 (lv_at hl 0 rfl) ?_
          refine w_getI hM hW FG_X12_416 lb_129 (by decide) (by decide) dX12_count_149 (fun x7948 fx7948 => ?_)
          exact hE _ _ _ _ _ _ hW.1 ⟨_, rfl, hW.2.1, hG, hW.2.2⟩ dX12_count_152
        · refine q_tableIn (tgt := 153) hM dX12_count_86 ((rfl : a.toInt = _).trans h86) (by decide) (by decide) rfl (by decide) ?_
          refine q_aload_n hM dX12_count_153 (lv_at hl 0 rfl) ?_
          refine w_getI hM hW FG_X12_471 lb_129 (by decide) (by decide) dX12_count_154 (fun x7950 fx7950 => ?_)
          exact hE _ _ _ _ _ _ hW.1 ⟨_, rfl, hW.2.1, hG, hW.2.2⟩ dX12_count_157
        · refine q_tableIn (tgt := 158) hM dX12_count_86 ((rfl : a.toInt = _).trans h86) (by decide) (by decide) rfl (by decide) ?_
          refine q_aload_n hM dX12_count_158 (lv_at hl 0 rfl) ?_
          refine w_getI hM hW FG_X12_486 lb_129 (by decide) (by decide) dX12_count_159 (fun x7952 fx7952 => ?_)
          exact hE _ _ _ _ _ _ hW.1 ⟨_, rfl, hW.2.1, hG, hW.2.2⟩ dX12_count_162
        · refine q_tableIn (tgt := 163) hM dX12_count_86 ((rfl : a.toInt = _).trans h86) (by decide) (by decide) rfl (by decide) ?_
          refine q_aload_n hM dX12_count_163 (lv_at hl 0 rfl) ?_
          refine q_callV (As := []) (rest := []) hM hW.1 hR hC myX12_toldFacts (kAW (v_5_7 (List.mem_of_getElem? (i := 13) rfl)) rfl) (rfl : vwCl[12]? = some (RX12, TX12, 86)) rfl lb_129.1 (shO hW.2.1 lb_129) (a_X12_toldFacts _ _ cA ad g0  hW.2.1 hG) ⟨by decide, by decide⟩ rfl rfl hl.1 (Nat.le_of_ble_eq_true rfl) dX12_count_164 (fun v g7955 H locs hp hW1 => ?_)
          obtain ⟨r7954, rfl, hr7954, rfl⟩ := hp
          have hW : WS ad cA (fun i k => False) g0 K g0 H locs := ⟨hW1, hW.2.1, hW.2.2⟩
          exact hE _ _ _ _ _ _ hW.1 ⟨_, rfl, hW.2.1, hG, hW.2.2⟩ dX12_count_167
        · refine q_tableIn (tgt := 168) hM dX12_count_86 ((rfl : a.toInt = _).trans h86) (by decide) (by decide) rfl (by decide) ?_
          refine q_aload_n hM dX12_count_168 (lv_at hl 0 rfl) ?_
          refine q_callV (As := []) (rest := []) hM hW.1 hR hC myX12_toldPupils (kAW (v_7_6 (List.mem_of_getElem? (i := 7) rfl)) rfl) (rfl : vwCl[12]? = some (RX12, TX12, 86)) rfl lb_129.1 (shO hW.2.1 lb_129) (a_X12_toldPupils _ _ cA ad g0  hW.2.1 hG) ⟨by decide, by decide⟩ rfl rfl hl.1 (Nat.le_of_ble_eq_true rfl) dX12_count_169 (fun v g7958 H locs hp hW1 => ?_)
          obtain ⟨r7957, rfl, hr7957, rfl⟩ := hp
          have hW : WS ad cA (fun i k => False) g0 K g0 H locs := ⟨hW1, hW.2.1, hW.2.2⟩
          exact hE _ _ _ _ _ _ hW.1 ⟨_, rfl, hW.2.1, hG, hW.2.2⟩ dX12_count_172
        · refine q_tableIn (tgt := 173) hM dX12_count_86 ((rfl : a.toInt = _).trans h86) (by decide) (by decide) rfl (by decide) ?_
          refine q_aload_n hM dX12_count_173 (lv_at hl 0 rfl) ?_
          refine q_callV (As := []) (rest := []) hM hW.1 hR hC myX12_toldArts (kAW (v_7_6 (List.mem_of_getElem? (i := 11) rfl)) rfl) (rfl : vwCl[12]? = some (RX12, TX12, 86)) rfl lb_129.1 (shO hW.2.1 lb_129) (a_X12_toldArts _ _ cA ad g0  hW.2.1 hG) ⟨by decide, by decide⟩ rfl rfl hl.1 (Nat.le_of_ble_eq_true rfl) dX12_count_174 (fun v g7961 H locs hp hW1 => ?_)
          obtain ⟨r7960, rfl, hr7960, rfl⟩ := hp
          have hW : WS ad cA (fun i k => False) g0 K g0 H locs := ⟨hW1, hW.2.1, hW.2.2⟩
          exact hE _ _ _ _ _ _ hW.1 ⟨_, rfl, hW.2.1, hG, hW.2.2⟩ dX12_count_177
        · refine q_tableIn (tgt := 178) hM dX12_count_86 ((rfl : a.toInt = _).trans h86) (by decide) (by decide) rfl (by decide) ?_
          refine q_aload_n hM dX12_count_178 (lv_at hl 0 rfl) ?_
          refine q_callV (As := []) (rest := []) hM hW.1 hR hC myX12_toldMasters (kAW (v_7_2 (List.mem_of_getElem? (i := 10) rfl)) rfl) (rfl : vwCl[12]? = some (RX12, TX12, 86)) rfl lb_129.1 (shO hW.2.1 lb_129) (a_X12_toldMasters _ _ cA ad g0  hW.2.1 hG) ⟨by decide, by decide⟩ rfl rfl hl.1 (Nat.le_of_ble_eq_true rfl) dX12_count_179 (fun v g7964 H locs hp hW1 => ?_)
          obtain ⟨r7963, rfl, hr7963, rfl⟩ := hp
          have hW : WS ad cA (fun i k => False) g0 K g0 H locs := ⟨hW1, hW.2.1, hW.2.2⟩
          exact hE _ _ _ _ _ _ hW.1 ⟨_, rfl, hW.2.1, hG, hW.2.2⟩ dX12_count_182
        · refine q_tableIn (tgt := 183) hM dX12_count_86 ((rfl : a.toInt = _).trans h86) (by decide) (by decide) rfl (by decide) ?_
          refine q_aload_n hM dX12_count_183 (lv_at hl 0 rfl) ?_
          refine w_get (v := .ref (ad 148)) hM hW FG_X12_70 lb_129 (rf_129_30 hW.2.1) dX12_count_184 ?_
          refine q_iconst (v := (0 : Int32)) hM dX12_count_187 (by decide) ?_
          refine w_iald hM hW lb_148 (i_in (by rw [kc_0]; decide) (by rw [kc_0]; decide)) dX12_count_188 ?_
          refine q_top (fun y7966 hy7966 => ?_)
          have by7966 := hG.a hy7966 rA_148
          exact hE _ _ _ _ _ _ hW.1 ⟨_, rfl, hW.2.1, hG, hW.2.2⟩ dX12_count_189
        · refine q_tableIn (tgt := 190) hM dX12_count_86 ((rfl : a.toInt = _).trans h86) (by decide) (by decide) rfl (by decide) ?_
          refine q_aload_n hM dX12_count_190 (lv_at hl 0 rfl) ?_
          refine w_getI hM hW FG_X12_166 lb_129 (by decide) (by decide) dX12_count_191 (fun x7968 fx7968 => ?_)
          have bx7968 := hG.f fx7968 rF_129_1 (by decide)
          exact hE _ _ _ _ _ _ hW.1 ⟨_, rfl, hW.2.1, hG, hW.2.2⟩ dX12_count_194
        · refine q_tableIn (tgt := 195) hM dX12_count_86 ((rfl : a.toInt = _).trans h86) (by decide) (by decide) rfl (by decide) ?_
          refine q_aload_n hM dX12_count_195 (lv_at hl 0 rfl) ?_
          refine w_getI hM hW FG_X12_13 lb_129 (by decide) (by decide) dX12_count_196 (fun x7970 fx7970 => ?_)
          exact hE _ _ _ _ _ _ hW.1 ⟨_, rfl, hW.2.1, hG, hW.2.2⟩ dX12_count_199
        · refine q_tableIn (tgt := 200) hM dX12_count_86 ((rfl : a.toInt = _).trans h86) (by decide) (by decide) rfl (by decide) ?_
          refine q_aload_n hM dX12_count_200 (lv_at hl 0 rfl) ?_
          refine w_getI hM hW FG_X12_428 lb_129 (by decide) (by decide) dX12_count_201 (fun x7972 fx7972 => ?_)
          exact hE _ _ _ _ _ _ hW.1 ⟨_, rfl, hW.2.1, hG, hW.2.2⟩ dX12_count_204
        · refine q_tableIn (tgt := 205) hM dX12_count_86 ((rfl : a.toInt = _).trans h86) (by decide) (by decide) rfl (by decide) ?_
          refine q_aload_n hM dX12_count_205 (lv_at hl 0 rfl) ?_
          refine w_getI hM hW FG_X12_431 lb_129 (by decide) (by decide) dX12_count_206 (fun x7974 fx7974 => ?_)
          exact hE _ _ _ _ _ _ hW.1 ⟨_, rfl, hW.2.1, hG, hW.2.2⟩ dX12_count_209
      · refine q_aload_n hM dX12_count_75 (lv_at hl 0 rfl) ?_
        refine w_get (v := .ref (ad 132)) hM hW FG_X12_21 lb_129 (rf_129_11 hW.2.1) dX12_count_76 ?_
        refine q_iload_n hM dX12_count_79 (lv_at hl 1 rfl) ?_
        refine q_bipush (v := (40 : Int32)) hM dX12_count_80 (by decide) ?_
        refine q_isub hM dX12_count_82 (fun z7976 hz7976 => ?_)
        first | have tz7976 := i_subT hz7976 (rfl : a.toInt = a.toInt) (kc_40 : (40 : Int32).toInt = 40) (by omega) (by omega) | skip
        have ezz7976 : z7976.toInt = z7941.toInt := by rw [← hz7976, ← hz7941]
        refine w_iald hM hW lb_132 (i_in (by omega) (by omega)) dX12_count_83 ?_
        refine q_top (fun y7977 hy7977 => ?_)
        exact hE _ _ _ _ _ _ hW.1 ⟨_, rfl, hW.2.1, hG, hW.2.2⟩ dX12_count_84
    · refine q_aload_n hM dX12_count_36 (lv_at hl 0 rfl) ?_
      refine w_get (v := .ref (ad 138)) hM hW FG_X12_40 lb_129 (rf_129_17 hW.2.1) dX12_count_37 ?_
      refine q_iload_n hM dX12_count_40 (lv_at hl 1 rfl) ?_
      refine q_bipush (v := (30 : Int32)) hM dX12_count_41 (by decide) ?_
      refine q_isub hM dX12_count_43 (fun z7979 hz7979 => ?_)
      first | have tz7979 := i_subT hz7979 (rfl : a.toInt = a.toInt) (kc_30 : (30 : Int32).toInt = 30) (by omega) (by omega) | skip
      have ezz7979 : z7979.toInt = z7937.toInt := by rw [← hz7979, ← hz7937]
      refine w_iald hM hW lb_138 (i_in (by omega) (by omega)) dX12_count_44 ?_
      refine q_top (fun y7980 hy7980 => ?_)
      refine q_iconst (v := ((-1) : Int32)) hM dX12_count_45 (by decide) ?_
      refine q_icmp_ne (tgt := 54) hM dX12_count_46 (by decide) (rfl : y7980.toInt = y7980.toInt) (kc_m1 : ((-1) : Int32).toInt = (-1)) (fun h46 => ?_) (fun h46 => ?_)
      · refine q_aload_n hM dX12_count_54 (lv_at hl 0 rfl) ?_
        refine w_get (v := .ref (ad 138)) hM hW FG_X12_40 lb_129 (rf_129_17 hW.2.1) dX12_count_55 ?_
        refine q_iload_n hM dX12_count_58 (lv_at hl 1 rfl) ?_
        refine q_bipush (v := (30 : Int32)) hM dX12_count_59 (by decide) ?_
        refine q_isub hM dX12_count_61 (fun z7982 hz7982 => ?_)
        first | have tz7982 := i_subT hz7982 (rfl : a.toInt = a.toInt) (kc_30 : (30 : Int32).toInt = 30) (by omega) (by omega) | skip
        have ezz7982 : z7982.toInt = z7937.toInt := by rw [← hz7982, ← hz7937]
        refine w_iald hM hW lb_138 (i_in (by omega) (by omega)) dX12_count_62 ?_
        refine q_top (fun y7983 hy7983 => ?_)
        exact hE _ _ _ _ _ _ hW.1 ⟨_, rfl, hW.2.1, hG, hW.2.2⟩ dX12_count_63
      · refine q_bipush (v := ((-2) : Int32)) hM dX12_count_49 (by decide) ?_
        refine q_goto (tgt := 63) hM dX12_count_51 (by decide) ?_
        exact hE _ _ _ _ _ _ hW.1 ⟨_, rfl, hW.2.1, hG, hW.2.2⟩ dX12_count_63
  · refine q_aload_n hM dX12_count_11 (lv_at hl 0 rfl) ?_
    refine w_get (v := .ref (ad 135)) hM hW FG_X12_31 lb_129 (rf_129_14 hW.2.1) dX12_count_12 ?_
    refine q_iload_n hM dX12_count_15 (lv_at hl 1 rfl) ?_
    refine q_bipush (v := (20 : Int32)) hM dX12_count_16 (by decide) ?_
    refine q_isub hM dX12_count_18 (fun z7986 hz7986 => ?_)
    first | have tz7986 := i_subT hz7986 (rfl : a.toInt = a.toInt) (kc_20 : (20 : Int32).toInt = 20) (by omega) (by omega) | skip
    have ezz7986 : z7986.toInt = z7933.toInt := by rw [← hz7986, ← hz7933]
    refine w_iald hM hW lb_135 (i_in (by omega) (by omega)) dX12_count_19 ?_
    refine q_top (fun y7987 hy7987 => ?_)
    have by7987 := hG.a hy7987 rA_135
    exact hE _ _ _ _ _ _ hW.1 ⟨_, rfl, hW.2.1, hG, hW.2.2⟩ dX12_count_20
