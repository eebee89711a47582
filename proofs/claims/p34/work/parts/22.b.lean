theorem dX12_stepTold_0 : decode cX12_stepTold 0 = .ok (.aload_n 0, 1) := by decide +kernel
theorem dX12_stepTold_1 : decode cX12_stepTold 1 = .ok (.getfield 173, 3) := by decide +kernel
theorem dX12_stepTold_4 : decode cX12_stepTold 4 = .ok (.istore_n 1, 1) := by decide +kernel
theorem dX12_stepTold_5 : decode cX12_stepTold 5 = .ok (.aload_n 0, 1) := by decide +kernel
theorem dX12_stepTold_6 : decode cX12_stepTold 6 = .ok (.invokevirtual 182, 3) := by decide +kernel
theorem dX12_stepTold_9 : decode cX12_stepTold 9 = .ok (.bipush 41, 2) := by decide +kernel
theorem dX12_stepTold_11 : decode cX12_stepTold 11 = .ok (.if_icmp .ne 69, 3) := by decide +kernel
theorem dX12_stepTold_14 : decode cX12_stepTold 14 = .ok (.aload_n 0, 1) := by decide +kernel
theorem dX12_stepTold_15 : decode cX12_stepTold 15 = .ok (.getfield 251, 3) := by decide +kernel
theorem dX12_stepTold_18 : decode cX12_stepTold 18 = .ok (.ifCond .le 62, 3) := by decide +kernel
theorem dX12_stepTold_21 : decode cX12_stepTold 21 = .ok (.aload_n 0, 1) := by decide +kernel
theorem dX12_stepTold_22 : decode cX12_stepTold 22 = .ok (.getfield 254, 3) := by decide +kernel
theorem dX12_stepTold_25 : decode cX12_stepTold 25 = .ok (.ifCond .eq 55, 3) := by decide +kernel
theorem dX12_stepTold_28 : decode cX12_stepTold 28 = .ok (.aload_n 0, 1) := by decide +kernel
theorem dX12_stepTold_29 : decode cX12_stepTold 29 = .ok (.dup, 1) := by decide +kernel
theorem dX12_stepTold_30 : decode cX12_stepTold 30 = .ok (.getfield 251, 3) := by decide +kernel
theorem dX12_stepTold_33 : decode cX12_stepTold 33 = .ok (.iconst 1, 1) := by decide +kernel
theorem dX12_stepTold_34 : decode cX12_stepTold 34 = .ok (.isub, 1) := by decide +kernel
theorem dX12_stepTold_35 : decode cX12_stepTold 35 = .ok (.putfield 251, 3) := by decide +kernel
theorem dX12_stepTold_38 : decode cX12_stepTold 38 = .ok (.aload_n 0, 1) := by decide +kernel
theorem dX12_stepTold_39 : decode cX12_stepTold 39 = .ok (.dup, 1) := by decide +kernel
theorem dX12_stepTold_40 : decode cX12_stepTold 40 = .ok (.getfield 173, 3) := by decide +kernel
theorem dX12_stepTold_43 : decode cX12_stepTold 43 = .ok (.iconst 1, 1) := by decide +kernel
theorem dX12_stepTold_44 : decode cX12_stepTold 44 = .ok (.iadd, 1) := by decide +kernel
theorem dX12_stepTold_45 : decode cX12_stepTold 45 = .ok (.putfield 173, 3) := by decide +kernel
theorem dX12_stepTold_48 : decode cX12_stepTold 48 = .ok (.aload_n 0, 1) := by decide +kernel
theorem dX12_stepTold_49 : decode cX12_stepTold 49 = .ok (.aload_n 0, 1) := by decide +kernel
theorem dX12_stepTold_50 : decode cX12_stepTold 50 = .ok (.getfield 43, 3) := by decide +kernel
theorem dX12_stepTold_53 : decode cX12_stepTold 53 = .ok (.aload_n 0, 1) := by decide +kernel
theorem dX12_stepTold_54 : decode cX12_stepTold 54 = .ok (.getfield 251, 3) := by decide +kernel
theorem dX12_stepTold_57 : decode cX12_stepTold 57 = .ok (.iaload, 1) := by decide +kernel
theorem dX12_stepTold_58 : decode cX12_stepTold 58 = .ok (.aload_n 0, 1) := by decide +kernel
theorem dX12_stepTold_59 : decode cX12_stepTold 59 = .ok (.getfield 46, 3) := by decide +kernel
theorem dX12_stepTold_62 : decode cX12_stepTold 62 = .ok (.aload_n 0, 1) := by decide +kernel
theorem dX12_stepTold_63 : decode cX12_stepTold 63 = .ok (.getfield 251, 3) := by decide +kernel
theorem dX12_stepTold_66 : decode cX12_stepTold 66 = .ok (.iaload, 1) := by decide +kernel
theorem dX12_stepTold_67 : decode cX12_stepTold 67 = .ok (.aload_n 0, 1) := by decide +kernel
theorem dX12_stepTold_68 : decode cX12_stepTold 68 = .ok (.getfield 49, 3) := by decide +kernel
theorem dX12_stepTold_71 : decode cX12_stepTold 71 = .ok (.aload_n 0, 1) := by decide +kernel
theorem dX12_stepTold_72 : decode cX12_stepTold 72 = .ok (.getfield 251, 3) := by decide +kernel
theorem dX12_stepTold_75 : decode cX12_stepTold 75 = .ok (.iaload, 1) := by decide +kernel
theorem dX12_stepTold_76 : decode cX12_stepTold 76 = .ok (.invokevirtual 258, 3) := by decide +kernel
theorem dX12_stepTold_79 : decode cX12_stepTold 79 = .ok (.return_, 1) := by decide +kernel
theorem dX12_stepTold_80 : decode cX12_stepTold 80 = .ok (.aload_n 0, 1) := by decide +kernel
theorem dX12_stepTold_81 : decode cX12_stepTold 81 = .ok (.invokevirtual 262, 3) := by decide +kernel
theorem dX12_stepTold_84 : decode cX12_stepTold 84 = .ok (.istore_n 2, 1) := by decide +kernel
theorem dX12_stepTold_85 : decode cX12_stepTold 85 = .ok (.aload_n 0, 1) := by decide +kernel
theorem dX12_stepTold_86 : decode cX12_stepTold 86 = .ok (.invokevirtual 182, 3) := by decide +kernel
theorem dX12_stepTold_89 : decode cX12_stepTold 89 = .ok (.bipush 40, 2) := by decide +kernel
theorem dX12_stepTold_91 : decode cX12_stepTold 91 = .ok (.if_icmp .ne 87, 3) := by decide +kernel
theorem dX12_stepTold_94 : decode cX12_stepTold 94 = .ok (.aload_n 0, 1) := by decide +kernel
theorem dX12_stepTold_95 : decode cX12_stepTold 95 = .ok (.getfield 251, 3) := by decide +kernel
theorem dX12_stepTold_98 : decode cX12_stepTold 98 = .ok (.iconst 2, 1) := by decide +kernel
theorem dX12_stepTold_99 : decode cX12_stepTold 99 = .ok (.if_icmp .ne 12, 3) := by decide +kernel
theorem dX12_stepTold_102 : decode cX12_stepTold 102 = .ok (.aload_n 0, 1) := by decide +kernel
theorem dX12_stepTold_103 : decode cX12_stepTold 103 = .ok (.iconst 5, 1) := by decide +kernel
theorem dX12_stepTold_104 : decode cX12_stepTold 104 = .ok (.aload_n 0, 1) := by decide +kernel
theorem dX12_stepTold_105 : decode cX12_stepTold 105 = .ok (.getfield 173, 3) := by decide +kernel
theorem dX12_stepTold_108 : decode cX12_stepTold 108 = .ok (.invokevirtual 230, 3) := by decide +kernel
theorem dX12_stepTold_111 : decode cX12_stepTold 111 = .ok (.aload_n 0, 1) := by decide +kernel
theorem dX12_stepTold_112 : decode cX12_stepTold 112 = .ok (.invokevirtual 234, 3) := by decide +kernel
theorem dX12_stepTold_115 : decode cX12_stepTold 115 = .ok (.ifCond .ne 4, 3) := by decide +kernel
theorem dX12_stepTold_118 : decode cX12_stepTold 118 = .ok (.return_, 1) := by decide +kernel
theorem dX12_stepTold_119 : decode cX12_stepTold 119 = .ok (.aload_n 0, 1) := by decide +kernel
theorem dX12_stepTold_120 : decode cX12_stepTold 120 = .ok (.getfield 43, 3) := by decide +kernel
theorem dX12_stepTold_123 : decode cX12_stepTold 123 = .ok (.aload_n 0, 1) := by decide +kernel
theorem dX12_stepTold_124 : decode cX12_stepTold 124 = .ok (.getfield 251, 3) := by decide +kernel
theorem dX12_stepTold_127 : decode cX12_stepTold 127 = .ok (.aload_n 0, 1) := by decide +kernel
theorem dX12_stepTold_128 : decode cX12_stepTold 128 = .ok (.getfield 227, 3) := by decide +kernel
theorem dX12_stepTold_131 : decode cX12_stepTold 131 = .ok (.iastore, 1) := by decide +kernel
theorem dX12_stepTold_132 : decode cX12_stepTold 132 = .ok (.aload_n 0, 1) := by decide +kernel
theorem dX12_stepTold_133 : decode cX12_stepTold 133 = .ok (.getfield 46, 3) := by decide +kernel
theorem dX12_stepTold_136 : decode cX12_stepTold 136 = .ok (.aload_n 0, 1) := by decide +kernel
theorem dX12_stepTold_137 : decode cX12_stepTold 137 = .ok (.getfield 251, 3) := by decide +kernel
theorem dX12_stepTold_140 : decode cX12_stepTold 140 = .ok (.iload_n 2, 1) := by decide +kernel
theorem dX12_stepTold_141 : decode cX12_stepTold 141 = .ok (.iastore, 1) := by decide +kernel
theorem dX12_stepTold_142 : decode cX12_stepTold 142 = .ok (.aload_n 0, 1) := by decide +kernel
theorem dX12_stepTold_143 : decode cX12_stepTold 143 = .ok (.getfield 49, 3) := by decide +kernel
theorem dX12_stepTold_146 : decode cX12_stepTold 146 = .ok (.aload_n 0, 1) := by decide +kernel
theorem dX12_stepTold_147 : decode cX12_stepTold 147 = .ok (.getfield 251, 3) := by decide +kernel
theorem dX12_stepTold_150 : decode cX12_stepTold 150 = .ok (.iload_n 1, 1) := by decide +kernel
theorem dX12_stepTold_151 : decode cX12_stepTold 151 = .ok (.iastore, 1) := by decide +kernel
theorem dX12_stepTold_152 : decode cX12_stepTold 152 = .ok (.aload_n 0, 1) := by decide +kernel
theorem dX12_stepTold_153 : decode cX12_stepTold 153 = .ok (.dup, 1) := by decide +kernel
theorem dX12_stepTold_154 : decode cX12_stepTold 154 = .ok (.getfield 251, 3) := by decide +kernel
theorem dX12_stepTold_157 : decode cX12_stepTold 157 = .ok (.iconst 1, 1) := by decide +kernel
theorem dX12_stepTold_158 : decode cX12_stepTold 158 = .ok (.iadd, 1) := by decide +kernel
theorem dX12_stepTold_159 : decode cX12_stepTold 159 = .ok (.putfield 251, 3) := by decide +kernel
theorem dX12_stepTold_162 : decode cX12_stepTold 162 = .ok (.aload_n 0, 1) := by decide +kernel
theorem dX12_stepTold_163 : decode cX12_stepTold 163 = .ok (.iconst 0, 1) := by decide +kernel
theorem dX12_stepTold_164 : decode cX12_stepTold 164 = .ok (.putfield 254, 3) := by decide +kernel
theorem dX12_stepTold_167 : decode cX12_stepTold 167 = .ok (.aload_n 0, 1) := by decide +kernel
theorem dX12_stepTold_168 : decode cX12_stepTold 168 = .ok (.dup, 1) := by decide +kernel
theorem dX12_stepTold_169 : decode cX12_stepTold 169 = .ok (.getfield 173, 3) := by decide +kernel
theorem dX12_stepTold_172 : decode cX12_stepTold 172 = .ok (.iconst 1, 1) := by decide +kernel
theorem dX12_stepTold_173 : decode cX12_stepTold 173 = .ok (.iadd, 1) := by decide +kernel
theorem dX12_stepTold_174 : decode cX12_stepTold 174 = .ok (.putfield 173, 3) := by decide +kernel
theorem dX12_stepTold_177 : decode cX12_stepTold 177 = .ok (.return_, 1) := by decide +kernel
theorem dX12_stepTold_178 : decode cX12_stepTold 178 = .ok (.aload_n 0, 1) := by decide +kernel
theorem dX12_stepTold_179 : decode cX12_stepTold 179 = .ok (.invokevirtual 265, 3) := by decide +kernel
theorem dX12_stepTold_182 : decode cX12_stepTold 182 = .ok (.istore_n 3, 1) := by decide +kernel
theorem dX12_stepTold_183 : decode cX12_stepTold 183 = .ok (.aload_n 0, 1) := by decide +kernel
theorem dX12_stepTold_184 : decode cX12_stepTold 184 = .ok (.invokevirtual 234, 3) := by decide +kernel
theorem dX12_stepTold_187 : decode cX12_stepTold 187 = .ok (.ifCond .eq 21, 3) := by decide +kernel
theorem dX12_stepTold_190 : decode cX12_stepTold 190 = .ok (.aload_n 0, 1) := by decide +kernel
theorem dX12_stepTold_191 : decode cX12_stepTold 191 = .ok (.getfield 227, 3) := by decide +kernel
theorem dX12_stepTold_194 : decode cX12_stepTold 194 = .ok (.iload_n 2, 1) := by decide +kernel
theorem dX12_stepTold_195 : decode cX12_stepTold 195 = .ok (.iadd, 1) := by decide +kernel
theorem dX12_stepTold_196 : decode cX12_stepTold 196 = .ok (.bipush 48, 2) := by decide +kernel
theorem dX12_stepTold_198 : decode cX12_stepTold 198 = .ok (.if_icmp .le 10, 3) := by decide +kernel
theorem dX12_stepTold_201 : decode cX12_stepTold 201 = .ok (.aload_n 0, 1) := by decide +kernel
theorem dX12_stepTold_202 : decode cX12_stepTold 202 = .ok (.bipush 6, 2) := by decide +kernel
theorem dX12_stepTold_204 : decode cX12_stepTold 204 = .ok (.iload_n 1, 1) := by decide +kernel
theorem dX12_stepTold_205 : decode cX12_stepTold 205 = .ok (.invokevirtual 230, 3) := by decide +kernel
theorem dX12_stepTold_208 : decode cX12_stepTold 208 = .ok (.aload_n 0, 1) := by decide +kernel
theorem dX12_stepTold_209 : decode cX12_stepTold 209 = .ok (.invokevirtual 234, 3) := by decide +kernel
theorem dX12_stepTold_212 : decode cX12_stepTold 212 = .ok (.ifCond .ne 4, 3) := by decide +kernel
theorem dX12_stepTold_215 : decode cX12_stepTold 215 = .ok (.return_, 1) := by decide +kernel
theorem dX12_stepTold_216 : decode cX12_stepTold 216 = .ok (.iconst 0, 1) := by decide +kernel
theorem dX12_stepTold_217 : decode cX12_stepTold 217 = .ok (.istore 4, 2) := by decide +kernel
theorem dX12_stepTold_219 : decode cX12_stepTold 219 = .ok (.iload 4, 2) := by decide +kernel
theorem dX12_stepTold_221 : decode cX12_stepTold 221 = .ok (.iload_n 2, 1) := by decide +kernel
theorem dX12_stepTold_222 : decode cX12_stepTold 222 = .ok (.if_icmp .ge 22, 3) := by decide +kernel
theorem dX12_stepTold_225 : decode cX12_stepTold 225 = .ok (.aload_n 0, 1) := by decide +kernel
theorem dX12_stepTold_226 : decode cX12_stepTold 226 = .ok (.getfield 37, 3) := by decide +kernel
theorem dX12_stepTold_229 : decode cX12_stepTold 229 = .ok (.aload_n 0, 1) := by decide +kernel
theorem dX12_stepTold_230 : decode cX12_stepTold 230 = .ok (.getfield 227, 3) := by decide +kernel
theorem dX12_stepTold_233 : decode cX12_stepTold 233 = .ok (.iload 4, 2) := by decide +kernel
theorem dX12_stepTold_235 : decode cX12_stepTold 235 = .ok (.iadd, 1) := by decide +kernel
theorem dX12_stepTold_236 : decode cX12_stepTold 236 = .ok (.iload_n 3, 1) := by decide +kernel
theorem dX12_stepTold_237 : decode cX12_stepTold 237 = .ok (.iastore, 1) := by decide +kernel
theorem dX12_stepTold_238 : decode cX12_stepTold 238 = .ok (.iinc 4 1, 3) := by decide +kernel
theorem dX12_stepTold_241 : decode cX12_stepTold 241 = .ok (.goto (-22), 3) := by decide +kernel
theorem dX12_stepTold_244 : decode cX12_stepTold 244 = .ok (.aload_n 0, 1) := by decide +kernel
theorem dX12_stepTold_245 : decode cX12_stepTold 245 = .ok (.dup, 1) := by decide +kernel
theorem dX12_stepTold_246 : decode cX12_stepTold 246 = .ok (.getfield 227, 3) := by decide +kernel
theorem dX12_stepTold_249 : decode cX12_stepTold 249 = .ok (.iload_n 2, 1) := by decide +kernel
theorem dX12_stepTold_250 : decode cX12_stepTold 250 = .ok (.iadd, 1) := by decide +kernel
theorem dX12_stepTold_251 : decode cX12_stepTold 251 = .ok (.putfield 227, 3) := by decide +kernel
theorem dX12_stepTold_254 : decode cX12_stepTold 254 = .ok (.aload_n 0, 1) := by decide +kernel
theorem dX12_stepTold_255 : decode cX12_stepTold 255 = .ok (.iconst 1, 1) := by decide +kernel
theorem dX12_stepTold_256 : decode cX12_stepTold 256 = .ok (.putfield 254, 3) := by decide +kernel
theorem dX12_stepTold_259 : decode cX12_stepTold 259 = .ok (.aload_n 0, 1) := by decide +kernel
theorem dX12_stepTold_260 : decode cX12_stepTold 260 = .ok (.dup, 1) := by decide +kernel
theorem dX12_stepTold_261 : decode cX12_stepTold 261 = .ok (.getfield 173, 3) := by decide +kernel
theorem dX12_stepTold_264 : decode cX12_stepTold 264 = .ok (.iconst 1, 1) := by decide +kernel
theorem dX12_stepTold_265 : decode cX12_stepTold 265 = .ok (.iadd, 1) := by decide +kernel
theorem dX12_stepTold_266 : decode cX12_stepTold 266 = .ok (.putfield 173, 3) := by decide +kernel
theorem dX12_stepTold_269 : decode cX12_stepTold 269 = .ok (.return_, 1) := by decide +kernel
theorem myX12_timesTold : MI yX12_timesTold cX12_timesTold 1 (some FieldType.int) 0 := ⟨kAW (v_5_10 (List.mem_of_getElem? (i := 2) rfl)) rfl, kAW (v_0_0 (List.mem_of_getElem? (i := 13) rfl)) rfl, kAW (v_5_10 (List.mem_of_getElem? (i := 1) rfl)) rfl, kAW (tp_t2 (List.mem_of_getElem? (i := 12) rfl)) rfl, by decide, by decide, by decide +kernel⟩
theorem myX12_stepHere : MI yX12_stepHere cX12_stepHere 2 (some FieldType.int) 0 := ⟨kAW (v_5_10 (List.mem_of_getElem? (i := 8) rfl)) rfl, kAW (v_0_0 (List.mem_of_getElem? (i := 13) rfl)) rfl, kAW (v_5_10 (List.mem_of_getElem? (i := 7) rfl)) rfl, kAW (tp_t2 (List.mem_of_getElem? (i := 13) rfl)) rfl, by decide, by decide, by decide +kernel⟩
theorem FP_X12_254 : FPX RX12 254 12 86 20 .boolean := ⟨⟨RX12, TX12, tyX12, rfl, wX12, by decide, kAW (v_4_4 (List.mem_of_getElem? (i := 1) rfl)) rfl, rfl, tyX12_ok, nmX12, by decide +kernel, rfl⟩, by decide +kernel⟩
theorem FG_X12_251 : FG RX12 251 12 86 19 := ⟨RX12, TX12, rfl, wX12, by decide, kAW (v_4_4 (List.mem_of_getElem? (i := 0) rfl)) rfl, rfl⟩
theorem FG_X12_43 : FG RX12 43 12 86 21 := ⟨RX12, TX12, rfl, wX12, by decide, kAW (v_4_4 (List.mem_of_getElem? (i := 2) rfl)) rfl, rfl⟩
theorem FG_X12_46 : FG RX12 46 12 86 22 := ⟨RX12, TX12, rfl, wX12, by decide, kAW (v_4_4 (List.mem_of_getElem? (i := 3) rfl)) rfl, rfl⟩
theorem FG_X12_49 : FG RX12 49 12 86 23 := ⟨RX12, TX12, rfl, wX12, by decide, kAW (v_4_4 (List.mem_of_getElem? (i := 4) rfl)) rfl, rfl⟩
theorem FP_X12_251 : FPX RX12 251 12 86 19 .int := ⟨⟨RX12, TX12, tyX12, rfl, wX12, by decide, kAW (v_4_4 (List.mem_of_getElem? (i := 0) rfl)) rfl, rfl, tyX12_ok, nmX12, by decide +kernel, rfl⟩, by decide +kernel⟩
theorem FG_X12_254 : FG RX12 254 12 86 20 := ⟨RX12, TX12, rfl, wX12, by decide, kAW (v_4_4 (List.mem_of_getElem? (i := 1) rfl)) rfl, rfl⟩
theorem myX12_repeats : MI yX12_repeats cX12_repeats 6 none 3 := ⟨kAW (v_5_9 (List.mem_of_getElem? (i := 10) rfl)) rfl, kAW (v_0_0 (List.mem_of_getElem? (i := 13) rfl)) rfl, kAW (v_5_9 (List.mem_of_getElem? (i := 9) rfl)) rfl, kAW (tp_t2 (List.mem_of_getElem? (i := 10) rfl)) rfl, by decide, by decide, by decide +kernel⟩
set_option maxRecDepth 100000 in
set_option maxHeartbeats 4000000 in
theorem a_X12_stepTold (l : Launch) (D : va_G) (cA : Nat → ClassId) (ad : Nat → Nat) (g0 : Nat → va_E)  (pl : Int32) (en : Int32) (bd : Int32) (nm : Int32) (om : Int32)  (hSh : Shp ad cA g0) (hG : Rng g0) (h_pl : fld g0 129 3 = .int pl) (h_en : fld g0 129 4 = .int en) (h_bd : fld g0 129 5 = .int bd) (h_nm : fld g0 129 18 = .int nm) (h_om : fld g0 129 19 = .int om) (pl0 : 0 ≤ pl.toInt) (pl1 : pl.toInt < en.toInt) (en1 : en.toInt ≤ 240) (bd0 : bd.toInt = 0) (hT : TB g0) (hO : OA (arI g0 139) (arI g0 140) (arI g0 141) nm.toInt om.toInt) : CT l NN ad cA D yX12_stepTold cX12_stepTold 5 none (3, 66) [.ref (ad 129)] g0 (fun v g' => ∃ (p9 : Int32) (b9 : Int32) (n9 : Int32) (o9 : Int32), v = none ∧ Shp ad cA g' ∧ Rng g' ∧ FR (fun i k => (i = 129 ∧ (k = 3 ∨ k = 5 ∨ k = 18 ∨ k = 19 ∨ k = 20)) ∨ i = 137 ∨ i = 139 ∨ i = 140 ∨ i = 141) g0 g' ∧ fld g' 129 3 = .int p9 ∧ fld g' 129 5 = .int b9 ∧ fld g' 129 18 = .int n9 ∧ fld g' 129 19 = .int o9 ∧ (pl.toInt ≤ p9.toInt) ∧ (p9.toInt ≤ en.toInt) ∧ (b9.toInt = 0 → pl.toInt < p9.toInt) ∧ (b9.toInt = 0 → OA (arI g' 139) (arI g' 140) (arI g' 141) n9.toInt o9.toInt)) := by
  refine q_enterV (by decide) (Nat.le_of_ble_eq_true rfl) (fun K H locs ls _ _ hM hW0 hR hC hE hl => ?_)
  have hl : lv_has ls 5 [(0, .ref (ad 129))] := hl
  have hW : WS ad cA (fun i k => (i = 129 ∧ (k = 3 ∨ k = 5 ∨ k = 18 ∨ k = 19 ∨ k = 20)) ∨ i = 137 ∨ i = 139 ∨ i = 140 ∨ i = 141) g0 K g0 H locs := ⟨hW0, hSh, FR.rf⟩
  have b_pl := hG.f h_pl rF_129_3 (by decide)
  have b_en := hG.f h_en rF_129_4 (by decide)
  have b_bd := hG.f h_bd rF_129_5 (by decide)
  have b_nm := hG.f h_nm rF_129_18 (by decide)
  have b_om := hG.f h_om rF_129_19 (by decide)
  have f8135 : fld g0 129 3 = .int pl := h_pl
  have f8136 : fld g0 129 5 = .int bd := h_bd
  have f8137 : fld g0 129 18 = .int nm := h_nm
  have f8138 : fld g0 129 19 = .int om := h_om
  refine q_aload_n hM dX12_stepTold_0 (lv_at hl 0 rfl) ?_
  refine w_get (v := .int pl) hM hW FG_X12_173 lb_129 f8135 dX12_stepTold_1 ?_
  have bpl := hG.f f8135 rF_129_3 (by decide)
  refine q_istore_n (lv9 := [(1, .int pl), (0, .ref (ad 129))]) hM dX12_stepTold_4 hl (by decide) rfl (fun ls hl => ?_)
  refine q_aload_n hM dX12_stepTold_5 (lv_at hl 1 rfl) ?_
  refine q_callV (As := []) (rest := []) hM hW.1 hR hC myX12_here (kAW (v_5_9 (List.mem_of_getElem? (i := 3) rfl)) rfl) (rfl : vwCl[12]? = some (RX12, TX12, 86)) rfl lb_129.1 (shO hW.2.1 lb_129) (a_X12_here _ _ cA ad g0 pl en hW.2.1 hG f8135 ((hW.2.2.1 129 4 (by omega)).trans h_en) (by  omega) (by  omega)) ⟨by decide, by decide⟩ rfl rfl hl.1 (Nat.le_of_ble_eq_true rfl) dX12_stepTold_6 (fun v g8140 H locs hp hW1 => ?_)
  obtain ⟨r8139, rfl, hr8139, rfl⟩ := hp
  have hW : WS ad cA (fun i k => (i = 129 ∧ (k = 3 ∨ k = 5 ∨ k = 18 ∨ k = 19 ∨ k = 20)) ∨ i = 137 ∨ i = 139 ∨ i = 140 ∨ i = 141) g0 K g0 H locs := ⟨hW1, hW.2.1, hW.2.2⟩
  rw [hW.2.2.2.1 130 (by omega)] at hr8139
  refine q_bipush (v := (41 : Int32)) hM dX12_stepTold_9 (by decide) ?_
  refine q_icmp_ne (tgt := 80) hM dX12_stepTold_11 (by decide) (rfl : r8139.toInt = r8139.toInt) (kc_41 : (41 : Int32).toInt = 41) (fun h11 => ?_) (fun h11 => ?_)
  · refine q_aload_n hM dX12_stepTold_80 (lv_at hl 1 rfl) ?_
    refine q_callV (As := []) (rest := []) hM hW.1 hR hC myX12_timesTold (kAW (v_5_9 (List.mem_of_getElem? (i := 15) rfl)) rfl) (rfl : vwCl[12]? = some (RX12, TX12, 86)) rfl lb_129.1 (shO hW.2.1 lb_129) (a_X12_timesTold _ _ cA ad g0 pl en hW.2.1 hG f8135 ((hW.2.2.1 129 4 (by omega)).trans h_en) (by  omega) (by  omega) (by  omega) (by  omega)) ⟨by decide, by decide⟩ rfl rfl hl.1 (Nat.le_of_ble_eq_true rfl) dX12_stepTold_81 (fun v g8147 H locs hp hW1 => ?_)
    obtain ⟨v8142, r8143, rfl, hs1, hG, hf1, q8144, e8145, e8146, hr8143⟩ := hp
    have f8148 : arI g8147 139 = arI g0 139 := (hf1.2.1 139 (by omega)).trans (rfl : arI g0 139 = arI g0 139)
    have f8149 : arI g8147 140 = arI g0 140 := (hf1.2.1 140 (by omega)).trans (rfl : arI g0 140 = arI g0 140)
    have f8150 : arI g8147 141 = arI g0 141 := (hf1.2.1 141 (by omega)).trans (rfl : arI g0 141 = arI g0 141)
    have f8151 : fld g8147 129 5 = .int bd := (hf1.1 129 5 (by omega)).trans f8136
    have f8152 : fld g8147 129 18 = .int nm := (hf1.1 129 18 (by omega)).trans f8137
    have f8153 : fld g8147 129 19 = .int om := (hf1.1 129 19 (by omega)).trans f8138
    have hW : WS ad cA (fun i k => (i = 129 ∧ (k = 3 ∨ k = 5 ∨ k = 18 ∨ k = 19 ∨ k = 20)) ∨ i = 137 ∨ i = 139 ∨ i = 140 ∨ i = 141) g0 K g8147 H locs := ⟨hW1, hs1, hW.2.2.tr hf1 (fun i k h => (Or.inl (by omega)))⟩
    refine q_istore_n (lv9 := [(2, .int r8143), (1, .int pl), (0, .ref (ad 129))]) hM dX12_stepTold_84 hl (by decide) rfl (fun ls hl => ?_)
    refine q_aload_n hM dX12_stepTold_85 (lv_at hl 2 rfl) ?_
    refine q_callV (As := []) (rest := []) hM hW.1 hR hC myX12_here (kAW (v_5_9 (List.mem_of_getElem? (i := 3) rfl)) rfl) (rfl : vwCl[12]? = some (RX12, TX12, 86)) rfl lb_129.1 (shO hW.2.1 lb_129) (a_X12_here _ _ cA ad g8147 v8142 en hW.2.1 hG q8144 ((hW.2.2.1 129 4 (by omega)).trans h_en) (by  omega) (by  omega)) ⟨by decide, by decide⟩ rfl rfl hl.1 (Nat.le_of_ble_eq_true rfl) dX12_stepTold_86 (fun v g8155 H locs hp hW1 => ?_)
    obtain ⟨r8154, rfl, hr8154, rfl⟩ := hp
    have hW : WS ad cA (fun i k => (i = 129 ∧ (k = 3 ∨ k = 5 ∨ k = 18 ∨ k = 19 ∨ k = 20)) ∨ i = 137 ∨ i = 139 ∨ i = 140 ∨ i = 141) g0 K g8147 H locs := ⟨hW1, hW.2.1, hW.2.2⟩
    rw [hW.2.2.2.1 130 (by omega)] at hr8154
    refine q_bipush (v := (40 : Int32)) hM dX12_stepTold_89 (by decide) ?_
    refine q_icmp_ne (tgt := 178) hM dX12_stepTold_91 (by decide) (rfl : r8154.toInt = r8154.toInt) (kc_40 : (40 : Int32).toInt = 40) (fun h91 => ?_) (fun h91 => ?_)
    · refine q_aload_n hM dX12_stepTold_178 (lv_at hl 2 rfl) ?_
      refine q_callV (As := []) (rest := []) hM hW.1 hR hC myX12_stepHere (kAW (v_5_10 (List.mem_of_getElem? (i := 5) rfl)) rfl) (rfl : vwCl[12]? = some (RX12, TX12, 86)) rfl lb_129.1 (shO hW.2.1 lb_129) (a_X12_stepHere _ _ cA ad g8147 v8142 en bd hW.2.1 hG q8144 ((hW.2.2.1 129 4 (by omega)).trans h_en) f8151 (by  omega) (by  omega) (by  omega)) ⟨by decide, by decide⟩ rfl rfl hl.1 (Nat.le_of_ble_eq_true rfl) dX12_stepTold_179 (fun v g8165 H locs hp hW1 => ?_)
      obtain ⟨v8157, v8158, r8159, rfl, hs1, hG, hf1, q8160, q8161, e8162, e8163, e8164, hr8159⟩ := hp
      have f8166 : arI g8165 139 = arI g0 139 := (hf1.2.1 139 (by omega)).trans f8148
      have f8167 : arI g8165 140 = arI g0 140 := (hf1.2.1 140 (by omega)).trans f8149
      have f8168 : arI g8165 141 = arI g0 141 := (hf1.2.1 141 (by omega)).trans f8150
      have f8169 : fld g8165 129 18 = .int nm := (hf1.1 129 18 (by omega)).trans f8152
      have f8170 : fld g8165 129 19 = .int om := (hf1.1 129 19 (by omega)).trans f8153
      have hW : WS ad cA (fun i k => (i = 129 ∧ (k = 3 ∨ k = 5 ∨ k = 18 ∨ k = 19 ∨ k = 20)) ∨ i = 137 ∨ i = 139 ∨ i = 140 ∨ i = 141) g0 K g8165 H locs := ⟨hW1, hs1, hW.2.2.tr hf1 (fun i k h => (Or.inl (by omega)))⟩
      refine q_istore_n (lv9 := [(3, .int r8159), (2, .int r8143), (1, .int pl), (0, .ref (ad 129))]) hM dX12_stepTold_182 hl (by decide) rfl (fun ls hl => ?_)
      refine q_aload_n hM dX12_stepTold_183 (lv_at hl 3 rfl) ?_
      refine q_callV (As := []) (rest := []) hM hW.1 hR hC myX12_isGood (kAW (v_5_8 (List.mem_of_getElem? (i := 11) rfl)) rfl) (rfl : vwCl[12]? = some (RX12, TX12, 86)) rfl lb_129.1 (shO hW.2.1 lb_129) (a_X12_isGood _ _ cA ad g8165 v8158 hW.2.1 hG q8161) ⟨by decide, by decide⟩ rfl rfl hl.1 (Nat.le_of_ble_eq_true rfl) dX12_stepTold_184 (fun v g8172 H locs hp hW1 => ?_)
      obtain ⟨r8171, rfl, hr8171, rfl⟩ := hp
      have hW : WS ad cA (fun i k => (i = 129 ∧ (k = 3 ∨ k = 5 ∨ k = 18 ∨ k = 19 ∨ k = 20)) ∨ i = 137 ∨ i = 139 ∨ i = 140 ∨ i = 141) g0 K g8165 H locs := ⟨hW1, hW.2.1, hW.2.2⟩
      refine q_if_eq (tgt := 208) hM dX12_stepTold_187 (by decide) (rfl : r8171.toInt = r8171.toInt) (fun h187 => ?_) (fun h187 => ?_)
      · refine q_aload_n hM dX12_stepTold_208 (lv_at hl 3 rfl) ?_
        refine q_callV (As := []) (rest := []) hM hW.1 hR hC myX12_isGood (kAW (v_5_8 (List.mem_of_getElem? (i := 11) rfl)) rfl) (rfl : vwCl[12]? = some (RX12, TX12, 86)) rfl lb_129.1 (shO hW.2.1 lb_129) (a_X12_isGood _ _ cA ad g8165 v8158 hW.2.1 hG q8161) ⟨by decide, by decide⟩ rfl rfl hl.1 (Nat.le_of_ble_eq_true rfl) dX12_stepTold_209 (fun v g8175 H locs hp hW1 => ?_)
        obtain ⟨r8174, rfl, hr8174, rfl⟩ := hp
        have hW : WS ad cA (fun i k => (i = 129 ∧ (k = 3 ∨ k = 5 ∨ k = 18 ∨ k = 19 ∨ k = 20)) ∨ i = 137 ∨ i = 139 ∨ i = 140 ∨ i = 141) g0 K g8165 H locs := ⟨hW1, hW.2.1, hW.2.2⟩
        refine q_if_ne (tgt := 216) hM dX12_stepTold_212 (by decide) (rfl : r8174.toInt = r8174.toInt) (fun h212 => ?_) (fun h212 => ?_)
        · refine q_iconst (v := (0 : Int32)) hM dX12_stepTold_216 (by decide) ?_
          refine q_istore (lv9 := [(4, .int (0 : Int32)), (3, .int r8159), (2, .int r8143), (1, .int pl), (0, .ref (ad 129))]) hM dX12_stepTold_217 hl (by decide) rfl (fun ls hl => ?_)
          have L219 : ∀ (fu219 : Nat) (w219_4 : Int32) (g9 : Nat → va_E) (H : Heap) (locs : List Loc) (ls : Array Slot), (r8143.toInt - w219_4.toInt + 1).toNat < fu219 → (Rng g9) → (0 ≤ w219_4.toInt) → (fld g9 129 3 = .int v8157) → (fld g9 129 5 = .int v8158) → (fld g9 129 18 = .int nm) → (fld g9 129 19 = .int om) → (arI g9 139 = arI g0 139) → (arI g9 140 = arI g0 140) → (arI g9 141 = arI g0 141) → lv_has ls 5 [(0, .ref (ad 129)), (1, .int pl), (2, .int r8143), (3, .int r8159), (4, .int w219_4)] → WS ad cA (fun i k => (i = 129 ∧ (k = 3 ∨ k = 5 ∨ k = 18 ∨ k = 19 ∨ k = 20)) ∨ i = 137 ∨ i = 139 ∨ i = 140 ∨ i = 141) g0 K g9 H locs → XX K 0 0 H locs 219 ls [] := by
            intro fu219
            induction fu219 with
            | zero => intro w219_4 g9 H locs ls h0; omega
            | succ fu219 ih219 =>
              intro w219_4 g9 H locs ls hm219 i219_0 i219_1 c219_129_3 c219_129_5 c219_129_18 c219_129_19 d219_139 d219_140 d219_141 hl hW
              have hG := i219_0
              have := i_rng r8143
              refine q_iload hM dX12_stepTold_219 (lv_at hl 4 rfl) ?_
              refine q_iload_n hM dX12_stepTold_221 (lv_at hl 2 rfl) ?_
              refine q_icmp_ge (tgt := 244) hM dX12_stepTold_222 (by decide) (rfl : w219_4.toInt = w219_4.toInt) (rfl : r8143.toInt = r8143.toInt) (fun h222 => ?_) (fun h222 => ?_)
              · refine q_aload_n hM dX12_stepTold_244 (lv_at hl 0 rfl) ?_
                refine q_dup hM dX12_stepTold_245 rfl ?_
                refine w_get (v := .int nm) hM hW FG_X12_227 lb_129 c219_129_18 dX12_stepTold_246 ?_
                have bnm := hG.f c219_129_18 rF_129_18 (by decide)
                refine q_iload_n hM dX12_stepTold_249 (lv_at hl 2 rfl) ?_
                refine q_iadd hM dX12_stepTold_250 (fun z8179 hz8179 => ?_)
                first | have tz8179 := i_addT hz8179 (rfl : nm.toInt = nm.toInt) (rfl : r8143.toInt = r8143.toInt) (by omega) (by omega) | skip
                refine w_put hM hW FP_X12_227 lb_129 (by omega) (Or.inl ⟨_, rfl⟩) rfl rfl dX12_stepTold_251 (fun g8180 H locs hW e1 e2 => ?_)
                have f8181 : fld g8180 129 3 = .int v8157 := (e2.1 129 3 (by unfold Only; omega)).trans c219_129_3
                have f8182 : fld g8180 129 5 = .int v8158 := (e2.1 129 5 (by unfold Only; omega)).trans c219_129_5
                have f8183 : fld g8180 129 19 = .int om := (e2.1 129 19 (by unfold Only; omega)).trans c219_129_19
                have f8184 : arI g8180 139 = arI g0 139 := (e2.2.1 139 (by unfold Only; omega)).trans d219_139
                have f8185 : arI g8180 140 = arI g0 140 := (e2.2.1 140 (by unfold Only; omega)).trans d219_140
                have f8186 : arI g8180 141 = arI g0 141 := (e2.2.1 141 (by unfold Only; omega)).trans d219_141
                have f8187 : fld g8180 129 18 = .int z8179 := e1
                have hG := hG.put e1 e2 rF_129_18 (by decide) (by have := i_rng z8179; omega) (by have := i_rng z8179; omega)
                refine q_aload_n hM dX12_stepTold_254 (lv_at hl 0 rfl) ?_
                refine q_iconst (v := (1 : Int32)) hM dX12_stepTold_255 (by decide) ?_
                refine w_put hM hW FP_X12_254 lb_129 (by omega) (Or.inl ⟨_, rfl⟩) rfl rfl dX12_stepTold_256 (fun g8188 H locs hW e1 e2 => ?_)
                have f8189 : fld g8188 129 3 = .int v8157 := (e2.1 129 3 (by unfold Only; omega)).trans f8181
                have f8190 : fld g8188 129 5 = .int v8158 := (e2.1 129 5 (by unfold Only; omega)).trans f8182
                have f8191 : fld g8188 129 19 = .int om := (e2.1 129 19 (by unfold Only; omega)).trans f8183
                have f8192 : arI g8188 139 = arI g0 139 := (e2.2.1 139 (by unfold Only; omega)).trans f8184
                have f8193 : arI g8188 140 = arI g0 140 := (e2.2.1 140 (by unfold Only; omega)).trans f8185
                have f8194 : arI g8188 141 = arI g0 141 := (e2.2.1 141 (by unfold Only; omega)).trans f8186
                have f8195 : fld g8188 129 18 = .int z8179 := (e2.1 129 18 (by unfold Only; omega)).trans f8187
                have f8196 : fld g8188 129 20 = .int (1 : Int32) := e1
                have hG := hG.put e1 e2 (rfl : rF 129 20 = (-2147483648, 2147483647)) (by decide) (by have := kc_1; have := i_rng (1 : Int32); omega) (by have := kc_1; have := i_rng (1 : Int32); omega)
                refine q_aload_n hM dX12_stepTold_259 (lv_at hl 0 rfl) ?_
                refine q_dup hM dX12_stepTold_260 rfl ?_
                refine w_get (v := .int v8157) hM hW FG_X12_173 lb_129 f8189 dX12_stepTold_261 ?_
                have bv8157 := hG.f f8189 rF_129_3 (by decide)
                refine q_iconst (v := (1 : Int32)) hM dX12_stepTold_264 (by decide) ?_
                refine q_iadd hM dX12_stepTold_265 (fun z8197 hz8197 => ?_)
                first | have tz8197 := i_addT hz8197 (rfl : v8157.toInt = v8157.toInt) (kc_1 : (1 : Int32).toInt = 1) (by omega) (by omega) | skip
                refine w_put hM hW FP_X12_173 lb_129 (by omega) (Or.inl ⟨_, rfl⟩) rfl rfl dX12_stepTold_266 (fun g8198 H locs hW e1 e2 => ?_)
                have f8199 : fld g8198 129 5 = .int v8158 := (e2.1 129 5 (by unfold Only; omega)).trans f8190
                have f8200 : fld g8198 129 19 = .int om := (e2.1 129 19 (by unfold Only; omega)).trans f8191
                have f8201 : arI g8198 139 = arI g0 139 := (e2.2.1 139 (by unfold Only; omega)).trans f8192
                have f8202 : arI g8198 140 = arI g0 140 := (e2.2.1 140 (by unfold Only; omega)).trans f8193
                have f8203 : arI g8198 141 = arI g0 141 := (e2.2.1 141 (by unfold Only; omega)).trans f8194
                have f8204 : fld g8198 129 18 = .int z8179 := (e2.1 129 18 (by unfold Only; omega)).trans f8195
                have f8205 : fld g8198 129 20 = .int (1 : Int32) := (e2.1 129 20 (by unfold Only; omega)).trans f8196
                have f8206 : fld g8198 129 3 = .int z8197 := e1
                have hG := hG.put e1 e2 rF_129_3 (by decide) (by have := i_rng z8197; omega) (by have := i_rng z8197; omega)
                exact hE _ _ _ _ _ hW.1 ⟨z8197, v8158, z8179, om, rfl, hW.2.1, hG, hW.2.2, f8206, f8199, f8204, f8200, (by omega), (by omega), (by omega), (fun _ => by rw [f8201, f8202, f8203]; exact OA_mono hO (by omega) (by omega))⟩ dX12_stepTold_269
              · refine q_aload_n hM dX12_stepTold_225 (lv_at hl 0 rfl) ?_
                refine w_get (v := .ref (ad 137)) hM hW FG_X12_37 lb_129 (rf_129_16 hW.2.1) dX12_stepTold_226 ?_
                refine q_aload_n hM dX12_stepTold_229 (lv_at hl 0 rfl) ?_
                refine w_get (v := .int nm) hM hW FG_X12_227 lb_129 c219_129_18 dX12_stepTold_230 ?_
                have bnm := hG.f c219_129_18 rF_129_18 (by decide)
                refine q_iload hM dX12_stepTold_233 (lv_at hl 4 rfl) ?_
                refine q_iadd hM dX12_stepTold_235 (fun z8208 hz8208 => ?_)
                first | have tz8208 := i_addT hz8208 (rfl : nm.toInt = nm.toInt) (rfl : w219_4.toInt = w219_4.toInt) (by omega) (by omega) | skip
                refine q_iload_n hM dX12_stepTold_236 (lv_at hl 3 rfl) ?_
                refine w_iast hM hW lb_137 (by omega) (i_in (by omega) (by omega)) dX12_stepTold_237 (fun g8209 H locs hW e1 e2 => ?_)
                have f8210 : fld g8209 129 3 = .int v8157 := (e2.1 129 3 (by unfold Only; omega)).trans c219_129_3
                have f8211 : fld g8209 129 5 = .int v8158 := (e2.1 129 5 (by unfold Only; omega)).trans c219_129_5
                have f8212 : fld g8209 129 18 = .int nm := (e2.1 129 18 (by unfold Only; omega)).trans c219_129_18
                have f8213 : fld g8209 129 19 = .int om := (e2.1 129 19 (by unfold Only; omega)).trans c219_129_19
                have f8214 : arI g8209 139 = arI g0 139 := (e2.2.1 139 (by unfold Only; omega)).trans d219_139
                have f8215 : arI g8209 140 = arI g0 140 := (e2.2.1 140 (by unfold Only; omega)).trans d219_140
                have f8216 : arI g8209 141 = arI g0 141 := (e2.2.1 141 (by unfold Only; omega)).trans d219_141
                have hG := hG.st e1 e2 rA_137 (by have := i_rng r8159; omega) (by have := i_rng r8159; omega)
                refine q_iinc (lv9 := fun z8217 => [(4, .int z8217), (0, .ref (ad 129)), (1, .int pl), (2, .int r8143), (3, .int r8159)]) hM dX12_stepTold_238 hl (kq := 4) rfl (by decide) (fun _ => rfl) (fun z8217 ls hz8217 hl => ?_)
                first | have tz8217 := i_addT hz8217 (rfl : w219_4.toInt = w219_4.toInt) (kc_1 : (Int32.ofInt 1).toInt = 1) (by omega) (by omega) | skip
                refine q_goto (tgt := 219) hM dX12_stepTold_241 (by decide) ?_
                exact ih219 z8217 _ _ _ _ (by omega) hG (by omega) f8210 f8211 f8212 f8213 f8214 f8215 f8216 (lv_sub hl [1, 2, 3, 4, 0] rfl) hW
          have := kc_0
          exact L219 _ (0 : Int32) _ _ _ _ (Nat.lt_succ_self _) hG (by omega) q8160 q8161 f8169 f8170 f8166 f8167 f8168 (lv_sub hl [4, 3, 2, 1, 0] rfl) hW
        · exact hE _ _ _ _ _ hW.1 ⟨v8157, v8158, nm, om, rfl, hW.2.1, hG, hW.2.2, q8160, q8161, f8169, f8170, (by omega), (by omega), (by omega), (fun _ => by rw [f8166, f8167, f8168]; exact OA_mono hO (by omega) (by omega))⟩ dX12_stepTold_215
      · refine q_aload_n hM dX12_stepTold_190 (lv_at hl 3 rfl) ?_
        refine w_get (v := .int nm) hM hW FG_X12_227 lb_129 f8169 dX12_stepTold_191 ?_
        have bnm := hG.f f8169 rF_129_18 (by decide)
        refine q_iload_n hM dX12_stepTold_194 (lv_at hl 1 rfl) ?_
        refine q_iadd hM dX12_stepTold_195 (fun z8220 hz8220 => ?_)
        first | have tz8220 := i_addT hz8220 (rfl : nm.toInt = nm.toInt) (rfl : r8143.toInt = r8143.toInt) (by omega) (by omega) | skip
        refine q_bipush (v := (48 : Int32)) hM dX12_stepTold_196 (by decide) ?_
        refine q_icmp_le (tgt := 208) hM dX12_stepTold_198 (by decide) (rfl : z8220.toInt = z8220.toInt) (kc_48 : (48 : Int32).toInt = 48) (fun h198 => ?_) (fun h198 => ?_)
        · refine q_aload_n hM dX12_stepTold_208 (lv_at hl 3 rfl) ?_
          refine q_callV (As := []) (rest := []) hM hW.1 hR hC myX12_isGood (kAW (v_5_8 (List.mem_of_getElem? (i := 11) rfl)) rfl) (rfl : vwCl[12]? = some (RX12, TX12, 86)) rfl lb_129.1 (shO hW.2.1 lb_129) (a_X12_isGood _ _ cA ad g8165 v8158 hW.2.1 hG q8161) ⟨by decide, by decide⟩ rfl rfl hl.1 (Nat.le_of_ble_eq_true rfl) dX12_stepTold_209 (fun v g8223 H locs hp hW1 => ?_)
          obtain ⟨r8222, rfl, hr8222, rfl⟩ := hp
          have hW : WS ad cA (fun i k => (i = 129 ∧ (k = 3 ∨ k = 5 ∨ k = 18 ∨ k = 19 ∨ k = 20)) ∨ i = 137 ∨ i = 139 ∨ i = 140 ∨ i = 141) g0 K g8165 H locs := ⟨hW1, hW.2.1, hW.2.2⟩
          refine q_if_ne (tgt := 216) hM dX12_stepTold_212 (by decide) (rfl : r8222.toInt = r8222.toInt) (fun h212 => ?_) (fun h212 => ?_)
          · refine q_iconst (v := (0 : Int32)) hM dX12_stepTold_216 (by decide) ?_
            refine q_istore (lv9 := [(4, .int (0 : Int32)), (3, .int r8159), (2, .int r8143), (1, .int pl), (0, .ref (ad 129))]) hM dX12_stepTold_217 hl (by decide) rfl (fun ls hl => ?_)
            have L219 : ∀ (fu219 : Nat) (w219_4 : Int32) (g9 : Nat → va_E) (H : Heap) (locs : List Loc) (ls : Array Slot), (r8143.toInt - w219_4.toInt + 1).toNat < fu219 → (Rng g9) → (0 ≤ w219_4.toInt) → (fld g9 129 3 = .int v8157) → (fld g9 129 5 = .int v8158) → (fld g9 129 18 = .int nm) → (fld g9 129 19 = .int om) → (arI g9 139 = arI g0 139) → (arI g9 140 = arI g0 140) → (arI g9 141 = arI g0 141) → lv_has ls 5 [(0, .ref (ad 129)), (1, .int pl), (2, .int r8143), (3, .int r8159), (4, .int w219_4)] → WS ad cA (fun i k => (i = 129 ∧ (k = 3 ∨ k = 5 ∨ k = 18 ∨ k = 19 ∨ k = 20)) ∨ i = 137 ∨ i = 139 ∨ i = 140 ∨ i = 141) g0 K g9 H locs → XX K 0 0 H locs 219 ls [] := by
              intro fu219
              induction fu219 with
              | zero => intro w219_4 g9 H locs ls h0; omega
              | succ fu219 ih219 =>
                intro w219_4 g9 H locs ls hm219 i219_0 i219_1 c219_129_3 c219_129_5 c219_129_18 c219_129_19 d219_139 d219_140 d219_141 hl hW
                have hG := i219_0
                have := i_rng r8143
                refine q_iload hM dX12_stepTold_219 (lv_at hl 4 rfl) ?_
                refine q_iload_n hM dX12_stepTold_221 (lv_at hl 2 rfl) ?_
                refine q_icmp_ge (tgt := 244) hM dX12_stepTold_222 (by decide) (rfl : w219_4.toInt = w219_4.toInt) (rfl : r8143.toInt = r8143.toInt) (fun h222 => ?_) (fun h222 => ?_)
                · refine q_aload_n hM dX12_stepTold_244 (lv_at hl 0 rfl) ?_
                  refine q_dup hM dX12_stepTold_245 rfl ?_
                  refine w_get (v := .int nm) hM hW FG_X12_227 lb_129 c219_129_18 dX12_stepTold_246 ?_
                  have bnm := hG.f c219_129_18 rF_129_18 (by decide)
                  refine q_iload_n hM dX12_stepTold_249 (lv_at hl 2 rfl) ?_
                  refine q_iadd hM dX12_stepTold_250 (fun z8227 hz8227 => ?_)
                  first | have tz8227 := i_addT hz8227 (rfl : nm.toInt = nm.toInt) (rfl : r8143.toInt = r8143.toInt) (by omega) (by omega) | skip
                  refine w_put hM hW FP_X12_227 lb_129 (by omega) (Or.inl ⟨_, rfl⟩) rfl rfl dX12_stepTold_251 (fun g8228 H locs hW e1 e2 => ?_)
                  have f8229 : fld g8228 129 3 = .int v8157 := (e2.1 129 3 (by unfold Only; omega)).trans c219_129_3
                  have f8230 : fld g8228 129 5 = .int v8158 := (e2.1 129 5 (by unfold Only; omega)).trans c219_129_5
                  have f8231 : fld g8228 129 19 = .int om := (e2.1 129 19 (by unfold Only; omega)).trans c219_129_19
                  have f8232 : arI g8228 139 = arI g0 139 := (e2.2.1 139 (by unfold Only; omega)).trans d219_139
                  have f8233 : arI g8228 140 = arI g0 140 := (e2.2.1 140 (by unfold Only; omega)).trans d219_140
                  have f8234 : arI g8228 141 = arI g0 141 := (e2.2.1 141 (by unfold Only; omega)).trans d219_141
                  have f8235 : fld g8228 129 18 = .int z8227 := e1
                  have hG := hG.put e1 e2 rF_129_18 (by decide) (by have := i_rng z8227; omega) (by have := i_rng z8227; omega)
                  refine q_aload_n hM dX12_stepTold_254 (lv_at hl 0 rfl) ?_
                  refine q_iconst (v := (1 : Int32)) hM dX12_stepTold_255 (by decide) ?_
                  refine w_put hM hW FP_X12_254 lb_129 (by omega) (Or.inl ⟨_, rfl⟩) rfl rfl dX12_stepTold_256 (fun g8236 H locs hW e1 e2 => ?_)
                  have f8237 : fld g8236 129 3 = .int v8157 := (e2.1 129 3 (by unfold Only; omega)).trans f8229
                  have f8238 : fld g8236 129 5 = .int v8158 := (e2.1 129 5 (by unfold Only; omega)).trans f8230
                  have f8239 : fld g8236 129 19 = .int om := (e2.1 129 19 (by unfold Only; omega)).trans f8231
                  have f8240 : arI g8236 139 = arI g0 139 := (e2.2.1 139 (by unfold Only; omega)).trans f8232
                  have f8241 : arI g8236 140 = arI g0 140 := (e2.2.1 140 (by unfold Only; omega)).trans f8233
                  have f8242 : arI g8236 141 = arI g0 141 := (e2.2.1 141 (by unfold Only; omega)).trans f8234
                  have f8243 : fld g8236 129 18 = .int z8227 := (e2.1 129 18 (by unfold Only; omega)).trans f8235
                  have f8244 : fld g8236 129 20 = .int (1 : Int32) := e1
                  have hG := hG.put e1 e2 (rfl : rF 129 20 = (-2147483648, 2147483647)) (by decide) (by have := kc_1; have := i_rng (1 : Int32); omega) (by have := kc_1; have := i_rng (1 : Int32); omega)
                  refine q_aload_n hM dX12_stepTold_259 (lv_at hl 0 rfl) ?_
                  refine q_dup hM dX12_stepTold_260 rfl ?_
                  refine w_get (v := .int v8157) hM hW FG_X12_173 lb_129 f8237 dX12_stepTold_261 ?_
                  have bv8157 := hG.f f8237 rF_129_3 (by decide)
                  refine q_iconst (v := (1 : Int32)) hM dX12_stepTold_264 (by decide) ?_
                  refine q_iadd hM dX12_stepTold_265 (fun z8245 hz8245 => ?_)
                  first | have tz8245 := i_addT hz8245 (rfl : v8157.toInt = v8157.toInt) (kc_1 : (1 : Int32).toInt = 1) (by omega) (by omega) | skip
                  refine w_put hM hW FP_X12_173 lb_129 (by omega) (Or.inl ⟨_, rfl⟩) rfl rfl dX12_stepTold_266 (fun g8246 H locs hW e1 e2 => ?_)
                  have f8247 : fld g8246 129 5 = .int v8158 := (e2.1 129 5 (by unfold Only; omega)).trans f8238
                  have f8248 : fld g8246 129 19 = .int om := (e2.1 129 19 (by unfold Only; omega)).trans f8239
                  have f8249 : arI g8246 139 = arI g0 139 := (e2.2.1 139 (by unfold Only; omega)).trans f8240
                  have f8250 : arI g8246 140 = arI g0 140 := (e2.2.1 140 (by unfold Only; omega)).trans f8241
                  have f8251 : arI g8246 141 = arI g0 141 := (e2.2.1 141 (by unfold Only; omega)).trans f8242
                  have f8252 : fld g8246 129 18 = .int z8227 := (e2.1 129 18 (by unfold Only; omega)).trans f8243
                  have f8253 : fld g8246 129 20 = .int (1 : Int32) := (e2.1 129 20 (by unfold Only; omega)).trans f8244
                  have f8254 : fld g8246 129 3 = .int z8245 := e1
                  have hG := hG.put e1 e2 rF_129_3 (by decide) (by have := i_rng z8245; omega) (by have := i_rng z8245; omega)
                  exact hE _ _ _ _ _ hW.1 ⟨z8245, v8158, z8227, om, rfl, hW.2.1, hG, hW.2.2, f8254, f8247, f8252, f8248, (by omega), (by omega), (by omega), (fun _ => by rw [f8249, f8250, f8251]; exact OA_mono hO (by omega) (by omega))⟩ dX12_stepTold_269
                · refine q_aload_n hM dX12_stepTold_225 (lv_at hl 0 rfl) ?_
                  refine w_get (v := .ref (ad 137)) hM hW FG_X12_37 lb_129 (rf_129_16 hW.2.1) dX12_stepTold_226 ?_
                  refine q_aload_n hM dX12_stepTold_229 (lv_at hl 0 rfl) ?_
                  refine w_get (v := .int nm) hM hW FG_X12_227 lb_129 c219_129_18 dX12_stepTold_230 ?_
                  have bnm := hG.f c219_129_18 rF_129_18 (by decide)
                  refine q_iload hM dX12_stepTold_233 (lv_at hl 4 rfl) ?_
                  refine q_iadd hM dX12_stepTold_235 (fun z8256 hz8256 => ?_)
                  first | have tz8256 := i_addT hz8256 (rfl : nm.toInt = nm.toInt) (rfl : w219_4.toInt = w219_4.toInt) (by omega) (by omega) | skip
                  refine q_iload_n hM dX12_stepTold_236 (lv_at hl 3 rfl) ?_
                  refine w_iast hM hW lb_137 (by omega) (i_in (by omega) (by omega)) dX12_stepTold_237 (fun g8257 H locs hW e1 e2 => ?_)
                  have f8258 : fld g8257 129 3 = .int v8157 := (e2.1 129 3 (by unfold Only; omega)).trans c219_129_3
                  have f8259 : fld g8257 129 5 = .int v8158 := (e2.1 129 5 (by unfold Only; omega)).trans c219_129_5
                  have f8260 : fld g8257 129 18 = .int nm := (e2.1 129 18 (by unfold Only; omega)).trans c219_129_18
                  have f8261 : fld g8257 129 19 = .int om := (e2.1 129 19 (by unfold Only; omega)).trans c219_129_19
                  have f8262 : arI g8257 139 = arI g0 139 := (e2.2.1 139 (by unfold Only; omega)).trans d219_139
                  have f8263 : arI g8257 140 = arI g0 140 := (e2.2.1 140 (by unfold Only; omega)).trans d219_140
                  have f8264 : arI g8257 141 = arI g0 141 := (e2.2.1 141 (by unfold Only; omega)).trans d219_141
                  have hG := hG.st e1 e2 rA_137 (by have := i_rng r8159; omega) (by have := i_rng r8159; omega)
                  refine q_iinc (lv9 := fun z8265 => [(4, .int z8265), (0, .ref (ad 129)), (1, .int pl), (2, .int r8143), (3, .int r8159)]) hM dX12_stepTold_238 hl (kq := 4) rfl (by decide) (fun _ => rfl) (fun z8265 ls hz8265 hl => ?_)
                  first | have tz8265 := i_addT hz8265 (rfl : w219_4.toInt = w219_4.toInt) (kc_1 : (Int32.ofInt 1).toInt = 1) (by omega) (by omega) | skip
                  refine q_goto (tgt := 219) hM dX12_stepTold_241 (by decide) ?_
                  exact ih219 z8265 _ _ _ _ (by omega) hG (by omega) f8258 f8259 f8260 f8261 f8262 f8263 f8264 (lv_sub hl [1, 2, 3, 4, 0] rfl) hW
            have := kc_0
            exact L219 _ (0 : Int32) _ _ _ _ (Nat.lt_succ_self _) hG (by omega) q8160 q8161 f8169 f8170 f8166 f8167 f8168 (lv_sub hl [4, 3, 2, 1, 0] rfl) hW
          · exact hE _ _ _ _ _ hW.1 ⟨v8157, v8158, nm, om, rfl, hW.2.1, hG, hW.2.2, q8160, q8161, f8169, f8170, (by omega), (by omega), (by omega), (fun _ => by rw [f8166, f8167, f8168]; exact OA_mono hO (by omega) (by omega))⟩ dX12_stepTold_215
        · refine q_aload_n hM dX12_stepTold_201 (lv_at hl 3 rfl) ?_
          refine q_bipush (v := (6 : Int32)) hM dX12_stepTold_202 (by decide) ?_
          refine q_iload_n hM dX12_stepTold_204 (lv_at hl 2 rfl) ?_
          refine q_callV (As := [.int (6 : Int32), .int pl]) (rest := []) hM hW.1 hR hC myX12_wrongs (kAW (v_5_9 (List.mem_of_getElem? (i := 11) rfl)) rfl) (rfl : vwCl[12]? = some (RX12, TX12, 86)) rfl lb_129.1 (shO hW.2.1 lb_129) (a_X12_wrongs _ _ cA ad g8165 (6 : Int32) pl v8158 hW.2.1 hG q8161 (by have := kc_6; omega) (by have := kc_6; omega) (by have := kc_6; omega) (by have := kc_6; omega)) ⟨by decide, by decide⟩ rfl rfl hl.1 (Nat.le_of_ble_eq_true rfl) dX12_stepTold_205 (fun v g8271 H locs hp hW1 => ?_)
          obtain ⟨v8268, rfl, hs1, hG, hf1, q8269, e8270⟩ := hp
          have f8272 : arI g8271 139 = arI g0 139 := (hf1.2.1 139 (by omega)).trans f8166
          have f8273 : arI g8271 140 = arI g0 140 := (hf1.2.1 140 (by omega)).trans f8167
          have f8274 : arI g8271 141 = arI g0 141 := (hf1.2.1 141 (by omega)).trans f8168
          have f8275 : fld g8271 129 18 = .int nm := (hf1.1 129 18 (by omega)).trans f8169
          have f8276 : fld g8271 129 19 = .int om := (hf1.1 129 19 (by omega)).trans f8170
          have f8277 : fld g8271 129 3 = .int v8157 := (hf1.1 129 3 (by omega)).trans q8160
          have hW : WS ad cA (fun i k => (i = 129 ∧ (k = 3 ∨ k = 5 ∨ k = 18 ∨ k = 19 ∨ k = 20)) ∨ i = 137 ∨ i = 139 ∨ i = 140 ∨ i = 141) g0 K g8271 H locs := ⟨hW1, hs1, hW.2.2.tr hf1 (fun i k h => (Or.inl (by omega)))⟩
          refine q_aload_n hM dX12_stepTold_208 (lv_at hl 3 rfl) ?_
          refine q_callV (As := []) (rest := []) hM hW.1 hR hC myX12_isGood (kAW (v_5_8 (List.mem_of_getElem? (i := 11) rfl)) rfl) (rfl : vwCl[12]? = some (RX12, TX12, 86)) rfl lb_129.1 (shO hW.2.1 lb_129) (a_X12_isGood _ _ cA ad g8271 v8268 hW.2.1 hG q8269) ⟨by decide, by decide⟩ rfl rfl hl.1 (Nat.le_of_ble_eq_true rfl) dX12_stepTold_209 (fun v g8279 H locs hp hW1 => ?_)
          obtain ⟨r8278, rfl, hr8278, rfl⟩ := hp
          have hW : WS ad cA (fun i k => (i = 129 ∧ (k = 3 ∨ k = 5 ∨ k = 18 ∨ k = 19 ∨ k = 20)) ∨ i = 137 ∨ i = 139 ∨ i = 140 ∨ i = 141) g0 K g8271 H locs := ⟨hW1, hW.2.1, hW.2.2⟩
          refine q_if_ne (tgt := 216) hM dX12_stepTold_212 (by decide) (rfl : r8278.toInt = r8278.toInt) (fun h212 => ?_) (fun h212 => ?_)
          · refine q_iconst (v := (0 : Int32)) hM dX12_stepTold_216 (by decide) ?_
            refine q_istore (lv9 := [(4, .int (0 : Int32)), (3, .int r8159), (2, .int r8143), (1, .int pl), (0, .ref (ad 129))]) hM dX12_stepTold_217 hl (by decide) rfl (fun ls hl => ?_)
            have L219 : ∀ (fu219 : Nat) (w219_4 : Int32) (g9 : Nat → va_E) (H : Heap) (locs : List Loc) (ls : Array Slot), (r8143.toInt - w219_4.toInt + 1).toNat < fu219 → (Rng g9) → (0 ≤ w219_4.toInt) → (fld g9 129 3 = .int v8157) → (fld g9 129 5 = .int v8268) → (fld g9 129 18 = .int nm) → (fld g9 129 19 = .int om) → (arI g9 139 = arI g0 139) → (arI g9 140 = arI g0 140) → (arI g9 141 = arI g0 141) → lv_has ls 5 [(0, .ref (ad 129)), (1, .int pl), (2, .int r8143), (3, .int r8159), (4, .int w219_4)] → WS ad cA (fun i k => (i = 129 ∧ (k = 3 ∨ k = 5 ∨ k = 18 ∨ k = 19 ∨ k = 20)) ∨ i = 137 ∨ i = 139 ∨ i = 140 ∨ i = 141) g0 K g9 H locs → XX K 0 0 H locs 219 ls [] := by
              intro fu219
              induction fu219 with
              | zero => intro w219_4 g9 H locs ls h0; omega
              | succ fu219 ih219 =>
                intro w219_4 g9 H locs ls hm219 i219_0 i219_1 c219_129_3 c219_129_5 c219_129_18 c219_129_19 d219_139 d219_140 d219_141 hl hW
                have hG := i219_0
                have := i_rng r8143
                refine q_iload hM dX12_stepTold_219 (lv_at hl 4 rfl) ?_
                refine q_iload_n hM dX12_stepTold_221 (lv_at hl 2 rfl) ?_
                refine q_icmp_ge (tgt := 244) hM dX12_stepTold_222 (by decide) (rfl : w219_4.toInt = w219_4.toInt) (rfl : r8143.toInt = r8143.toInt) (fun h222 => ?_) (fun h222 => ?_)
                · refine q_aload_n hM dX12_stepTold_244 (lv_at hl 0 rfl) ?_
                  refine q_dup hM dX12_stepTold_245 rfl ?_
                  refine w_get (v := .int nm) hM hW FG_X12_227 lb_129 c219_129_18 dX12_stepTold_246 ?_
                  have bnm := hG.f c219_129_18 rF_129_18 (by decide)
                  refine q_iload_n hM dX12_stepTold_249 (lv_at hl 2 rfl) ?_
                  refine q_iadd hM dX12_stepTold_250 (fun z8283 hz8283 => ?_)
                  first | have tz8283 := i_addT hz8283 (rfl : nm.toInt = nm.toInt) (rfl : r8143.toInt = r8143.toInt) (by omega) (by omega) | skip
                  refine w_put hM hW FP_X12_227 lb_129 (by omega) (Or.inl ⟨_, rfl⟩) rfl rfl dX12_stepTold_251 (fun g8284 H locs hW e1 e2 => ?_)
                  have f8285 : fld g8284 129 3 = .int v8157 := (e2.1 129 3 (by unfold Only; omega)).trans c219_129_3
                  have f8286 : fld g8284 129 5 = .int v8268 := (e2.1 129 5 (by unfold Only; omega)).trans c219_129_5
                  have f8287 : fld g8284 129 19 = .int om := (e2.1 129 19 (by unfold Only; omega)).trans c219_129_19
                  have f8288 : arI g8284 139 = arI g0 139 := (e2.2.1 139 (by unfold Only; omega)).trans d219_139
                  have f8289 : arI g8284 140 = arI g0 140 := (e2.2.1 140 (by unfold Only; omega)).trans d219_140
                  have f8290 : arI g8284 141 = arI g0 141 := (e2.2.1 141 (by unfold Only; omega)).trans d219_141
                  have f8291 : fld g8284 129 18 = .int z8283 := e1
                  have hG := hG.put e1 e2 rF_129_18 (by decide) (by have := i_rng z8283; omega) (by have := i_rng z8283; omega)
                  refine q_aload_n hM dX12_stepTold_254 (lv_at hl 0 rfl) ?_
                  refine q_iconst (v := (1 : Int32)) hM dX12_stepTold_255 (by decide) ?_
                  refine w_put hM hW FP_X12_254 lb_129 (by omega) (Or.inl ⟨_, rfl⟩) rfl rfl dX12_stepTold_256 (fun g8292 H locs hW e1 e2 => ?_)
                  have f8293 : fld g8292 129 3 = .int v8157 := (e2.1 129 3 (by unfold Only; omega)).trans f8285
                  have f8294 : fld g8292 129 5 = .int v8268 := (e2.1 129 5 (by unfold Only; omega)).trans f8286
                  have f8295 : fld g8292 129 19 = .int om := (e2.1 129 19 (by unfold Only; omega)).trans f8287
                  have f8296 : arI g8292 139 = arI g0 139 := (e2.2.1 139 (by unfold Only; omega)).trans f8288
                  have f8297 : arI g8292 140 = arI g0 140 := (e2.2.1 140 (by unfold Only; omega)).trans f8289
                  have f8298 : arI g8292 141 = arI g0 141 := (e2.2.1 141 (by unfold Only; omega)).trans f8290
                  have f8299 : fld g8292 129 18 = .int z8283 := (e2.1 129 18 (by unfold Only; omega)).trans f8291
                  have f8300 : fld g8292 129 20 = .int (1 : Int32) := e1
                  have hG := hG.put e1 e2 (rfl : rF 129 20 = (-2147483648, 2147483647)) (by decide) (by have := kc_1; have := i_rng (1 : Int32); omega) (by have := kc_1; have := i_rng (1 : Int32); omega)
                  refine q_aload_n hM dX12_stepTold_259 (lv_at hl 0 rfl) ?_
                  refine q_dup hM dX12_stepTold_260 rfl ?_
                  refine w_get (v := .int v8157) hM hW FG_X12_173 lb_129 f8293 dX12_stepTold_261 ?_
                  have bv8157 := hG.f f8293 rF_129_3 (by decide)
                  refine q_iconst (v := (1 : Int32)) hM dX12_stepTold_264 (by decide) ?_
                  refine q_iadd hM dX12_stepTold_265 (fun z8301 hz8301 => ?_)
                  first | have tz8301 := i_addT hz8301 (rfl : v8157.toInt = v8157.toInt) (kc_1 : (1 : Int32).toInt = 1) (by omega) (by omega) | skip
                  refine w_put hM hW FP_X12_173 lb_129 (by omega) (Or.inl ⟨_, rfl⟩) rfl rfl dX12_stepTold_266 (fun g8302 H locs hW e1 e2 => ?_)
                  have f8303 : fld g8302 129 5 = .int v8268 := (e2.1 129 5 (by unfold Only; omega)).trans f8294
                  have f8304 : fld g8302 129 19 = .int om := (e2.1 129 19 (by unfold Only; omega)).trans f8295
                  have f8305 : arI g8302 139 = arI g0 139 := (e2.2.1 139 (by unfold Only; omega)).trans f8296
                  have f8306 : arI g8302 140 = arI g0 140 := (e2.2.1 140 (by unfold Only; omega)).trans f8297
                  have f8307 : arI g8302 141 = arI g0 141 := (e2.2.1 141 (by unfold Only; omega)).trans f8298
                  have f8308 : fld g8302 129 18 = .int z8283 := (e2.1 129 18 (by unfold Only; omega)).trans f8299
                  have f8309 : fld g8302 129 20 = .int (1 : Int32) := (e2.1 129 20 (by unfold Only; omega)).trans f8300
                  have f8310 : fld g8302 129 3 = .int z8301 := e1
                  have hG := hG.put e1 e2 rF_129_3 (by decide) (by have := i_rng z8301; omega) (by have := i_rng z8301; omega)
                  exact hE _ _ _ _ _ hW.1 ⟨z8301, v8268, z8283, om, rfl, hW.2.1, hG, hW.2.2, f8310, f8303, f8308, f8304, (by omega), (by omega), (by omega), (fun _ => by rw [f8305, f8306, f8307]; exact OA_mono hO (by omega) (by omega))⟩ dX12_stepTold_269
                · refine q_aload_n hM dX12_stepTold_225 (lv_at hl 0 rfl) ?_
                  refine w_get (v := .ref (ad 137)) hM hW FG_X12_37 lb_129 (rf_129_16 hW.2.1) dX12_stepTold_226 ?_
                  refine q_aload_n hM dX12_stepTold_229 (lv_at hl 0 rfl) ?_
                  refine w_get (v := .int nm) hM hW FG_X12_227 lb_129 c219_129_18 dX12_stepTold_230 ?_
                  have bnm := hG.f c219_129_18 rF_129_18 (by decide)
                  refine q_iload hM dX12_stepTold_233 (lv_at hl 4 rfl) ?_
                  refine q_iadd hM dX12_stepTold_235 (fun z8312 hz8312 => ?_)
                  first | have tz8312 := i_addT hz8312 (rfl : nm.toInt = nm.toInt) (rfl : w219_4.toInt = w219_4.toInt) (by omega) (by omega) | skip
                  refine q_iload_n hM dX12_stepTold_236 (lv_at hl 3 rfl) ?_
                  refine w_iast hM hW lb_137 (by omega) (i_in (by omega) (by omega)) dX12_stepTold_237 (fun g8313 H locs hW e1 e2 => ?_)
                  have f8314 : fld g8313 129 3 = .int v8157 := (e2.1 129 3 (by unfold Only; omega)).trans c219_129_3
                  have f8315 : fld g8313 129 5 = .int v8268 := (e2.1 129 5 (by unfold Only; omega)).trans c219_129_5
                  have f8316 : fld g8313 129 18 = .int nm := (e2.1 129 18 (by unfold Only; omega)).trans c219_129_18
                  have f8317 : fld g8313 129 19 = .int om := (e2.1 129 19 (by unfold Only; omega)).trans c219_129_19
                  have f8318 : arI g8313 139 = arI g0 139 := (e2.2.1 139 (by unfold Only; omega)).trans d219_139
                  have f8319 : arI g8313 140 = arI g0 140 := (e2.2.1 140 (by unfold Only; omega)).trans d219_140
                  have f8320 : arI g8313 141 = arI g0 141 := (e2.2.1 141 (by unfold Only; omega)).trans d219_141
                  have hG := hG.st e1 e2 rA_137 (by have := i_rng r8159; omega) (by have := i_rng r8159; omega)
                  refine q_iinc (lv9 := fun z8321 => [(4, .int z8321), (0, .ref (ad 129)), (1, .int pl), (2, .int r8143), (3, .int r8159)]) hM dX12_stepTold_238 hl (kq := 4) rfl (by decide) (fun _ => rfl) (fun z8321 ls hz8321 hl => ?_)
                  first | have tz8321 := i_addT hz8321 (rfl : w219_4.toInt = w219_4.toInt) (kc_1 : (Int32.ofInt 1).toInt = 1) (by omega) (by omega) | skip
                  refine q_goto (tgt := 219) hM dX12_stepTold_241 (by decide) ?_
                  exact ih219 z8321 _ _ _ _ (by omega) hG (by omega) f8314 f8315 f8316 f8317 f8318 f8319 f8320 (lv_sub hl [1, 2, 3, 4, 0] rfl) hW
            have := kc_0
            exact L219 _ (0 : Int32) _ _ _ _ (Nat.lt_succ_self _) hG (by omega) f8277 q8269 f8275 f8276 f8272 f8273 f8274 (lv_sub hl [4, 3, 2, 1, 0] rfl) hW
          · exact hE _ _ _ _ _ hW.1 ⟨v8157, v8268, nm, om, rfl, hW.2.1, hG, hW.2.2, f8277, q8269, f8275, f8276, (by omega), (by omega), (by omega), (fun _ => by rw [f8272, f8273, f8274]; exact OA_mono hO (by omega) (by omega))⟩ dX12_stepTold_215
    · refine q_aload_n hM dX12_stepTold_94 (lv_at hl 2 rfl) ?_
      refine w_get (v := .int om) hM hW FG_X12_251 lb_129 f8153 dX12_stepTold_95 ?_
      have bom := hG.f f8153 rF_129_19 (by decide)
      refine q_iconst (v := (2 : Int32)) hM dX12_stepTold_98 (by decide) ?_
      refine q_icmp_ne (tgt := 111) hM dX12_stepTold_99 (by decide) (rfl : om.toInt = om.toInt) (kc_2 : (2 : Int32).toInt = 2) (fun h99 => ?_) (fun h99 => ?_)
      · refine q_aload_n hM dX12_stepTold_111 (lv_at hl 2 rfl) ?_
        refine q_callV (As := []) (rest := []) hM hW.1 hR hC myX12_isGood (kAW (v_5_8 (List.mem_of_getElem? (i := 11) rfl)) rfl) (rfl : vwCl[12]? = some (RX12, TX12, 86)) rfl lb_129.1 (shO hW.2.1 lb_129) (a_X12_isGood _ _ cA ad g8147 bd hW.2.1 hG f8151) ⟨by decide, by decide⟩ rfl rfl hl.1 (Nat.le_of_ble_eq_true rfl) dX12_stepTold_112 (fun v g8326 H locs hp hW1 => ?_)
        obtain ⟨r8325, rfl, hr8325, rfl⟩ := hp
        have hW : WS ad cA (fun i k => (i = 129 ∧ (k = 3 ∨ k = 5 ∨ k = 18 ∨ k = 19 ∨ k = 20)) ∨ i = 137 ∨ i = 139 ∨ i = 140 ∨ i = 141) g0 K g8147 H locs := ⟨hW1, hW.2.1, hW.2.2⟩
        refine q_if_ne (tgt := 119) hM dX12_stepTold_115 (by decide) (rfl : r8325.toInt = r8325.toInt) (fun h115 => ?_) (fun h115 => ?_)
        · refine q_aload_n hM dX12_stepTold_119 (lv_at hl 2 rfl) ?_
          refine w_get (v := .ref (ad 139)) hM hW FG_X12_43 lb_129 (rf_129_21 hW.2.1) dX12_stepTold_120 ?_
          refine q_aload_n hM dX12_stepTold_123 (lv_at hl 2 rfl) ?_
          refine w_get (v := .int om) hM hW FG_X12_251 lb_129 f8153 dX12_stepTold_124 ?_
          have bom := hG.f f8153 rF_129_19 (by decide)
          refine q_aload_n hM dX12_stepTold_127 (lv_at hl 2 rfl) ?_
          refine w_get (v := .int nm) hM hW FG_X12_227 lb_129 f8152 dX12_stepTold_128 ?_
          have bnm := hG.f f8152 rF_129_18 (by decide)
          refine w_iast hM hW lb_139 (by omega) (i_in (by omega) (by omega)) dX12_stepTold_131 (fun g8328 H locs hW e1 e2 => ?_)
          have f8329 : arI g8328 140 = arI g0 140 := (e2.2.1 140 (by unfold Only; omega)).trans f8149
          have f8330 : arI g8328 141 = arI g0 141 := (e2.2.1 141 (by unfold Only; omega)).trans f8150
          have f8331 : fld g8328 129 5 = .int bd := (e2.1 129 5 (by unfold Only; omega)).trans f8151
          have f8332 : fld g8328 129 18 = .int nm := (e2.1 129 18 (by unfold Only; omega)).trans f8152
          have f8333 : fld g8328 129 19 = .int om := (e2.1 129 19 (by unfold Only; omega)).trans f8153
          have f8334 : fld g8328 129 3 = .int v8142 := (e2.1 129 3 (by unfold Only; omega)).trans q8144
          have f8335 := e1
          rw [f8148] at f8335
          have hG := hG.st e1 e2 rA_139 (by have := i_rng nm; omega) (by have := i_rng nm; omega)
          refine q_aload_n hM dX12_stepTold_132 (lv_at hl 2 rfl) ?_
          refine w_get (v := .ref (ad 140)) hM hW FG_X12_46 lb_129 (rf_129_22 hW.2.1) dX12_stepTold_133 ?_
          refine q_aload_n hM dX12_stepTold_136 (lv_at hl 2 rfl) ?_
          refine w_get (v := .int om) hM hW FG_X12_251 lb_129 f8333 dX12_stepTold_137 ?_
          have bom := hG.f f8333 rF_129_19 (by decide)
          refine q_iload_n hM dX12_stepTold_140 (lv_at hl 0 rfl) ?_
          refine w_iast hM hW lb_140 (by omega) (i_in (by omega) (by omega)) dX12_stepTold_141 (fun g8336 H locs hW e1 e2 => ?_)
          have f8337 : arI g8336 141 = arI g0 141 := (e2.2.1 141 (by unfold Only; omega)).trans f8330
          have f8338 : fld g8336 129 5 = .int bd := (e2.1 129 5 (by unfold Only; omega)).trans f8331
          have f8339 : fld g8336 129 18 = .int nm := (e2.1 129 18 (by unfold Only; omega)).trans f8332
          have f8340 : fld g8336 129 19 = .int om := (e2.1 129 19 (by unfold Only; omega)).trans f8333
          have f8341 : fld g8336 129 3 = .int v8142 := (e2.1 129 3 (by unfold Only; omega)).trans f8334
          have f8342 : arI g8336 139 = upd (arI g0 139) om.toNatClampNeg nm := (e2.2.1 139 (by unfold Only; omega)).trans f8335
          have f8343 := e1
          rw [f8329] at f8343
          have hG := hG.st e1 e2 rA_140 (by have := i_rng r8143; omega) (by have := i_rng r8143; omega)
          refine q_aload_n hM dX12_stepTold_142 (lv_at hl 2 rfl) ?_
          refine w_get (v := .ref (ad 141)) hM hW FG_X12_49 lb_129 (rf_129_23 hW.2.1) dX12_stepTold_143 ?_
          refine q_aload_n hM dX12_stepTold_146 (lv_at hl 2 rfl) ?_
          refine w_get (v := .int om) hM hW FG_X12_251 lb_129 f8340 dX12_stepTold_147 ?_
          have bom := hG.f f8340 rF_129_19 (by decide)
          refine q_iload_n hM dX12_stepTold_150 (lv_at hl 1 rfl) ?_
          refine w_iast hM hW lb_141 (by omega) (i_in (by omega) (by omega)) dX12_stepTold_151 (fun g8344 H locs hW e1 e2 => ?_)
          have f8345 : fld g8344 129 5 = .int bd := (e2.1 129 5 (by unfold Only; omega)).trans f8338
          have f8346 : fld g8344 129 18 = .int nm := (e2.1 129 18 (by unfold Only; omega)).trans f8339
          have f8347 : fld g8344 129 19 = .int om := (e2.1 129 19 (by unfold Only; omega)).trans f8340
          have f8348 : fld g8344 129 3 = .int v8142 := (e2.1 129 3 (by unfold Only; omega)).trans f8341
          have f8349 : arI g8344 139 = upd (arI g0 139) om.toNatClampNeg nm := (e2.2.1 139 (by unfold Only; omega)).trans f8342
          have f8350 : arI g8344 140 = upd (arI g0 140) om.toNatClampNeg r8143 := (e2.2.1 140 (by unfold Only; omega)).trans f8343
          have f8351 := e1
          rw [f8329] at f8351
          have hG := hG.st e1 e2 (rfl : rA 141 = (-2147483648, 2147483647)) (by have := i_rng pl; omega) (by have := i_rng pl; omega)
          refine q_aload_n hM dX12_stepTold_152 (lv_at hl 2 rfl) ?_
          refine q_dup hM dX12_stepTold_153 rfl ?_
          refine w_get (v := .int om) hM hW FG_X12_251 lb_129 f8347 dX12_stepTold_154 ?_
          have bom := hG.f f8347 rF_129_19 (by decide)
          refine q_iconst (v := (1 : Int32)) hM dX12_stepTold_157 (by decide) ?_
          refine q_iadd hM dX12_stepTold_158 (fun z8352 hz8352 => ?_)
          first | have tz8352 := i_addT hz8352 (rfl : om.toInt = om.toInt) (kc_1 : (1 : Int32).toInt = 1) (by omega) (by omega) | skip
          refine w_put hM hW FP_X12_251 lb_129 (by omega) (Or.inl ⟨_, rfl⟩) rfl rfl dX12_stepTold_159 (fun g8353 H locs hW e1 e2 => ?_)
          have f8354 : fld g8353 129 5 = .int bd := (e2.1 129 5 (by unfold Only; omega)).trans f8345
          have f8355 : fld g8353 129 18 = .int nm := (e2.1 129 18 (by unfold Only; omega)).trans f8346
          have f8356 : fld g8353 129 3 = .int v8142 := (e2.1 129 3 (by unfold Only; omega)).trans f8348
          have f8357 : arI g8353 139 = upd (arI g0 139) om.toNatClampNeg nm := (e2.2.1 139 (by unfold Only; omega)).trans f8349
          have f8358 : arI g8353 140 = upd (arI g0 140) om.toNatClampNeg r8143 := (e2.2.1 140 (by unfold Only; omega)).trans f8350
          have f8359 : arI g8353 141 = upd (arI g0 141) om.toNatClampNeg pl := (e2.2.1 141 (by unfold Only; omega)).trans f8351
          have f8360 : fld g8353 129 19 = .int z8352 := e1
          have hG := hG.put e1 e2 rF_129_19 (by decide) (by have := i_rng z8352; omega) (by have := i_rng z8352; omega)
          refine q_aload_n hM dX12_stepTold_162 (lv_at hl 2 rfl) ?_
          refine q_iconst (v := (0 : Int32)) hM dX12_stepTold_163 (by decide) ?_
          refine w_put hM hW FP_X12_254 lb_129 (by omega) (Or.inl ⟨_, rfl⟩) rfl rfl dX12_stepTold_164 (fun g8361 H locs hW e1 e2 => ?_)
          have f8362 : fld g8361 129 5 = .int bd := (e2.1 129 5 (by unfold Only; omega)).trans f8354
          have f8363 : fld g8361 129 18 = .int nm := (e2.1 129 18 (by unfold Only; omega)).trans f8355
          have f8364 : fld g8361 129 3 = .int v8142 := (e2.1 129 3 (by unfold Only; omega)).trans f8356
          have f8365 : arI g8361 139 = upd (arI g0 139) om.toNatClampNeg nm := (e2.2.1 139 (by unfold Only; omega)).trans f8357
          have f8366 : arI g8361 140 = upd (arI g0 140) om.toNatClampNeg r8143 := (e2.2.1 140 (by unfold Only; omega)).trans f8358
          have f8367 : arI g8361 141 = upd (arI g0 141) om.toNatClampNeg pl := (e2.2.1 141 (by unfold Only; omega)).trans f8359
          have f8368 : fld g8361 129 19 = .int z8352 := (e2.1 129 19 (by unfold Only; omega)).trans f8360
          have f8369 : fld g8361 129 20 = .int (0 : Int32) := e1
          have hG := hG.put e1 e2 (rfl : rF 129 20 = (-2147483648, 2147483647)) (by decide) (by have := kc_0; have := i_rng (0 : Int32); omega) (by have := kc_0; have := i_rng (0 : Int32); omega)
          refine q_aload_n hM dX12_stepTold_167 (lv_at hl 2 rfl) ?_
          refine q_dup hM dX12_stepTold_168 rfl ?_
          refine w_get (v := .int v8142) hM hW FG_X12_173 lb_129 f8364 dX12_stepTold_169 ?_
          have bv8142 := hG.f f8364 rF_129_3 (by decide)
          refine q_iconst (v := (1 : Int32)) hM dX12_stepTold_172 (by decide) ?_
          refine q_iadd hM dX12_stepTold_173 (fun z8370 hz8370 => ?_)
          first | have tz8370 := i_addT hz8370 (rfl : v8142.toInt = v8142.toInt) (kc_1 : (1 : Int32).toInt = 1) (by omega) (by omega) | skip
          refine w_put hM hW FP_X12_173 lb_129 (by omega) (Or.inl ⟨_, rfl⟩) rfl rfl dX12_stepTold_174 (fun g8371 H locs hW e1 e2 => ?_)
          have f8372 : fld g8371 129 5 = .int bd := (e2.1 129 5 (by unfold Only; omega)).trans f8362
          have f8373 : fld g8371 129 18 = .int nm := (e2.1 129 18 (by unfold Only; omega)).trans f8363
          have f8374 : arI g8371 139 = upd (arI g0 139) om.toNatClampNeg nm := (e2.2.1 139 (by unfold Only; omega)).trans f8365
          have f8375 : arI g8371 140 = upd (arI g0 140) om.toNatClampNeg r8143 := (e2.2.1 140 (by unfold Only; omega)).trans f8366
          have f8376 : arI g8371 141 = upd (arI g0 141) om.toNatClampNeg pl := (e2.2.1 141 (by unfold Only; omega)).trans f8367
          have f8377 : fld g8371 129 19 = .int z8352 := (e2.1 129 19 (by unfold Only; omega)).trans f8368
          have f8378 : fld g8371 129 20 = .int (0 : Int32) := (e2.1 129 20 (by unfold Only; omega)).trans f8369
          have f8379 : fld g8371 129 3 = .int z8370 := e1
          have hG := hG.put e1 e2 rF_129_3 (by decide) (by have := i_rng z8370; omega) (by have := i_rng z8370; omega)
          exact hE _ _ _ _ _ hW.1 ⟨z8370, bd, nm, z8352, rfl, hW.2.1, hG, hW.2.2, f8379, f8372, f8373, f8377, (by omega), (by omega), (by omega), (fun _ => by rw [f8374, f8375, f8376]; exact OA_mono (OA_push hO rfl (by omega) (by omega) (by omega) (by omega) (by omega)) (by omega) (by omega))⟩ dX12_stepTold_177
        · exact hE _ _ _ _ _ hW.1 ⟨v8142, bd, nm, om, rfl, hW.2.1, hG, hW.2.2, q8144, f8151, f8152, f8153, (by omega), (by omega), (by omega), (fun _ => by rw [f8148, f8149, f8150]; exact OA_mono hO (by omega) (by omega))⟩ dX12_stepTold_118
      · refine q_aload_n hM dX12_stepTold_102 (lv_at hl 2 rfl) ?_
        refine q_iconst (v := (5 : Int32)) hM dX12_stepTold_103 (by decide) ?_
        refine q_aload_n hM dX12_stepTold_104 (lv_at hl 2 rfl) ?_
        refine w_get (v := .int v8142) hM hW FG_X12_173 lb_129 q8144 dX12_stepTold_105 ?_
        have bv8142 := hG.f q8144 rF_129_3 (by decide)
        refine q_callV (As := [.int (5 : Int32), .int v8142]) (rest := []) hM hW.1 hR hC myX12_wrongs (kAW (v_5_9 (List.mem_of_getElem? (i := 11) rfl)) rfl) (rfl : vwCl[12]? = some (RX12, TX12, 86)) rfl lb_129.1 (shO hW.2.1 lb_129) (a_X12_wrongs _ _ cA ad g8147 (5 : Int32) v8142 bd hW.2.1 hG f8151 (by have := kc_5; omega) (by have := kc_5; omega) (by have := kc_5; omega) (by have := kc_5; omega)) ⟨by decide, by decide⟩ rfl rfl hl.1 (Nat.le_of_ble_eq_true rfl) dX12_stepTold_108 (fun v g8385 H locs hp hW1 => ?_)
        obtain ⟨v8382, rfl, hs1, hG, hf1, q8383, e8384⟩ := hp
        have f8386 : arI g8385 139 = arI g0 139 := (hf1.2.1 139 (by omega)).trans f8148
        have f8387 : arI g8385 140 = arI g0 140 := (hf1.2.1 140 (by omega)).trans f8149
        have f8388 : arI g8385 141 = arI g0 141 := (hf1.2.1 141 (by omega)).trans f8150
        have f8389 : fld g8385 129 18 = .int nm := (hf1.1 129 18 (by omega)).trans f8152
        have f8390 : fld g8385 129 19 = .int om := (hf1.1 129 19 (by omega)).trans f8153
        have f8391 : fld g8385 129 3 = .int v8142 := (hf1.1 129 3 (by omega)).trans q8144
        have hW : WS ad cA (fun i k => (i = 129 ∧ (k = 3 ∨ k = 5 ∨ k = 18 ∨ k = 19 ∨ k = 20)) ∨ i = 137 ∨ i = 139 ∨ i = 140 ∨ i = 141) g0 K g8385 H locs := ⟨hW1, hs1, hW.2.2.tr hf1 (fun i k h => (Or.inl (by omega)))⟩
        refine q_aload_n hM dX12_stepTold_111 (lv_at hl 2 rfl) ?_
        refine q_callV (As := []) (rest := []) hM hW.1 hR hC myX12_isGood (kAW (v_5_8 (List.mem_of_getElem? (i := 11) rfl)) rfl) (rfl : vwCl[12]? = some (RX12, TX12, 86)) rfl lb_129.1 (shO hW.2.1 lb_129) (a_X12_isGood _ _ cA ad g8385 v8382 hW.2.1 hG q8383) ⟨by decide, by decide⟩ rfl rfl hl.1 (Nat.le_of_ble_eq_true rfl) dX12_stepTold_112 (fun v g8393 H locs hp hW1 => ?_)
        obtain ⟨r8392, rfl, hr8392, rfl⟩ := hp
        have hW : WS ad cA (fun i k => (i = 129 ∧ (k = 3 ∨ k = 5 ∨ k = 18 ∨ k = 19 ∨ k = 20)) ∨ i = 137 ∨ i = 139 ∨ i = 140 ∨ i = 141) g0 K g8385 H locs := ⟨hW1, hW.2.1, hW.2.2⟩
        refine q_if_ne (tgt := 119) hM dX12_stepTold_115 (by decide) (rfl : r8392.toInt = r8392.toInt) (fun h115 => ?_) (fun h115 => ?_)
        · refine q_aload_n hM dX12_stepTold_119 (lv_at hl 2 rfl) ?_
          refine w_get (v := .ref (ad 139)) hM hW FG_X12_43 lb_129 (rf_129_21 hW.2.1) dX12_stepTold_120 ?_
          refine q_aload_n hM dX12_stepTold_123 (lv_at hl 2 rfl) ?_
          refine w_get (v := .int om) hM hW FG_X12_251 lb_129 f8390 dX12_stepTold_124 ?_
          have bom := hG.f f8390 rF_129_19 (by decide)
          refine q_aload_n hM dX12_stepTold_127 (lv_at hl 2 rfl) ?_
          refine w_get (v := .int nm) hM hW FG_X12_227 lb_129 f8389 dX12_stepTold_128 ?_
          have bnm := hG.f f8389 rF_129_18 (by decide)
          refine w_iast hM hW lb_139 (by omega) (i_in (by omega) (by omega)) dX12_stepTold_131 (fun g8395 H locs hW e1 e2 => ?_)
          have f8396 : arI g8395 140 = arI g0 140 := (e2.2.1 140 (by unfold Only; omega)).trans f8387
          have f8397 : arI g8395 141 = arI g0 141 := (e2.2.1 141 (by unfold Only; omega)).trans f8388
          have f8398 : fld g8395 129 18 = .int nm := (e2.1 129 18 (by unfold Only; omega)).trans f8389
          have f8399 : fld g8395 129 19 = .int om := (e2.1 129 19 (by unfold Only; omega)).trans f8390
          have f8400 : fld g8395 129 3 = .int v8142 := (e2.1 129 3 (by unfold Only; omega)).trans f8391
          have f8401 : fld g8395 129 5 = .int v8382 := (e2.1 129 5 (by unfold Only; omega)).trans q8383
          have f8402 := e1
          rw [f8386] at f8402
          have hG := hG.st e1 e2 rA_139 (by have := i_rng nm; omega) (by have := i_rng nm; omega)
          refine q_aload_n hM dX12_stepTold_132 (lv_at hl 2 rfl) ?_
          refine w_get (v := .ref (ad 140)) hM hW FG_X12_46 lb_129 (rf_129_22 hW.2.1) dX12_stepTold_133 ?_
          refine q_aload_n hM dX12_stepTold_136 (lv_at hl 2 rfl) ?_
          refine w_get (v := .int om) hM hW FG_X12_251 lb_129 f8399 dX12_stepTold_137 ?_
          have bom := hG.f f8399 rF_129_19 (by decide)
          refine q_iload_n hM dX12_stepTold_140 (lv_at hl 0 rfl) ?_
          refine w_iast hM hW lb_140 (by omega) (i_in (by omega) (by omega)) dX12_stepTold_141 (fun g8403 H locs hW e1 e2 => ?_)
          have f8404 : arI g8403 141 = arI g0 141 := (e2.2.1 141 (by unfold Only; omega)).trans f8397
          have f8405 : fld g8403 129 18 = .int nm := (e2.1 129 18 (by unfold Only; omega)).trans f8398
          have f8406 : fld g8403 129 19 = .int om := (e2.1 129 19 (by unfold Only; omega)).trans f8399
          have f8407 : fld g8403 129 3 = .int v8142 := (e2.1 129 3 (by unfold Only; omega)).trans f8400
          have f8408 : fld g8403 129 5 = .int v8382 := (e2.1 129 5 (by unfold Only; omega)).trans f8401
          have f8409 : arI g8403 139 = upd (arI g0 139) om.toNatClampNeg nm := (e2.2.1 139 (by unfold Only; omega)).trans f8402
          have f8410 := e1
          rw [f8396] at f8410
          have hG := hG.st e1 e2 rA_140 (by have := i_rng r8143; omega) (by have := i_rng r8143; omega)
          refine q_aload_n hM dX12_stepTold_142 (lv_at hl 2 rfl) ?_
          refine w_get (v := .ref (ad 141)) hM hW FG_X12_49 lb_129 (rf_129_23 hW.2.1) dX12_stepTold_143 ?_
          refine q_aload_n hM dX12_stepTold_146 (lv_at hl 2 rfl) ?_
          refine w_get (v := .int om) hM hW FG_X12_251 lb_129 f8406 dX12_stepTold_147 ?_
          have bom := hG.f f8406 rF_129_19 (by decide)
          refine q_iload_n hM dX12_stepTold_150 (lv_at hl 1 rfl) ?_
          refine w_iast hM hW lb_141 (by omega) (i_in (by omega) (by omega)) dX12_stepTold_151 (fun g8411 H locs hW e1 e2 => ?_)
          have f8412 : fld g8411 129 18 = .int nm := (e2.1 129 18 (by unfold Only; omega)).trans f8405
          have f8413 : fld g8411 129 19 = .int om := (e2.1 129 19 (by unfold Only; omega)).trans f8406
          have f8414 : fld g8411 129 3 = .int v8142 := (e2.1 129 3 (by unfold Only; omega)).trans f8407
          have f8415 : fld g8411 129 5 = .int v8382 := (e2.1 129 5 (by unfold Only; omega)).trans f8408
          have f8416 : arI g8411 139 = upd (arI g0 139) om.toNatClampNeg nm := (e2.2.1 139 (by unfold Only; omega)).trans f8409
          have f8417 : arI g8411 140 = upd (arI g0 140) om.toNatClampNeg r8143 := (e2.2.1 140 (by unfold Only; omega)).trans f8410
          have f8418 := e1
          rw [f8396] at f8418
          have hG := hG.st e1 e2 (rfl : rA 141 = (-2147483648, 2147483647)) (by have := i_rng pl; omega) (by have := i_rng pl; omega)
          refine q_aload_n hM dX12_stepTold_152 (lv_at hl 2 rfl) ?_
          refine q_dup hM dX12_stepTold_153 rfl ?_
          refine w_get (v := .int om) hM hW FG_X12_251 lb_129 f8413 dX12_stepTold_154 ?_
          have bom := hG.f f8413 rF_129_19 (by decide)
          refine q_iconst (v := (1 : Int32)) hM dX12_stepTold_157 (by decide) ?_
          refine q_iadd hM dX12_stepTold_158 (fun z8419 hz8419 => ?_)
          first | have tz8419 := i_addT hz8419 (rfl : om.toInt = om.toInt) (kc_1 : (1 : Int32).toInt = 1) (by omega) (by omega) | skip
          refine w_put hM hW FP_X12_251 lb_129 (by omega) (Or.inl ⟨_, rfl⟩) rfl rfl dX12_stepTold_159 (fun g8420 H locs hW e1 e2 => ?_)
          have f8421 : fld g8420 129 18 = .int nm := (e2.1 129 18 (by unfold Only; omega)).trans f8412
          have f8422 : fld g8420 129 3 = .int v8142 := (e2.1 129 3 (by unfold Only; omega)).trans f8414
          have f8423 : fld g8420 129 5 = .int v8382 := (e2.1 129 5 (by unfold Only; omega)).trans f8415
          have f8424 : arI g8420 139 = upd (arI g0 139) om.toNatClampNeg nm := (e2.2.1 139 (by unfold Only; omega)).trans f8416
          have f8425 : arI g8420 140 = upd (arI g0 140) om.toNatClampNeg r8143 := (e2.2.1 140 (by unfold Only; omega)).trans f8417
          have f8426 : arI g8420 141 = upd (arI g0 141) om.toNatClampNeg pl := (e2.2.1 141 (by unfold Only; omega)).trans f8418
          have f8427 : fld g8420 129 19 = .int z8419 := e1
          have hG := hG.put e1 e2 rF_129_19 (by decide) (by have := i_rng z8419; omega) (by have := i_rng z8419; omega)
          refine q_aload_n hM dX12_stepTold_162 (lv_at hl 2 rfl) ?_
          refine q_iconst (v := (0 : Int32)) hM dX12_stepTold_163 (by decide) ?_
          refine w_put hM hW FP_X12_254 lb_129 (by omega) (Or.inl ⟨_, rfl⟩) rfl rfl dX12_stepTold_164 (fun g8428 H locs hW e1 e2 => ?_)
          have f8429 : fld g8428 129 18 = .int nm := (e2.1 129 18 (by unfold Only; omega)).trans f8421
          have f8430 : fld g8428 129 3 = .int v8142 := (e2.1 129 3 (by unfold Only; omega)).trans f8422
          have f8431 : fld g8428 129 5 = .int v8382 := (e2.1 129 5 (by unfold Only; omega)).trans f8423
          have f8432 : arI g8428 139 = upd (arI g0 139) om.toNatClampNeg nm := (e2.2.1 139 (by unfold Only; omega)).trans f8424
          have f8433 : arI g8428 140 = upd (arI g0 140) om.toNatClampNeg r8143 := (e2.2.1 140 (by unfold Only; omega)).trans f8425
          have f8434 : arI g8428 141 = upd (arI g0 141) om.toNatClampNeg pl := (e2.2.1 141 (by unfold Only; omega)).trans f8426
          have f8435 : fld g8428 129 19 = .int z8419 := (e2.1 129 19 (by unfold Only; omega)).trans f8427
          have f8436 : fld g8428 129 20 = .int (0 : Int32) := e1
          have hG := hG.put e1 e2 (rfl : rF 129 20 = (-2147483648, 2147483647)) (by decide) (by have := kc_0; have := i_rng (0 : Int32); omega) (by have := kc_0; have := i_rng (0 : Int32); omega)
          refine q_aload_n hM dX12_stepTold_167 (lv_at hl 2 rfl) ?_
          refine q_dup hM dX12_stepTold_168 rfl ?_
          refine w_get (v := .int v8142) hM hW FG_X12_173 lb_129 f8430 dX12_stepTold_169 ?_
          have bv8142 := hG.f f8430 rF_129_3 (by decide)
          refine q_iconst (v := (1 : Int32)) hM dX12_stepTold_172 (by decide) ?_
          refine q_iadd hM dX12_stepTold_173 (fun z8437 hz8437 => ?_)
          first | have tz8437 := i_addT hz8437 (rfl : v8142.toInt = v8142.toInt) (kc_1 : (1 : Int32).toInt = 1) (by omega) (by omega) | skip
          refine w_put hM hW FP_X12_173 lb_129 (by omega) (Or.inl ⟨_, rfl⟩) rfl rfl dX12_stepTold_174 (fun g8438 H locs hW e1 e2 => ?_)
          have f8439 : fld g8438 129 18 = .int nm := (e2.1 129 18 (by unfold Only; omega)).trans f8429
          have f8440 : fld g8438 129 5 = .int v8382 := (e2.1 129 5 (by unfold Only; omega)).trans f8431
          have f8441 : arI g8438 139 = upd (arI g0 139) om.toNatClampNeg nm := (e2.2.1 139 (by unfold Only; omega)).trans f8432
          have f8442 : arI g8438 140 = upd (arI g0 140) om.toNatClampNeg r8143 := (e2.2.1 140 (by unfold Only; omega)).trans f8433
          have f8443 : arI g8438 141 = upd (arI g0 141) om.toNatClampNeg pl := (e2.2.1 141 (by unfold Only; omega)).trans f8434
          have f8444 : fld g8438 129 19 = .int z8419 := (e2.1 129 19 (by unfold Only; omega)).trans f8435
          have f8445 : fld g8438 129 20 = .int (0 : Int32) := (e2.1 129 20 (by unfold Only; omega)).trans f8436
          have f8446 : fld g8438 129 3 = .int z8437 := e1
          have hG := hG.put e1 e2 rF_129_3 (by decide) (by have := i_rng z8437; omega) (by have := i_rng z8437; omega)
          exact hE _ _ _ _ _ hW.1 ⟨z8437, v8382, nm, z8419, rfl, hW.2.1, hG, hW.2.2, f8446, f8440, f8439, f8444, (by omega), (by omega), (by omega), (fun _ => by rw [f8441, f8442, f8443]; exact OA_mono (OA_push hO rfl (by omega) (by omega) (by omega) (by omega) (by omega)) (by omega) (by omega))⟩ dX12_stepTold_177
        · exact hE _ _ _ _ _ hW.1 ⟨v8142, v8382, nm, om, rfl, hW.2.1, hG, hW.2.2, f8391, q8383, f8389, f8390, (by omega), (by omega), (by omega), (fun _ => by rw [f8386, f8387, f8388]; exact OA_mono hO (by omega) (by omega))⟩ dX12_stepTold_118
  · refine q_aload_n hM dX12_stepTold_14 (lv_at hl 1 rfl) ?_
    refine w_get (v := .int om) hM hW FG_X12_251 lb_129 f8138 dX12_stepTold_15 ?_
    have bom := hG.f f8138 rF_129_19 (by decide)
    refine q_if_le (tgt := 80) hM dX12_stepTold_18 (by decide) (rfl : om.toInt = om.toInt) (fun h18 => ?_) (fun h18 => ?_)
    · refine q_aload_n hM dX12_stepTold_80 (lv_at hl 1 rfl) ?_
      refine q_callV (As := []) (rest := []) hM hW.1 hR hC myX12_timesTold (kAW (v_5_9 (List.mem_of_getElem? (i := 15) rfl)) rfl) (rfl : vwCl[12]? = some (RX12, TX12, 86)) rfl lb_129.1 (shO hW.2.1 lb_129) (a_X12_timesTold _ _ cA ad g0 pl en hW.2.1 hG f8135 ((hW.2.2.1 129 4 (by omega)).trans h_en) (by  omega) (by  omega) (by  omega) (by  omega)) ⟨by decide, by decide⟩ rfl rfl hl.1 (Nat.le_of_ble_eq_true rfl) dX12_stepTold_81 (fun v g8455 H locs hp hW1 => ?_)
      obtain ⟨v8450, r8451, rfl, hs1, hG, hf1, q8452, e8453, e8454, hr8451⟩ := hp
      have f8456 : arI g8455 139 = arI g0 139 := (hf1.2.1 139 (by omega)).trans (rfl : arI g0 139 = arI g0 139)
      have f8457 : arI g8455 140 = arI g0 140 := (hf1.2.1 140 (by omega)).trans (rfl : arI g0 140 = arI g0 140)
      have f8458 : arI g8455 141 = arI g0 141 := (hf1.2.1 141 (by omega)).trans (rfl : arI g0 141 = arI g0 141)
      have f8459 : fld g8455 129 5 = .int bd := (hf1.1 129 5 (by omega)).trans f8136
      have f8460 : fld g8455 129 18 = .int nm := (hf1.1 129 18 (by omega)).trans f8137
      have f8461 : fld g8455 129 19 = .int om := (hf1.1 129 19 (by omega)).trans f8138
      have hW : WS ad cA (fun i k => (i = 129 ∧ (k = 3 ∨ k = 5 ∨ k = 18 ∨ k = 19 ∨ k = 20)) ∨ i = 137 ∨ i = 139 ∨ i = 140 ∨ i = 141) g0 K g8455 H locs := ⟨hW1, hs1, hW.2.2.tr hf1 (fun i k h => (Or.inl (by omega)))⟩
      refine q_istore_n (lv9 := [(2, .int r8451), (1, .int pl), (0, .ref (ad 129))]) hM dX12_stepTold_84 hl (by decide) rfl (fun ls hl => ?_)
      refine q_aload_n hM dX12_stepTold_85 (lv_at hl 2 rfl) ?_
      refine q_callV (As := []) (rest := []) hM hW.1 hR hC myX12_here (kAW (v_5_9 (List.mem_of_getElem? (i := 3) rfl)) rfl) (rfl : vwCl[12]? = some (RX12, TX12, 86)) rfl lb_129.1 (shO hW.2.1 lb_129) (a_X12_here _ _ cA ad g8455 v8450 en hW.2.1 hG q8452 ((hW.2.2.1 129 4 (by omega)).trans h_en) (by  omega) (by  omega)) ⟨by decide, by decide⟩ rfl rfl hl.1 (Nat.le_of_ble_eq_true rfl) dX12_stepTold_86 (fun v g8463 H locs hp hW1 => ?_)
      obtain ⟨r8462, rfl, hr8462, rfl⟩ := hp
      have hW : WS ad cA (fun i k => (i = 129 ∧ (k = 3 ∨ k = 5 ∨ k = 18 ∨ k = 19 ∨ k = 20)) ∨ i = 137 ∨ i = 139 ∨ i = 140 ∨ i = 141) g0 K g8455 H locs := ⟨hW1, hW.2.1, hW.2.2⟩
      rw [hW.2.2.2.1 130 (by omega)] at hr8462
      refine q_bipush (v := (40 : Int32)) hM dX12_stepTold_89 (by decide) ?_
      refine q_icmp_ne (tgt := 178) hM dX12_stepTold_91 (by decide) (rfl : r8462.toInt = r8462.toInt) (kc_40 : (40 : Int32).toInt = 40) (fun h91 => ?_) (fun h91 => ?_)
      · refine q_aload_n hM dX12_stepTold_178 (lv_at hl 2 rfl) ?_
        refine q_callV (As := []) (rest := []) hM hW.1 hR hC myX12_stepHere (kAW (v_5_10 (List.mem_of_getElem? (i := 5) rfl)) rfl) (rfl : vwCl[12]? = some (RX12, TX12, 86)) rfl lb_129.1 (shO hW.2.1 lb_129) (a_X12_stepHere _ _ cA ad g8455 v8450 en bd hW.2.1 hG q8452 ((hW.2.2.1 129 4 (by omega)).trans h_en) f8459 (by  omega) (by  omega) (by  omega)) ⟨by decide, by decide⟩ rfl rfl hl.1 (Nat.le_of_ble_eq_true rfl) dX12_stepTold_179 (fun v g8473 H locs hp hW1 => ?_)
        obtain ⟨v8465, v8466, r8467, rfl, hs1, hG, hf1, q8468, q8469, e8470, e8471, e8472, hr8467⟩ := hp
        have f8474 : arI g8473 139 = arI g0 139 := (hf1.2.1 139 (by omega)).trans f8456
        have f8475 : arI g8473 140 = arI g0 140 := (hf1.2.1 140 (by omega)).trans f8457
        have f8476 : arI g8473 141 = arI g0 141 := (hf1.2.1 141 (by omega)).trans f8458
        have f8477 : fld g8473 129 18 = .int nm := (hf1.1 129 18 (by omega)).trans f8460
        have f8478 : fld g8473 129 19 = .int om := (hf1.1 129 19 (by omega)).trans f8461
        have hW : WS ad cA (fun i k => (i = 129 ∧ (k = 3 ∨ k = 5 ∨ k = 18 ∨ k = 19 ∨ k = 20)) ∨ i = 137 ∨ i = 139 ∨ i = 140 ∨ i = 141) g0 K g8473 H locs := ⟨hW1, hs1, hW.2.2.tr hf1 (fun i k h => (Or.inl (by omega)))⟩
        refine q_istore_n (lv9 := [(3, .int r8467), (2, .int r8451), (1, .int pl), (0, .ref (ad 129))]) hM dX12_stepTold_182 hl (by decide) rfl (fun ls hl => ?_)
        refine q_aload_n hM dX12_stepTold_183 (lv_at hl 3 rfl) ?_
        refine q_callV (As := []) (rest := []) hM hW.1 hR hC myX12_isGood (kAW (v_5_8 (List.mem_of_getElem? (i := 11) rfl)) rfl) (rfl : vwCl[12]? = some (RX12, TX12, 86)) rfl lb_129.1 (shO hW.2.1 lb_129) (a_X12_isGood _ _ cA ad g8473 v8466 hW.2.1 hG q8469) ⟨by decide, by decide⟩ rfl rfl hl.1 (Nat.le_of_ble_eq_true rfl) dX12_stepTold_184 (fun v g8480 H locs hp hW1 => ?_)
        obtain ⟨r8479, rfl, hr8479, rfl⟩ := hp
        have hW : WS ad cA (fun i k => (i = 129 ∧ (k = 3 ∨ k = 5 ∨ k = 18 ∨ k = 19 ∨ k = 20)) ∨ i = 137 ∨ i = 139 ∨ i = 140 ∨ i = 141) g0 K g8473 H locs := ⟨hW1, hW.2.1, hW.2.2⟩
        refine q_if_eq (tgt := 208) hM dX12_stepTold_187 (by decide) (rfl : r8479.toInt = r8479.toInt) (fun h187 => ?_) (fun h187 => ?_)
        · refine q_aload_n hM dX12_stepTold_208 (lv_at hl 3 rfl) ?_
          refine q_callV (As := []) (rest := []) hM hW.1 hR hC myX12_isGood (kAW (v_5_8 (List.mem_of_getElem? (i := 11) rfl)) rfl) (rfl : vwCl[12]? = some (RX12, TX12, 86)) rfl lb_129.1 (shO hW.2.1 lb_129) (a_X12_isGood _ _ cA ad g8473 v8466 hW.2.1 hG q8469) ⟨by decide, by decide⟩ rfl rfl hl.1 (Nat.le_of_ble_eq_true rfl) dX12_stepTold_209 (fun v g8483 H locs hp hW1 => ?_)
          obtain ⟨r8482, rfl, hr8482, rfl⟩ := hp
          have hW : WS ad cA (fun i k => (i = 129 ∧ (k = 3 ∨ k = 5 ∨ k = 18 ∨ k = 19 ∨ k = 20)) ∨ i = 137 ∨ i = 139 ∨ i = 140 ∨ i = 141) g0 K g8473 H locs := ⟨hW1, hW.2.1, hW.2.2⟩
          refine q_if_ne (tgt := 216) hM dX12_stepTold_212 (by decide) (rfl : r8482.toInt = r8482.toInt) (fun h212 => ?_) (fun h212 => ?_)
          · refine q_iconst (v := (0 : Int32)) hM dX12_stepTold_216 (by decide) ?_
            refine q_istore (lv9 := [(4, .int (0 : Int32)), (3, .int r8467), (2, .int r8451), (1, .int pl), (0, .ref (ad 129))]) hM dX12_stepTold_217 hl (by decide) rfl (fun ls hl => ?_)
            have L219 : ∀ (fu219 : Nat) (w219_4 : Int32) (g9 : Nat → va_E) (H : Heap) (locs : List Loc) (ls : Array Slot), (r8451.toInt - w219_4.toInt + 1).toNat < fu219 → (Rng g9) → (0 ≤ w219_4.toInt) → (fld g9 129 3 = .int v8465) → (fld g9 129 5 = .int v8466) → (fld g9 129 18 = .int nm) → (fld g9 129 19 = .int om) → (arI g9 139 = arI g0 139) → (arI g9 140 = arI g0 140) → (arI g9 141 = arI g0 141) → lv_has ls 5 [(0, .ref (ad 129)), (1, .int pl), (2, .int r8451), (3, .int r8467), (4, .int w219_4)] → WS ad cA (fun i k => (i = 129 ∧ (k = 3 ∨ k = 5 ∨ k = 18 ∨ k = 19 ∨ k = 20)) ∨ i = 137 ∨ i = 139 ∨ i = 140 ∨ i = 141) g0 K g9 H locs → XX K 0 0 H locs 219 ls [] := by
              intro fu219
              induction fu219 with
              | zero => intro w219_4 g9 H locs ls h0; omega
              | succ fu219 ih219 =>
                intro w219_4 g9 H locs ls hm219 i219_0 i219_1 c219_129_3 c219_129_5 c219_129_18 c219_129_19 d219_139 d219_140 d219_141 hl hW
                have hG := i219_0
                have := i_rng r8451
                refine q_iload hM dX12_stepTold_219 (lv_at hl 4 rfl) ?_
                refine q_iload_n hM dX12_stepTold_221 (lv_at hl 2 rfl) ?_
                refine q_icmp_ge (tgt := 244) hM dX12_stepTold_222 (by decide) (rfl : w219_4.toInt = w219_4.toInt) (rfl : r8451.toInt = r8451.toInt) (fun h222 => ?_) (fun h222 => ?_)
                · refine q_aload_n hM dX12_stepTold_244 (lv_at hl 0 rfl) ?_
                  refine q_dup hM dX12_stepTold_245 rfl ?_
                  refine w_get (v := .int nm) hM hW FG_X12_227 lb_129 c219_129_18 dX12_stepTold_246 ?_
                  have bnm := hG.f c219_129_18 rF_129_18 (by decide)
                  refine q_iload_n hM dX12_stepTold_249 (lv_at hl 2 rfl) ?_
                  refine q_iadd hM dX12_stepTold_250 (fun z8487 hz8487 => ?_)
                  first | have tz8487 := i_addT hz8487 (rfl : nm.toInt = nm.toInt) (rfl : r8451.toInt = r8451.toInt) (by omega) (by omega) | skip
                  refine w_put hM hW FP_X12_227 lb_129 (by omega) (Or.inl ⟨_, rfl⟩) rfl rfl dX12_stepTold_251 (fun g8488 H locs hW e1 e2 => ?_)
                  have f8489 : fld g8488 129 3 = .int v8465 := (e2.1 129 3 (by unfold Only; omega)).trans c219_129_3
                  have f8490 : fld g8488 129 5 = .int v8466 := (e2.1 129 5 (by unfold Only; omega)).trans c219_129_5
                  have f8491 : fld g8488 129 19 = .int om := (e2.1 129 19 (by unfold Only; omega)).trans c219_129_19
                  have f8492 : arI g8488 139 = arI g0 139 := (e2.2.1 139 (by unfold Only; omega)).trans d219_139
                  have f8493 : arI g8488 140 = arI g0 140 := (e2.2.1 140 (by unfold Only; omega)).trans d219_140
                  have f8494 : arI g8488 141 = arI g0 141 := (e2.2.1 141 (by unfold Only; omega)).trans d219_141
                  have f8495 : fld g8488 129 18 = .int z8487 := e1
                  have hG := hG.put e1 e2 rF_129_18 (by decide) (by have := i_rng z8487; omega) (by have := i_rng z8487; omega)
                  refine q_aload_n hM dX12_stepTold_254 (lv_at hl 0 rfl) ?_
                  refine q_iconst (v := (1 : Int32)) hM dX12_stepTold_255 (by decide) ?_
                  refine w_put hM hW FP_X12_254 lb_129 (by omega) (Or.inl ⟨_, rfl⟩) rfl rfl dX12_stepTold_256 (fun g8496 H locs hW e1 e2 => ?_)
                  have f8497 : fld g8496 129 3 = .int v8465 := (e2.1 129 3 (by unfold Only; omega)).trans f8489
                  have f8498 : fld g8496 129 5 = .int v8466 := (e2.1 129 5 (by unfold Only; omega)).trans f8490
                  have f8499 : fld g8496 129 19 = .int om := (e2.1 129 19 (by unfold Only; omega)).trans f8491
                  have f8500 : arI g8496 139 = arI g0 139 := (e2.2.1 139 (by unfold Only; omega)).trans f8492
                  have f8501 : arI g8496 140 = arI g0 140 := (e2.2.1 140 (by unfold Only; omega)).trans f8493
                  have f8502 : arI g8496 141 = arI g0 141 := (e2.2.1 141 (by unfold Only; omega)).trans f8494
                  have f8503 : fld g8496 129 18 = .int z8487 := (e2.1 129 18 (by unfold Only; omega)).trans f8495
                  have f8504 : fld g8496 129 20 = .int (1 : Int32) := e1
                  have hG := hG.put e1 e2 (rfl : rF 129 20 = (-2147483648, 2147483647)) (by decide) (by have := kc_1; have := i_rng (1 : Int32); omega) (by have := kc_1; have := i_rng (1 : Int32); omega)
                  refine q_aload_n hM dX12_stepTold_259 (lv_at hl 0 rfl) ?_
                  refine q_dup hM dX12_stepTold_260 rfl ?_
                  refine w_get (v := .int v8465) hM hW FG_X12_173 lb_129 f8497 dX12_stepTold_261 ?_
                  have bv8465 := hG.f f8497 rF_129_3 (by decide)
                  refine q_iconst (v := (1 : Int32)) hM dX12_stepTold_264 (by decide) ?_
                  refine q_iadd hM dX12_stepTold_265 (fun z8505 hz8505 => ?_)
                  first | have tz8505 := i_addT hz8505 (rfl : v8465.toInt = v8465.toInt) (kc_1 : (1 : Int32).toInt = 1) (by omega) (by omega) | skip
                  refine w_put hM hW FP_X12_173 lb_129 (by omega) (Or.inl ⟨_, rfl⟩) rfl rfl dX12_stepTold_266 (fun g8506 H locs hW e1 e2 => ?_)
                  have f8507 : fld g8506 129 5 = .int v8466 := (e2.1 129 5 (by unfold Only; omega)).trans f8498
                  have f8508 : fld g8506 129 19 = .int om := (e2.1 129 19 (by unfold Only; omega)).trans f8499
                  have f8509 : arI g8506 139 = arI g0 139 := (e2.2.1 139 (by unfold Only; omega)).trans f8500
                  have f8510 : arI g8506 140 = arI g0 140 := (e2.2.1 140 (by unfold Only; omega)).trans f8501
                  have f8511 : arI g8506 141 = arI g0 141 := (e2.2.1 141 (by unfold Only; omega)).trans f8502
                  have f8512 : fld g8506 129 18 = .int z8487 := (e2.1 129 18 (by unfold Only; omega)).trans f8503
                  have f8513 : fld g8506 129 20 = .int (1 : Int32) := (e2.1 129 20 (by unfold Only; omega)).trans f8504
                  have f8514 : fld g8506 129 3 = .int z8505 := e1
                  have hG := hG.put e1 e2 rF_129_3 (by decide) (by have := i_rng z8505; omega) (by have := i_rng z8505; omega)
                  exact hE _ _ _ _ _ hW.1 ⟨z8505, v8466, z8487, om, rfl, hW.2.1, hG, hW.2.2, f8514, f8507, f8512, f8508, (by omega), (by omega), (by omega), (fun _ => by rw [f8509, f8510, f8511]; exact OA_mono hO (by omega) (by omega))⟩ dX12_stepTold_269
                · refine q_aload_n hM dX12_stepTold_225 (lv_at hl 0 rfl) ?_
                  refine w_get (v := .ref (ad 137)) hM hW FG_X12_37 lb_129 (rf_129_16 hW.2.1) dX12_stepTold_226 ?_
                  refine q_aload_n hM dX12_stepTold_229 (lv_at hl 0 rfl) ?_
                  refine w_get (v := .int nm) hM hW FG_X12_227 lb_129 c219_129_18 dX12_stepTold_230 ?_
                  have bnm := hG.f c219_129_18 rF_129_18 (by decide)
                  refine q_iload hM dX12_stepTold_233 (lv_at hl 4 rfl) ?_
                  refine q_iadd hM dX12_stepTold_235 (fun z8516 hz8516 => ?_)
                  first | have tz8516 := i_addT hz8516 (rfl : nm.toInt = nm.toInt) (rfl : w219_4.toInt = w219_4.toInt) (by omega) (by omega) | skip
                  refine q_iload_n hM dX12_stepTold_236 (lv_at hl 3 rfl) ?_
                  refine w_iast hM hW lb_137 (by omega) (i_in (by omega) (by omega)) dX12_stepTold_237 (fun g8517 H locs hW e1 e2 => ?_)
                  have f8518 : fld g8517 129 3 = .int v8465 := (e2.1 129 3 (by unfold Only; omega)).trans c219_129_3
                  have f8519 : fld g8517 129 5 = .int v8466 := (e2.1 129 5 (by unfold Only; omega)).trans c219_129_5
                  have f8520 : fld g8517 129 18 = .int nm := (e2.1 129 18 (by unfold Only; omega)).trans c219_129_18
                  have f8521 : fld g8517 129 19 = .int om := (e2.1 129 19 (by unfold Only; omega)).trans c219_129_19
                  have f8522 : arI g8517 139 = arI g0 139 := (e2.2.1 139 (by unfold Only; omega)).trans d219_139
                  have f8523 : arI g8517 140 = arI g0 140 := (e2.2.1 140 (by unfold Only; omega)).trans d219_140
                  have f8524 : arI g8517 141 = arI g0 141 := (e2.2.1 141 (by unfold Only; omega)).trans d219_141
                  have hG := hG.st e1 e2 rA_137 (by have := i_rng r8467; omega) (by have := i_rng r8467; omega)
                  refine q_iinc (lv9 := fun z8525 => [(4, .int z8525), (0, .ref (ad 129)), (1, .int pl), (2, .int r8451), (3, .int r8467)]) hM dX12_stepTold_238 hl (kq := 4) rfl (by decide) (fun _ => rfl) (fun z8525 ls hz8525 hl => ?_)
                  first | have tz8525 := i_addT hz8525 (rfl : w219_4.toInt = w219_4.toInt) (kc_1 : (Int32.ofInt 1).toInt = 1) (by omega) (by omega) | skip
                  refine q_goto (tgt := 219) hM dX12_stepTold_241 (by decide) ?_
                  exact ih219 z8525 _ _ _ _ (by omega) hG (by omega) f8518 f8519 f8520 f8521 f8522 f8523 f8524 (lv_sub hl [1, 2, 3, 4, 0] rfl) hW
            have := kc_0
            exact L219 _ (0 : Int32) _ _ _ _ (Nat.lt_succ_self _) hG (by omega) q8468 q8469 f8477 f8478 f8474 f8475 f8476 (lv_sub hl [4, 3, 2, 1, 0] rfl) hW
          · exact hE _ _ _ _ _ hW.1 ⟨v8465, v8466, nm, om, rfl, hW.2.1, hG, hW.2.2, q8468, q8469, f8477, f8478, (by omega), (by omega), (by omega), (fun _ => by rw [f8474, f8475, f8476]; exact OA_mono hO (by omega) (by omega))⟩ dX12_stepTold_215
        · refine q_aload_n hM dX12_stepTold_190 (lv_at hl 3 rfl) ?_
          refine w_get (v := .int nm) hM hW FG_X12_227 lb_129 f8477 dX12_stepTold_191 ?_
          have bnm := hG.f f8477 rF_129_18 (by decide)
          refine q_iload_n hM dX12_stepTold_194 (lv_at hl 1 rfl) ?_
          refine q_iadd hM dX12_stepTold_195 (fun z8528 hz8528 => ?_)
          first | have tz8528 := i_addT hz8528 (rfl : nm.toInt = nm.toInt) (rfl : r8451.toInt = r8451.toInt) (by omega) (by omega) | skip
          refine q_bipush (v := (48 : Int32)) hM dX12_stepTold_196 (by decide) ?_
          refine q_icmp_le (tgt := 208) hM dX12_stepTold_198 (by decide) (rfl : z8528.toInt = z8528.toInt) (kc_48 : (48 : Int32).toInt = 48) (fun h198 => ?_) (fun h198 => ?_)
          · refine q_aload_n hM dX12_stepTold_208 (lv_at hl 3 rfl) ?_
            refine q_callV (As := []) (rest := []) hM hW.1 hR hC myX12_isGood (kAW (v_5_8 (List.mem_of_getElem? (i := 11) rfl)) rfl) (rfl : vwCl[12]? = some (RX12, TX12, 86)) rfl lb_129.1 (shO hW.2.1 lb_129) (a_X12_isGood _ _ cA ad g8473 v8466 hW.2.1 hG q8469) ⟨by decide, by decide⟩ rfl rfl hl.1 (Nat.le_of_ble_eq_true rfl) dX12_stepTold_209 (fun v g8531 H locs hp hW1 => ?_)
            obtain ⟨r8530, rfl, hr8530, rfl⟩ := hp
            have hW : WS ad cA (fun i k => (i = 129 ∧ (k = 3 ∨ k = 5 ∨ k = 18 ∨ k = 19 ∨ k = 20)) ∨ i = 137 ∨ i = 139 ∨ i = 140 ∨ i = 141) g0 K g8473 H locs := ⟨hW1, hW.2.1, hW.2.2⟩
            refine q_if_ne (tgt := 216) hM dX12_stepTold_212 (by decide) (rfl : r8530.toInt = r8530.toInt) (fun h212 => ?_) (fun h212 => ?_)
            · refine q_iconst (v := (0 : Int32)) hM dX12_stepTold_216 (by decide) ?_
              refine q_istore (lv9 := [(4, .int (0 : Int32)), (3, .int r8467), (2, .int r8451), (1, .int pl), (0, .ref (ad 129))]) hM dX12_stepTold_217 hl (by decide) rfl (fun ls hl => ?_)
              have L219 : ∀ (fu219 : Nat) (w219_4 : Int32) (g9 : Nat → va_E) (H : Heap) (locs : List Loc) (ls : Array Slot), (r8451.toInt - w219_4.toInt + 1).toNat < fu219 → (Rng g9) → (0 ≤ w219_4.toInt) → (fld g9 129 3 = .int v8465) → (fld g9 129 5 = .int v8466) → (fld g9 129 18 = .int nm) → (fld g9 129 19 = .int om) → (arI g9 139 = arI g0 139) → (arI g9 140 = arI g0 140) → (arI g9 141 = arI g0 141) → lv_has ls 5 [(0, .ref (ad 129)), (1, .int pl), (2, .int r8451), (3, .int r8467), (4, .int w219_4)] → WS ad cA (fun i k => (i = 129 ∧ (k = 3 ∨ k = 5 ∨ k = 18 ∨ k = 19 ∨ k = 20)) ∨ i = 137 ∨ i = 139 ∨ i = 140 ∨ i = 141) g0 K g9 H locs → XX K 0 0 H locs 219 ls [] := by
                intro fu219
                induction fu219 with
                | zero => intro w219_4 g9 H locs ls h0; omega
                | succ fu219 ih219 =>
                  intro w219_4 g9 H locs ls hm219 i219_0 i219_1 c219_129_3 c219_129_5 c219_129_18 c219_129_19 d219_139 d219_140 d219_141 hl hW
                  have hG := i219_0
                  have := i_rng r8451
                  refine q_iload hM dX12_stepTold_219 (lv_at hl 4 rfl) ?_
                  refine q_iload_n hM dX12_stepTold_221 (lv_at hl 2 rfl) ?_
                  refine q_icmp_ge (tgt := 244) hM dX12_stepTold_222 (by decide) (rfl : w219_4.toInt = w219_4.toInt) (rfl : r8451.toInt = r8451.toInt) (fun h222 => ?_) (fun h222 => ?_)
                  · refine q_aload_n hM dX12_stepTold_244 (lv_at hl 0 rfl) ?_
                    refine q_dup hM dX12_stepTold_245 rfl ?_
                    refine w_get (v := .int nm) hM hW FG_X12_227 lb_129 c219_129_18 dX12_stepTold_246 ?_
                    have bnm := hG.f c219_129_18 rF_129_18 (by decide)
                    refine q_iload_n hM dX12_stepTold_249 (lv_at hl 2 rfl) ?_
                    refine q_iadd hM dX12_stepTold_250 (fun z8535 hz8535 => ?_)
                    first | have tz8535 := i_addT hz8535 (rfl : nm.toInt = nm.toInt) (rfl : r8451.toInt = r8451.toInt) (by omega) (by omega) | skip
                    refine w_put hM hW FP_X12_227 lb_129 (by omega) (Or.inl ⟨_, rfl⟩) rfl rfl dX12_stepTold_251 (fun g8536 H locs hW e1 e2 => ?_)
                    have f8537 : fld g8536 129 3 = .int v8465 := (e2.1 129 3 (by unfold Only; omega)).trans c219_129_3
                    have f8538 : fld g8536 129 5 = .int v8466 := (e2.1 129 5 (by unfold Only; omega)).trans c219_129_5
                    have f8539 : fld g8536 129 19 = .int om := (e2.1 129 19 (by unfold Only; omega)).trans c219_129_19
                    have f8540 : arI g8536 139 = arI g0 139 := (e2.2.1 139 (by unfold Only; omega)).trans d219_139
                    have f8541 : arI g8536 140 = arI g0 140 := (e2.2.1 140 (by unfold Only; omega)).trans d219_140
                    have f8542 : arI g8536 141 = arI g0 141 := (e2.2.1 141 (by unfold Only; omega)).trans d219_141
                    have f8543 : fld g8536 129 18 = .int z8535 := e1
                    have hG := hG.put e1 e2 rF_129_18 (by decide) (by have := i_rng z8535; omega) (by have := i_rng z8535; omega)
                    refine q_aload_n hM dX12_stepTold_254 (lv_at hl 0 rfl) ?_
                    refine q_iconst (v := (1 : Int32)) hM dX12_stepTold_255 (by decide) ?_
                    refine w_put hM hW FP_X12_254 lb_129 (by omega) (Or.inl ⟨_, rfl⟩) rfl rfl dX12_stepTold_256 (fun g8544 H locs hW e1 e2 => ?_)
                    have f8545 : fld g8544 129 3 = .int v8465 := (e2.1 129 3 (by unfold Only; omega)).trans f8537
                    have f8546 : fld g8544 129 5 = .int v8466 := (e2.1 129 5 (by unfold Only; omega)).trans f8538
                    have f8547 : fld g8544 129 19 = .int om := (e2.1 129 19 (by unfold Only; omega)).trans f8539
                    have f8548 : arI g8544 139 = arI g0 139 := (e2.2.1 139 (by unfold Only; omega)).trans f8540
                    have f8549 : arI g8544 140 = arI g0 140 := (e2.2.1 140 (by unfold Only; omega)).trans f8541
                    have f8550 : arI g8544 141 = arI g0 141 := (e2.2.1 141 (by unfold Only; omega)).trans f8542
                    have f8551 : fld g8544 129 18 = .int z8535 := (e2.1 129 18 (by unfold Only; omega)).trans f8543
                    have f8552 : fld g8544 129 20 = .int (1 : Int32) := e1
                    have hG := hG.put e1 e2 (rfl : rF 129 20 = (-2147483648, 2147483647)) (by decide) (by have := kc_1; have := i_rng (1 : Int32); omega) (by have := kc_1; have := i_rng (1 : Int32); omega)
                    refine q_aload_n hM dX12_stepTold_259 (lv_at hl 0 rfl) ?_
                    refine q_dup hM dX12_stepTold_260 rfl ?_
                    refine w_get (v := .int v8465) hM hW FG_X12_173 lb_129 f8545 dX12_stepTold_261 ?_
                    have bv8465 := hG.f f8545 rF_129_3 (by decide)
                    refine q_iconst (v := (1 : Int32)) hM dX12_stepTold_264 (by decide) ?_
                    refine q_iadd hM dX12_stepTold_265 (fun z8553 hz8553 => ?_)
                    first | have tz8553 := i_addT hz8553 (rfl : v8465.toInt = v8465.toInt) (kc_1 : (1 : Int32).toInt = 1) (by omega) (by omega) | skip
                    refine w_put hM hW FP_X12_173 lb_129 (by omega) (Or.inl ⟨_, rfl⟩) rfl rfl dX12_stepTold_266 (fun g8554 H locs hW e1 e2 => ?_)
                    have f8555 : fld g8554 129 5 = .int v8466 := (e2.1 129 5 (by unfold Only; omega)).trans f8546
                    have f8556 : fld g8554 129 19 = .int om := (e2.1 129 19 (by unfold Only; omega)).trans f8547
                    have f8557 : arI g8554 139 = arI g0 139 := (e2.2.1 139 (by unfold Only; omega)).trans f8548
                    have f8558 : arI g8554 140 = arI g0 140 := (e2.2.1 140 (by unfold Only; omega)).trans f8549
                    have f8559 : arI g8554 141 = arI g0 141 := (e2.2.1 141 (by unfold Only; omega)).trans f8550
                    have f8560 : fld g8554 129 18 = .int z8535 := (e2.1 129 18 (by unfold Only; omega)).trans f8551
                    have f8561 : fld g8554 129 20 = .int (1 : Int32) := (e2.1 129 20 (by unfold Only; omega)).trans f8552
                    have f8562 : fld g8554 129 3 = .int z8553 := e1
                    have hG := hG.put e1 e2 rF_129_3 (by decide) (by have := i_rng z8553; omega) (by have := i_rng z8553; omega)
                    exact hE _ _ _ _ _ hW.1 ⟨z8553, v8466, z8535, om, rfl, hW.2.1, hG, hW.2.2, f8562, f8555, f8560, f8556, (by omega), (by omega), (by omega), (fun _ => by rw [f8557, f8558, f8559]; exact OA_mono hO (by omega) (by omega))⟩ dX12_stepTold_269
                  · refine q_aload_n hM dX12_stepTold_225 (lv_at hl 0 rfl) ?_
                    refine w_get (v := .ref (ad 137)) hM hW FG_X12_37 lb_129 (rf_129_16 hW.2.1) dX12_stepTold_226 ?_
                    refine q_aload_n hM dX12_stepTold_229 (lv_at hl 0 rfl) ?_
                    refine w_get (v := .int nm) hM hW FG_X12_227 lb_129 c219_129_18 dX12_stepTold_230 ?_
                    have bnm := hG.f c219_129_18 rF_129_18 (by decide)
                    refine q_iload hM dX12_stepTold_233 (lv_at hl 4 rfl) ?_
                    refine q_iadd hM dX12_stepTold_235 (fun z8564 hz8564 => ?_)
                    first | have tz8564 := i_addT hz8564 (rfl : nm.toInt = nm.toInt) (rfl : w219_4.toInt = w219_4.toInt) (by omega) (by omega) | skip
                    refine q_iload_n hM dX12_stepTold_236 (lv_at hl 3 rfl) ?_
                    refine w_iast hM hW lb_137 (by omega) (i_in (by omega) (by omega)) dX12_stepTold_237 (fun g8565 H locs hW e1 e2 => ?_)
                    have f8566 : fld g8565 129 3 = .int v8465 := (e2.1 129 3 (by unfold Only; omega)).trans c219_129_3
                    have f8567 : fld g8565 129 5 = .int v8466 := (e2.1 129 5 (by unfold Only; omega)).trans c219_129_5
                    have f8568 : fld g8565 129 18 = .int nm := (e2.1 129 18 (by unfold Only; omega)).trans c219_129_18
                    have f8569 : fld g8565 129 19 = .int om := (e2.1 129 19 (by unfold Only; omega)).trans c219_129_19
                    have f8570 : arI g8565 139 = arI g0 139 := (e2.2.1 139 (by unfold Only; omega)).trans d219_139
                    have f8571 : arI g8565 140 = arI g0 140 := (e2.2.1 140 (by unfold Only; omega)).trans d219_140
                    have f8572 : arI g8565 141 = arI g0 141 := (e2.2.1 141 (by unfold Only; omega)).trans d219_141
                    have hG := hG.st e1 e2 rA_137 (by have := i_rng r8467; omega) (by have := i_rng r8467; omega)
                    refine q_iinc (lv9 := fun z8573 => [(4, .int z8573), (0, .ref (ad 129)), (1, .int pl), (2, .int r8451), (3, .int r8467)]) hM dX12_stepTold_238 hl (kq := 4) rfl (by decide) (fun _ => rfl) (fun z8573 ls hz8573 hl => ?_)
                    first | have tz8573 := i_addT hz8573 (rfl : w219_4.toInt = w219_4.toInt) (kc_1 : (Int32.ofInt 1).toInt = 1) (by omega) (by omega) | skip
                    refine q_goto (tgt := 219) hM dX12_stepTold_241 (by decide) ?_
                    exact ih219 z8573 _ _ _ _ (by omega) hG (by omega) f8566 f8567 f8568 f8569 f8570 f8571 f8572 (lv_sub hl [1, 2, 3, 4, 0] rfl) hW
              have := kc_0
              exact L219 _ (0 : Int32) _ _ _ _ (Nat.lt_succ_self _) hG (by omega) q8468 q8469 f8477 f8478 f8474 f8475 f8476 (lv_sub hl [4, 3, 2, 1, 0] rfl) hW
            · exact hE _ _ _ _ _ hW.1 ⟨v8465, v8466, nm, om, rfl, hW.2.1, hG, hW.2.2, q8468, q8469, f8477, f8478, (by omega), (by omega), (by omega), (fun _ => by rw [f8474, f8475, f8476]; exact OA_mono hO (by omega) (by omega))⟩ dX12_stepTold_215
          · refine q_aload_n hM dX12_stepTold_201 (lv_at hl 3 rfl) ?_
            refine q_bipush (v := (6 : Int32)) hM dX12_stepTold_202 (by decide) ?_
            refine q_iload_n hM dX12_stepTold_204 (lv_at hl 2 rfl) ?_
            refine q_callV (As := [.int (6 : Int32), .int pl]) (rest := []) hM hW.1 hR hC myX12_wrongs (kAW (v_5_9 (List.mem_of_getElem? (i := 11) rfl)) rfl) (rfl : vwCl[12]? = some (RX12, TX12, 86)) rfl lb_129.1 (shO hW.2.1 lb_129) (a_X12_wrongs _ _ cA ad g8473 (6 : Int32) pl v8466 hW.2.1 hG q8469 (by have := kc_6; omega) (by have := kc_6; omega) (by have := kc_6; omega) (by have := kc_6; omega)) ⟨by decide, by decide⟩ rfl rfl hl.1 (Nat.le_of_ble_eq_true rfl) dX12_stepTold_205 (fun v g8579 H locs hp hW1 => ?_)
            obtain ⟨v8576, rfl, hs1, hG, hf1, q8577, e8578⟩ := hp
            have f8580 : arI g8579 139 = arI g0 139 := (hf1.2.1 139 (by omega)).trans f8474
            have f8581 : arI g8579 140 = arI g0 140 := (hf1.2.1 140 (by omega)).trans f8475
            have f8582 : arI g8579 141 = arI g0 141 := (hf1.2.1 141 (by omega)).trans f8476
            have f8583 : fld g8579 129 18 = .int nm := (hf1.1 129 18 (by omega)).trans f8477
            have f8584 : fld g8579 129 19 = .int om := (hf1.1 129 19 (by omega)).trans f8478
            have f8585 : fld g8579 129 3 = .int v8465 := (hf1.1 129 3 (by omega)).trans q8468
            have hW : WS ad cA (fun i k => (i = 129 ∧ (k = 3 ∨ k = 5 ∨ k = 18 ∨ k = 19 ∨ k = 20)) ∨ i = 137 ∨ i = 139 ∨ i = 140 ∨ i = 141) g0 K g8579 H locs := ⟨hW1, hs1, hW.2.2.tr hf1 (fun i k h => (Or.inl (by omega)))⟩
            refine q_aload_n hM dX12_stepTold_208 (lv_at hl 3 rfl) ?_
            refine q_callV (As := []) (rest := []) hM hW.1 hR hC myX12_isGood (kAW (v_5_8 (List.mem_of_getElem? (i := 11) rfl)) rfl) (rfl : vwCl[12]? = some (RX12, TX12, 86)) rfl lb_129.1 (shO hW.2.1 lb_129) (a_X12_isGood _ _ cA ad g8579 v8576 hW.2.1 hG q8577) ⟨by decide, by decide⟩ rfl rfl hl.1 (Nat.le_of_ble_eq_true rfl) dX12_stepTold_209 (fun v g8587 H locs hp hW1 => ?_)
            obtain ⟨r8586, rfl, hr8586, rfl⟩ := hp
            have hW : WS ad cA (fun i k => (i = 129 ∧ (k = 3 ∨ k = 5 ∨ k = 18 ∨ k = 19 ∨ k = 20)) ∨ i = 137 ∨ i = 139 ∨ i = 140 ∨ i = 141) g0 K g8579 H locs := ⟨hW1, hW.2.1, hW.2.2⟩
            refine q_if_ne (tgt := 216) hM dX12_stepTold_212 (by decide) (rfl : r8586.toInt = r8586.toInt) (fun h212 => ?_) (fun h212 => ?_)
            · refine q_iconst (v := (0 : Int32)) hM dX12_stepTold_216 (by decide) ?_
              refine q_istore (lv9 := [(4, .int (0 : Int32)), (3, .int r8467), (2, .int r8451), (1, .int pl), (0, .ref (ad 129))]) hM dX12_stepTold_217 hl (by decide) rfl (fun ls hl => ?_)
              have L219 : ∀ (fu219 : Nat) (w219_4 : Int32) (g9 : Nat → va_E) (H : Heap) (locs : List Loc) (ls : Array Slot), (r8451.toInt - w219_4.toInt + 1).toNat < fu219 → (Rng g9) → (0 ≤ w219_4.toInt) → (fld g9 129 3 = .int v8465) → (fld g9 129 5 = .int v8576) → (fld g9 129 18 = .int nm) → (fld g9 129 19 = .int om) → (arI g9 139 = arI g0 139) → (arI g9 140 = arI g0 140) → (arI g9 141 = arI g0 141) → lv_has ls 5 [(0, .ref (ad 129)), (1, .int pl), (2, .int r8451), (3, .int r8467), (4, .int w219_4)] → WS ad cA (fun i k => (i = 129 ∧ (k = 3 ∨ k = 5 ∨ k = 18 ∨ k = 19 ∨ k = 20)) ∨ i = 137 ∨ i = 139 ∨ i = 140 ∨ i = 141) g0 K g9 H locs → XX K 0 0 H locs 219 ls [] := by
                intro fu219
                induction fu219 with
                | zero => intro w219_4 g9 H locs ls h0; omega
                | succ fu219 ih219 =>
                  intro w219_4 g9 H locs ls hm219 i219_0 i219_1 c219_129_3 c219_129_5 c219_129_18 c219_129_19 d219_139 d219_140 d219_141 hl hW
                  have hG := i219_0
                  have := i_rng r8451
                  refine q_iload hM dX12_stepTold_219 (lv_at hl 4 rfl) ?_
                  refine q_iload_n hM dX12_stepTold_221 (lv_at hl 2 rfl) ?_
                  refine q_icmp_ge (tgt := 244) hM dX12_stepTold_222 (by decide) (rfl : w219_4.toInt = w219_4.toInt) (rfl : r8451.toInt = r8451.toInt) (fun h222 => ?_) (fun h222 => ?_)
                  · refine q_aload_n hM dX12_stepTold_244 (lv_at hl 0 rfl) ?_
                    refine q_dup hM dX12_stepTold_245 rfl ?_
                    refine w_get (v := .int nm) hM hW FG_X12_227 lb_129 c219_129_18 dX12_stepTold_246 ?_
                    have bnm := hG.f c219_129_18 rF_129_18 (by decide)
                    refine q_iload_n hM dX12_stepTold_249 (lv_at hl 2 rfl) ?_
                    refine q_iadd hM dX12_stepTold_250 (fun z8591 hz8591 => ?_)
                    first | have tz8591 := i_addT hz8591 (rfl : nm.toInt = nm.toInt) (rfl : r8451.toInt = r8451.toInt) (by omega) (by omega) | skip
                    refine w_put hM hW FP_X12_227 lb_129 (by omega) (Or.inl ⟨_, rfl⟩) rfl rfl dX12_stepTold_251 (fun g8592 H locs hW e1 e2 => ?_)
                    have f8593 : fld g8592 129 3 = .int v8465 := (e2.1 129 3 (by unfold Only; omega)).trans c219_129_3
                    have f8594 : fld g8592 129 5 = .int v8576 := (e2.1 129 5 (by unfold Only; omega)).trans c219_129_5
                    have f8595 : fld g8592 129 19 = .int om := (e2.1 129 19 (by unfold Only; omega)).trans c219_129_19
                    have f8596 : arI g8592 139 = arI g0 139 := (e2.2.1 139 (by unfold Only; omega)).trans d219_139
                    have f8597 : arI g8592 140 = arI g0 140 := (e2.2.1 140 (by unfold Only; omega)).trans d219_140
                    have f8598 : arI g8592 141 = arI g0 141 := (e2.2.1 141 (by unfold Only; omega)).trans d219_141
                    have f8599 : fld g8592 129 18 = .int z8591 := e1
                    have hG := hG.put e1 e2 rF_129_18 (by decide) (by have := i_rng z8591; omega) (by have := i_rng z8591; omega)
                    refine q_aload_n hM dX12_stepTold_254 (lv_at hl 0 rfl) ?_
                    refine q_iconst (v := (1 : Int32)) hM dX12_stepTold_255 (by decide) ?_
                    refine w_put hM hW FP_X12_254 lb_129 (by omega) (Or.inl ⟨_, rfl⟩) rfl rfl dX12_stepTold_256 (fun g8600 H locs hW e1 e2 => ?_)
                    have f8601 : fld g8600 129 3 = .int v8465 := (e2.1 129 3 (by unfold Only; omega)).trans f8593
                    have f8602 : fld g8600 129 5 = .int v8576 := (e2.1 129 5 (by unfold Only; omega)).trans f8594
                    have f8603 : fld g8600 129 19 = .int om := (e2.1 129 19 (by unfold Only; omega)).trans f8595
                    have f8604 : arI g8600 139 = arI g0 139 := (e2.2.1 139 (by unfold Only; omega)).trans f8596
                    have f8605 : arI g8600 140 = arI g0 140 := (e2.2.1 140 (by unfold Only; omega)).trans f8597
                    have f8606 : arI g8600 141 = arI g0 141 := (e2.2.1 141 (by unfold Only; omega)).trans f8598
                    have f8607 : fld g8600 129 18 = .int z8591 := (e2.1 129 18 (by unfold Only; omega)).trans f8599
                    have f8608 : fld g8600 129 20 = .int (1 : Int32) := e1
                    have hG := hG.put e1 e2 (rfl : rF 129 20 = (-2147483648, 2147483647)) (by decide) (by have := kc_1; have := i_rng (1 : Int32); omega) (by have := kc_1; have := i_rng (1 : Int32); omega)
                    refine q_aload_n hM dX12_stepTold_259 (lv_at hl 0 rfl) ?_
                    refine q_dup hM dX12_stepTold_260 rfl ?_
                    refine w_get (v := .int v8465) hM hW FG_X12_173 lb_129 f8601 dX12_stepTold_261 ?_
                    have bv8465 := hG.f f8601 rF_129_3 (by decide)
                    refine q_iconst (v := (1 : Int32)) hM dX12_stepTold_264 (by decide) ?_
                    refine q_iadd hM dX12_stepTold_265 (fun z8609 hz8609 => ?_)
                    first | have tz8609 := i_addT hz8609 (rfl : v8465.toInt = v8465.toInt) (kc_1 : (1 : Int32).toInt = 1) (by omega) (by omega) | skip
                    refine w_put hM hW FP_X12_173 lb_129 (by omega) (Or.inl ⟨_, rfl⟩) rfl rfl dX12_stepTold_266 (fun g8610 H locs hW e1 e2 => ?_)
                    have f8611 : fld g8610 129 5 = .int v8576 := (e2.1 129 5 (by unfold Only; omega)).trans f8602
                    have f8612 : fld g8610 129 19 = .int om := (e2.1 129 19 (by unfold Only; omega)).trans f8603
                    have f8613 : arI g8610 139 = arI g0 139 := (e2.2.1 139 (by unfold Only; omega)).trans f8604
                    have f8614 : arI g8610 140 = arI g0 140 := (e2.2.1 140 (by unfold Only; omega)).trans f8605
                    have f8615 : arI g8610 141 = arI g0 141 := (e2.2.1 141 (by unfold Only; omega)).trans f8606
                    have f8616 : fld g8610 129 18 = .int z8591 := (e2.1 129 18 (by unfold Only; omega)).trans f8607
                    have f8617 : fld g8610 129 20 = .int (1 : Int32) := (e2.1 129 20 (by unfold Only; omega)).trans f8608
                    have f8618 : fld g8610 129 3 = .int z8609 := e1
                    have hG := hG.put e1 e2 rF_129_3 (by decide) (by have := i_rng z8609; omega) (by have := i_rng z8609; omega)
                    exact hE _ _ _ _ _ hW.1 ⟨z8609, v8576, z8591, om, rfl, hW.2.1, hG, hW.2.2, f8618, f8611, f8616, f8612, (by omega), (by omega), (by omega), (fun _ => by rw [f8613, f8614, f8615]; exact OA_mono hO (by omega) (by omega))⟩ dX12_stepTold_269
                  · refine q_aload_n hM dX12_stepTold_225 (lv_at hl 0 rfl) ?_
                    refine w_get (v := .ref (ad 137)) hM hW FG_X12_37 lb_129 (rf_129_16 hW.2.1) dX12_stepTold_226 ?_
                    refine q_aload_n hM dX12_stepTold_229 (lv_at hl 0 rfl) ?_
                    refine w_get (v := .int nm) hM hW FG_X12_227 lb_129 c219_129_18 dX12_stepTold_230 ?_
                    have bnm := hG.f c219_129_18 rF_129_18 (by decide)
                    refine q_iload hM dX12_stepTold_233 (lv_at hl 4 rfl) ?_
                    refine q_iadd hM dX12_stepTold_235 (fun z8620 hz8620 => ?_)
                    first | have tz8620 := i_addT hz8620 (rfl : nm.toInt = nm.toInt) (rfl : w219_4.toInt = w219_4.toInt) (by omega) (by omega) | skip
                    refine q_iload_n hM dX12_stepTold_236 (lv_at hl 3 rfl) ?_
                    refine w_iast hM hW lb_137 (by omega) (i_in (by omega) (by omega)) dX12_stepTold_237 (fun g8621 H locs hW e1 e2 => ?_)
                    have f8622 : fld g8621 129 3 = .int v8465 := (e2.1 129 3 (by unfold Only; omega)).trans c219_129_3
                    have f8623 : fld g8621 129 5 = .int v8576 := (e2.1 129 5 (by unfold Only; omega)).trans c219_129_5
                    have f8624 : fld g8621 129 18 = .int nm := (e2.1 129 18 (by unfold Only; omega)).trans c219_129_18
                    have f8625 : fld g8621 129 19 = .int om := (e2.1 129 19 (by unfold Only; omega)).trans c219_129_19
                    have f8626 : arI g8621 139 = arI g0 139 := (e2.2.1 139 (by unfold Only; omega)).trans d219_139
                    have f8627 : arI g8621 140 = arI g0 140 := (e2.2.1 140 (by unfold Only; omega)).trans d219_140
                    have f8628 : arI g8621 141 = arI g0 141 := (e2.2.1 141 (by unfold Only; omega)).trans d219_141
                    have hG := hG.st e1 e2 rA_137 (by have := i_rng r8467; omega) (by have := i_rng r8467; omega)
                    refine q_iinc (lv9 := fun z8629 => [(4, .int z8629), (0, .ref (ad 129)), (1, .int pl), (2, .int r8451), (3, .int r8467)]) hM dX12_stepTold_238 hl (kq := 4) rfl (by decide) (fun _ => rfl) (fun z8629 ls hz8629 hl => ?_)
                    first | have tz8629 := i_addT hz8629 (rfl : w219_4.toInt = w219_4.toInt) (kc_1 : (Int32.ofInt 1).toInt = 1) (by omega) (by omega) | skip
                    refine q_goto (tgt := 219) hM dX12_stepTold_241 (by decide) ?_
                    exact ih219 z8629 _ _ _ _ (by omega) hG (by omega) f8622 f8623 f8624 f8625 f8626 f8627 f8628 (lv_sub hl [1, 2, 3, 4, 0] rfl) hW
              have := kc_0
              exact L219 _ (0 : Int32) _ _ _ _ (Nat.lt_succ_self _) hG (by omega) f8585 q8577 f8583 f8584 f8580 f8581 f8582 (lv_sub hl [4, 3, 2, 1, 0] rfl) hW
            · exact hE _ _ _ _ _ hW.1 ⟨v8465, v8576, nm, om, rfl, hW.2.1, hG, hW.2.2, f8585, q8577, f8583, f8584, (by omega), (by omega), (by omega), (fun _ => by rw [f8580, f8581, f8582]; exact OA_mono hO (by omega) (by omega))⟩ dX12_stepTold_215
      · refine q_aload_n hM dX12_stepTold_94 (lv_at hl 2 rfl) ?_
        refine w_get (v := .int om) hM hW FG_X12_251 lb_129 f8461 dX12_stepTold_95 ?_
        have bom := hG.f f8461 rF_129_19 (by decide)
        refine q_iconst (v := (2 : Int32)) hM dX12_stepTold_98 (by decide) ?_
        refine q_icmp_ne (tgt := 111) hM dX12_stepTold_99 (by decide) (rfl : om.toInt = om.toInt) (kc_2 : (2 : Int32).toInt = 2) (fun h99 => ?_) (fun h99 => ?_)
        · refine q_aload_n hM dX12_stepTold_111 (lv_at hl 2 rfl) ?_
          refine q_callV (As := []) (rest := []) hM hW.1 hR hC myX12_isGood (kAW (v_5_8 (List.mem_of_getElem? (i := 11) rfl)) rfl) (rfl : vwCl[12]? = some (RX12, TX12, 86)) rfl lb_129.1 (shO hW.2.1 lb_129) (a_X12_isGood _ _ cA ad g8455 bd hW.2.1 hG f8459) ⟨by decide, by decide⟩ rfl rfl hl.1 (Nat.le_of_ble_eq_true rfl) dX12_stepTold_112 (fun v g8634 H locs hp hW1 => ?_)
          obtain ⟨r8633, rfl, hr8633, rfl⟩ := hp
          have hW : WS ad cA (fun i k => (i = 129 ∧ (k = 3 ∨ k = 5 ∨ k = 18 ∨ k = 19 ∨ k = 20)) ∨ i = 137 ∨ i = 139 ∨ i = 140 ∨ i = 141) g0 K g8455 H locs := ⟨hW1, hW.2.1, hW.2.2⟩
          refine q_if_ne (tgt := 119) hM dX12_stepTold_115 (by decide) (rfl : r8633.toInt = r8633.toInt) (fun h115 => ?_) (fun h115 => ?_)
          · refine q_aload_n hM dX12_stepTold_119 (lv_at hl 2 rfl) ?_
            refine w_get (v := .ref (ad 139)) hM hW FG_X12_43 lb_129 (rf_129_21 hW.2.1) dX12_stepTold_120 ?_
            refine q_aload_n hM dX12_stepTold_123 (lv_at hl 2 rfl) ?_
            refine w_get (v := .int om) hM hW FG_X12_251 lb_129 f8461 dX12_stepTold_124 ?_
            have bom := hG.f f8461 rF_129_19 (by decide)
            refine q_aload_n hM dX12_stepTold_127 (lv_at hl 2 rfl) ?_
            refine w_get (v := .int nm) hM hW FG_X12_227 lb_129 f8460 dX12_stepTold_128 ?_
            have bnm := hG.f f8460 rF_129_18 (by decide)
            refine w_iast hM hW lb_139 (by omega) (i_in (by omega) (by omega)) dX12_stepTold_131 (fun g8636 H locs hW e1 e2 => ?_)
            have f8637 : arI g8636 140 = arI g0 140 := (e2.2.1 140 (by unfold Only; omega)).trans f8457
            have f8638 : arI g8636 141 = arI g0 141 := (e2.2.1 141 (by unfold Only; omega)).trans f8458
            have f8639 : fld g8636 129 5 = .int bd := (e2.1 129 5 (by unfold Only; omega)).trans f8459
            have f8640 : fld g8636 129 18 = .int nm := (e2.1 129 18 (by unfold Only; omega)).trans f8460
            have f8641 : fld g8636 129 19 = .int om := (e2.1 129 19 (by unfold Only; omega)).trans f8461
            have f8642 : fld g8636 129 3 = .int v8450 := (e2.1 129 3 (by unfold Only; omega)).trans q8452
            have f8643 := e1
            rw [f8456] at f8643
            have hG := hG.st e1 e2 rA_139 (by have := i_rng nm; omega) (by have := i_rng nm; omega)
            refine q_aload_n hM dX12_stepTold_132 (lv_at hl 2 rfl) ?_
            refine w_get (v := .ref (ad 140)) hM hW FG_X12_46 lb_129 (rf_129_22 hW.2.1) dX12_stepTold_133 ?_
            refine q_aload_n hM dX12_stepTold_136 (lv_at hl 2 rfl) ?_
            refine w_get (v := .int om) hM hW FG_X12_251 lb_129 f8641 dX12_stepTold_137 ?_
            have bom := hG.f f8641 rF_129_19 (by decide)
            refine q_iload_n hM dX12_stepTold_140 (lv_at hl 0 rfl) ?_
            refine w_iast hM hW lb_140 (by omega) (i_in (by omega) (by omega)) dX12_stepTold_141 (fun g8644 H locs hW e1 e2 => ?_)
            have f8645 : arI g8644 141 = arI g0 141 := (e2.2.1 141 (by unfold Only; omega)).trans f8638
            have f8646 : fld g8644 129 5 = .int bd := (e2.1 129 5 (by unfold Only; omega)).trans f8639
            have f8647 : fld g8644 129 18 = .int nm := (e2.1 129 18 (by unfold Only; omega)).trans f8640
            have f8648 : fld g8644 129 19 = .int om := (e2.1 129 19 (by unfold Only; omega)).trans f8641
            have f8649 : fld g8644 129 3 = .int v8450 := (e2.1 129 3 (by unfold Only; omega)).trans f8642
            have f8650 : arI g8644 139 = upd (arI g0 139) om.toNatClampNeg nm := (e2.2.1 139 (by unfold Only; omega)).trans f8643
            have f8651 := e1
            rw [f8637] at f8651
            have hG := hG.st e1 e2 rA_140 (by have := i_rng r8451; omega) (by have := i_rng r8451; omega)
            refine q_aload_n hM dX12_stepTold_142 (lv_at hl 2 rfl) ?_
            refine w_get (v := .ref (ad 141)) hM hW FG_X12_49 lb_129 (rf_129_23 hW.2.1) dX12_stepTold_143 ?_
            refine q_aload_n hM dX12_stepTold_146 (lv_at hl 2 rfl) ?_
            refine w_get (v := .int om) hM hW FG_X12_251 lb_129 f8648 dX12_stepTold_147 ?_
            have bom := hG.f f8648 rF_129_19 (by decide)
            refine q_iload_n hM dX12_stepTold_150 (lv_at hl 1 rfl) ?_
            refine w_iast hM hW lb_141 (by omega) (i_in (by omega) (by omega)) dX12_stepTold_151 (fun g8652 H locs hW e1 e2 => ?_)
            have f8653 : fld g8652 129 5 = .int bd := (e2.1 129 5 (by unfold Only; omega)).trans f8646
            have f8654 : fld g8652 129 18 = .int nm := (e2.1 129 18 (by unfold Only; omega)).trans f8647
            have f8655 : fld g8652 129 19 = .int om := (e2.1 129 19 (by unfold Only; omega)).trans f8648
            have f8656 : fld g8652 129 3 = .int v8450 := (e2.1 129 3 (by unfold Only; omega)).trans f8649
            have f8657 : arI g8652 139 = upd (arI g0 139) om.toNatClampNeg nm := (e2.2.1 139 (by unfold Only; omega)).trans f8650
            have f8658 : arI g8652 140 = upd (arI g0 140) om.toNatClampNeg r8451 := (e2.2.1 140 (by unfold Only; omega)).trans f8651
            have f8659 := e1
            rw [f8637] at f8659
            have hG := hG.st e1 e2 (rfl : rA 141 = (-2147483648, 2147483647)) (by have := i_rng pl; omega) (by have := i_rng pl; omega)
            refine q_aload_n hM dX12_stepTold_152 (lv_at hl 2 rfl) ?_
            refine q_dup hM dX12_stepTold_153 rfl ?_
            refine w_get (v := .int om) hM hW FG_X12_251 lb_129 f8655 dX12_stepTold_154 ?_
            have bom := hG.f f8655 rF_129_19 (by decide)
            refine q_iconst (v := (1 : Int32)) hM dX12_stepTold_157 (by decide) ?_
            refine q_iadd hM dX12_stepTold_158 (fun z8660 hz8660 => ?_)
            first | have tz8660 := i_addT hz8660 (rfl : om.toInt = om.toInt) (kc_1 : (1 : Int32).toInt = 1) (by omega) (by omega) | skip
            refine w_put hM hW FP_X12_251 lb_129 (by omega) (Or.inl ⟨_, rfl⟩) rfl rfl dX12_stepTold_159 (fun g8661 H locs hW e1 e2 => ?_)
            have f8662 : fld g8661 129 5 = .int bd := (e2.1 129 5 (by unfold Only; omega)).trans f8653
            have f8663 : fld g8661 129 18 = .int nm := (e2.1 129 18 (by unfold Only; omega)).trans f8654
            have f8664 : fld g8661 129 3 = .int v8450 := (e2.1 129 3 (by unfold Only; omega)).trans f8656
            have f8665 : arI g8661 139 = upd (arI g0 139) om.toNatClampNeg nm := (e2.2.1 139 (by unfold Only; omega)).trans f8657
            have f8666 : arI g8661 140 = upd (arI g0 140) om.toNatClampNeg r8451 := (e2.2.1 140 (by unfold Only; omega)).trans f8658
            have f8667 : arI g8661 141 = upd (arI g0 141) om.toNatClampNeg pl := (e2.2.1 141 (by unfold Only; omega)).trans f8659
            have f8668 : fld g8661 129 19 = .int z8660 := e1
            have hG := hG.put e1 e2 rF_129_19 (by decide) (by have := i_rng z8660; omega) (by have := i_rng z8660; omega)
            refine q_aload_n hM dX12_stepTold_162 (lv_at hl 2 rfl) ?_
            refine q_iconst (v := (0 : Int32)) hM dX12_stepTold_163 (by decide) ?_
            refine w_put hM hW FP_X12_254 lb_129 (by omega) (Or.inl ⟨_, rfl⟩) rfl rfl dX12_stepTold_164 (fun g8669 H locs hW e1 e2 => ?_)
            have f8670 : fld g8669 129 5 = .int bd := (e2.1 129 5 (by unfold Only; omega)).trans f8662
            have f8671 : fld g8669 129 18 = .int nm := (e2.1 129 18 (by unfold Only; omega)).trans f8663
            have f8672 : fld g8669 129 3 = .int v8450 := (e2.1 129 3 (by unfold Only; omega)).trans f8664
            have f8673 : arI g8669 139 = upd (arI g0 139) om.toNatClampNeg nm := (e2.2.1 139 (by unfold Only; omega)).trans f8665
            have f8674 : arI g8669 140 = upd (arI g0 140) om.toNatClampNeg r8451 := (e2.2.1 140 (by unfold Only; omega)).trans f8666
            have f8675 : arI g8669 141 = upd (arI g0 141) om.toNatClampNeg pl := (e2.2.1 141 (by unfold Only; omega)).trans f8667
            have f8676 : fld g8669 129 19 = .int z8660 := (e2.1 129 19 (by unfold Only; omega)).trans f8668
            have f8677 : fld g8669 129 20 = .int (0 : Int32) := e1
            have hG := hG.put e1 e2 (rfl : rF 129 20 = (-2147483648, 2147483647)) (by decide) (by have := kc_0; have := i_rng (0 : Int32); omega) (by have := kc_0; have := i_rng (0 : Int32); omega)
            refine q_aload_n hM dX12_stepTold_167 (lv_at hl 2 rfl) ?_
            refine q_dup hM dX12_stepTold_168 rfl ?_
            refine w_get (v := .int v8450) hM hW FG_X12_173 lb_129 f8672 dX12_stepTold_169 ?_
            have bv8450 := hG.f f8672 rF_129_3 (by decide)
            refine q_iconst (v := (1 : Int32)) hM dX12_stepTold_172 (by decide) ?_
            refine q_iadd hM dX12_stepTold_173 (fun z8678 hz8678 => ?_)
            first | have tz8678 := i_addT hz8678 (rfl : v8450.toInt = v8450.toInt) (kc_1 : (1 : Int32).toInt = 1) (by omega) (by omega) | skip
            refine w_put hM hW FP_X12_173 lb_129 (by omega) (Or.inl ⟨_, rfl⟩) rfl rfl dX12_stepTold_174 (fun g8679 H locs hW e1 e2 => ?_)
            have f8680 : fld g8679 129 5 = .int bd := (e2.1 129 5 (by unfold Only; omega)).trans f8670
            have f8681 : fld g8679 129 18 = .int nm := (e2.1 129 18 (by unfold Only; omega)).trans f8671
            have f8682 : arI g8679 139 = upd (arI g0 139) om.toNatClampNeg nm := (e2.2.1 139 (by unfold Only; omega)).trans f8673
            have f8683 : arI g8679 140 = upd (arI g0 140) om.toNatClampNeg r8451 := (e2.2.1 140 (by unfold Only; omega)).trans f8674
            have f8684 : arI g8679 141 = upd (arI g0 141) om.toNatClampNeg pl := (e2.2.1 141 (by unfold Only; omega)).trans f8675
            have f8685 : fld g8679 129 19 = .int z8660 := (e2.1 129 19 (by unfold Only; omega)).trans f8676
            have f8686 : fld g8679 129 20 = .int (0 : Int32) := (e2.1 129 20 (by unfold Only; omega)).trans f8677
            have f8687 : fld g8679 129 3 = .int z8678 := e1
            have hG := hG.put e1 e2 rF_129_3 (by decide) (by have := i_rng z8678; omega) (by have := i_rng z8678; omega)
            exact hE _ _ _ _ _ hW.1 ⟨z8678, bd, nm, z8660, rfl, hW.2.1, hG, hW.2.2, f8687, f8680, f8681, f8685, (by omega), (by omega), (by omega), (fun _ => by rw [f8682, f8683, f8684]; exact OA_mono (OA_push hO rfl (by omega) (by omega) (by omega) (by omega) (by omega)) (by omega) (by omega))⟩ dX12_stepTold_177
          · exact hE _ _ _ _ _ hW.1 ⟨v8450, bd, nm, om, rfl, hW.2.1, hG, hW.2.2, q8452, f8459, f8460, f8461, (by omega), (by omega), (by omega), (fun _ => by rw [f8456, f8457, f8458]; exact OA_mono hO (by omega) (by omega))⟩ dX12_stepTold_118
        · refine q_aload_n hM dX12_stepTold_102 (lv_at hl 2 rfl) ?_
          refine q_iconst (v := (5 : Int32)) hM dX12_stepTold_103 (by decide) ?_
          refine q_aload_n hM dX12_stepTold_104 (lv_at hl 2 rfl) ?_
          refine w_get (v := .int v8450) hM hW FG_X12_173 lb_129 q8452 dX12_stepTold_105 ?_
          have bv8450 := hG.f q8452 rF_129_3 (by decide)
          refine q_callV (As := [.int (5 : Int32), .int v8450]) (rest := []) hM hW.1 hR hC myX12_wrongs (kAW (v_5_9 (List.mem_of_getElem? (i := 11) rfl)) rfl) (rfl : vwCl[12]? = some (RX12, TX12, 86)) rfl lb_129.1 (shO hW.2.1 lb_129) (a_X12_wrongs _ _ cA ad g8455 (5 : Int32) v8450 bd hW.2.1 hG f8459 (by have := kc_5; omega) (by have := kc_5; omega) (by have := kc_5; omega) (by have := kc_5; omega)) ⟨by decide, by decide⟩ rfl rfl hl.1 (Nat.le_of_ble_eq_true rfl) dX12_stepTold_108 (fun v g8693 H locs hp hW1 => ?_)
          obtain ⟨v8690, rfl, hs1, hG, hf1, q8691, e8692⟩ := hp
          have f8694 : arI g8693 139 = arI g0 139 := (hf1.2.1 139 (by omega)).trans f8456
          have f8695 : arI g8693 140 = arI g0 140 := (hf1.2.1 140 (by omega)).trans f8457
          have f8696 : arI g8693 141 = arI g0 141 := (hf1.2.1 141 (by omega)).trans f8458
          have f8697 : fld g8693 129 18 = .int nm := (hf1.1 129 18 (by omega)).trans f8460
          have f8698 : fld g8693 129 19 = .int om := (hf1.1 129 19 (by omega)).trans f8461
          have f8699 : fld g8693 129 3 = .int v8450 := (hf1.1 129 3 (by omega)).trans q8452
          have hW : WS ad cA (fun i k => (i = 129 ∧ (k = 3 ∨ k = 5 ∨ k = 18 ∨ k = 19 ∨ k = 20)) ∨ i = 137 ∨ i = 139 ∨ i = 140 ∨ i = 141) g0 K g8693 H locs := ⟨hW1, hs1, hW.2.2.tr hf1 (fun i k h => (Or.inl (by omega)))⟩
          refine q_aload_n hM dX12_stepTold_111 (lv_at hl 2 rfl) ?_
          refine q_callV (As := []) (rest := []) hM hW.1 hR hC myX12_isGood (kAW (v_5_8 (List.mem_of_getElem? (i := 11) rfl)) rfl) (rfl : vwCl[12]? = some (RX12, TX12, 86)) rfl lb_129.1 (shO hW.2.1 lb_129) (a_X12_isGood _ _ cA ad g8693 v8690 hW.2.1 hG q8691) ⟨by decide, by decide⟩ rfl rfl hl.1 (Nat.le_of_ble_eq_true rfl) dX12_stepTold_112 (fun v g8701 H locs hp hW1 => ?_)
          obtain ⟨r8700, rfl, hr8700, rfl⟩ := hp
          have hW : WS ad cA (fun i k => (i = 129 ∧ (k = 3 ∨ k = 5 ∨ k = 18 ∨ k = 19 ∨ k = 20)) ∨ i = 137 ∨ i = 139 ∨ i = 140 ∨ i = 141) g0 K g8693 H locs := ⟨hW1, hW.2.1, hW.2.2⟩
          refine q_if_ne (tgt := 119) hM dX12_stepTold_115 (by decide) (rfl : r8700.toInt = r8700.toInt) (fun h115 => ?_) (fun h115 => ?_)
          · refine q_aload_n hM dX12_stepTold_119 (lv_at hl 2 rfl) ?_
            refine w_get (v := .ref (ad 139)) hM hW FG_X12_43 lb_129 (rf_129_21 hW.2.1) dX12_stepTold_120 ?_
            refine q_aload_n hM dX12_stepTold_123 (lv_at hl 2 rfl) ?_
            refine w_get (v := .int om) hM hW FG_X12_251 lb_129 f8698 dX12_stepTold_124 ?_
            have bom := hG.f f8698 rF_129_19 (by decide)
            refine q_aload_n hM dX12_stepTold_127 (lv_at hl 2 rfl) ?_
            refine w_get (v := .int nm) hM hW FG_X12_227 lb_129 f8697 dX12_stepTold_128 ?_
            have bnm := hG.f f8697 rF_129_18 (by decide)
            refine w_iast hM hW lb_139 (by omega) (i_in (by omega) (by omega)) dX12_stepTold_131 (fun g8703 H locs hW e1 e2 => ?_)
            have f8704 : arI g8703 140 = arI g0 140 := (e2.2.1 140 (by unfold Only; omega)).trans f8695
            have f8705 : arI g8703 141 = arI g0 141 := (e2.2.1 141 (by unfold Only; omega)).trans f8696
            have f8706 : fld g8703 129 18 = .int nm := (e2.1 129 18 (by unfold Only; omega)).trans f8697
            have f8707 : fld g8703 129 19 = .int om := (e2.1 129 19 (by unfold Only; omega)).trans f8698
            have f8708 : fld g8703 129 3 = .int v8450 := (e2.1 129 3 (by unfold Only; omega)).trans f8699
            have f8709 : fld g8703 129 5 = .int v8690 := (e2.1 129 5 (by unfold Only; omega)).trans q8691
            have f8710 := e1
            rw [f8694] at f8710
            have hG := hG.st e1 e2 rA_139 (by have := i_rng nm; omega) (by have := i_rng nm; omega)
            refine q_aload_n hM dX12_stepTold_132 (lv_at hl 2 rfl) ?_
            refine w_get (v := .ref (ad 140)) hM hW FG_X12_46 lb_129 (rf_129_22 hW.2.1) dX12_stepTold_133 ?_
            refine q_aload_n hM dX12_stepTold_136 (lv_at hl 2 rfl) ?_
            refine w_get (v := .int om) hM hW FG_X12_251 lb_129 f8707 dX12_stepTold_137 ?_
            have bom := hG.f f8707 rF_129_19 (by decide)
            refine q_iload_n hM dX12_stepTold_140 (lv_at hl 0 rfl) ?_
            refine w_iast hM hW lb_140 (by omega) (i_in (by omega) (by omega)) dX12_stepTold_141 (fun g8711 H locs hW e1 e2 => ?_)
            have f8712 : arI g8711 141 = arI g0 141 := (e2.2.1 141 (by unfold Only; omega)).trans f8705
            have f8713 : fld g8711 129 18 = .int nm := (e2.1 129 18 (by unfold Only; omega)).trans f8706
            have f8714 : fld g8711 129 19 = .int om := (e2.1 129 19 (by unfold Only; omega)).trans f8707
            have f8715 : fld g8711 129 3 = .int v8450 := (e2.1 129 3 (by unfold Only; omega)).trans f8708
            have f8716 : fld g8711 129 5 = .int v8690 := (e2.1 129 5 (by unfold Only; omega)).trans f8709
            have f8717 : arI g8711 139 = upd (arI g0 139) om.toNatClampNeg nm := (e2.2.1 139 (by unfold Only; omega)).trans f8710
            have f8718 := e1
            rw [f8704] at f8718
            have hG := hG.st e1 e2 rA_140 (by have := i_rng r8451; omega) (by have := i_rng r8451; omega)
            refine q_aload_n hM dX12_stepTold_142 (lv_at hl 2 rfl) ?_
            refine w_get (v := .ref (ad 141)) hM hW FG_X12_49 lb_129 (rf_129_23 hW.2.1) dX12_stepTold_143 ?_
            refine q_aload_n hM dX12_stepTold_146 (lv_at hl 2 rfl) ?_
            refine w_get (v := .int om) hM hW FG_X12_251 lb_129 f8714 dX12_stepTold_147 ?_
            have bom := hG.f f8714 rF_129_19 (by decide)
            refine q_iload_n hM dX12_stepTold_150 (lv_at hl 1 rfl) ?_
            refine w_iast hM hW lb_141 (by omega) (i_in (by omega) (by omega)) dX12_stepTold_151 (fun g8719 H locs hW e1 e2 => ?_)
            have f8720 : fld g8719 129 18 = .int nm := (e2.1 129 18 (by unfold Only; omega)).trans f8713
            have f8721 : fld g8719 129 19 = .int om := (e2.1 129 19 (by unfold Only; omega)).trans f8714
            have f8722 : fld g8719 129 3 = .int v8450 := (e2.1 129 3 (by unfold Only; omega)).trans f8715
            have f8723 : fld g8719 129 5 = .int v8690 := (e2.1 129 5 (by unfold Only; omega)).trans f8716
            have f8724 : arI g8719 139 = upd (arI g0 139) om.toNatClampNeg nm := (e2.2.1 139 (by unfold Only; omega)).trans f8717
            have f8725 : arI g8719 140 = upd (arI g0 140) om.toNatClampNeg r8451 := (e2.2.1 140 (by unfold Only; omega)).trans f8718
            have f8726 := e1
            rw [f8704] at f8726
            have hG := hG.st e1 e2 (rfl : rA 141 = (-2147483648, 2147483647)) (by have := i_rng pl; omega) (by have := i_rng pl; omega)
            refine q_aload_n hM dX12_stepTold_152 (lv_at hl 2 rfl) ?_
            refine q_dup hM dX12_stepTold_153 rfl ?_
            refine w_get (v := .int om) hM hW FG_X12_251 lb_129 f8721 dX12_stepTold_154 ?_
            have bom := hG.f f8721 rF_129_19 (by decide)
            refine q_iconst (v := (1 : Int32)) hM dX12_stepTold_157 (by decide) ?_
            refine q_iadd hM dX12_stepTold_158 (fun z8727 hz8727 => ?_)
            first | have tz8727 := i_addT hz8727 (rfl : om.toInt = om.toInt) (kc_1 : (1 : Int32).toInt = 1) (by omega) (by omega) | skip
            refine w_put hM hW FP_X12_251 lb_129 (by omega) (Or.inl ⟨_, rfl⟩) rfl rfl dX12_stepTold_159 (fun g8728 H locs hW e1 e2 => ?_)
            have f8729 : fld g8728 129 18 = .int nm := (e2.1 129 18 (by unfold Only; omega)).trans f8720
            have f8730 : fld g8728 129 3 = .int v8450 := (e2.1 129 3 (by unfold Only; omega)).trans f8722
            have f8731 : fld g8728 129 5 = .int v8690 := (e2.1 129 5 (by unfold Only; omega)).trans f8723
            have f8732 : arI g8728 139 = upd (arI g0 139) om.toNatClampNeg nm := (e2.2.1 139 (by unfold Only; omega)).trans f8724
            have f8733 : arI g8728 140 = upd (arI g0 140) om.toNatClampNeg r8451 := (e2.2.1 140 (by unfold Only; omega)).trans f8725
            have f8734 : arI g8728 141 = upd (arI g0 141) om.toNatClampNeg pl := (e2.2.1 141 (by unfold Only; omega)).trans f8726
            have f8735 : fld g8728 129 19 = .int z8727 := e1
            have hG := hG.put e1 e2 rF_129_19 (by decide) (by have := i_rng z8727; omega) (by have := i_rng z8727; omega)
            refine q_aload_n hM dX12_stepTold_162 (lv_at hl 2 rfl) ?_
            refine q_iconst (v := (0 : Int32)) hM dX12_stepTold_163 (by decide) ?_
            refine w_put hM hW FP_X12_254 lb_129 (by omega) (Or.inl ⟨_, rfl⟩) rfl rfl dX12_stepTold_164 (fun g8736 H locs hW e1 e2 => ?_)
            have f8737 : fld g8736 129 18 = .int nm := (e2.1 129 18 (by unfold Only; omega)).trans f8729
            have f8738 : fld g8736 129 3 = .int v8450 := (e2.1 129 3 (by unfold Only; omega)).trans f8730
            have f8739 : fld g8736 129 5 = .int v8690 := (e2.1 129 5 (by unfold Only; omega)).trans f8731
            have f8740 : arI g8736 139 = upd (arI g0 139) om.toNatClampNeg nm := (e2.2.1 139 (by unfold Only; omega)).trans f8732
            have f8741 : arI g8736 140 = upd (arI g0 140) om.toNatClampNeg r8451 := (e2.2.1 140 (by unfold Only; omega)).trans f8733
            have f8742 : arI g8736 141 = upd (arI g0 141) om.toNatClampNeg pl := (e2.2.1 141 (by unfold Only; omega)).trans f8734
            have f8743 : fld g8736 129 19 = .int z8727 := (e2.1 129 19 (by unfold Only; omega)).trans f8735
            have f8744 : fld g8736 129 20 = .int (0 : Int32) := e1
            have hG := hG.put e1 e2 (rfl : rF 129 20 = (-2147483648, 2147483647)) (by decide) (by have := kc_0; have := i_rng (0 : Int32); omega) (by have := kc_0; have := i_rng (0 : Int32); omega)
            refine q_aload_n hM dX12_stepTold_167 (lv_at hl 2 rfl) ?_
            refine q_dup hM dX12_stepTold_168 rfl ?_
            refine w_get (v := .int v8450) hM hW FG_X12_173 lb_129 f8738 dX12_stepTold_169 ?_
            have bv8450 := hG.f f8738 rF_129_3 (by decide)
            refine q_iconst (v := (1 : Int32)) hM dX12_stepTold_172 (by decide) ?_
            refine q_iadd hM dX12_stepTold_173 (fun z8745 hz8745 => ?_)
            first | have tz8745 := i_addT hz8745 (rfl : v8450.toInt = v8450.toInt) (kc_1 : (1 : Int32).toInt = 1) (by omega) (by omega) | skip
            refine w_put hM hW FP_X12_173 lb_129 (by omega) (Or.inl ⟨_, rfl⟩) rfl rfl dX12_stepTold_174 (fun g8746 H locs hW e1 e2 => ?_)
            have f8747 : fld g8746 129 18 = .int nm := (e2.1 129 18 (by unfold Only; omega)).trans f8737
            have f8748 : fld g8746 129 5 = .int v8690 := (e2.1 129 5 (by unfold Only; omega)).trans f8739
            have f8749 : arI g8746 139 = upd (arI g0 139) om.toNatClampNeg nm := (e2.2.1 139 (by unfold Only; omega)).trans f8740
            have f8750 : arI g8746 140 = upd (arI g0 140) om.toNatClampNeg r8451 := (e2.2.1 140 (by unfold Only; omega)).trans f8741
            have f8751 : arI g8746 141 = upd (arI g0 141) om.toNatClampNeg pl := (e2.2.1 141 (by unfold Only; omega)).trans f8742
            have f8752 : fld g8746 129 19 = .int z8727 := (e2.1 129 19 (by unfold Only; omega)).trans f8743
            have f8753 : fld g8746 129 20 = .int (0 : Int32) := (e2.1 129 20 (by unfold Only; omega)).trans f8744
            have f8754 : fld g8746 129 3 = .int z8745 := e1
            have hG := hG.put e1 e2 rF_129_3 (by decide) (by have := i_rng z8745; omega) (by have := i_rng z8745; omega)
            exact hE _ _ _ _ _ hW.1 ⟨z8745, v8690, nm, z8727, rfl, hW.2.1, hG, hW.2.2, f8754, f8748, f8747, f8752, (by omega), (by omega), (by omega), (fun _ => by rw [f8749, f8750, f8751]; exact OA_mono (OA_push hO rfl (by omega) (by omega) (by omega) (by omega) (by omega)) (by omega) (by omega))⟩ dX12_stepTold_177
          · exact hE _ _ _ _ _ hW.1 ⟨v8450, v8690, nm, om, rfl, hW.2.1, hG, hW.2.2, f8699, q8691, f8697, f8698, (by omega), (by omega), (by omega), (fun _ => by rw [f8694, f8695, f8696]; exact OA_mono hO (by omega) (by omega))⟩ dX12_stepTold_118
    · refine q_aload_n hM dX12_stepTold_21 (lv_at hl 1 rfl) ?_
      refine w_getI hM hW FG_X12_254 lb_129 (by decide) (by decide) dX12_stepTold_22 (fun x8757 fx8757 => ?_)
      refine q_if_eq (tgt := 80) hM dX12_stepTold_25 (by decide) (rfl : x8757.toInt = x8757.toInt) (fun h25 => ?_) (fun h25 => ?_)
      · refine q_aload_n hM dX12_stepTold_80 (lv_at hl 1 rfl) ?_
        refine q_callV (As := []) (rest := []) hM hW.1 hR hC myX12_timesTold (kAW (v_5_9 (List.mem_of_getElem? (i := 15) rfl)) rfl) (rfl : vwCl[12]? = some (RX12, TX12, 86)) rfl lb_129.1 (shO hW.2.1 lb_129) (a_X12_timesTold _ _ cA ad g0 pl en hW.2.1 hG f8135 ((hW.2.2.1 129 4 (by omega)).trans h_en) (by  omega) (by  omega) (by  omega) (by  omega)) ⟨by decide, by decide⟩ rfl rfl hl.1 (Nat.le_of_ble_eq_true rfl) dX12_stepTold_81 (fun v g8764 H locs hp hW1 => ?_)
        obtain ⟨v8759, r8760, rfl, hs1, hG, hf1, q8761, e8762, e8763, hr8760⟩ := hp
        have f8765 : arI g8764 139 = arI g0 139 := (hf1.2.1 139 (by omega)).trans (rfl : arI g0 139 = arI g0 139)
        have f8766 : arI g8764 140 = arI g0 140 := (hf1.2.1 140 (by omega)).trans (rfl : arI g0 140 = arI g0 140)
        have f8767 : arI g8764 141 = arI g0 141 := (hf1.2.1 141 (by omega)).trans (rfl : arI g0 141 = arI g0 141)
        have f8768 : fld g8764 129 5 = .int bd := (hf1.1 129 5 (by omega)).trans f8136
        have f8769 : fld g8764 129 18 = .int nm := (hf1.1 129 18 (by omega)).trans f8137
        have f8770 : fld g8764 129 19 = .int om := (hf1.1 129 19 (by omega)).trans f8138
        have f8771 : fld g8764 129 20 = .int x8757 := (hf1.1 129 20 (by omega)).trans fx8757
        have hW : WS ad cA (fun i k => (i = 129 ∧ (k = 3 ∨ k = 5 ∨ k = 18 ∨ k = 19 ∨ k = 20)) ∨ i = 137 ∨ i = 139 ∨ i = 140 ∨ i = 141) g0 K g8764 H locs := ⟨hW1, hs1, hW.2.2.tr hf1 (fun i k h => (Or.inl (by omega)))⟩
        refine q_istore_n (lv9 := [(2, .int r8760), (1, .int pl), (0, .ref (ad 129))]) hM dX12_stepTold_84 hl (by decide) rfl (fun ls hl => ?_)
        refine q_aload_n hM dX12_stepTold_85 (lv_at hl 2 rfl) ?_
        refine q_callV (As := []) (rest := []) hM hW.1 hR hC myX12_here (kAW (v_5_9 (List.mem_of_getElem? (i := 3) rfl)) rfl) (rfl : vwCl[12]? = some (RX12, TX12, 86)) rfl lb_129.1 (shO hW.2.1 lb_129) (a_X12_here _ _ cA ad g8764 v8759 en hW.2.1 hG q8761 ((hW.2.2.1 129 4 (by omega)).trans h_en) (by  omega) (by  omega)) ⟨by decide, by decide⟩ rfl rfl hl.1 (Nat.le_of_ble_eq_true rfl) dX12_stepTold_86 (fun v g8773 H locs hp hW1 => ?_)
        obtain ⟨r8772, rfl, hr8772, rfl⟩ := hp
        have hW : WS ad cA (fun i k => (i = 129 ∧ (k = 3 ∨ k = 5 ∨ k = 18 ∨ k = 19 ∨ k = 20)) ∨ i = 137 ∨ i = 139 ∨ i = 140 ∨ i = 141) g0 K g8764 H locs := ⟨hW1, hW.2.1, hW.2.2⟩
        rw [hW.2.2.2.1 130 (by omega)] at hr8772
        refine q_bipush (v := (40 : Int32)) hM dX12_stepTold_89 (by decide) ?_
        refine q_icmp_ne (tgt := 178) hM dX12_stepTold_91 (by decide) (rfl : r8772.toInt = r8772.toInt) (kc_40 : (40 : Int32).toInt = 40) (fun h91 => ?_) (fun h91 => ?_)
        · refine q_aload_n hM dX12_stepTold_178 (lv_at hl 2 rfl) ?_
          refine q_callV (As := []) (rest := []) hM hW.1 hR hC myX12_stepHere (kAW (v_5_10 (List.mem_of_getElem? (i := 5) rfl)) rfl) (rfl : vwCl[12]? = some (RX12, TX12, 86)) rfl lb_129.1 (shO hW.2.1 lb_129) (a_X12_stepHere _ _ cA ad g8764 v8759 en bd hW.2.1 hG q8761 ((hW.2.2.1 129 4 (by omega)).trans h_en) f8768 (by  omega) (by  omega) (by  omega)) ⟨by decide, by decide⟩ rfl rfl hl.1 (Nat.le_of_ble_eq_true rfl) dX12_stepTold_179 (fun v g8783 H locs hp hW1 => ?_)
          obtain ⟨v8775, v8776, r8777, rfl, hs1, hG, hf1, q8778, q8779, e8780, e8781, e8782, hr8777⟩ := hp
          have f8784 : arI g8783 139 = arI g0 139 := (hf1.2.1 139 (by omega)).trans f8765
          have f8785 : arI g8783 140 = arI g0 140 := (hf1.2.1 140 (by omega)).trans f8766
          have f8786 : arI g8783 141 = arI g0 141 := (hf1.2.1 141 (by omega)).trans f8767
          have f8787 : fld g8783 129 18 = .int nm := (hf1.1 129 18 (by omega)).trans f8769
          have f8788 : fld g8783 129 19 = .int om := (hf1.1 129 19 (by omega)).trans f8770
          have f8789 : fld g8783 129 20 = .int x8757 := (hf1.1 129 20 (by omega)).trans f8771
          have hW : WS ad cA (fun i k => (i = 129 ∧ (k = 3 ∨ k = 5 ∨ k = 18 ∨ k = 19 ∨ k = 20)) ∨ i = 137 ∨ i = 139 ∨ i = 140 ∨ i = 141) g0 K g8783 H locs := ⟨hW1, hs1, hW.2.2.tr hf1 (fun i k h => (Or.inl (by omega)))⟩
          refine q_istore_n (lv9 := [(3, .int r8777), (2, .int r8760), (1, .int pl), (0, .ref (ad 129))]) hM dX12_stepTold_182 hl (by decide) rfl (fun ls hl => ?_)
          refine q_aload_n hM dX12_stepTold_183 (lv_at hl 3 rfl) ?_
          refine q_callV (As := []) (rest := []) hM hW.1 hR hC myX12_isGood (kAW (v_5_8 (List.mem_of_getElem? (i := 11) rfl)) rfl) (rfl : vwCl[12]? = some (RX12, TX12, 86)) rfl lb_129.1 (shO hW.2.1 lb_129) (a_X12_isGood _ _ cA ad g8783 v8776 hW.2.1 hG q8779) ⟨by decide, by decide⟩ rfl rfl hl.1 (Nat.le_of_ble_eq_true rfl) dX12_stepTold_184 (fun v g8791 H locs hp hW1 => ?_)
          obtain ⟨r8790, rfl, hr8790, rfl⟩ := hp
          have hW : WS ad cA (fun i k => (i = 129 ∧ (k = 3 ∨ k = 5 ∨ k = 18 ∨ k = 19 ∨ k = 20)) ∨ i = 137 ∨ i = 139 ∨ i = 140 ∨ i = 141) g0 K g8783 H locs := ⟨hW1, hW.2.1, hW.2.2⟩
          refine q_if_eq (tgt := 208) hM dX12_stepTold_187 (by decide) (rfl : r8790.toInt = r8790.toInt) (fun h187 => ?_) (fun h187 => ?_)
          · refine q_aload_n hM dX12_stepTold_208 (lv_at hl 3 rfl) ?_
            refine q_callV (As := []) (rest := []) hM hW.1 hR hC myX12_isGood (kAW (v_5_8 (List.mem_of_getElem? (i := 11) rfl)) rfl) (rfl : vwCl[12]? = some (RX12, TX12, 86)) rfl lb_129.1 (shO hW.2.1 lb_129) (a_X12_isGood _ _ cA ad g8783 v8776 hW.2.1 hG q8779) ⟨by decide, by decide⟩ rfl rfl hl.1 (Nat.le_of_ble_eq_true rfl) dX12_stepTold_209 (fun v g8794 H locs hp hW1 => ?_)
            obtain ⟨r8793, rfl, hr8793, rfl⟩ := hp
            have hW : WS ad cA (fun i k => (i = 129 ∧ (k = 3 ∨ k = 5 ∨ k = 18 ∨ k = 19 ∨ k = 20)) ∨ i = 137 ∨ i = 139 ∨ i = 140 ∨ i = 141) g0 K g8783 H locs := ⟨hW1, hW.2.1, hW.2.2⟩
            refine q_if_ne (tgt := 216) hM dX12_stepTold_212 (by decide) (rfl : r8793.toInt = r8793.toInt) (fun h212 => ?_) (fun h212 => ?_)
            · refine q_iconst (v := (0 : Int32)) hM dX12_stepTold_216 (by decide) ?_
              refine q_istore (lv9 := [(4, .int (0 : Int32)), (3, .int r8777), (2, .int r8760), (1, .int pl), (0, .ref (ad 129))]) hM dX12_stepTold_217 hl (by decide) rfl (fun ls hl => ?_)
              have L219 : ∀ (fu219 : Nat) (w219_4 : Int32) (g9 : Nat → va_E) (H : Heap) (locs : List Loc) (ls : Array Slot), (r8760.toInt - w219_4.toInt + 1).toNat < fu219 → (Rng g9) → (0 ≤ w219_4.toInt) → (fld g9 129 3 = .int v8775) → (fld g9 129 5 = .int v8776) → (fld g9 129 18 = .int nm) → (fld g9 129 19 = .int om) → (arI g9 139 = arI g0 139) → (arI g9 140 = arI g0 140) → (arI g9 141 = arI g0 141) → lv_has ls 5 [(0, .ref (ad 129)), (1, .int pl), (2, .int r8760), (3, .int r8777), (4, .int w219_4)] → WS ad cA (fun i k => (i = 129 ∧ (k = 3 ∨ k = 5 ∨ k = 18 ∨ k = 19 ∨ k = 20)) ∨ i = 137 ∨ i = 139 ∨ i = 140 ∨ i = 141) g0 K g9 H locs → XX K 0 0 H locs 219 ls [] := by
                intro fu219
                induction fu219 with
                | zero => intro w219_4 g9 H locs ls h0; omega
                | succ fu219 ih219 =>
                  intro w219_4 g9 H locs ls hm219 i219_0 i219_1 c219_129_3 c219_129_5 c219_129_18 c219_129_19 d219_139 d219_140 d219_141 hl hW
                  have hG := i219_0
                  have := i_rng r8760
                  refine q_iload hM dX12_stepTold_219 (lv_at hl 4 rfl) ?_
                  refine q_iload_n hM dX12_stepTold_221 (lv_at hl 2 rfl) ?_
                  refine q_icmp_ge (tgt := 244) hM dX12_stepTold_222 (by decide) (rfl : w219_4.toInt = w219_4.toInt) (rfl : r8760.toInt = r8760.toInt) (fun h222 => ?_) (fun h222 => ?_)
                  · refine q_aload_n hM dX12_stepTold_244 (lv_at hl 0 rfl) ?_
                    refine q_dup hM dX12_stepTold_245 rfl ?_
                    refine w_get (v := .int nm) hM hW FG_X12_227 lb_129 c219_129_18 dX12_stepTold_246 ?_
                    have bnm := hG.f c219_129_18 rF_129_18 (by decide)
                    refine q_iload_n hM dX12_stepTold_249 (lv_at hl 2 rfl) ?_
                    refine q_iadd hM dX12_stepTold_250 (fun z8798 hz8798 => ?_)
                    first | have tz8798 := i_addT hz8798 (rfl : nm.toInt = nm.toInt) (rfl : r8760.toInt = r8760.toInt) (by omega) (by omega) | skip
                    refine w_put hM hW FP_X12_227 lb_129 (by omega) (Or.inl ⟨_, rfl⟩) rfl rfl dX12_stepTold_251 (fun g8799 H locs hW e1 e2 => ?_)
                    have f8800 : fld g8799 129 3 = .int v8775 := (e2.1 129 3 (by unfold Only; omega)).trans c219_129_3
                    have f8801 : fld g8799 129 5 = .int v8776 := (e2.1 129 5 (by unfold Only; omega)).trans c219_129_5
                    have f8802 : fld g8799 129 19 = .int om := (e2.1 129 19 (by unfold Only; omega)).trans c219_129_19
                    have f8803 : arI g8799 139 = arI g0 139 := (e2.2.1 139 (by unfold Only; omega)).trans d219_139
                    have f8804 : arI g8799 140 = arI g0 140 := (e2.2.1 140 (by unfold Only; omega)).trans d219_140
                    have f8805 : arI g8799 141 = arI g0 141 := (e2.2.1 141 (by unfold Only; omega)).trans d219_141
                    have f8806 : fld g8799 129 18 = .int z8798 := e1
                    have hG := hG.put e1 e2 rF_129_18 (by decide) (by have := i_rng z8798; omega) (by have := i_rng z8798; omega)
                    refine q_aload_n hM dX12_stepTold_254 (lv_at hl 0 rfl) ?_
                    refine q_iconst (v := (1 : Int32)) hM dX12_stepTold_255 (by decide) ?_
                    refine w_put hM hW FP_X12_254 lb_129 (by omega) (Or.inl ⟨_, rfl⟩) rfl rfl dX12_stepTold_256 (fun g8807 H locs hW e1 e2 => ?_)
                    have f8808 : fld g8807 129 3 = .int v8775 := (e2.1 129 3 (by unfold Only; omega)).trans f8800
                    have f8809 : fld g8807 129 5 = .int v8776 := (e2.1 129 5 (by unfold Only; omega)).trans f8801
                    have f8810 : fld g8807 129 19 = .int om := (e2.1 129 19 (by unfold Only; omega)).trans f8802
                    have f8811 : arI g8807 139 = arI g0 139 := (e2.2.1 139 (by unfold Only; omega)).trans f8803
                    have f8812 : arI g8807 140 = arI g0 140 := (e2.2.1 140 (by unfold Only; omega)).trans f8804
                    have f8813 : arI g8807 141 = arI g0 141 := (e2.2.1 141 (by unfold Only; omega)).trans f8805
                    have f8814 : fld g8807 129 18 = .int z8798 := (e2.1 129 18 (by unfold Only; omega)).trans f8806
                    have f8815 : fld g8807 129 20 = .int (1 : Int32) := e1
                    have hG := hG.put e1 e2 (rfl : rF 129 20 = (-2147483648, 2147483647)) (by decide) (by have := kc_1; have := i_rng (1 : Int32); omega) (by have := kc_1; have := i_rng (1 : Int32); omega)
                    refine q_aload_n hM dX12_stepTold_259 (lv_at hl 0 rfl) ?_
                    refine q_dup hM dX12_stepTold_260 rfl ?_
                    refine w_get (v := .int v8775) hM hW FG_X12_173 lb_129 f8808 dX12_stepTold_261 ?_
                    have bv8775 := hG.f f8808 rF_129_3 (by decide)
                    refine q_iconst (v := (1 : Int32)) hM dX12_stepTold_264 (by decide) ?_
                    refine q_iadd hM dX12_stepTold_265 (fun z8816 hz8816 => ?_)
                    first | have tz8816 := i_addT hz8816 (rfl : v8775.toInt = v8775.toInt) (kc_1 : (1 : Int32).toInt = 1) (by omega) (by omega) | skip
                    refine w_put hM hW FP_X12_173 lb_129 (by omega) (Or.inl ⟨_, rfl⟩) rfl rfl dX12_stepTold_266 (fun g8817 H locs hW e1 e2 => ?_)
                    have f8818 : fld g8817 129 5 = .int v8776 := (e2.1 129 5 (by unfold Only; omega)).trans f8809
                    have f8819 : fld g8817 129 19 = .int om := (e2.1 129 19 (by unfold Only; omega)).trans f8810
                    have f8820 : arI g8817 139 = arI g0 139 := (e2.2.1 139 (by unfold Only; omega)).trans f8811
                    have f8821 : arI g8817 140 = arI g0 140 := (e2.2.1 140 (by unfold Only; omega)).trans f8812
                    have f8822 : arI g8817 141 = arI g0 141 := (e2.2.1 141 (by unfold Only; omega)).trans f8813
                    have f8823 : fld g8817 129 18 = .int z8798 := (e2.1 129 18 (by unfold Only; omega)).trans f8814
                    have f8824 : fld g8817 129 20 = .int (1 : Int32) := (e2.1 129 20 (by unfold Only; omega)).trans f8815
                    have f8825 : fld g8817 129 3 = .int z8816 := e1
                    have hG := hG.put e1 e2 rF_129_3 (by decide) (by have := i_rng z8816; omega) (by have := i_rng z8816; omega)
                    exact hE _ _ _ _ _ hW.1 ⟨z8816, v8776, z8798, om, rfl, hW.2.1, hG, hW.2.2, f8825, f8818, f8823, f8819, (by omega), (by omega), (by omega), (fun _ => by rw [f8820, f8821, f8822]; exact OA_mono hO (by omega) (by omega))⟩ dX12_stepTold_269
                  · refine q_aload_n hM dX12_stepTold_225 (lv_at hl 0 rfl) ?_
                    refine w_get (v := .ref (ad 137)) hM hW FG_X12_37 lb_129 (rf_129_16 hW.2.1) dX12_stepTold_226 ?_
                    refine q_aload_n hM dX12_stepTold_229 (lv_at hl 0 rfl) ?_
                    refine w_get (v := .int nm) hM hW FG_X12_227 lb_129 c219_129_18 dX12_stepTold_230 ?_
                    have bnm := hG.f c219_129_18 rF_129_18 (by decide)
                    refine q_iload hM dX12_stepTold_233 (lv_at hl 4 rfl) ?_
                    refine q_iadd hM dX12_stepTold_235 (fun z8827 hz8827 => ?_)
                    first | have tz8827 := i_addT hz8827 (rfl : nm.toInt = nm.toInt) (rfl : w219_4.toInt = w219_4.toInt) (by omega) (by omega) | skip
                    refine q_iload_n hM dX12_stepTold_236 (lv_at hl 3 rfl) ?_
                    refine w_iast hM hW lb_137 (by omega) (i_in (by omega) (by omega)) dX12_stepTold_237 (fun g8828 H locs hW e1 e2 => ?_)
                    have f8829 : fld g8828 129 3 = .int v8775 := (e2.1 129 3 (by unfold Only; omega)).trans c219_129_3
                    have f8830 : fld g8828 129 5 = .int v8776 := (e2.1 129 5 (by unfold Only; omega)).trans c219_129_5
                    have f8831 : fld g8828 129 18 = .int nm := (e2.1 129 18 (by unfold Only; omega)).trans c219_129_18
                    have f8832 : fld g8828 129 19 = .int om := (e2.1 129 19 (by unfold Only; omega)).trans c219_129_19
                    have f8833 : arI g8828 139 = arI g0 139 := (e2.2.1 139 (by unfold Only; omega)).trans d219_139
                    have f8834 : arI g8828 140 = arI g0 140 := (e2.2.1 140 (by unfold Only; omega)).trans d219_140
                    have f8835 : arI g8828 141 = arI g0 141 := (e2.2.1 141 (by unfold Only; omega)).trans d219_141
                    have hG := hG.st e1 e2 rA_137 (by have := i_rng r8777; omega) (by have := i_rng r8777; omega)
                    refine q_iinc (lv9 := fun z8836 => [(4, .int z8836), (0, .ref (ad 129)), (1, .int pl), (2, .int r8760), (3, .int r8777)]) hM dX12_stepTold_238 hl (kq := 4) rfl (by decide) (fun _ => rfl) (fun z8836 ls hz8836 hl => ?_)
                    first | have tz8836 := i_addT hz8836 (rfl : w219_4.toInt = w219_4.toInt) (kc_1 : (Int32.ofInt 1).toInt = 1) (by omega) (by omega) | skip
                    refine q_goto (tgt := 219) hM dX12_stepTold_241 (by decide) ?_
                    exact ih219 z8836 _ _ _ _ (by omega) hG (by omega) f8829 f8830 f8831 f8832 f8833 f8834 f8835 (lv_sub hl [1, 2, 3, 4, 0] rfl) hW
              have := kc_0
              exact L219 _ (0 : Int32) _ _ _ _ (Nat.lt_succ_self _) hG (by omega) q8778 q8779 f8787 f8788 f8784 f8785 f8786 (lv_sub hl [4, 3, 2, 1, 0] rfl) hW
            · exact hE _ _ _ _ _ hW.1 ⟨v8775, v8776, nm, om, rfl, hW.2.1, hG, hW.2.2, q8778, q8779, f8787, f8788, (by omega), (by omega), (by omega), (fun _ => by rw [f8784, f8785, f8786]; exact OA_mono hO (by omega) (by omega))⟩ dX12_stepTold_215
          · refine q_aload_n hM dX12_stepTold_190 (lv_at hl 3 rfl) ?_
            refine w_get (v := .int nm) hM hW FG_X12_227 lb_129 f8787 dX12_stepTold_191 ?_
            have bnm := hG.f f8787 rF_129_18 (by decide)
            refine q_iload_n hM dX12_stepTold_194 (lv_at hl 1 rfl) ?_
            refine q_iadd hM dX12_stepTold_195 (fun z8839 hz8839 => ?_)
            first | have tz8839 := i_addT hz8839 (rfl : nm.toInt = nm.toInt) (rfl : r8760.toInt = r8760.toInt) (by omega) (by omega) | skip
            refine q_bipush (v := (48 : Int32)) hM dX12_stepTold_196 (by decide) ?_
            refine q_icmp_le (tgt := 208) hM dX12_stepTold_198 (by decide) (rfl : z8839.toInt = z8839.toInt) (kc_48 : (48 : Int32).toInt = 48) (fun h198 => ?_) (fun h198 => ?_)
            · refine q_aload_n hM dX12_stepTold_208 (lv_at hl 3 rfl) ?_
              refine q_callV (As := []) (rest := []) hM hW.1 hR hC myX12_isGood (kAW (v_5_8 (List.mem_of_getElem? (i := 11) rfl)) rfl) (rfl : vwCl[12]? = some (RX12, TX12, 86)) rfl lb_129.1 (shO hW.2.1 lb_129) (a_X12_isGood _ _ cA ad g8783 v8776 hW.2.1 hG q8779) ⟨by decide, by decide⟩ rfl rfl hl.1 (Nat.le_of_ble_eq_true rfl) dX12_stepTold_209 (fun v g8842 H locs hp hW1 => ?_)
              obtain ⟨r8841, rfl, hr8841, rfl⟩ := hp
              have hW : WS ad cA (fun i k => (i = 129 ∧ (k = 3 ∨ k = 5 ∨ k = 18 ∨ k = 19 ∨ k = 20)) ∨ i = 137 ∨ i = 139 ∨ i = 140 ∨ i = 141) g0 K g8783 H locs := ⟨hW1, hW.2.1, hW.2.2⟩
              refine q_if_ne (tgt := 216) hM dX12_stepTold_212 (by decide) (rfl : r8841.toInt = r8841.toInt) (fun h212 => ?_) (fun h212 => ?_)
              · refine q_iconst (v := (0 : Int32)) hM dX12_stepTold_216 (by decide) ?_
                refine q_istore (lv9 := [(4, .int (0 : Int32)), (3, .int r8777), (2, .int r8760), (1, .int pl), (0, .ref (ad 129))]) hM dX12_stepTold_217 hl (by decide) rfl (fun ls hl => ?_)
                have L219 : ∀ (fu219 : Nat) (w219_4 : Int32) (g9 : Nat → va_E) (H : Heap) (locs : List Loc) (ls : Array Slot), (r8760.toInt - w219_4.toInt + 1).toNat < fu219 → (Rng g9) → (0 ≤ w219_4.toInt) → (fld g9 129 3 = .int v8775) → (fld g9 129 5 = .int v8776) → (fld g9 129 18 = .int nm) → (fld g9 129 19 = .int om) → (arI g9 139 = arI g0 139) → (arI g9 140 = arI g0 140) → (arI g9 141 = arI g0 141) → lv_has ls 5 [(0, .ref (ad 129)), (1, .int pl), (2, .int r8760), (3, .int r8777), (4, .int w219_4)] → WS ad cA (fun i k => (i = 129 ∧ (k = 3 ∨ k = 5 ∨ k = 18 ∨ k = 19 ∨ k = 20)) ∨ i = 137 ∨ i = 139 ∨ i = 140 ∨ i = 141) g0 K g9 H locs → XX K 0 0 H locs 219 ls [] := by
                  intro fu219
                  induction fu219 with
                  | zero => intro w219_4 g9 H locs ls h0; omega
                  | succ fu219 ih219 =>
                    intro w219_4 g9 H locs ls hm219 i219_0 i219_1 c219_129_3 c219_129_5 c219_129_18 c219_129_19 d219_139 d219_140 d219_141 hl hW
                    have hG := i219_0
                    have := i_rng r8760
                    refine q_iload hM dX12_stepTold_219 (lv_at hl 4 rfl) ?_
                    refine q_iload_n hM dX12_stepTold_221 (lv_at hl 2 rfl) ?_
                    refine q_icmp_ge (tgt := 244) hM dX12_stepTold_222 (by decide) (rfl : w219_4.toInt = w219_4.toInt) (rfl : r8760.toInt = r8760.toInt) (fun h222 => ?_) (fun h222 => ?_)
                    · refine q_aload_n hM dX12_stepTold_244 (lv_at hl 0 rfl) ?_
                      refine q_dup hM dX12_stepTold_245 rfl ?_
                      refine w_get (v := .int nm) hM hW FG_X12_227 lb_129 c219_129_18 dX12_stepTold_246 ?_
                      have bnm := hG.f c219_129_18 rF_129_18 (by decide)
                      refine q_iload_n hM dX12_stepTold_249 (lv_at hl 2 rfl) ?_
                      refine q_iadd hM dX12_stepTold_250 (fun z8846 hz8846 => ?_)
                      first | have tz8846 := i_addT hz8846 (rfl : nm.toInt = nm.toInt) (rfl : r8760.toInt = r8760.toInt) (by omega) (by omega) | skip
                      refine w_put hM hW FP_X12_227 lb_129 (by omega) (Or.inl ⟨_, rfl⟩) rfl rfl dX12_stepTold_251 (fun g8847 H locs hW e1 e2 => ?_)
                      have f8848 : fld g8847 129 3 = .int v8775 := (e2.1 129 3 (by unfold Only; omega)).trans c219_129_3
                      have f8849 : fld g8847 129 5 = .int v8776 := (e2.1 129 5 (by unfold Only; omega)).trans c219_129_5
                      have f8850 : fld g8847 129 19 = .int om := (e2.1 129 19 (by unfold Only; omega)).trans c219_129_19
                      have f8851 : arI g8847 139 = arI g0 139 := (e2.2.1 139 (by unfold Only; omega)).trans d219_139
                      have f8852 : arI g8847 140 = arI g0 140 := (e2.2.1 140 (by unfold Only; omega)).trans d219_140
                      have f8853 : arI g8847 141 = arI g0 141 := (e2.2.1 141 (by unfold Only; omega)).trans d219_141
                      have f8854 : fld g8847 129 18 = .int z8846 := e1
                      have hG := hG.put e1 e2 rF_129_18 (by decide) (by have := i_rng z8846; omega) (by have := i_rng z8846; omega)
                      refine q_aload_n hM dX12_stepTold_254 (lv_at hl 0 rfl) ?_
                      refine q_iconst (v := (1 : Int32)) hM dX12_stepTold_255 (by decide) ?_
                      refine w_put hM hW FP_X12_254 lb_129 (by omega) (Or.inl ⟨_, rfl⟩) rfl rfl dX12_stepTold_256 (fun g8855 H locs hW e1 e2 => ?_)
                      have f8856 : fld g8855 129 3 = .int v8775 := (e2.1 129 3 (by unfold Only; omega)).trans f8848
                      have f8857 : fld g8855 129 5 = .int v8776 := (e2.1 129 5 (by unfold Only; omega)).trans f8849
                      have f8858 : fld g8855 129 19 = .int om := (e2.1 129 19 (by unfold Only; omega)).trans f8850
                      have f8859 : arI g8855 139 = arI g0 139 := (e2.2.1 139 (by unfold Only; omega)).trans f8851
                      have f8860 : arI g8855 140 = arI g0 140 := (e2.2.1 140 (by unfold Only; omega)).trans f8852
                      have f8861 : arI g8855 141 = arI g0 141 := (e2.2.1 141 (by unfold Only; omega)).trans f8853
                      have f8862 : fld g8855 129 18 = .int z8846 := (e2.1 129 18 (by unfold Only; omega)).trans f8854
                      have f8863 : fld g8855 129 20 = .int (1 : Int32) := e1
                      have hG := hG.put e1 e2 (rfl : rF 129 20 = (-2147483648, 2147483647)) (by decide) (by have := kc_1; have := i_rng (1 : Int32); omega) (by have := kc_1; have := i_rng (1 : Int32); omega)
                      refine q_aload_n hM dX12_stepTold_259 (lv_at hl 0 rfl) ?_
                      refine q_dup hM dX12_stepTold_260 rfl ?_
                      refine w_get (v := .int v8775) hM hW FG_X12_173 lb_129 f8856 dX12_stepTold_261 ?_
                      have bv8775 := hG.f f8856 rF_129_3 (by decide)
                      refine q_iconst (v := (1 : Int32)) hM dX12_stepTold_264 (by decide) ?_
                      refine q_iadd hM dX12_stepTold_265 (fun z8864 hz8864 => ?_)
                      first | have tz8864 := i_addT hz8864 (rfl : v8775.toInt = v8775.toInt) (kc_1 : (1 : Int32).toInt = 1) (by omega) (by omega) | skip
                      refine w_put hM hW FP_X12_173 lb_129 (by omega) (Or.inl ⟨_, rfl⟩) rfl rfl dX12_stepTold_266 (fun g8865 H locs hW e1 e2 => ?_)
                      have f8866 : fld g8865 129 5 = .int v8776 := (e2.1 129 5 (by unfold Only; omega)).trans f8857
                      have f8867 : fld g8865 129 19 = .int om := (e2.1 129 19 (by unfold Only; omega)).trans f8858
                      have f8868 : arI g8865 139 = arI g0 139 := (e2.2.1 139 (by unfold Only; omega)).trans f8859
                      have f8869 : arI g8865 140 = arI g0 140 := (e2.2.1 140 (by unfold Only; omega)).trans f8860
                      have f8870 : arI g8865 141 = arI g0 141 := (e2.2.1 141 (by unfold Only; omega)).trans f8861
                      have f8871 : fld g8865 129 18 = .int z8846 := (e2.1 129 18 (by unfold Only; omega)).trans f8862
                      have f8872 : fld g8865 129 20 = .int (1 : Int32) := (e2.1 129 20 (by unfold Only; omega)).trans f8863
                      have f8873 : fld g8865 129 3 = .int z8864 := e1
                      have hG := hG.put e1 e2 rF_129_3 (by decide) (by have := i_rng z8864; omega) (by have := i_rng z8864; omega)
                      exact hE _ _ _ _ _ hW.1 ⟨z8864, v8776, z8846, om, rfl, hW.2.1, hG, hW.2.2, f8873, f8866, f8871, f8867, (by omega), (by omega), (by omega), (fun _ => by rw [f8868, f8869, f8870]; exact OA_mono hO (by omega) (by omega))⟩ dX12_stepTold_269
                    · refine q_aload_n hM dX12_stepTold_225 (lv_at hl 0 rfl) ?_
                      refine w_get (v := .ref (ad 137)) hM hW FG_X12_37 lb_129 (rf_129_16 hW.2.1) dX12_stepTold_226 ?_
                      refine q_aload_n hM dX12_stepTold_229 (lv_at hl 0 rfl) ?_
                      refine w_get (v := .int nm) hM hW FG_X12_227 lb_129 c219_129_18 dX12_stepTold_230 ?_
                      have bnm := hG.f c219_129_18 rF_129_18 (by decide)
                      refine q_iload hM dX12_stepTold_233 (lv_at hl 4 rfl) ?_
                      refine q_iadd hM dX12_stepTold_235 (fun z8875 hz8875 => ?_)
                      first | have tz8875 := i_addT hz8875 (rfl : nm.toInt = nm.toInt) (rfl : w219_4.toInt = w219_4.toInt) (by omega) (by omega) | skip
                      refine q_iload_n hM dX12_stepTold_236 (lv_at hl 3 rfl) ?_
                      refine w_iast hM hW lb_137 (by omega) (i_in (by omega) (by omega)) dX12_stepTold_237 (fun g8876 H locs hW e1 e2 => ?_)
                      have f8877 : fld g8876 129 3 = .int v8775 := (e2.1 129 3 (by unfold Only; omega)).trans c219_129_3
                      have f8878 : fld g8876 129 5 = .int v8776 := (e2.1 129 5 (by unfold Only; omega)).trans c219_129_5
                      have f8879 : fld g8876 129 18 = .int nm := (e2.1 129 18 (by unfold Only; omega)).trans c219_129_18
                      have f8880 : fld g8876 129 19 = .int om := (e2.1 129 19 (by unfold Only; omega)).trans c219_129_19
                      have f8881 : arI g8876 139 = arI g0 139 := (e2.2.1 139 (by unfold Only; omega)).trans d219_139
                      have f8882 : arI g8876 140 = arI g0 140 := (e2.2.1 140 (by unfold Only; omega)).trans d219_140
                      have f8883 : arI g8876 141 = arI g0 141 := (e2.2.1 141 (by unfold Only; omega)).trans d219_141
                      have hG := hG.st e1 e2 rA_137 (by have := i_rng r8777; omega) (by have := i_rng r8777; omega)
                      refine q_iinc (lv9 := fun z8884 => [(4, .int z8884), (0, .ref (ad 129)), (1, .int pl), (2, .int r8760), (3, .int r8777)]) hM dX12_stepTold_238 hl (kq := 4) rfl (by decide) (fun _ => rfl) (fun z8884 ls hz8884 hl => ?_)
                      first | have tz8884 := i_addT hz8884 (rfl : w219_4.toInt = w219_4.toInt) (kc_1 : (Int32.ofInt 1).toInt = 1) (by omega) (by omega) | skip
                      refine q_goto (tgt := 219) hM dX12_stepTold_241 (by decide) ?_
                      exact ih219 z8884 _ _ _ _ (by omega) hG (by omega) f8877 f8878 f8879 f8880 f8881 f8882 f8883 (lv_sub hl [1, 2, 3, 4, 0] rfl) hW
                have := kc_0
                exact L219 _ (0 : Int32) _ _ _ _ (Nat.lt_succ_self _) hG (by omega) q8778 q8779 f8787 f8788 f8784 f8785 f8786 (lv_sub hl [4, 3, 2, 1, 0] rfl) hW
              · exact hE _ _ _ _ _ hW.1 ⟨v8775, v8776, nm, om, rfl, hW.2.1, hG, hW.2.2, q8778, q8779, f8787, f8788, (by omega), (by omega), (by omega), (fun _ => by rw [f8784, f8785, f8786]; exact OA_mono hO (by omega) (by omega))⟩ dX12_stepTold_215
            · refine q_aload_n hM dX12_stepTold_201 (lv_at hl 3 rfl) ?_
              refine q_bipush (v := (6 : Int32)) hM dX12_stepTold_202 (by decide) ?_
              refine q_iload_n hM dX12_stepTold_204 (lv_at hl 2 rfl) ?_
              refine q_callV (As := [.int (6 : Int32), .int pl]) (rest := []) hM hW.1 hR hC myX12_wrongs (kAW (v_5_9 (List.mem_of_getElem? (i := 11) rfl)) rfl) (rfl : vwCl[12]? = some (RX12, TX12, 86)) rfl lb_129.1 (shO hW.2.1 lb_129) (a_X12_wrongs _ _ cA ad g8783 (6 : Int32) pl v8776 hW.2.1 hG q8779 (by have := kc_6; omega) (by have := kc_6; omega) (by have := kc_6; omega) (by have := kc_6; omega)) ⟨by decide, by decide⟩ rfl rfl hl.1 (Nat.le_of_ble_eq_true rfl) dX12_stepTold_205 (fun v g8890 H locs hp hW1 => ?_)
              obtain ⟨v8887, rfl, hs1, hG, hf1, q8888, e8889⟩ := hp
              have f8891 : arI g8890 139 = arI g0 139 := (hf1.2.1 139 (by omega)).trans f8784
              have f8892 : arI g8890 140 = arI g0 140 := (hf1.2.1 140 (by omega)).trans f8785
              have f8893 : arI g8890 141 = arI g0 141 := (hf1.2.1 141 (by omega)).trans f8786
              have f8894 : fld g8890 129 18 = .int nm := (hf1.1 129 18 (by omega)).trans f8787
              have f8895 : fld g8890 129 19 = .int om := (hf1.1 129 19 (by omega)).trans f8788
              have f8896 : fld g8890 129 20 = .int x8757 := (hf1.1 129 20 (by omega)).trans f8789
              have f8897 : fld g8890 129 3 = .int v8775 := (hf1.1 129 3 (by omega)).trans q8778
              have hW : WS ad cA (fun i k => (i = 129 ∧ (k = 3 ∨ k = 5 ∨ k = 18 ∨ k = 19 ∨ k = 20)) ∨ i = 137 ∨ i = 139 ∨ i = 140 ∨ i = 141) g0 K g8890 H locs := ⟨hW1, hs1, hW.2.2.tr hf1 (fun i k h => (Or.inl (by omega)))⟩
              refine q_aload_n hM dX12_stepTold_208 (lv_at hl 3 rfl) ?_
              refine q_callV (As := []) (rest := []) hM hW.1 hR hC myX12_isGood (kAW (v_5_8 (List.mem_of_getElem? (i := 11) rfl)) rfl) (rfl : vwCl[12]? = some (RX12, TX12, 86)) rfl lb_129.1 (shO hW.2.1 lb_129) (a_X12_isGood _ _ cA ad g8890 v8887 hW.2.1 hG q8888) ⟨by decide, by decide⟩ rfl rfl hl.1 (Nat.le_of_ble_eq_true rfl) dX12_stepTold_209 (fun v g8899 H locs hp hW1 => ?_)
              obtain ⟨r8898, rfl, hr8898, rfl⟩ := hp
              have hW : WS ad cA (fun i k => (i = 129 ∧ (k = 3 ∨ k = 5 ∨ k = 18 ∨ k = 19 ∨ k = 20)) ∨ i = 137 ∨ i = 139 ∨ i = 140 ∨ i = 141) g0 K g8890 H locs := ⟨hW1, hW.2.1, hW.2.2⟩
              refine q_if_ne (tgt := 216) hM dX12_stepTold_212 (by decide) (rfl : r8898.toInt = r8898.toInt) (fun h212 => ?_) (fun h212 => ?_)
              · refine q_iconst (v := (0 : Int32)) hM dX12_stepTold_216 (by decide) ?_
                refine q_istore (lv9 := [(4, .int (0 : Int32)), (3, .int r8777), (2, .int r8760), (1, .int pl), (0, .ref (ad 129))]) hM dX12_stepTold_217 hl (by decide) rfl (fun ls hl => ?_)
                have L219 : ∀ (fu219 : Nat) (w219_4 : Int32) (g9 : Nat → va_E) (H : Heap) (locs : List Loc) (ls : Array Slot), (r8760.toInt - w219_4.toInt + 1).toNat < fu219 → (Rng g9) → (0 ≤ w219_4.toInt) → (fld g9 129 3 = .int v8775) → (fld g9 129 5 = .int v8887) → (fld g9 129 18 = .int nm) → (fld g9 129 19 = .int om) → (arI g9 139 = arI g0 139) → (arI g9 140 = arI g0 140) → (arI g9 141 = arI g0 141) → lv_has ls 5 [(0, .ref (ad 129)), (1, .int pl), (2, .int r8760), (3, .int r8777), (4, .int w219_4)] → WS ad cA (fun i k => (i = 129 ∧ (k = 3 ∨ k = 5 ∨ k = 18 ∨ k = 19 ∨ k = 20)) ∨ i = 137 ∨ i = 139 ∨ i = 140 ∨ i = 141) g0 K g9 H locs → XX K 0 0 H locs 219 ls [] := by
                  intro fu219
                  induction fu219 with
                  | zero => intro w219_4 g9 H locs ls h0; omega
                  | succ fu219 ih219 =>
                    intro w219_4 g9 H locs ls hm219 i219_0 i219_1 c219_129_3 c219_129_5 c219_129_18 c219_129_19 d219_139 d219_140 d219_141 hl hW
                    have hG := i219_0
                    have := i_rng r8760
                    refine q_iload hM dX12_stepTold_219 (lv_at hl 4 rfl) ?_
                    refine q_iload_n hM dX12_stepTold_221 (lv_at hl 2 rfl) ?_
                    refine q_icmp_ge (tgt := 244) hM dX12_stepTold_222 (by decide) (rfl : w219_4.toInt = w219_4.toInt) (rfl : r8760.toInt = r8760.toInt) (fun h222 => ?_) (fun h222 => ?_)
                    · refine q_aload_n hM dX12_stepTold_244 (lv_at hl 0 rfl) ?_
                      refine q_dup hM dX12_stepTold_245 rfl ?_
                      refine w_get (v := .int nm) hM hW FG_X12_227 lb_129 c219_129_18 dX12_stepTold_246 ?_
                      have bnm := hG.f c219_129_18 rF_129_18 (by decide)
                      refine q_iload_n hM dX12_stepTold_249 (lv_at hl 2 rfl) ?_
                      refine q_iadd hM dX12_stepTold_250 (fun z8903 hz8903 => ?_)
                      first | have tz8903 := i_addT hz8903 (rfl : nm.toInt = nm.toInt) (rfl : r8760.toInt = r8760.toInt) (by omega) (by omega) | skip
                      refine w_put hM hW FP_X12_227 lb_129 (by omega) (Or.inl ⟨_, rfl⟩) rfl rfl dX12_stepTold_251 (fun g8904 H locs hW e1 e2 => ?_)
                      have f8905 : fld g8904 129 3 = .int v8775 := (e2.1 129 3 (by unfold Only; omega)).trans c219_129_3
                      have f8906 : fld g8904 129 5 = .int v8887 := (e2.1 129 5 (by unfold Only; omega)).trans c219_129_5
                      have f8907 : fld g8904 129 19 = .int om := (e2.1 129 19 (by unfold Only; omega)).trans c219_129_19
                      have f8908 : arI g8904 139 = arI g0 139 := (e2.2.1 139 (by unfold Only; omega)).trans d219_139
                      have f8909 : arI g8904 140 = arI g0 140 := (e2.2.1 140 (by unfold Only; omega)).trans d219_140
                      have f8910 : arI g8904 141 = arI g0 141 := (e2.2.1 141 (by unfold Only; omega)).trans d219_141
                      have f8911 : fld g8904 129 18 = .int z8903 := e1
                      have hG := hG.put e1 e2 rF_129_18 (by decide) (by have := i_rng z8903; omega) (by have := i_rng z8903; omega)
                      refine q_aload_n hM dX12_stepTold_254 (lv_at hl 0 rfl) ?_
                      refine q_iconst (v := (1 : Int32)) hM dX12_stepTold_255 (by decide) ?_
                      refine w_put hM hW FP_X12_254 lb_129 (by omega) (Or.inl ⟨_, rfl⟩) rfl rfl dX12_stepTold_256 (fun g8912 H locs hW e1 e2 => ?_)
                      have f8913 : fld g8912 129 3 = .int v8775 := (e2.1 129 3 (by unfold Only; omega)).trans f8905
                      have f8914 : fld g8912 129 5 = .int v8887 := (e2.1 129 5 (by unfold Only; omega)).trans f8906
                      have f8915 : fld g8912 129 19 = .int om := (e2.1 129 19 (by unfold Only; omega)).trans f8907
                      have f8916 : arI g8912 139 = arI g0 139 := (e2.2.1 139 (by unfold Only; omega)).trans f8908
                      have f8917 : arI g8912 140 = arI g0 140 := (e2.2.1 140 (by unfold Only; omega)).trans f8909
                      have f8918 : arI g8912 141 = arI g0 141 := (e2.2.1 141 (by unfold Only; omega)).trans f8910
                      have f8919 : fld g8912 129 18 = .int z8903 := (e2.1 129 18 (by unfold Only; omega)).trans f8911
                      have f8920 : fld g8912 129 20 = .int (1 : Int32) := e1
                      have hG := hG.put e1 e2 (rfl : rF 129 20 = (-2147483648, 2147483647)) (by decide) (by have := kc_1; have := i_rng (1 : Int32); omega) (by have := kc_1; have := i_rng (1 : Int32); omega)
                      refine q_aload_n hM dX12_stepTold_259 (lv_at hl 0 rfl) ?_
                      refine q_dup hM dX12_stepTold_260 rfl ?_
                      refine w_get (v := .int v8775) hM hW FG_X12_173 lb_129 f8913 dX12_stepTold_261 ?_
                      have bv8775 := hG.f f8913 rF_129_3 (by decide)
                      refine q_iconst (v := (1 : Int32)) hM dX12_stepTold_264 (by decide) ?_
                      refine q_iadd hM dX12_stepTold_265 (fun z8921 hz8921 => ?_)
                      first | have tz8921 := i_addT hz8921 (rfl : v8775.toInt = v8775.toInt) (kc_1 : (1 : Int32).toInt = 1) (by omega) (by omega) | skip
                      refine w_put hM hW FP_X12_173 lb_129 (by omega) (Or.inl ⟨_, rfl⟩) rfl rfl dX12_stepTold_266 (fun g8922 H locs hW e1 e2 => ?_)
                      have f8923 : fld g8922 129 5 = .int v8887 := (e2.1 129 5 (by unfold Only; omega)).trans f8914
                      have f8924 : fld g8922 129 19 = .int om := (e2.1 129 19 (by unfold Only; omega)).trans f8915
                      have f8925 : arI g8922 139 = arI g0 139 := (e2.2.1 139 (by unfold Only; omega)).trans f8916
                      have f8926 : arI g8922 140 = arI g0 140 := (e2.2.1 140 (by unfold Only; omega)).trans f8917
                      have f8927 : arI g8922 141 = arI g0 141 := (e2.2.1 141 (by unfold Only; omega)).trans f8918
                      have f8928 : fld g8922 129 18 = .int z8903 := (e2.1 129 18 (by unfold Only; omega)).trans f8919
                      have f8929 : fld g8922 129 20 = .int (1 : Int32) := (e2.1 129 20 (by unfold Only; omega)).trans f8920
                      have f8930 : fld g8922 129 3 = .int z8921 := e1
                      have hG := hG.put e1 e2 rF_129_3 (by decide) (by have := i_rng z8921; omega) (by have := i_rng z8921; omega)
                      exact hE _ _ _ _ _ hW.1 ⟨z8921, v8887, z8903, om, rfl, hW.2.1, hG, hW.2.2, f8930, f8923, f8928, f8924, (by omega), (by omega), (by omega), (fun _ => by rw [f8925, f8926, f8927]; exact OA_mono hO (by omega) (by omega))⟩ dX12_stepTold_269
                    · refine q_aload_n hM dX12_stepTold_225 (lv_at hl 0 rfl) ?_
                      refine w_get (v := .ref (ad 137)) hM hW FG_X12_37 lb_129 (rf_129_16 hW.2.1) dX12_stepTold_226 ?_
                      refine q_aload_n hM dX12_stepTold_229 (lv_at hl 0 rfl) ?_
                      refine w_get (v := .int nm) hM hW FG_X12_227 lb_129 c219_129_18 dX12_stepTold_230 ?_
                      have bnm := hG.f c219_129_18 rF_129_18 (by decide)
                      refine q_iload hM dX12_stepTold_233 (lv_at hl 4 rfl) ?_
                      refine q_iadd hM dX12_stepTold_235 (fun z8932 hz8932 => ?_)
                      first | have tz8932 := i_addT hz8932 (rfl : nm.toInt = nm.toInt) (rfl : w219_4.toInt = w219_4.toInt) (by omega) (by omega) | skip
                      refine q_iload_n hM dX12_stepTold_236 (lv_at hl 3 rfl) ?_
                      refine w_iast hM hW lb_137 (by omega) (i_in (by omega) (by omega)) dX12_stepTold_237 (fun g8933 H locs hW e1 e2 => ?_)
                      have f8934 : fld g8933 129 3 = .int v8775 := (e2.1 129 3 (by unfold Only; omega)).trans c219_129_3
                      have f8935 : fld g8933 129 5 = .int v8887 := (e2.1 129 5 (by unfold Only; omega)).trans c219_129_5
                      have f8936 : fld g8933 129 18 = .int nm := (e2.1 129 18 (by unfold Only; omega)).trans c219_129_18
                      have f8937 : fld g8933 129 19 = .int om := (e2.1 129 19 (by unfold Only; omega)).trans c219_129_19
                      have f8938 : arI g8933 139 = arI g0 139 := (e2.2.1 139 (by unfold Only; omega)).trans d219_139
                      have f8939 : arI g8933 140 = arI g0 140 := (e2.2.1 140 (by unfold Only; omega)).trans d219_140
                      have f8940 : arI g8933 141 = arI g0 141 := (e2.2.1 141 (by unfold Only; omega)).trans d219_141
                      have hG := hG.st e1 e2 rA_137 (by have := i_rng r8777; omega) (by have := i_rng r8777; omega)
                      refine q_iinc (lv9 := fun z8941 => [(4, .int z8941), (0, .ref (ad 129)), (1, .int pl), (2, .int r8760), (3, .int r8777)]) hM dX12_stepTold_238 hl (kq := 4) rfl (by decide) (fun _ => rfl) (fun z8941 ls hz8941 hl => ?_)
                      first | have tz8941 := i_addT hz8941 (rfl : w219_4.toInt = w219_4.toInt) (kc_1 : (Int32.ofInt 1).toInt = 1) (by omega) (by omega) | skip
                      refine q_goto (tgt := 219) hM dX12_stepTold_241 (by decide) ?_
                      exact ih219 z8941 _ _ _ _ (by omega) hG (by omega) f8934 f8935 f8936 f8937 f8938 f8939 f8940 (lv_sub hl [1, 2, 3, 4, 0] rfl) hW
                have := kc_0
                exact L219 _ (0 : Int32) _ _ _ _ (Nat.lt_succ_self _) hG (by omega) f8897 q8888 f8894 f8895 f8891 f8892 f8893 (lv_sub hl [4, 3, 2, 1, 0] rfl) hW
              · exact hE _ _ _ _ _ hW.1 ⟨v8775, v8887, nm, om, rfl, hW.2.1, hG, hW.2.2, f8897, q8888, f8894, f8895, (by omega), (by omega), (by omega), (fun _ => by rw [f8891, f8892, f8893]; exact OA_mono hO (by omega) (by omega))⟩ dX12_stepTold_215
        · refine q_aload_n hM dX12_stepTold_94 (lv_at hl 2 rfl) ?_
          refine w_get (v := .int om) hM hW FG_X12_251 lb_129 f8770 dX12_stepTold_95 ?_
          have bom := hG.f f8770 rF_129_19 (by decide)
          refine q_iconst (v := (2 : Int32)) hM dX12_stepTold_98 (by decide) ?_
          refine q_icmp_ne (tgt := 111) hM dX12_stepTold_99 (by decide) (rfl : om.toInt = om.toInt) (kc_2 : (2 : Int32).toInt = 2) (fun h99 => ?_) (fun h99 => ?_)
          · refine q_aload_n hM dX12_stepTold_111 (lv_at hl 2 rfl) ?_
            refine q_callV (As := []) (rest := []) hM hW.1 hR hC myX12_isGood (kAW (v_5_8 (List.mem_of_getElem? (i := 11) rfl)) rfl) (rfl : vwCl[12]? = some (RX12, TX12, 86)) rfl lb_129.1 (shO hW.2.1 lb_129) (a_X12_isGood _ _ cA ad g8764 bd hW.2.1 hG f8768) ⟨by decide, by decide⟩ rfl rfl hl.1 (Nat.le_of_ble_eq_true rfl) dX12_stepTold_112 (fun v g8946 H locs hp hW1 => ?_)
            obtain ⟨r8945, rfl, hr8945, rfl⟩ := hp
            have hW : WS ad cA (fun i k => (i = 129 ∧ (k = 3 ∨ k = 5 ∨ k = 18 ∨ k = 19 ∨ k = 20)) ∨ i = 137 ∨ i = 139 ∨ i = 140 ∨ i = 141) g0 K g8764 H locs := ⟨hW1, hW.2.1, hW.2.2⟩
            refine q_if_ne (tgt := 119) hM dX12_stepTold_115 (by decide) (rfl : r8945.toInt = r8945.toInt) (fun h115 => ?_) (fun h115 => ?_)
            · refine q_aload_n hM dX12_stepTold_119 (lv_at hl 2 rfl) ?_
              refine w_get (v := .ref (ad 139)) hM hW FG_X12_43 lb_129 (rf_129_21 hW.2.1) dX12_stepTold_120 ?_
              refine q_aload_n hM dX12_stepTold_123 (lv_at hl 2 rfl) ?_
              refine w_get (v := .int om) hM hW FG_X12_251 lb_129 f8770 dX12_stepTold_124 ?_
              have bom := hG.f f8770 rF_129_19 (by decide)
              refine q_aload_n hM dX12_stepTold_127 (lv_at hl 2 rfl) ?_
              refine w_get (v := .int nm) hM hW FG_X12_227 lb_129 f8769 dX12_stepTold_128 ?_
              have bnm := hG.f f8769 rF_129_18 (by decide)
              refine w_iast hM hW lb_139 (by omega) (i_in (by omega) (by omega)) dX12_stepTold_131 (fun g8948 H locs hW e1 e2 => ?_)
              have f8949 : arI g8948 140 = arI g0 140 := (e2.2.1 140 (by unfold Only; omega)).trans f8766
              have f8950 : arI g8948 141 = arI g0 141 := (e2.2.1 141 (by unfold Only; omega)).trans f8767
              have f8951 : fld g8948 129 5 = .int bd := (e2.1 129 5 (by unfold Only; omega)).trans f8768
              have f8952 : fld g8948 129 18 = .int nm := (e2.1 129 18 (by unfold Only; omega)).trans f8769
              have f8953 : fld g8948 129 19 = .int om := (e2.1 129 19 (by unfold Only; omega)).trans f8770
              have f8954 : fld g8948 129 20 = .int x8757 := (e2.1 129 20 (by unfold Only; omega)).trans f8771
              have f8955 : fld g8948 129 3 = .int v8759 := (e2.1 129 3 (by unfold Only; omega)).trans q8761
              have f8956 := e1
              rw [f8765] at f8956
              have hG := hG.st e1 e2 rA_139 (by have := i_rng nm; omega) (by have := i_rng nm; omega)
              refine q_aload_n hM dX12_stepTold_132 (lv_at hl 2 rfl) ?_
              refine w_get (v := .ref (ad 140)) hM hW FG_X12_46 lb_129 (rf_129_22 hW.2.1) dX12_stepTold_133 ?_
              refine q_aload_n hM dX12_stepTold_136 (lv_at hl 2 rfl) ?_
              refine w_get (v := .int om) hM hW FG_X12_251 lb_129 f8953 dX12_stepTold_137 ?_
              have bom := hG.f f8953 rF_129_19 (by decide)
              refine q_iload_n hM dX12_stepTold_140 (lv_at hl 0 rfl) ?_
              refine w_iast hM hW lb_140 (by omega) (i_in (by omega) (by omega)) dX12_stepTold_141 (fun g8957 H locs hW e1 e2 => ?_)
              have f8958 : arI g8957 141 = arI g0 141 := (e2.2.1 141 (by unfold Only; omega)).trans f8950
              have f8959 : fld g8957 129 5 = .int bd := (e2.1 129 5 (by unfold Only; omega)).trans f8951
              have f8960 : fld g8957 129 18 = .int nm := (e2.1 129 18 (by unfold Only; omega)).trans f8952
              have f8961 : fld g8957 129 19 = .int om := (e2.1 129 19 (by unfold Only; omega)).trans f8953
              have f8962 : fld g8957 129 20 = .int x8757 := (e2.1 129 20 (by unfold Only; omega)).trans f8954
              have f8963 : fld g8957 129 3 = .int v8759 := (e2.1 129 3 (by unfold Only; omega)).trans f8955
              have f8964 : arI g8957 139 = upd (arI g0 139) om.toNatClampNeg nm := (e2.2.1 139 (by unfold Only; omega)).trans f8956
              have f8965 := e1
              rw [f8949] at f8965
              have hG := hG.st e1 e2 rA_140 (by have := i_rng r8760; omega) (by have := i_rng r8760; omega)
              refine q_aload_n hM dX12_stepTold_142 (lv_at hl 2 rfl) ?_
              refine w_get (v := .ref (ad 141)) hM hW FG_X12_49 lb_129 (rf_129_23 hW.2.1) dX12_stepTold_143 ?_
              refine q_aload_n hM dX12_stepTold_146 (lv_at hl 2 rfl) ?_
              refine w_get (v := .int om) hM hW FG_X12_251 lb_129 f8961 dX12_stepTold_147 ?_
              have bom := hG.f f8961 rF_129_19 (by decide)
              refine q_iload_n hM dX12_stepTold_150 (lv_at hl 1 rfl) ?_
              refine w_iast hM hW lb_141 (by omega) (i_in (by omega) (by omega)) dX12_stepTold_151 (fun g8966 H locs hW e1 e2 => ?_)
              have f8967 : fld g8966 129 5 = .int bd := (e2.1 129 5 (by unfold Only; omega)).trans f8959
              have f8968 : fld g8966 129 18 = .int nm := (e2.1 129 18 (by unfold Only; omega)).trans f8960
              have f8969 : fld g8966 129 19 = .int om := (e2.1 129 19 (by unfold Only; omega)).trans f8961
              have f8970 : fld g8966 129 20 = .int x8757 := (e2.1 129 20 (by unfold Only; omega)).trans f8962
              have f8971 : fld g8966 129 3 = .int v8759 := (e2.1 129 3 (by unfold Only; omega)).trans f8963
              have f8972 : arI g8966 139 = upd (arI g0 139) om.toNatClampNeg nm := (e2.2.1 139 (by unfold Only; omega)).trans f8964
              have f8973 : arI g8966 140 = upd (arI g0 140) om.toNatClampNeg r8760 := (e2.2.1 140 (by unfold Only; omega)).trans f8965
              have f8974 := e1
              rw [f8949] at f8974
              have hG := hG.st e1 e2 (rfl : rA 141 = (-2147483648, 2147483647)) (by have := i_rng pl; omega) (by have := i_rng pl; omega)
              refine q_aload_n hM dX12_stepTold_152 (lv_at hl 2 rfl) ?_
              refine q_dup hM dX12_stepTold_153 rfl ?_
              refine w_get (v := .int om) hM hW FG_X12_251 lb_129 f8969 dX12_stepTold_154 ?_
              have bom := hG.f f8969 rF_129_19 (by decide)
              refine q_iconst (v := (1 : Int32)) hM dX12_stepTold_157 (by decide) ?_
              refine q_iadd hM dX12_stepTold_158 (fun z8975 hz8975 => ?_)
              first | have tz8975 := i_addT hz8975 (rfl : om.toInt = om.toInt) (kc_1 : (1 : Int32).toInt = 1) (by omega) (by omega) | skip
              refine w_put hM hW FP_X12_251 lb_129 (by omega) (Or.inl ⟨_, rfl⟩) rfl rfl dX12_stepTold_159 (fun g8976 H locs hW e1 e2 => ?_)
              have f8977 : fld g8976 129 5 = .int bd := (e2.1 129 5 (by unfold Only; omega)).trans f8967
              have f8978 : fld g8976 129 18 = .int nm := (e2.1 129 18 (by unfold Only; omega)).trans f8968
              have f8979 : fld g8976 129 20 = .int x8757 := (e2.1 129 20 (by unfold Only; omega)).trans f8970
              have f8980 : fld g8976 129 3 = .int v8759 := (e2.1 129 3 (by unfold Only; omega)).trans f8971
              have f8981 : arI g8976 139 = upd (arI g0 139) om.toNatClampNeg nm := (e2.2.1 139 (by unfold Only; omega)).trans f8972
              have f8982 : arI g8976 140 = upd (arI g0 140) om.toNatClampNeg r8760 := (e2.2.1 140 (by unfold Only; omega)).trans f8973
              have f8983 : arI g8976 141 = upd (arI g0 141) om.toNatClampNeg pl := (e2.2.1 141 (by unfold Only; omega)).trans f8974
              have f8984 : fld g8976 129 19 = .int z8975 := e1
              have hG := hG.put e1 e2 rF_129_19 (by decide) (by have := i_rng z8975; omega) (by have := i_rng z8975; omega)
              refine q_aload_n hM dX12_stepTold_162 (lv_at hl 2 rfl) ?_
              refine q_iconst (v := (0 : Int32)) hM dX12_stepTold_163 (by decide) ?_
              refine w_put hM hW FP_X12_254 lb_129 (by omega) (Or.inl ⟨_, rfl⟩) rfl rfl dX12_stepTold_164 (fun g8985 H locs hW e1 e2 => ?_)
              have f8986 : fld g8985 129 5 = .int bd := (e2.1 129 5 (by unfold Only; omega)).trans f8977
              have f8987 : fld g8985 129 18 = .int nm := (e2.1 129 18 (by unfold Only; omega)).trans f8978
              have f8988 : fld g8985 129 3 = .int v8759 := (e2.1 129 3 (by unfold Only; omega)).trans f8980
              have f8989 : arI g8985 139 = upd (arI g0 139) om.toNatClampNeg nm := (e2.2.1 139 (by unfold Only; omega)).trans f8981
              have f8990 : arI g8985 140 = upd (arI g0 140) om.toNatClampNeg r8760 := (e2.2.1 140 (by unfold Only; omega)).trans f8982
              have f8991 : arI g8985 141 = upd (arI g0 141) om.toNatClampNeg pl := (e2.2.1 141 (by unfold Only; omega)).trans f8983
              have f8992 : fld g8985 129 19 = .int z8975 := (e2.1 129 19 (by unfold Only; omega)).trans f8984
              have f8993 : fld g8985 129 20 = .int (0 : Int32) := e1
              have hG := hG.put e1 e2 (rfl : rF 129 20 = (-2147483648, 2147483647)) (by decide) (by have := kc_0; have := i_rng (0 : Int32); omega) (by have := kc_0; have := i_rng (0 : Int32); omega)
              refine q_aload_n hM dX12_stepTold_167 (lv_at hl 2 rfl) ?_
              refine q_dup hM dX12_stepTold_168 rfl ?_
              refine w_get (v := .int v8759) hM hW FG_X12_173 lb_129 f8988 dX12_stepTold_169 ?_
              have bv8759 := hG.f f8988 rF_129_3 (by decide)
              refine q_iconst (v := (1 : Int32)) hM dX12_stepTold_172 (by decide) ?_
              refine q_iadd hM dX12_stepTold_173 (fun z8994 hz8994 => ?_)
              first | have tz8994 := i_addT hz8994 (rfl : v8759.toInt = v8759.toInt) (kc_1 : (1 : Int32).toInt = 1) (by omega) (by omega) | skip
              refine w_put hM hW FP_X12_173 lb_129 (by omega) (Or.inl ⟨_, rfl⟩) rfl rfl dX12_stepTold_174 (fun g8995 H locs hW e1 e2 => ?_)
              have f8996 : fld g8995 129 5 = .int bd := (e2.1 129 5 (by unfold Only; omega)).trans f8986
              have f8997 : fld g8995 129 18 = .int nm := (e2.1 129 18 (by unfold Only; omega)).trans f8987
              have f8998 : arI g8995 139 = upd (arI g0 139) om.toNatClampNeg nm := (e2.2.1 139 (by unfold Only; omega)).trans f8989
              have f8999 : arI g8995 140 = upd (arI g0 140) om.toNatClampNeg r8760 := (e2.2.1 140 (by unfold Only; omega)).trans f8990
              have f9000 : arI g8995 141 = upd (arI g0 141) om.toNatClampNeg pl := (e2.2.1 141 (by unfold Only; omega)).trans f8991
              have f9001 : fld g8995 129 19 = .int z8975 := (e2.1 129 19 (by unfold Only; omega)).trans f8992
              have f9002 : fld g8995 129 20 = .int (0 : Int32) := (e2.1 129 20 (by unfold Only; omega)).trans f8993
              have f9003 : fld g8995 129 3 = .int z8994 := e1
              have hG := hG.put e1 e2 rF_129_3 (by decide) (by have := i_rng z8994; omega) (by have := i_rng z8994; omega)
              exact hE _ _ _ _ _ hW.1 ⟨z8994, bd, nm, z8975, rfl, hW.2.1, hG, hW.2.2, f9003, f8996, f8997, f9001, (by omega), (by omega), (by omega), (fun _ => by rw [f8998, f8999, f9000]; exact OA_mono (OA_push hO rfl (by omega) (by omega) (by omega) (by omega) (by omega)) (by omega) (by omega))⟩ dX12_stepTold_177
            · exact hE _ _ _ _ _ hW.1 ⟨v8759, bd, nm, om, rfl, hW.2.1, hG, hW.2.2, q8761, f8768, f8769, f8770, (by omega), (by omega), (by omega), (fun _ => by rw [f8765, f8766, f8767]; exact OA_mono hO (by omega) (by omega))⟩ dX12_stepTold_118
          · refine q_aload_n hM dX12_stepTold_102 (lv_at hl 2 rfl) ?_
            refine q_iconst (v := (5 : Int32)) hM dX12_stepTold_103 (by decide) ?_
            refine q_aload_n hM dX12_stepTold_104 (lv_at hl 2 rfl) ?_
            refine w_get (v := .int v8759) hM hW FG_X12_173 lb_129 q8761 dX12_stepTold_105 ?_
            have bv8759 := hG.f q8761 rF_129_3 (by decide)
            refine q_callV (As := [.int (5 : Int32), .int v8759]) (rest := []) hM hW.1 hR hC myX12_wrongs (kAW (v_5_9 (List.mem_of_getElem? (i := 11) rfl)) rfl) (rfl : vwCl[12]? = some (RX12, TX12, 86)) rfl lb_129.1 (shO hW.2.1 lb_129) (a_X12_wrongs _ _ cA ad g8764 (5 : Int32) v8759 bd hW.2.1 hG f8768 (by have := kc_5; omega) (by have := kc_5; omega) (by have := kc_5; omega) (by have := kc_5; omega)) ⟨by decide, by decide⟩ rfl rfl hl.1 (Nat.le_of_ble_eq_true rfl) dX12_stepTold_108 (fun v g9009 H locs hp hW1 => ?_)
            obtain ⟨v9006, rfl, hs1, hG, hf1, q9007, e9008⟩ := hp
            have f9010 : arI g9009 139 = arI g0 139 := (hf1.2.1 139 (by omega)).trans f8765
            have f9011 : arI g9009 140 = arI g0 140 := (hf1.2.1 140 (by omega)).trans f8766
            have f9012 : arI g9009 141 = arI g0 141 := (hf1.2.1 141 (by omega)).trans f8767
            have f9013 : fld g9009 129 18 = .int nm := (hf1.1 129 18 (by omega)).trans f8769
            have f9014 : fld g9009 129 19 = .int om := (hf1.1 129 19 (by omega)).trans f8770
            have f9015 : fld g9009 129 20 = .int x8757 := (hf1.1 129 20 (by omega)).trans f8771
            have f9016 : fld g9009 129 3 = .int v8759 := (hf1.1 129 3 (by omega)).trans q8761
            have hW : WS ad cA (fun i k => (i = 129 ∧ (k = 3 ∨ k = 5 ∨ k = 18 ∨ k = 19 ∨ k = 20)) ∨ i = 137 ∨ i = 139 ∨ i = 140 ∨ i = 141) g0 K g9009 H locs := ⟨hW1, hs1, hW.2.2.tr hf1 (fun i k h => (Or.inl (by omega)))⟩
            refine q_aload_n hM dX12_stepTold_111 (lv_at hl 2 rfl) ?_
            refine q_callV (As := []) (rest := []) hM hW.1 hR hC myX12_isGood (kAW (v_5_8 (List.mem_of_getElem? (i := 11) rfl)) rfl) (rfl : vwCl[12]? = some (RX12, TX12, 86)) rfl lb_129.1 (shO hW.2.1 lb_129) (a_X12_isGood _ _ cA ad g9009 v9006 hW.2.1 hG q9007) ⟨by decide, by decide⟩ rfl rfl hl.1 (Nat.le_of_ble_eq_true rfl) dX12_stepTold_112 (fun v g9018 H locs hp hW1 => ?_)
            obtain ⟨r9017, rfl, hr9017, rfl⟩ := hp
            have hW : WS ad cA (fun i k => (i = 129 ∧ (k = 3 ∨ k = 5 ∨ k = 18 ∨ k = 19 ∨ k = 20)) ∨ i = 137 ∨ i = 139 ∨ i = 140 ∨ i = 141) g0 K g9009 H locs := ⟨hW1, hW.2.1, hW.2.2⟩
            refine q_if_ne (tgt := 119) hM dX12_stepTold_115 (by decide) (rfl : r9017.toInt = r9017.toInt) (fun h115 => ?_) (fun h115 => ?_)
            · refine q_aload_n hM dX12_stepTold_119 (lv_at hl 2 rfl) ?_
              refine w_get (v := .ref (ad 139)) hM hW FG_X12_43 lb_129 (rf_129_21 hW.2.1) dX12_stepTold_120 ?_
              refine q_aload_n hM dX12_stepTold_123 (lv_at hl 2 rfl) ?_
              refine w_get (v := .int om) hM hW FG_X12_251 lb_129 f9014 dX12_stepTold_124 ?_
              have bom := hG.f f9014 rF_129_19 (by decide)
              refine q_aload_n hM dX12_stepTold_127 (lv_at hl 2 rfl) ?_
              refine w_get (v := .int nm) hM hW FG_X12_227 lb_129 f9013 dX12_stepTold_128 ?_
              have bnm := hG.f f9013 rF_129_18 (by decide)
              refine w_iast hM hW lb_139 (by omega) (i_in (by omega) (by omega)) dX12_stepTold_131 (fun g9020 H locs hW e1 e2 => ?_)
              have f9021 : arI g9020 140 = arI g0 140 := (e2.2.1 140 (by unfold Only; omega)).trans f9011
              have f9022 : arI g9020 141 = arI g0 141 := (e2.2.1 141 (by unfold Only; omega)).trans f9012
              have f9023 : fld g9020 129 18 = .int nm := (e2.1 129 18 (by unfold Only; omega)).trans f9013
              have f9024 : fld g9020 129 19 = .int om := (e2.1 129 19 (by unfold Only; omega)).trans f9014
              have f9025 : fld g9020 129 20 = .int x8757 := (e2.1 129 20 (by unfold Only; omega)).trans f9015
              have f9026 : fld g9020 129 3 = .int v8759 := (e2.1 129 3 (by unfold Only; omega)).trans f9016
              have f9027 : fld g9020 129 5 = .int v9006 := (e2.1 129 5 (by unfold Only; omega)).trans q9007
              have f9028 := e1
              rw [f9010] at f9028
              have hG := hG.st e1 e2 rA_139 (by have := i_rng nm; omega) (by have := i_rng nm; omega)
              refine q_aload_n hM dX12_stepTold_132 (lv_at hl 2 rfl) ?_
              refine w_get (v := .ref (ad 140)) hM hW FG_X12_46 lb_129 (rf_129_22 hW.2.1) dX12_stepTold_133 ?_
              refine q_aload_n hM dX12_stepTold_136 (lv_at hl 2 rfl) ?_
              refine w_get (v := .int om) hM hW FG_X12_251 lb_129 f9024 dX12_stepTold_137 ?_
              have bom := hG.f f9024 rF_129_19 (by decide)
              refine q_iload_n hM dX12_stepTold_140 (lv_at hl 0 rfl) ?_
              refine w_iast hM hW lb_140 (by omega) (i_in (by omega) (by omega)) dX12_stepTold_141 (fun g9029 H locs hW e1 e2 => ?_)
              have f9030 : arI g9029 141 = arI g0 141 := (e2.2.1 141 (by unfold Only; omega)).trans f9022
              have f9031 : fld g9029 129 18 = .int nm := (e2.1 129 18 (by unfold Only; omega)).trans f9023
              have f9032 : fld g9029 129 19 = .int om := (e2.1 129 19 (by unfold Only; omega)).trans f9024
              have f9033 : fld g9029 129 20 = .int x8757 := (e2.1 129 20 (by unfold Only; omega)).trans f9025
              have f9034 : fld g9029 129 3 = .int v8759 := (e2.1 129 3 (by unfold Only; omega)).trans f9026
              have f9035 : fld g9029 129 5 = .int v9006 := (e2.1 129 5 (by unfold Only; omega)).trans f9027
              have f9036 : arI g9029 139 = upd (arI g0 139) om.toNatClampNeg nm := (e2.2.1 139 (by unfold Only; omega)).trans f9028
              have f9037 := e1
              rw [f9021] at f9037
              have hG := hG.st e1 e2 rA_140 (by have := i_rng r8760; omega) (by have := i_rng r8760; omega)
              refine q_aload_n hM dX12_stepTold_142 (lv_at hl 2 rfl) ?_
              refine w_get (v := .ref (ad 141)) hM hW FG_X12_49 lb_129 (rf_129_23 hW.2.1) dX12_stepTold_143 ?_
              refine q_aload_n hM dX12_stepTold_146 (lv_at hl 2 rfl) ?_
              refine w_get (v := .int om) hM hW FG_X12_251 lb_129 f9032 dX12_stepTold_147 ?_
              have bom := hG.f f9032 rF_129_19 (by decide)
              refine q_iload_n hM dX12_stepTold_150 (lv_at hl 1 rfl) ?_
              refine w_iast hM hW lb_141 (by omega) (i_in (by omega) (by omega)) dX12_stepTold_151 (fun g9038 H locs hW e1 e2 => ?_)
              have f9039 : fld g9038 129 18 = .int nm := (e2.1 129 18 (by unfold Only; omega)).trans f9031
              have f9040 : fld g9038 129 19 = .int om := (e2.1 129 19 (by unfold Only; omega)).trans f9032
              have f9041 : fld g9038 129 20 = .int x8757 := (e2.1 129 20 (by unfold Only; omega)).trans f9033
              have f9042 : fld g9038 129 3 = .int v8759 := (e2.1 129 3 (by unfold Only; omega)).trans f9034
              have f9043 : fld g9038 129 5 = .int v9006 := (e2.1 129 5 (by unfold Only; omega)).trans f9035
              have f9044 : arI g9038 139 = upd (arI g0 139) om.toNatClampNeg nm := (e2.2.1 139 (by unfold Only; omega)).trans f9036
              have f9045 : arI g9038 140 = upd (arI g0 140) om.toNatClampNeg r8760 := (e2.2.1 140 (by unfold Only; omega)).trans f9037
              have f9046 := e1
              rw [f9021] at f9046
              have hG := hG.st e1 e2 (rfl : rA 141 = (-2147483648, 2147483647)) (by have := i_rng pl; omega) (by have := i_rng pl; omega)
              refine q_aload_n hM dX12_stepTold_152 (lv_at hl 2 rfl) ?_
              refine q_dup hM dX12_stepTold_153 rfl ?_
              refine w_get (v := .int om) hM hW FG_X12_251 lb_129 f9040 dX12_stepTold_154 ?_
              have bom := hG.f f9040 rF_129_19 (by decide)
              refine q_iconst (v := (1 : Int32)) hM dX12_stepTold_157 (by decide) ?_
              refine q_iadd hM dX12_stepTold_158 (fun z9047 hz9047 => ?_)
              first | have tz9047 := i_addT hz9047 (rfl : om.toInt = om.toInt) (kc_1 : (1 : Int32).toInt = 1) (by omega) (by omega) | skip
              refine w_put hM hW FP_X12_251 lb_129 (by omega) (Or.inl ⟨_, rfl⟩) rfl rfl dX12_stepTold_159 (fun g9048 H locs hW e1 e2 => ?_)
              have f9049 : fld g9048 129 18 = .int nm := (e2.1 129 18 (by unfold Only; omega)).trans f9039
              have f9050 : fld g9048 129 20 = .int x8757 := (e2.1 129 20 (by unfold Only; omega)).trans f9041
              have f9051 : fld g9048 129 3 = .int v8759 := (e2.1 129 3 (by unfold Only; omega)).trans f9042
              have f9052 : fld g9048 129 5 = .int v9006 := (e2.1 129 5 (by unfold Only; omega)).trans f9043
              have f9053 : arI g9048 139 = upd (arI g0 139) om.toNatClampNeg nm := (e2.2.1 139 (by unfold Only; omega)).trans f9044
              have f9054 : arI g9048 140 = upd (arI g0 140) om.toNatClampNeg r8760 := (e2.2.1 140 (by unfold Only; omega)).trans f9045
              have f9055 : arI g9048 141 = upd (arI g0 141) om.toNatClampNeg pl := (e2.2.1 141 (by unfold Only; omega)).trans f9046
              have f9056 : fld g9048 129 19 = .int z9047 := e1
              have hG := hG.put e1 e2 rF_129_19 (by decide) (by have := i_rng z9047; omega) (by have := i_rng z9047; omega)
              refine q_aload_n hM dX12_stepTold_162 (lv_at hl 2 rfl) ?_
              refine q_iconst (v := (0 : Int32)) hM dX12_stepTold_163 (by decide) ?_
              refine w_put hM hW FP_X12_254 lb_129 (by omega) (Or.inl ⟨_, rfl⟩) rfl rfl dX12_stepTold_164 (fun g9057 H locs hW e1 e2 => ?_)
              have f9058 : fld g9057 129 18 = .int nm := (e2.1 129 18 (by unfold Only; omega)).trans f9049
              have f9059 : fld g9057 129 3 = .int v8759 := (e2.1 129 3 (by unfold Only; omega)).trans f9051
              have f9060 : fld g9057 129 5 = .int v9006 := (e2.1 129 5 (by unfold Only; omega)).trans f9052
              have f9061 : arI g9057 139 = upd (arI g0 139) om.toNatClampNeg nm := (e2.2.1 139 (by unfold Only; omega)).trans f9053
              have f9062 : arI g9057 140 = upd (arI g0 140) om.toNatClampNeg r8760 := (e2.2.1 140 (by unfold Only; omega)).trans f9054
              have f9063 : arI g9057 141 = upd (arI g0 141) om.toNatClampNeg pl := (e2.2.1 141 (by unfold Only; omega)).trans f9055
              have f9064 : fld g9057 129 19 = .int z9047 := (e2.1 129 19 (by unfold Only; omega)).trans f9056
              have f9065 : fld g9057 129 20 = .int (0 : Int32) := e1
              have hG := hG.put e1 e2 (rfl : rF 129 20 = (-2147483648, 2147483647)) (by decide) (by have := kc_0; have := i_rng (0 : Int32); omega) (by have := kc_0; have := i_rng (0 : Int32); omega)
              refine q_aload_n hM dX12_stepTold_167 (lv_at hl 2 rfl) ?_
              refine q_dup hM dX12_stepTold_168 rfl ?_
              refine w_get (v := .int v8759) hM hW FG_X12_173 lb_129 f9059 dX12_stepTold_169 ?_
              have bv8759 := hG.f f9059 rF_129_3 (by decide)
              refine q_iconst (v := (1 : Int32)) hM dX12_stepTold_172 (by decide) ?_
              refine q_iadd hM dX12_stepTold_173 (fun z9066 hz9066 => ?_)
              first | have tz9066 := i_addT hz9066 (rfl : v8759.toInt = v8759.toInt) (kc_1 : (1 : Int32).toInt = 1) (by omega) (by omega) | skip
              refine w_put hM hW FP_X12_173 lb_129 (by omega) (Or.inl ⟨_, rfl⟩) rfl rfl dX12_stepTold_174 (fun g9067 H locs hW e1 e2 => ?_)
              have f9068 : fld g9067 129 18 = .int nm := (e2.1 129 18 (by unfold Only; omega)).trans f9058
              have f9069 : fld g9067 129 5 = .int v9006 := (e2.1 129 5 (by unfold Only; omega)).trans f9060
              have f9070 : arI g9067 139 = upd (arI g0 139) om.toNatClampNeg nm := (e2.2.1 139 (by unfold Only; omega)).trans f9061
              have f9071 : arI g9067 140 = upd (arI g0 140) om.toNatClampNeg r8760 := (e2.2.1 140 (by unfold Only; omega)).trans f9062
              have f9072 : arI g9067 141 = upd (arI g0 141) om.toNatClampNeg pl := (e2.2.1 141 (by unfold Only; omega)).trans f9063
              have f9073 : fld g9067 129 19 = .int z9047 := (e2.1 129 19 (by unfold Only; omega)).trans f9064
              have f9074 : fld g9067 129 20 = .int (0 : Int32) := (e2.1 129 20 (by unfold Only; omega)).trans f9065
              have f9075 : fld g9067 129 3 = .int z9066 := e1
              have hG := hG.put e1 e2 rF_129_3 (by decide) (by have := i_rng z9066; omega) (by have := i_rng z9066; omega)
              exact hE _ _ _ _ _ hW.1 ⟨z9066, v9006, nm, z9047, rfl, hW.2.1, hG, hW.2.2, f9075, f9069, f9068, f9073, (by omega), (by omega), (by omega), (fun _ => by rw [f9070, f9071, f9072]; exact OA_mono (OA_push hO rfl (by omega) (by omega) (by omega) (by omega) (by omega)) (by omega) (by omega))⟩ dX12_stepTold_177
            · exact hE _ _ _ _ _ hW.1 ⟨v8759, v9006, nm, om, rfl, hW.2.1, hG, hW.2.2, f9016, q9007, f9013, f9014, (by omega), (by omega), (by omega), (fun _ => by rw [f9010, f9011, f9012]; exact OA_mono hO (by omega) (by omega))⟩ dX12_stepTold_118
      · refine q_aload_n hM dX12_stepTold_28 (lv_at hl 1 rfl) ?_
        refine q_dup hM dX12_stepTold_29 rfl ?_
        refine w_get (v := .int om) hM hW FG_X12_251 lb_129 f8138 dX12_stepTold_30 ?_
        have bom := hG.f f8138 rF_129_19 (by decide)
        refine q_iconst (v := (1 : Int32)) hM dX12_stepTold_33 (by decide) ?_
        refine q_isub hM dX12_stepTold_34 (fun z9078 hz9078 => ?_)
        first | have tz9078 := i_subT hz9078 (rfl : om.toInt = om.toInt) (kc_1 : (1 : Int32).toInt = 1) (by omega) (by omega) | skip
        refine w_put hM hW FP_X12_251 lb_129 (by omega) (Or.inl ⟨_, rfl⟩) rfl rfl dX12_stepTold_35 (fun g9079 H locs hW e1 e2 => ?_)
        have f9080 : arI g9079 139 = arI g0 139 := (e2.2.1 139 (by unfold Only; omega)).trans (rfl : arI g0 139 = arI g0 139)
        have f9081 : arI g9079 140 = arI g0 140 := (e2.2.1 140 (by unfold Only; omega)).trans (rfl : arI g0 140 = arI g0 140)
        have f9082 : arI g9079 141 = arI g0 141 := (e2.2.1 141 (by unfold Only; omega)).trans (rfl : arI g0 141 = arI g0 141)
        have f9083 : fld g9079 129 3 = .int pl := (e2.1 129 3 (by unfold Only; omega)).trans f8135
        have f9084 : fld g9079 129 5 = .int bd := (e2.1 129 5 (by unfold Only; omega)).trans f8136
        have f9085 : fld g9079 129 18 = .int nm := (e2.1 129 18 (by unfold Only; omega)).trans f8137
        have f9086 : fld g9079 129 20 = .int x8757 := (e2.1 129 20 (by unfold Only; omega)).trans fx8757
        have f9087 : fld g9079 129 19 = .int z9078 := e1
        have hG := hG.put e1 e2 rF_129_19 (by decide) (by have := i_rng z9078; omega) (by have := i_rng z9078; omega)
        refine q_aload_n hM dX12_stepTold_38 (lv_at hl 1 rfl) ?_
        refine q_dup hM dX12_stepTold_39 rfl ?_
        refine w_get (v := .int pl) hM hW FG_X12_173 lb_129 f9083 dX12_stepTold_40 ?_
        have bpl := hG.f f9083 rF_129_3 (by decide)
        refine q_iconst (v := (1 : Int32)) hM dX12_stepTold_43 (by decide) ?_
        refine q_iadd hM dX12_stepTold_44 (fun z9088 hz9088 => ?_)
        first | have tz9088 := i_addT hz9088 (rfl : pl.toInt = pl.toInt) (kc_1 : (1 : Int32).toInt = 1) (by omega) (by omega) | skip
        refine w_put hM hW FP_X12_173 lb_129 (by omega) (Or.inl ⟨_, rfl⟩) rfl rfl dX12_stepTold_45 (fun g9089 H locs hW e1 e2 => ?_)
        have f9090 : arI g9089 139 = arI g0 139 := (e2.2.1 139 (by unfold Only; omega)).trans f9080
        have f9091 : arI g9089 140 = arI g0 140 := (e2.2.1 140 (by unfold Only; omega)).trans f9081
        have f9092 : arI g9089 141 = arI g0 141 := (e2.2.1 141 (by unfold Only; omega)).trans f9082
        have f9093 : fld g9089 129 5 = .int bd := (e2.1 129 5 (by unfold Only; omega)).trans f9084
        have f9094 : fld g9089 129 18 = .int nm := (e2.1 129 18 (by unfold Only; omega)).trans f9085
        have f9095 : fld g9089 129 20 = .int x8757 := (e2.1 129 20 (by unfold Only; omega)).trans f9086
        have f9096 : fld g9089 129 19 = .int z9078 := (e2.1 129 19 (by unfold Only; omega)).trans f9087
        have f9097 : fld g9089 129 3 = .int z9088 := e1
        have hG := hG.put e1 e2 rF_129_3 (by decide) (by have := i_rng z9088; omega) (by have := i_rng z9088; omega)
        refine q_aload_n hM dX12_stepTold_48 (lv_at hl 1 rfl) ?_
        refine q_aload_n hM dX12_stepTold_49 (lv_at hl 1 rfl) ?_
        refine w_get (v := .ref (ad 139)) hM hW FG_X12_43 lb_129 (rf_129_21 hW.2.1) dX12_stepTold_50 ?_
        refine q_aload_n hM dX12_stepTold_53 (lv_at hl 1 rfl) ?_
        refine w_get (v := .int z9078) hM hW FG_X12_251 lb_129 f9096 dX12_stepTold_54 ?_
        have bz9078 := hG.f f9096 rF_129_19 (by decide)
        refine w_iald hM hW lb_139 (i_in (by omega) (by omega)) dX12_stepTold_57 ?_
        refine q_top (fun y9098 hy9098 => ?_)
        have by9098 := hG.a hy9098 rA_139
        rw [f9090] at hy9098
        rw [show z9078.toNatClampNeg = (om.toInt - 1).toNat by show z9078.toInt.toNat = _; omega] at hy9098
        refine q_aload_n hM dX12_stepTold_58 (lv_at hl 1 rfl) ?_
        refine w_get (v := .ref (ad 140)) hM hW FG_X12_46 lb_129 (rf_129_22 hW.2.1) dX12_stepTold_59 ?_
        refine q_aload_n hM dX12_stepTold_62 (lv_at hl 1 rfl) ?_
        refine w_get (v := .int z9078) hM hW FG_X12_251 lb_129 f9096 dX12_stepTold_63 ?_
        have bz9078 := hG.f f9096 rF_129_19 (by decide)
        refine w_iald hM hW lb_140 (i_in (by omega) (by omega)) dX12_stepTold_66 ?_
        refine q_top (fun y9099 hy9099 => ?_)
        have by9099 := hG.a hy9099 rA_140
        rw [f9091] at hy9099
        rw [show z9078.toNatClampNeg = (om.toInt - 1).toNat by show z9078.toInt.toNat = _; omega] at hy9099
        refine q_aload_n hM dX12_stepTold_67 (lv_at hl 1 rfl) ?_
        refine w_get (v := .ref (ad 141)) hM hW FG_X12_49 lb_129 (rf_129_23 hW.2.1) dX12_stepTold_68 ?_
        refine q_aload_n hM dX12_stepTold_71 (lv_at hl 1 rfl) ?_
        refine w_get (v := .int z9078) hM hW FG_X12_251 lb_129 f9096 dX12_stepTold_72 ?_
        have bz9078 := hG.f f9096 rF_129_19 (by decide)
        refine w_iald hM hW lb_141 (i_in (by omega) (by omega)) dX12_stepTold_75 ?_
        refine q_top (fun y9100 hy9100 => ?_)
        rw [f9092] at hy9100
        rw [show z9078.toNatClampNeg = (om.toInt - 1).toNat by show z9078.toInt.toNat = _; omega] at hy9100
        have oa := hO (om.toInt - 1).toNat (by omega)
        rw [← hy9098, ← hy9099, ← hy9100] at oa
        refine q_callV (As := [.int y9098, .int y9099, .int y9100]) (rest := []) hM hW.1 hR hC myX12_repeats (kAW (v_5_9 (List.mem_of_getElem? (i := 7) rfl)) rfl) (rfl : vwCl[12]? = some (RX12, TX12, 86)) rfl lb_129.1 (shO hW.2.1 lb_129) (a_X12_repeats _ _ cA ad g9089 y9098 y9099 y9100 bd nm hW.2.1 hG f9093 f9094 (by  omega) (by  omega) (by  omega) (by  omega) (by  omega) (by  omega)) ⟨by decide, by decide⟩ rfl rfl hl.1 (Nat.le_of_ble_eq_true rfl) dX12_stepTold_76 (fun v g9107 H locs hp hW1 => ?_)
        obtain ⟨v9101, v9102, rfl, hs1, hG, hf1, q9103, q9104, e9105, e9106⟩ := hp
        have f9108 : arI g9107 139 = arI g0 139 := (hf1.2.1 139 (by omega)).trans f9090
        have f9109 : arI g9107 140 = arI g0 140 := (hf1.2.1 140 (by omega)).trans f9091
        have f9110 : arI g9107 141 = arI g0 141 := (hf1.2.1 141 (by omega)).trans f9092
        have f9111 : fld g9107 129 20 = .int x8757 := (hf1.1 129 20 (by omega)).trans f9095
        have f9112 : fld g9107 129 19 = .int z9078 := (hf1.1 129 19 (by omega)).trans f9096
        have f9113 : fld g9107 129 3 = .int z9088 := (hf1.1 129 3 (by omega)).trans f9097
        have hW : WS ad cA (fun i k => (i = 129 ∧ (k = 3 ∨ k = 5 ∨ k = 18 ∨ k = 19 ∨ k = 20)) ∨ i = 137 ∨ i = 139 ∨ i = 140 ∨ i = 141) g0 K g9107 H locs := ⟨hW1, hs1, hW.2.2.tr hf1 (fun i k h => h.elim (fun h => (Or.inl (by omega))) (fun h => (Or.inr (Or.inl h))))⟩
        exact hE _ _ _ _ _ hW.1 ⟨z9088, v9101, v9102, z9078, rfl, hW.2.1, hG, hW.2.2, f9113, q9103, q9104, f9112, (by omega), (by omega), (by omega), (fun _ => by rw [f9108, f9109, f9110]; exact OA_mono hO (by omega) (by omega))⟩ dX12_stepTold_79

theorem dX12_art_0 : decode cX12_art 0 = .ok (.iload_n 1, 1) := by decide +kernel
theorem dX12_art_1 : decode cX12_art 1 = .ok (.i2l, 1) := by decide +kernel
theorem dX12_art_2 : decode cX12_art 2 = .ok (.lconst 0, 1) := by decide +kernel
theorem dX12_art_3 : decode cX12_art 3 = .ok (.ldc2_w 225, 3) := by decide +kernel
theorem dX12_art_6 : decode cX12_art 6 = .ok (.invokestatic 190, 3) := by decide +kernel
theorem dX12_art_9 : decode cX12_art 9 = .ok (.ifCond .eq 23, 3) := by decide +kernel
theorem dX12_art_12 : decode cX12_art 12 = .ok (.iload_n 2, 1) := by decide +kernel
theorem dX12_art_13 : decode cX12_art 13 = .ok (.i2l, 1) := by decide +kernel
theorem dX12_art_14 : decode cX12_art 14 = .ok (.lconst 1, 1) := by decide +kernel
theorem dX12_art_15 : decode cX12_art 15 = .ok (.ldc2_w 268, 3) := by decide +kernel
theorem dX12_art_18 : decode cX12_art 18 = .ok (.invokestatic 190, 3) := by decide +kernel
theorem dX12_art_21 : decode cX12_art 21 = .ok (.ifCond .eq 11, 3) := by decide +kernel
theorem dX12_art_24 : decode cX12_art 24 = .ok (.iload_n 2, 1) := by decide +kernel
theorem dX12_art_25 : decode cX12_art 25 = .ok (.aload_n 0, 1) := by decide +kernel
theorem dX12_art_26 : decode cX12_art 26 = .ok (.getfield 166, 3) := by decide +kernel
theorem dX12_art_29 : decode cX12_art 29 = .ok (.if_icmp .le 5, 3) := by decide +kernel
theorem dX12_art_32 : decode cX12_art 32 = .ok (.iconst (-1), 1) := by decide +kernel
theorem dX12_art_33 : decode cX12_art 33 = .ok (.ireturn, 1) := by decide +kernel
theorem dX12_art_34 : decode cX12_art 34 = .ok (.aload_n 0, 1) := by decide +kernel
theorem dX12_art_35 : decode cX12_art 35 = .ok (.iload_n 2, 1) := by decide +kernel
theorem dX12_art_36 : decode cX12_art 36 = .ok (.invokevirtual 270, 3) := by decide +kernel
theorem dX12_art_39 : decode cX12_art 39 = .ok (.aload_n 0, 1) := by decide +kernel
theorem dX12_art_40 : decode cX12_art 40 = .ok (.iconst 0, 1) := by decide +kernel
theorem dX12_art_41 : decode cX12_art 41 = .ok (.putfield 227, 3) := by decide +kernel
theorem dX12_art_44 : decode cX12_art 44 = .ok (.aload_n 0, 1) := by decide +kernel
theorem dX12_art_45 : decode cX12_art 45 = .ok (.iconst 0, 1) := by decide +kernel
theorem dX12_art_46 : decode cX12_art 46 = .ok (.putfield 251, 3) := by decide +kernel
theorem dX12_art_49 : decode cX12_art 49 = .ok (.aload_n 0, 1) := by decide +kernel
theorem dX12_art_50 : decode cX12_art 50 = .ok (.iconst 0, 1) := by decide +kernel
theorem dX12_art_51 : decode cX12_art 51 = .ok (.putfield 254, 3) := by decide +kernel
theorem dX12_art_54 : decode cX12_art 54 = .ok (.aload_n 0, 1) := by decide +kernel
theorem dX12_art_55 : decode cX12_art 55 = .ok (.invokevirtual 234, 3) := by decide +kernel
theorem dX12_art_58 : decode cX12_art 58 = .ok (.ifCond .eq 21, 3) := by decide +kernel
theorem dX12_art_61 : decode cX12_art 61 = .ok (.aload_n 0, 1) := by decide +kernel
theorem dX12_art_62 : decode cX12_art 62 = .ok (.getfield 173, 3) := by decide +kernel
theorem dX12_art_65 : decode cX12_art 65 = .ok (.aload_n 0, 1) := by decide +kernel
theorem dX12_art_66 : decode cX12_art 66 = .ok (.getfield 176, 3) := by decide +kernel
theorem dX12_art_69 : decode cX12_art 69 = .ok (.if_icmp .ge 10, 3) := by decide +kernel
theorem dX12_art_72 : decode cX12_art 72 = .ok (.aload_n 0, 1) := by decide +kernel
theorem dX12_art_73 : decode cX12_art 73 = .ok (.invokevirtual 273, 3) := by decide +kernel
theorem dX12_art_76 : decode cX12_art 76 = .ok (.goto (-22), 3) := by decide +kernel
theorem dX12_art_79 : decode cX12_art 79 = .ok (.aload_n 0, 1) := by decide +kernel
theorem dX12_art_80 : decode cX12_art 80 = .ok (.invokevirtual 234, 3) := by decide +kernel
theorem dX12_art_83 : decode cX12_art 83 = .ok (.ifCond .eq 19, 3) := by decide +kernel
theorem dX12_art_86 : decode cX12_art 86 = .ok (.aload_n 0, 1) := by decide +kernel
theorem dX12_art_87 : decode cX12_art 87 = .ok (.getfield 251, 3) := by decide +kernel
theorem dX12_art_90 : decode cX12_art 90 = .ok (.ifCond .le 12, 3) := by decide +kernel
theorem dX12_art_93 : decode cX12_art 93 = .ok (.aload_n 0, 1) := by decide +kernel
theorem dX12_art_94 : decode cX12_art 94 = .ok (.iconst 1, 1) := by decide +kernel
theorem dX12_art_95 : decode cX12_art 95 = .ok (.aload_n 0, 1) := by decide +kernel
theorem dX12_art_96 : decode cX12_art 96 = .ok (.getfield 173, 3) := by decide +kernel
theorem dX12_art_99 : decode cX12_art 99 = .ok (.invokevirtual 230, 3) := by decide +kernel
theorem dX12_art_102 : decode cX12_art 102 = .ok (.aload_n 0, 1) := by decide +kernel
theorem dX12_art_103 : decode cX12_art 103 = .ok (.getfield 179, 3) := by decide +kernel
theorem dX12_art_106 : decode cX12_art 106 = .ok (.ifCond .ge 8, 3) := by decide +kernel
theorem dX12_art_109 : decode cX12_art 109 = .ok (.aload_n 0, 1) := by decide +kernel
theorem dX12_art_110 : decode cX12_art 110 = .ok (.getfield 179, 3) := by decide +kernel
theorem dX12_art_113 : decode cX12_art 113 = .ok (.ireturn, 1) := by decide +kernel
theorem dX12_art_114 : decode cX12_art 114 = .ok (.aload_n 0, 1) := by decide +kernel
theorem dX12_art_115 : decode cX12_art 115 = .ok (.getfield 28, 3) := by decide +kernel
theorem dX12_art_118 : decode cX12_art 118 = .ok (.iload_n 1, 1) := by decide +kernel
theorem dX12_art_119 : decode cX12_art 119 = .ok (.iconst 1, 1) := by decide +kernel
theorem dX12_art_120 : decode cX12_art 120 = .ok (.bastore, 1) := by decide +kernel
theorem dX12_art_121 : decode cX12_art 121 = .ok (.aload_n 0, 1) := by decide +kernel
theorem dX12_art_122 : decode cX12_art 122 = .ok (.getfield 31, 3) := by decide +kernel
theorem dX12_art_125 : decode cX12_art 125 = .ok (.iload_n 1, 1) := by decide +kernel
theorem dX12_art_126 : decode cX12_art 126 = .ok (.aload_n 0, 1) := by decide +kernel
theorem dX12_art_127 : decode cX12_art 127 = .ok (.getfield 227, 3) := by decide +kernel
theorem dX12_art_130 : decode cX12_art 130 = .ok (.iastore, 1) := by decide +kernel
theorem dX12_art_131 : decode cX12_art 131 = .ok (.iconst 0, 1) := by decide +kernel
theorem dX12_art_132 : decode cX12_art 132 = .ok (.istore_n 3, 1) := by decide +kernel
theorem dX12_art_133 : decode cX12_art 133 = .ok (.iload_n 3, 1) := by decide +kernel
theorem dX12_art_134 : decode cX12_art 134 = .ok (.aload_n 0, 1) := by decide +kernel
theorem dX12_art_135 : decode cX12_art 135 = .ok (.getfield 227, 3) := by decide +kernel
theorem dX12_art_138 : decode cX12_art 138 = .ok (.if_icmp .ge 26, 3) := by decide +kernel
theorem dX12_art_141 : decode cX12_art 141 = .ok (.aload_n 0, 1) := by decide +kernel
theorem dX12_art_142 : decode cX12_art 142 = .ok (.getfield 34, 3) := by decide +kernel
theorem dX12_art_145 : decode cX12_art 145 = .ok (.bipush 48, 2) := by decide +kernel
theorem dX12_art_147 : decode cX12_art 147 = .ok (.iload_n 1, 1) := by decide +kernel
theorem dX12_art_148 : decode cX12_art 148 = .ok (.imul, 1) := by decide +kernel
theorem dX12_art_149 : decode cX12_art 149 = .ok (.iload_n 3, 1) := by decide +kernel
theorem dX12_art_150 : decode cX12_art 150 = .ok (.iadd, 1) := by decide +kernel
theorem dX12_art_151 : decode cX12_art 151 = .ok (.aload_n 0, 1) := by decide +kernel
theorem dX12_art_152 : decode cX12_art 152 = .ok (.getfield 37, 3) := by decide +kernel
theorem dX12_art_155 : decode cX12_art 155 = .ok (.iload_n 3, 1) := by decide +kernel
theorem dX12_art_156 : decode cX12_art 156 = .ok (.iaload, 1) := by decide +kernel
theorem dX12_art_157 : decode cX12_art 157 = .ok (.iastore, 1) := by decide +kernel
theorem dX12_art_158 : decode cX12_art 158 = .ok (.iinc 3 1, 3) := by decide +kernel
theorem dX12_art_161 : decode cX12_art 161 = .ok (.goto (-28), 3) := by decide +kernel
theorem dX12_art_164 : decode cX12_art 164 = .ok (.aload_n 0, 1) := by decide +kernel
theorem dX12_art_165 : decode cX12_art 165 = .ok (.getfield 227, 3) := by decide +kernel
theorem dX12_art_168 : decode cX12_art 168 = .ok (.ireturn, 1) := by decide +kernel
theorem myX12_begins : MI yX12_begins cX12_begins 2 none 1 := ⟨kAW (v_5_8 (List.mem_of_getElem? (i := 10) rfl)) rfl, kAW (v_0_0 (List.mem_of_getElem? (i := 13) rfl)) rfl, kAW (v_5_8 (List.mem_of_getElem? (i := 9) rfl)) rfl, kAW (tp_t2 (List.mem_of_getElem? (i := 6) rfl)) rfl, by decide, by decide, by decide +kernel⟩
theorem myX12_stepTold : MI yX12_stepTold cX12_stepTold 5 none 0 := ⟨kAW (v_5_9 (List.mem_of_getElem? (i := 2) rfl)) rfl, kAW (v_0_0 (List.mem_of_getElem? (i := 13) rfl)) rfl, kAW (v_5_9 (List.mem_of_getElem? (i := 1) rfl)) rfl, kAW (tp_t2 (List.mem_of_getElem? (i := 8) rfl)) rfl, by decide, by decide, by decide +kernel⟩
set_option maxRecDepth 100000 in
set_option maxHeartbeats 4000000 in
theorem p_X12_art (l : Launch) (D : va_G) (cA : Nat → ClassId) (ad : Nat → Nat) (g0 : Nat → va_E) (a : Int32) (b : Int32)   (hSh : Shp ad cA g0) (hG : Rng g0) (hT : TB g0) : CT l NN ad cA D yX12_art cX12_art 4 (some FieldType.int) (4, 90) [.ref (ad 129), .int a, .int b] g0 (fun v g' => ∃ (r : Int32), v = some (.int r) ∧ Shp ad cA g' ∧ Rng g' ∧ FR (fun i k => (i = 129 ∧ (k = 1 ∨ k = 3 ∨ k = 4 ∨ k = 5 ∨ k = 18 ∨ k = 19 ∨ k = 20)) ∨ (134 ≤ i ∧ i < 138) ∨ i = 139 ∨ i = 140 ∨ i = 141) g0 g') := by
  refine q_enterI (by decide) (Nat.le_of_ble_eq_true rfl) rfl (fun K H locs ls _ _ hM hW0 hR hC hE hl => ?_)
  have hl : lv_has ls 4 [(0, .ref (ad 129)), (1, .int a), (2, .int b)] := hl
  have hW : WS ad cA (fun i k => (i = 129 ∧ (k = 1 ∨ k = 3 ∨ k = 4 ∨ k = 5 ∨ k = 18 ∨ k = 19 ∨ k = 20)) ∨ (134 ≤ i ∧ i < 138) ∨ i = 139 ∨ i = 140 ∨ i = 141) g0 K g0 H locs := ⟨hW0, hSh, FR.rf⟩
  have := kc_0
  have := kc_1
  have := kc_m1
  have := kc_m2
  refine q_iload_n hM dX12_art_0 (lv_at hl 1 rfl) ?_
  refine q_i2l hM dX12_art_1 ?_
  have := l_i2l a
  refine q_lconst (v := 0) hM dX12_art_2 (by decide) ?_
  have := kl_0
  refine q_ldc2 (v := 5) hM (kAW (v_5_8 (List.mem_of_getElem? (i := 5) rfl)) rfl) dX12_art_3 ?_
  have := kl_5
  refine q_callS (As := [.long a.toInt64, .long (0 : Int64), .long (5 : Int64)]) (rest := []) hM hW.1 hR hC myX12_lies (kAW (v_5_4 (List.mem_of_getElem? (i := 14) rfl)) rfl) (c_X12_lies _ _ cA ad g0 a.toInt64 (0 : Int64) (5 : Int64) hW.2.1) ⟨by decide, by decide⟩ rfl rfl hl.1 (Nat.le_of_ble_eq_true rfl) dX12_art_6 (fun v g9115 H locs hp hW1 => ?_)
  obtain ⟨r9114, rfl, hr9114, rfl⟩ := hp
  have hW : WS ad cA (fun i k => (i = 129 ∧ (k = 1 ∨ k = 3 ∨ k = 4 ∨ k = 5 ∨ k = 18 ∨ k = 19 ∨ k = 20)) ∨ (134 ≤ i ∧ i < 138) ∨ i = 139 ∨ i = 140 ∨ i = 141) g0 K g0 H locs := ⟨hW1, hW.2.1, hW.2.2⟩
  refine q_if_eq (tgt := 32) hM dX12_art_9 (by decide) (rfl : r9114.toInt = r9114.toInt) (fun h9 => ?_) (fun h9 => ?_)
  · refine q_iconst (v := ((-1) : Int32)) hM dX12_art_32 (by decide) ?_
    exact hE _ _ _ _ _ _ hW.1 ⟨_, rfl, hW.2.1, hG, hW.2.2⟩ dX12_art_33
  · refine q_iload_n hM dX12_art_12 (lv_at hl 2 rfl) ?_
    refine q_i2l hM dX12_art_13 ?_
    have := l_i2l b
    refine q_lconst (v := 1) hM dX12_art_14 (by decide) ?_
    have := kl_1
    refine q_ldc2 (v := 60) hM (kAW (v_5_8 (List.mem_of_getElem? (i := 6) rfl)) rfl) dX12_art_15 ?_
    have := kl_60
    refine q_callS (As := [.long b.toInt64, .long (1 : Int64), .long (60 : Int64)]) (rest := []) hM hW.1 hR hC myX12_lies (kAW (v_5_4 (List.mem_of_getElem? (i := 14) rfl)) rfl) (c_X12_lies _ _ cA ad g0 b.toInt64 (1 : Int64) (60 : Int64) hW.2.1) ⟨by decide, by decide⟩ rfl rfl hl.1 (Nat.le_of_ble_eq_true rfl) dX12_art_18 (fun v g9119 H locs hp hW1 => ?_)
    obtain ⟨r9118, rfl, hr9118, rfl⟩ := hp
    have hW : WS ad cA (fun i k => (i = 129 ∧ (k = 1 ∨ k = 3 ∨ k = 4 ∨ k = 5 ∨ k = 18 ∨ k = 19 ∨ k = 20)) ∨ (134 ≤ i ∧ i < 138) ∨ i = 139 ∨ i = 140 ∨ i = 141) g0 K g0 H locs := ⟨hW1, hW.2.1, hW.2.2⟩
    refine q_if_eq (tgt := 32) hM dX12_art_21 (by decide) (rfl : r9118.toInt = r9118.toInt) (fun h21 => ?_) (fun h21 => ?_)
    · refine q_iconst (v := ((-1) : Int32)) hM dX12_art_32 (by decide) ?_
      exact hE _ _ _ _ _ _ hW.1 ⟨_, rfl, hW.2.1, hG, hW.2.2⟩ dX12_art_33
    · refine q_iload_n hM dX12_art_24 (lv_at hl 2 rfl) ?_
      refine q_aload_n hM dX12_art_25 (lv_at hl 0 rfl) ?_
      refine w_getI hM hW FG_X12_166 lb_129 (by decide) (by decide) dX12_art_26 (fun x9122 fx9122 => ?_)
      have bx9122 := hG.f fx9122 rF_129_1 (by decide)
      refine q_icmp_le (tgt := 34) hM dX12_art_29 (by decide) (rfl : b.toInt = b.toInt) (rfl : x9122.toInt = x9122.toInt) (fun h29 => ?_) (fun h29 => ?_)
      · refine q_aload_n hM dX12_art_34 (lv_at hl 0 rfl) ?_
        refine q_iload_n hM dX12_art_35 (lv_at hl 2 rfl) ?_
        refine q_callV (As := [.int b]) (rest := []) hM hW.1 hR hC myX12_begins (kAW (v_5_8 (List.mem_of_getElem? (i := 7) rfl)) rfl) (rfl : vwCl[12]? = some (RX12, TX12, 86)) rfl lb_129.1 (shO hW.2.1 lb_129) (a_X12_begins _ _ cA ad g0 b hW.2.1 hG (by  omega) (by  omega)) ⟨by decide, by decide⟩ rfl rfl hl.1 (Nat.le_of_ble_eq_true rfl) dX12_art_36 (fun v g9133 H locs hp hW1 => ?_)
        obtain ⟨v9124, v9125, v9126, rfl, hs1, hG, hf1, q9127, q9128, q9129, e9130, e9131, e9132⟩ := hp
        have hW : WS ad cA (fun i k => (i = 129 ∧ (k = 1 ∨ k = 3 ∨ k = 4 ∨ k = 5 ∨ k = 18 ∨ k = 19 ∨ k = 20)) ∨ (134 ≤ i ∧ i < 138) ∨ i = 139 ∨ i = 140 ∨ i = 141) g0 K g9133 H locs := ⟨hW1, hs1, hW.2.2.tr hf1 (fun i k h => (Or.inl (by omega)))⟩
        refine q_aload_n hM dX12_art_39 (lv_at hl 0 rfl) ?_
        refine q_iconst (v := (0 : Int32)) hM dX12_art_40 (by decide) ?_
        refine w_put hM hW FP_X12_227 lb_129 (by omega) (Or.inl ⟨_, rfl⟩) rfl rfl dX12_art_41 (fun g9134 H locs hW e1 e2 => ?_)
        have f9135 : fld g9134 129 3 = .int v9124 := (e2.1 129 3 (by unfold Only; omega)).trans q9127
        have f9136 : fld g9134 129 4 = .int v9125 := (e2.1 129 4 (by unfold Only; omega)).trans q9128
        have f9137 : fld g9134 129 5 = .int v9126 := (e2.1 129 5 (by unfold Only; omega)).trans q9129
        have f9138 : fld g9134 129 18 = .int (0 : Int32) := e1
        have hG := hG.put e1 e2 rF_129_18 (by decide) (by have := kc_0; have := i_rng (0 : Int32); omega) (by have := kc_0; have := i_rng (0 : Int32); omega)
        refine q_aload_n hM dX12_art_44 (lv_at hl 0 rfl) ?_
        refine q_iconst (v := (0 : Int32)) hM dX12_art_45 (by decide) ?_
        refine w_put hM hW FP_X12_251 lb_129 (by omega) (Or.inl ⟨_, rfl⟩) rfl rfl dX12_art_46 (fun g9139 H locs hW e1 e2 => ?_)
        have f9140 : fld g9139 129 3 = .int v9124 := (e2.1 129 3 (by unfold Only; omega)).trans f9135
        have f9141 : fld g9139 129 4 = .int v9125 := (e2.1 129 4 (by unfold Only; omega)).trans f9136
        have f9142 : fld g9139 129 5 = .int v9126 := (e2.1 129 5 (by unfold Only; omega)).trans f9137
        have f9143 : fld g9139 129 18 = .int (0 : Int32) := (e2.1 129 18 (by unfold Only; omega)).trans f9138
        have f9144 : fld g9139 129 19 = .int (0 : Int32) := e1
        have hG := hG.put e1 e2 rF_129_19 (by decide) (by have := kc_0; have := i_rng (0 : Int32); omega) (by have := kc_0; have := i_rng (0 : Int32); omega)
        refine q_aload_n hM dX12_art_49 (lv_at hl 0 rfl) ?_
        refine q_iconst (v := (0 : Int32)) hM dX12_art_50 (by decide) ?_
        refine w_put hM hW FP_X12_254 lb_129 (by omega) (Or.inl ⟨_, rfl⟩) rfl rfl dX12_art_51 (fun g9145 H locs hW e1 e2 => ?_)
        have f9146 : fld g9145 129 3 = .int v9124 := (e2.1 129 3 (by unfold Only; omega)).trans f9140
        have f9147 : fld g9145 129 4 = .int v9125 := (e2.1 129 4 (by unfold Only; omega)).trans f9141
        have f9148 : fld g9145 129 5 = .int v9126 := (e2.1 129 5 (by unfold Only; omega)).trans f9142
        have f9149 : fld g9145 129 18 = .int (0 : Int32) := (e2.1 129 18 (by unfold Only; omega)).trans f9143
        have f9150 : fld g9145 129 19 = .int (0 : Int32) := (e2.1 129 19 (by unfold Only; omega)).trans f9144
        have f9151 : fld g9145 129 20 = .int (0 : Int32) := e1
        have hG := hG.put e1 e2 (rfl : rF 129 20 = (-2147483648, 2147483647)) (by decide) (by have := kc_0; have := i_rng (0 : Int32); omega) (by have := kc_0; have := i_rng (0 : Int32); omega)
        have L54 : ∀ (fu54 : Nat) (ee : Int32) (pp : Int32) (bb : Int32) (nn : Int32) (oo : Int32) (g9 : Nat → va_E) (H : Heap) (locs : List Loc) (ls : Array Slot), (ee.toInt - pp.toInt + 1).toNat + (bb.toInt + 1).toNat < fu54 → (Rng g9) → (0 ≤ pp.toInt) → (pp.toInt ≤ ee.toInt) → (ee.toInt ≤ 60) → (bb.toInt ≤ 0) → (bb.toInt = 0 → OA (arI g9 139) (arI g9 140) (arI g9 141) nn.toInt oo.toInt) → (fld g9 129 4 = .int ee) → (fld g9 129 3 = .int pp) → (fld g9 129 5 = .int bb) → (fld g9 129 18 = .int nn) → (fld g9 129 19 = .int oo) → lv_has ls 4 [(0, .ref (ad 129)), (1, .int a), (2, .int b)] → WS ad cA (fun i k => (i = 129 ∧ (k = 1 ∨ k = 3 ∨ k = 4 ∨ k = 5 ∨ k = 18 ∨ k = 19 ∨ k = 20)) ∨ (134 ≤ i ∧ i < 138) ∨ i = 139 ∨ i = 140 ∨ i = 141) g0 K g9 H locs → XX K 0 0 H locs 54 ls [] := by
          intro fu54
          induction fu54 with
          | zero => intro ee pp bb nn oo g9 H locs ls h0; omega
          | succ fu54 ih54 =>
            intro ee pp bb nn oo g9 H locs ls hm54 i54_0 i54_1 i54_2 i54_3 i54_4 i54_5 c54_129_4 c54_129_3 c54_129_5 c54_129_18 c54_129_19 hl hW
            have hG := i54_0
            refine q_aload_n hM dX12_art_54 (lv_at hl 0 rfl) ?_
            refine q_callV (As := []) (rest := []) hM hW.1 hR hC myX12_isGood (kAW (v_5_8 (List.mem_of_getElem? (i := 11) rfl)) rfl) (rfl : vwCl[12]? = some (RX12, TX12, 86)) rfl lb_129.1 (shO hW.2.1 lb_129) (a_X12_isGood _ _ cA ad g9 bb hW.2.1 hG c54_129_5) ⟨by decide, by decide⟩ rfl rfl hl.1 (Nat.le_of_ble_eq_true rfl) dX12_art_55 (fun v g9154 H locs hp hW1 => ?_)
            obtain ⟨r9153, rfl, hr9153, rfl⟩ := hp
            have hW : WS ad cA (fun i k => (i = 129 ∧ (k = 1 ∨ k = 3 ∨ k = 4 ∨ k = 5 ∨ k = 18 ∨ k = 19 ∨ k = 20)) ∨ (134 ≤ i ∧ i < 138) ∨ i = 139 ∨ i = 140 ∨ i = 141) g0 K g9 H locs := ⟨hW1, hW.2.1, hW.2.2⟩
            refine q_if_eq (tgt := 79) hM dX12_art_58 (by decide) (rfl : r9153.toInt = r9153.toInt) (fun h58 => ?_) (fun h58 => ?_)
            · refine q_aload_n hM dX12_art_79 (lv_at hl 0 rfl) ?_
              refine q_callV (As := []) (rest := []) hM hW.1 hR hC myX12_isGood (kAW (v_5_8 (List.mem_of_getElem? (i := 11) rfl)) rfl) (rfl : vwCl[12]? = some (RX12, TX12, 86)) rfl lb_129.1 (shO hW.2.1 lb_129) (a_X12_isGood _ _ cA ad g9 bb hW.2.1 hG c54_129_5) ⟨by decide, by decide⟩ rfl rfl hl.1 (Nat.le_of_ble_eq_true rfl) dX12_art_80 (fun v g9157 H locs hp hW1 => ?_)
              obtain ⟨r9156, rfl, hr9156, rfl⟩ := hp
              have hW : WS ad cA (fun i k => (i = 129 ∧ (k = 1 ∨ k = 3 ∨ k = 4 ∨ k = 5 ∨ k = 18 ∨ k = 19 ∨ k = 20)) ∨ (134 ≤ i ∧ i < 138) ∨ i = 139 ∨ i = 140 ∨ i = 141) g0 K g9 H locs := ⟨hW1, hW.2.1, hW.2.2⟩
              refine q_if_eq (tgt := 102) hM dX12_art_83 (by decide) (rfl : r9156.toInt = r9156.toInt) (fun h83 => ?_) (fun h83 => ?_)
              · refine q_aload_n hM dX12_art_102 (lv_at hl 0 rfl) ?_
                refine w_get (v := .int bb) hM hW FG_X12_179 lb_129 c54_129_5 dX12_art_103 ?_
                have bbb := hG.f c54_129_5 rF_129_5 (by decide)
                refine q_if_ge (tgt := 114) hM dX12_art_106 (by decide) (rfl : bb.toInt = bb.toInt) (fun h106 => ?_) (fun h106 => ?_)
                · refine q_aload_n hM dX12_art_114 (lv_at hl 0 rfl) ?_
                  refine w_get (v := .ref (ad 134)) hM hW FG_X12_28 lb_129 (rf_129_13 hW.2.1) dX12_art_115 ?_
                  refine q_iload_n hM dX12_art_118 (lv_at hl 1 rfl) ?_
                  refine q_iconst (v := (1 : Int32)) hM dX12_art_119 (by decide) ?_
                  refine w_zast hM hW lb_134 (by omega) (i_in (by omega) (by omega)) dX12_art_120 (fun g9160 H locs hW e1 e2 => ?_)
                  have f9161 : fld g9160 129 4 = .int ee := (e2.1 129 4 (by unfold Only; omega)).trans c54_129_4
                  have f9162 : fld g9160 129 3 = .int pp := (e2.1 129 3 (by unfold Only; omega)).trans c54_129_3
                  have f9163 : fld g9160 129 5 = .int bb := (e2.1 129 5 (by unfold Only; omega)).trans c54_129_5
                  have f9164 : fld g9160 129 18 = .int nn := (e2.1 129 18 (by unfold Only; omega)).trans c54_129_18
                  have f9165 : fld g9160 129 19 = .int oo := (e2.1 129 19 (by unfold Only; omega)).trans c54_129_19
                  have hG := hG.st e1 e2 (rfl : rA 134 = (-2147483648, 2147483647)) (by have := i_rng (vp_nar .boolean (1 : Int32)); omega) (by have := i_rng (vp_nar .boolean (1 : Int32)); omega)
                  refine q_aload_n hM dX12_art_121 (lv_at hl 0 rfl) ?_
                  refine w_get (v := .ref (ad 135)) hM hW FG_X12_31 lb_129 (rf_129_14 hW.2.1) dX12_art_122 ?_
                  refine q_iload_n hM dX12_art_125 (lv_at hl 1 rfl) ?_
                  refine q_aload_n hM dX12_art_126 (lv_at hl 0 rfl) ?_
                  refine w_get (v := .int nn) hM hW FG_X12_227 lb_129 f9164 dX12_art_127 ?_
                  have bnn := hG.f f9164 rF_129_18 (by decide)
                  refine w_iast hM hW lb_135 (by omega) (i_in (by omega) (by omega)) dX12_art_130 (fun g9166 H locs hW e1 e2 => ?_)
                  have f9167 : fld g9166 129 4 = .int ee := (e2.1 129 4 (by unfold Only; omega)).trans f9161
                  have f9168 : fld g9166 129 3 = .int pp := (e2.1 129 3 (by unfold Only; omega)).trans f9162
                  have f9169 : fld g9166 129 5 = .int bb := (e2.1 129 5 (by unfold Only; omega)).trans f9163
                  have f9170 : fld g9166 129 18 = .int nn := (e2.1 129 18 (by unfold Only; omega)).trans f9164
                  have f9171 : fld g9166 129 19 = .int oo := (e2.1 129 19 (by unfold Only; omega)).trans f9165
                  have hG := hG.st e1 e2 rA_135 (by have := i_rng nn; omega) (by have := i_rng nn; omega)
                  refine q_iconst (v := (0 : Int32)) hM dX12_art_131 (by decide) ?_
                  refine q_istore_n (lv9 := [(3, .int (0 : Int32)), (0, .ref (ad 129)), (1, .int a), (2, .int b)]) hM dX12_art_132 hl (by decide) rfl (fun ls hl => ?_)
                  have L133 : ∀ (fu133 : Nat) (w133_3 : Int32) (g9 : Nat → va_E) (H : Heap) (locs : List Loc) (ls : Array Slot), (48 - w133_3.toInt).toNat < fu133 → (Rng g9) → (0 ≤ w133_3.toInt) → (w133_3.toInt ≤ 48) → lv_has ls 4 [(0, .ref (ad 129)), (1, .int a), (2, .int b), (3, .int w133_3)] → WS ad cA (fun i k => (i = 129 ∧ (k = 1 ∨ k = 3 ∨ k = 4 ∨ k = 5 ∨ k = 18 ∨ k = 19 ∨ k = 20)) ∨ (134 ≤ i ∧ i < 138) ∨ i = 139 ∨ i = 140 ∨ i = 141) g0 K g9 H locs → XX K 0 0 H locs 133 ls [] := by
                    intro fu133
                    induction fu133 with
                    | zero => intro w133_3 g9 H locs ls h0; omega
                    | succ fu133 ih133 =>
                      intro w133_3 g9 H locs ls hm133 i133_0 i133_1 i133_2 hl hW
                      have hG := i133_0
                      refine q_iload_n hM dX12_art_133 (lv_at hl 3 rfl) ?_
                      refine q_aload_n hM dX12_art_134 (lv_at hl 0 rfl) ?_
                      refine w_getI hM hW FG_X12_227 lb_129 (by decide) (by decide) dX12_art_135 (fun x9173 fx9173 => ?_)
                      have bx9173 := hG.f fx9173 rF_129_18 (by decide)
                      refine q_icmp_ge (tgt := 164) hM dX12_art_138 (by decide) (rfl : w133_3.toInt = w133_3.toInt) (rfl : x9173.toInt = x9173.toInt) (fun h138 => ?_) (fun h138 => ?_)
                      · refine q_aload_n hM dX12_art_164 (lv_at hl 0 rfl) ?_
                        refine w_get (v := .int x9173) hM hW FG_X12_227 lb_129 fx9173 dX12_art_165 ?_
                        have bx9173 := hG.f fx9173 rF_129_18 (by decide)
                        exact hE _ _ _ _ _ _ hW.1 ⟨_, rfl, hW.2.1, hG, hW.2.2⟩ dX12_art_168
                      · refine q_aload_n hM dX12_art_141 (lv_at hl 0 rfl) ?_
                        refine w_get (v := .ref (ad 136)) hM hW FG_X12_34 lb_129 (rf_129_15 hW.2.1) dX12_art_142 ?_
                        refine q_bipush (v := (48 : Int32)) hM dX12_art_145 (by decide) ?_
                        refine q_iload_n hM dX12_art_147 (lv_at hl 1 rfl) ?_
                        refine q_imul hM dX12_art_148 (fun z9176 hz9176 => ?_)
                        first | have tz9176 := i_mulT hz9176 (kc_48 : (48 : Int32).toInt = 48) (rfl : a.toInt = a.toInt) (by omega) (by omega) | skip
                        refine q_iload_n hM dX12_art_149 (lv_at hl 3 rfl) ?_
                        refine q_iadd hM dX12_art_150 (fun z9177 hz9177 => ?_)
                        first | have tz9177 := i_addT hz9177 (rfl : z9176.toInt = z9176.toInt) (rfl : w133_3.toInt = w133_3.toInt) (by omega) (by omega) | skip
                        refine q_aload_n hM dX12_art_151 (lv_at hl 0 rfl) ?_
                        refine w_get (v := .ref (ad 137)) hM hW FG_X12_37 lb_129 (rf_129_16 hW.2.1) dX12_art_152 ?_
                        refine q_iload_n hM dX12_art_155 (lv_at hl 3 rfl) ?_
                        refine w_iald hM hW lb_137 (i_in (by omega) (by omega)) dX12_art_156 ?_
                        refine q_top (fun y9178 hy9178 => ?_)
                        have by9178 := hG.a hy9178 rA_137
                        refine w_iast hM hW lb_136 (by omega) (i_in (by omega) (by omega)) dX12_art_157 (fun g9179 H locs hW e1 e2 => ?_)
                        have f9180 : fld g9179 129 18 = .int x9173 := (e2.1 129 18 (by unfold Only; omega)).trans fx9173
                        have hG := hG.st e1 e2 rA_136 (by have := i_rng y9178; omega) (by have := i_rng y9178; omega)
                        refine q_iinc (lv9 := fun z9181 => [(3, .int z9181), (0, .ref (ad 129)), (1, .int a), (2, .int b)]) hM dX12_art_158 hl (kq := 3) rfl (by decide) (fun _ => rfl) (fun z9181 ls hz9181 hl => ?_)
                        first | have tz9181 := i_addT hz9181 (rfl : w133_3.toInt = w133_3.toInt) (kc_1 : (Int32.ofInt 1).toInt = 1) (by omega) (by omega) | skip
                        refine q_goto (tgt := 133) hM dX12_art_161 (by decide) ?_
                        exact ih133 z9181 _ _ _ _ (by omega) hG (by omega) (by omega) (lv_sub hl [1, 2, 3, 0] rfl) hW
                  have := kc_0
                  exact L133 _ (0 : Int32) _ _ _ _ (Nat.lt_succ_self _) hG (by omega) (by omega) (lv_sub hl [1, 2, 3, 0] rfl) hW
                · refine q_aload_n hM dX12_art_109 (lv_at hl 0 rfl) ?_
                  refine w_get (v := .int bb) hM hW FG_X12_179 lb_129 c54_129_5 dX12_art_110 ?_
                  have bbb := hG.f c54_129_5 rF_129_5 (by decide)
                  exact hE _ _ _ _ _ _ hW.1 ⟨_, rfl, hW.2.1, hG, hW.2.2⟩ dX12_art_113
              · refine q_aload_n hM dX12_art_86 (lv_at hl 0 rfl) ?_
                refine w_get (v := .int oo) hM hW FG_X12_251 lb_129 c54_129_19 dX12_art_87 ?_
                have boo := hG.f c54_129_19 rF_129_19 (by decide)
                refine q_if_le (tgt := 102) hM dX12_art_90 (by decide) (rfl : oo.toInt = oo.toInt) (fun h90 => ?_) (fun h90 => ?_)
                · refine q_aload_n hM dX12_art_102 (lv_at hl 0 rfl) ?_
                  refine w_get (v := .int bb) hM hW FG_X12_179 lb_129 c54_129_5 dX12_art_103 ?_
                  have bbb := hG.f c54_129_5 rF_129_5 (by decide)
                  refine q_if_ge (tgt := 114) hM dX12_art_106 (by decide) (rfl : bb.toInt = bb.toInt) (fun h106 => ?_) (fun h106 => ?_)
                  · refine q_aload_n hM dX12_art_114 (lv_at hl 0 rfl) ?_
                    refine w_get (v := .ref (ad 134)) hM hW FG_X12_28 lb_129 (rf_129_13 hW.2.1) dX12_art_115 ?_
                    refine q_iload_n hM dX12_art_118 (lv_at hl 1 rfl) ?_
                    refine q_iconst (v := (1 : Int32)) hM dX12_art_119 (by decide) ?_
                    refine w_zast hM hW lb_134 (by omega) (i_in (by omega) (by omega)) dX12_art_120 (fun g9186 H locs hW e1 e2 => ?_)
                    have f9187 : fld g9186 129 4 = .int ee := (e2.1 129 4 (by unfold Only; omega)).trans c54_129_4
                    have f9188 : fld g9186 129 3 = .int pp := (e2.1 129 3 (by unfold Only; omega)).trans c54_129_3
                    have f9189 : fld g9186 129 5 = .int bb := (e2.1 129 5 (by unfold Only; omega)).trans c54_129_5
                    have f9190 : fld g9186 129 18 = .int nn := (e2.1 129 18 (by unfold Only; omega)).trans c54_129_18
                    have f9191 : fld g9186 129 19 = .int oo := (e2.1 129 19 (by unfold Only; omega)).trans c54_129_19
                    have hG := hG.st e1 e2 (rfl : rA 134 = (-2147483648, 2147483647)) (by have := i_rng (vp_nar .boolean (1 : Int32)); omega) (by have := i_rng (vp_nar .boolean (1 : Int32)); omega)
                    refine q_aload_n hM dX12_art_121 (lv_at hl 0 rfl) ?_
                    refine w_get (v := .ref (ad 135)) hM hW FG_X12_31 lb_129 (rf_129_14 hW.2.1) dX12_art_122 ?_
                    refine q_iload_n hM dX12_art_125 (lv_at hl 1 rfl) ?_
                    refine q_aload_n hM dX12_art_126 (lv_at hl 0 rfl) ?_
                    refine w_get (v := .int nn) hM hW FG_X12_227 lb_129 f9190 dX12_art_127 ?_
                    have bnn := hG.f f9190 rF_129_18 (by decide)
                    refine w_iast hM hW lb_135 (by omega) (i_in (by omega) (by omega)) dX12_art_130 (fun g9192 H locs hW e1 e2 => ?_)
                    have f9193 : fld g9192 129 4 = .int ee := (e2.1 129 4 (by unfold Only; omega)).trans f9187
                    have f9194 : fld g9192 129 3 = .int pp := (e2.1 129 3 (by unfold Only; omega)).trans f9188
                    have f9195 : fld g9192 129 5 = .int bb := (e2.1 129 5 (by unfold Only; omega)).trans f9189
                    have f9196 : fld g9192 129 18 = .int nn := (e2.1 129 18 (by unfold Only; omega)).trans f9190
                    have f9197 : fld g9192 129 19 = .int oo := (e2.1 129 19 (by unfold Only; omega)).trans f9191
                    have hG := hG.st e1 e2 rA_135 (by have := i_rng nn; omega) (by have := i_rng nn; omega)
                    refine q_iconst (v := (0 : Int32)) hM dX12_art_131 (by decide) ?_
                    refine q_istore_n (lv9 := [(3, .int (0 : Int32)), (0, .ref (ad 129)), (1, .int a), (2, .int b)]) hM dX12_art_132 hl (by decide) rfl (fun ls hl => ?_)
                    have L133 : ∀ (fu133 : Nat) (w133_3 : Int32) (g9 : Nat → va_E) (H : Heap) (locs : List Loc) (ls : Array Slot), (48 - w133_3.toInt).toNat < fu133 → (Rng g9) → (0 ≤ w133_3.toInt) → (w133_3.toInt ≤ 48) → lv_has ls 4 [(0, .ref (ad 129)), (1, .int a), (2, .int b), (3, .int w133_3)] → WS ad cA (fun i k => (i = 129 ∧ (k = 1 ∨ k = 3 ∨ k = 4 ∨ k = 5 ∨ k = 18 ∨ k = 19 ∨ k = 20)) ∨ (134 ≤ i ∧ i < 138) ∨ i = 139 ∨ i = 140 ∨ i = 141) g0 K g9 H locs → XX K 0 0 H locs 133 ls [] := by
                      intro fu133
                      induction fu133 with
                      | zero => intro w133_3 g9 H locs ls h0; omega
                      | succ fu133 ih133 =>
                        intro w133_3 g9 H locs ls hm133 i133_0 i133_1 i133_2 hl hW
                        have hG := i133_0
                        refine q_iload_n hM dX12_art_133 (lv_at hl 3 rfl) ?_
                        refine q_aload_n hM dX12_art_134 (lv_at hl 0 rfl) ?_
                        refine w_getI hM hW FG_X12_227 lb_129 (by decide) (by decide) dX12_art_135 (fun x9199 fx9199 => ?_)
                        have bx9199 := hG.f fx9199 rF_129_18 (by decide)
                        refine q_icmp_ge (tgt := 164) hM dX12_art_138 (by decide) (rfl : w133_3.toInt = w133_3.toInt) (rfl : x9199.toInt = x9199.toInt) (fun h138 => ?_) (fun h138 => ?_)
                        · refine q_aload_n hM dX12_art_164 (lv_at hl 0 rfl) ?_
                          refine w_get (v := .int x9199) hM hW FG_X12_227 lb_129 fx9199 dX12_art_165 ?_
                          have bx9199 := hG.f fx9199 rF_129_18 (by decide)
                          exact hE _ _ _ _ _ _ hW.1 ⟨_, rfl, hW.2.1, hG, hW.2.2⟩ dX12_art_168
                        · refine q_aload_n hM dX12_art_141 (lv_at hl 0 rfl) ?_
                          refine w_get (v := .ref (ad 136)) hM hW FG_X12_34 lb_129 (rf_129_15 hW.2.1) dX12_art_142 ?_
                          refine q_bipush (v := (48 : Int32)) hM dX12_art_145 (by decide) ?_
                          refine q_iload_n hM dX12_art_147 (lv_at hl 1 rfl) ?_
                          refine q_imul hM dX12_art_148 (fun z9202 hz9202 => ?_)
                          first | have tz9202 := i_mulT hz9202 (kc_48 : (48 : Int32).toInt = 48) (rfl : a.toInt = a.toInt) (by omega) (by omega) | skip
                          refine q_iload_n hM dX12_art_149 (lv_at hl 3 rfl) ?_
                          refine q_iadd hM dX12_art_150 (fun z9203 hz9203 => ?_)
                          first | have tz9203 := i_addT hz9203 (rfl : z9202.toInt = z9202.toInt) (rfl : w133_3.toInt = w133_3.toInt) (by omega) (by omega) | skip
                          refine q_aload_n hM dX12_art_151 (lv_at hl 0 rfl) ?_
                          refine w_get (v := .ref (ad 137)) hM hW FG_X12_37 lb_129 (rf_129_16 hW.2.1) dX12_art_152 ?_
                          refine q_iload_n hM dX12_art_155 (lv_at hl 3 rfl) ?_
                          refine w_iald hM hW lb_137 (i_in (by omega) (by omega)) dX12_art_156 ?_
                          refine q_top (fun y9204 hy9204 => ?_)
                          have by9204 := hG.a hy9204 rA_137
                          refine w_iast hM hW lb_136 (by omega) (i_in (by omega) (by omega)) dX12_art_157 (fun g9205 H locs hW e1 e2 => ?_)
                          have f9206 : fld g9205 129 18 = .int x9199 := (e2.1 129 18 (by unfold Only; omega)).trans fx9199
                          have hG := hG.st e1 e2 rA_136 (by have := i_rng y9204; omega) (by have := i_rng y9204; omega)
                          refine q_iinc (lv9 := fun z9207 => [(3, .int z9207), (0, .ref (ad 129)), (1, .int a), (2, .int b)]) hM dX12_art_158 hl (kq := 3) rfl (by decide) (fun _ => rfl) (fun z9207 ls hz9207 hl => ?_)
                          first | have tz9207 := i_addT hz9207 (rfl : w133_3.toInt = w133_3.toInt) (kc_1 : (Int32.ofInt 1).toInt = 1) (by omega) (by omega) | skip
                          refine q_goto (tgt := 133) hM dX12_art_161 (by decide) ?_
                          exact ih133 z9207 _ _ _ _ (by omega) hG (by omega) (by omega) (lv_sub hl [1, 2, 3, 0] rfl) hW
                    have := kc_0
                    exact L133 _ (0 : Int32) _ _ _ _ (Nat.lt_succ_self _) hG (by omega) (by omega) (lv_sub hl [1, 2, 3, 0] rfl) hW
                  · refine q_aload_n hM dX12_art_109 (lv_at hl 0 rfl) ?_
                    refine w_get (v := .int bb) hM hW FG_X12_179 lb_129 c54_129_5 dX12_art_110 ?_
                    have bbb := hG.f c54_129_5 rF_129_5 (by decide)
                    exact hE _ _ _ _ _ _ hW.1 ⟨_, rfl, hW.2.1, hG, hW.2.2⟩ dX12_art_113
                · refine q_aload_n hM dX12_art_93 (lv_at hl 0 rfl) ?_
                  refine q_iconst (v := (1 : Int32)) hM dX12_art_94 (by decide) ?_
                  refine q_aload_n hM dX12_art_95 (lv_at hl 0 rfl) ?_
                  refine w_get (v := .int pp) hM hW FG_X12_173 lb_129 c54_129_3 dX12_art_96 ?_
                  have bpp := hG.f c54_129_3 rF_129_3 (by decide)
                  refine q_callV (As := [.int (1 : Int32), .int pp]) (rest := []) hM hW.1 hR hC myX12_wrongs (kAW (v_5_9 (List.mem_of_getElem? (i := 11) rfl)) rfl) (rfl : vwCl[12]? = some (RX12, TX12, 86)) rfl lb_129.1 (shO hW.2.1 lb_129) (a_X12_wrongs _ _ cA ad g9 (1 : Int32) pp bb hW.2.1 hG c54_129_5 (by have := kc_1; omega) (by have := kc_1; omega) (by have := kc_1; omega) (by have := kc_1; omega)) ⟨by decide, by decide⟩ rfl rfl hl.1 (Nat.le_of_ble_eq_true rfl) dX12_art_99 (fun v g9213 H locs hp hW1 => ?_)
                  obtain ⟨v9210, rfl, hs1, hG, hf1, q9211, e9212⟩ := hp
                  have f9214 : fld g9213 129 4 = .int ee := (hf1.1 129 4 (by omega)).trans c54_129_4
                  have f9215 : fld g9213 129 3 = .int pp := (hf1.1 129 3 (by omega)).trans c54_129_3
                  have f9216 : fld g9213 129 18 = .int nn := (hf1.1 129 18 (by omega)).trans c54_129_18
                  have f9217 : fld g9213 129 19 = .int oo := (hf1.1 129 19 (by omega)).trans c54_129_19
                  have hW : WS ad cA (fun i k => (i = 129 ∧ (k = 1 ∨ k = 3 ∨ k = 4 ∨ k = 5 ∨ k = 18 ∨ k = 19 ∨ k = 20)) ∨ (134 ≤ i ∧ i < 138) ∨ i = 139 ∨ i = 140 ∨ i = 141) g0 K g9213 H locs := ⟨hW1, hs1, hW.2.2.tr hf1 (fun i k h => (Or.inl (by omega)))⟩
                  refine q_aload_n hM dX12_art_102 (lv_at hl 0 rfl) ?_
                  refine w_get (v := .int v9210) hM hW FG_X12_179 lb_129 q9211 dX12_art_103 ?_
                  have bv9210 := hG.f q9211 rF_129_5 (by decide)
                  refine q_if_ge (tgt := 114) hM dX12_art_106 (by decide) (rfl : v9210.toInt = v9210.toInt) (fun h106 => ?_) (fun h106 => ?_)
                  · refine q_aload_n hM dX12_art_114 (lv_at hl 0 rfl) ?_
                    refine w_get (v := .ref (ad 134)) hM hW FG_X12_28 lb_129 (rf_129_13 hW.2.1) dX12_art_115 ?_
                    refine q_iload_n hM dX12_art_118 (lv_at hl 1 rfl) ?_
                    refine q_iconst (v := (1 : Int32)) hM dX12_art_119 (by decide) ?_
                    refine w_zast hM hW lb_134 (by omega) (i_in (by omega) (by omega)) dX12_art_120 (fun g9219 H locs hW e1 e2 => ?_)
                    have f9220 : fld g9219 129 4 = .int ee := (e2.1 129 4 (by unfold Only; omega)).trans f9214
                    have f9221 : fld g9219 129 3 = .int pp := (e2.1 129 3 (by unfold Only; omega)).trans f9215
                    have f9222 : fld g9219 129 18 = .int nn := (e2.1 129 18 (by unfold Only; omega)).trans f9216
                    have f9223 : fld g9219 129 19 = .int oo := (e2.1 129 19 (by unfold Only; omega)).trans f9217
                    have f9224 : fld g9219 129 5 = .int v9210 := (e2.1 129 5 (by unfold Only; omega)).trans q9211
                    have hG := hG.st e1 e2 (rfl : rA 134 = (-2147483648, 2147483647)) (by have := i_rng (vp_nar .boolean (1 : Int32)); omega) (by have := i_rng (vp_nar .boolean (1 : Int32)); omega)
                    refine q_aload_n hM dX12_art_121 (lv_at hl 0 rfl) ?_
                    refine w_get (v := .ref (ad 135)) hM hW FG_X12_31 lb_129 (rf_129_14 hW.2.1) dX12_art_122 ?_
                    refine q_iload_n hM dX12_art_125 (lv_at hl 1 rfl) ?_
                    refine q_aload_n hM dX12_art_126 (lv_at hl 0 rfl) ?_
                    refine w_get (v := .int nn) hM hW FG_X12_227 lb_129 f9222 dX12_art_127 ?_
                    have bnn := hG.f f9222 rF_129_18 (by decide)
                    refine w_iast hM hW lb_135 (by omega) (i_in (by omega) (by omega)) dX12_art_130 (fun g9225 H locs hW e1 e2 => ?_)
                    have f9226 : fld g9225 129 4 = .int ee := (e2.1 129 4 (by unfold Only; omega)).trans f9220
                    have f9227 : fld g9225 129 3 = .int pp := (e2.1 129 3 (by unfold Only; omega)).trans f9221
                    have f9228 : fld g9225 129 18 = .int nn := (e2.1 129 18 (by unfold Only; omega)).trans f9222
                    have f9229 : fld g9225 129 19 = .int oo := (e2.1 129 19 (by unfold Only; omega)).trans f9223
                    have f9230 : fld g9225 129 5 = .int v9210 := (e2.1 129 5 (by unfold Only; omega)).trans f9224
                    have hG := hG.st e1 e2 rA_135 (by have := i_rng nn; omega) (by have := i_rng nn; omega)
                    refine q_iconst (v := (0 : Int32)) hM dX12_art_131 (by decide) ?_
                    refine q_istore_n (lv9 := [(3, .int (0 : Int32)), (0, .ref (ad 129)), (1, .int a), (2, .int b)]) hM dX12_art_132 hl (by decide) rfl (fun ls hl => ?_)
                    have L133 : ∀ (fu133 : Nat) (w133_3 : Int32) (g9 : Nat → va_E) (H : Heap) (locs : List Loc) (ls : Array Slot), (48 - w133_3.toInt).toNat < fu133 → (Rng g9) → (0 ≤ w133_3.toInt) → (w133_3.toInt ≤ 48) → lv_has ls 4 [(0, .ref (ad 129)), (1, .int a), (2, .int b), (3, .int w133_3)] → WS ad cA (fun i k => (i = 129 ∧ (k = 1 ∨ k = 3 ∨ k = 4 ∨ k = 5 ∨ k = 18 ∨ k = 19 ∨ k = 20)) ∨ (134 ≤ i ∧ i < 138) ∨ i = 139 ∨ i = 140 ∨ i = 141) g0 K g9 H locs → XX K 0 0 H locs 133 ls [] := by
                      intro fu133
                      induction fu133 with
                      | zero => intro w133_3 g9 H locs ls h0; omega
                      | succ fu133 ih133 =>
                        intro w133_3 g9 H locs ls hm133 i133_0 i133_1 i133_2 hl hW
                        have hG := i133_0
                        refine q_iload_n hM dX12_art_133 (lv_at hl 3 rfl) ?_
                        refine q_aload_n hM dX12_art_134 (lv_at hl 0 rfl) ?_
                        refine w_getI hM hW FG_X12_227 lb_129 (by decide) (by decide) dX12_art_135 (fun x9232 fx9232 => ?_)
                        have bx9232 := hG.f fx9232 rF_129_18 (by decide)
                        refine q_icmp_ge (tgt := 164) hM dX12_art_138 (by decide) (rfl : w133_3.toInt = w133_3.toInt) (rfl : x9232.toInt = x9232.toInt) (fun h138 => ?_) (fun h138 => ?_)
                        · refine q_aload_n hM dX12_art_164 (lv_at hl 0 rfl) ?_
                          refine w_get (v := .int x9232) hM hW FG_X12_227 lb_129 fx9232 dX12_art_165 ?_
                          have bx9232 := hG.f fx9232 rF_129_18 (by decide)
                          exact hE _ _ _ _ _ _ hW.1 ⟨_, rfl, hW.2.1, hG, hW.2.2⟩ dX12_art_168
                        · refine q_aload_n hM dX12_art_141 (lv_at hl 0 rfl) ?_
                          refine w_get (v := .ref (ad 136)) hM hW FG_X12_34 lb_129 (rf_129_15 hW.2.1) dX12_art_142 ?_
                          refine q_bipush (v := (48 : Int32)) hM dX12_art_145 (by decide) ?_
                          refine q_iload_n hM dX12_art_147 (lv_at hl 1 rfl) ?_
                          refine q_imul hM dX12_art_148 (fun z9235 hz9235 => ?_)
                          first | have tz9235 := i_mulT hz9235 (kc_48 : (48 : Int32).toInt = 48) (rfl : a.toInt = a.toInt) (by omega) (by omega) | skip
                          refine q_iload_n hM dX12_art_149 (lv_at hl 3 rfl) ?_
                          refine q_iadd hM dX12_art_150 (fun z9236 hz9236 => ?_)
                          first | have tz9236 := i_addT hz9236 (rfl : z9235.toInt = z9235.toInt) (rfl : w133_3.toInt = w133_3.toInt) (by omega) (by omega) | skip
                          refine q_aload_n hM dX12_art_151 (lv_at hl 0 rfl) ?_
                          refine w_get (v := .ref (ad 137)) hM hW FG_X12_37 lb_129 (rf_129_16 hW.2.1) dX12_art_152 ?_
                          refine q_iload_n hM dX12_art_155 (lv_at hl 3 rfl) ?_
                          refine w_iald hM hW lb_137 (i_in (by omega) (by omega)) dX12_art_156 ?_
                          refine q_top (fun y9237 hy9237 => ?_)
                          have by9237 := hG.a hy9237 rA_137
                          refine w_iast hM hW lb_136 (by omega) (i_in (by omega) (by omega)) dX12_art_157 (fun g9238 H locs hW e1 e2 => ?_)
                          have f9239 : fld g9238 129 18 = .int x9232 := (e2.1 129 18 (by unfold Only; omega)).trans fx9232
                          have hG := hG.st e1 e2 rA_136 (by have := i_rng y9237; omega) (by have := i_rng y9237; omega)
                          refine q_iinc (lv9 := fun z9240 => [(3, .int z9240), (0, .ref (ad 129)), (1, .int a), (2, .int b)]) hM dX12_art_158 hl (kq := 3) rfl (by decide) (fun _ => rfl) (fun z9240 ls hz9240 hl => ?_)
                          first | have tz9240 := i_addT hz9240 (rfl : w133_3.toInt = w133_3.toInt) (kc_1 : (Int32.ofInt 1).toInt = 1) (by omega) (by omega) | skip
                          refine q_goto (tgt := 133) hM dX12_art_161 (by decide) ?_
                          exact ih133 z9240 _ _ _ _ (by omega) hG (by omega) (by omega) (lv_sub hl [1, 2, 3, 0] rfl) hW
                    have := kc_0
                    exact L133 _ (0 : Int32) _ _ _ _ (Nat.lt_succ_self _) hG (by omega) (by omega) (lv_sub hl [1, 2, 3, 0] rfl) hW
                  · refine q_aload_n hM dX12_art_109 (lv_at hl 0 rfl) ?_
                    refine w_get (v := .int v9210) hM hW FG_X12_179 lb_129 q9211 dX12_art_110 ?_
                    have bv9210 := hG.f q9211 rF_129_5 (by decide)
                    exact hE _ _ _ _ _ _ hW.1 ⟨_, rfl, hW.2.1, hG, hW.2.2⟩ dX12_art_113
            · refine q_aload_n hM dX12_art_61 (lv_at hl 0 rfl) ?_
              refine w_get (v := .int pp) hM hW FG_X12_173 lb_129 c54_129_3 dX12_art_62 ?_
              have bpp := hG.f c54_129_3 rF_129_3 (by decide)
              refine q_aload_n hM dX12_art_65 (lv_at hl 0 rfl) ?_
              refine w_get (v := .int ee) hM hW FG_X12_176 lb_129 c54_129_4 dX12_art_66 ?_
              have bee := hG.f c54_129_4 rF_129_4 (by decide)
              refine q_icmp_ge (tgt := 79) hM dX12_art_69 (by decide) (rfl : pp.toInt = pp.toInt) (rfl : ee.toInt = ee.toInt) (fun h69 => ?_) (fun h69 => ?_)
              · refine q_aload_n hM dX12_art_79 (lv_at hl 0 rfl) ?_
                refine q_callV (As := []) (rest := []) hM hW.1 hR hC myX12_isGood (kAW (v_5_8 (List.mem_of_getElem? (i := 11) rfl)) rfl) (rfl : vwCl[12]? = some (RX12, TX12, 86)) rfl lb_129.1 (shO hW.2.1 lb_129) (a_X12_isGood _ _ cA ad g9 bb hW.2.1 hG c54_129_5) ⟨by decide, by decide⟩ rfl rfl hl.1 (Nat.le_of_ble_eq_true rfl) dX12_art_80 (fun v g9245 H locs hp hW1 => ?_)
                obtain ⟨r9244, rfl, hr9244, rfl⟩ := hp
                have hW : WS ad cA (fun i k => (i = 129 ∧ (k = 1 ∨ k = 3 ∨ k = 4 ∨ k = 5 ∨ k = 18 ∨ k = 19 ∨ k = 20)) ∨ (134 ≤ i ∧ i < 138) ∨ i = 139 ∨ i = 140 ∨ i = 141) g0 K g9 H locs := ⟨hW1, hW.2.1, hW.2.2⟩
                refine q_if_eq (tgt := 102) hM dX12_art_83 (by decide) (rfl : r9244.toInt = r9244.toInt) (fun h83 => ?_) (fun h83 => ?_)
                · refine q_aload_n hM dX12_art_102 (lv_at hl 0 rfl) ?_
                  refine w_get (v := .int bb) hM hW FG_X12_179 lb_129 c54_129_5 dX12_art_103 ?_
                  have bbb := hG.f c54_129_5 rF_129_5 (by decide)
                  refine q_if_ge (tgt := 114) hM dX12_art_106 (by decide) (rfl : bb.toInt = bb.toInt) (fun h106 => ?_) (fun h106 => ?_)
                  · refine q_aload_n hM dX12_art_114 (lv_at hl 0 rfl) ?_
                    refine w_get (v := .ref (ad 134)) hM hW FG_X12_28 lb_129 (rf_129_13 hW.2.1) dX12_art_115 ?_
                    refine q_iload_n hM dX12_art_118 (lv_at hl 1 rfl) ?_
                    refine q_iconst (v := (1 : Int32)) hM dX12_art_119 (by decide) ?_
                    refine w_zast hM hW lb_134 (by omega) (i_in (by omega) (by omega)) dX12_art_120 (fun g9248 H locs hW e1 e2 => ?_)
                    have f9249 : fld g9248 129 4 = .int ee := (e2.1 129 4 (by unfold Only; omega)).trans c54_129_4
                    have f9250 : fld g9248 129 3 = .int pp := (e2.1 129 3 (by unfold Only; omega)).trans c54_129_3
                    have f9251 : fld g9248 129 5 = .int bb := (e2.1 129 5 (by unfold Only; omega)).trans c54_129_5
                    have f9252 : fld g9248 129 18 = .int nn := (e2.1 129 18 (by unfold Only; omega)).trans c54_129_18
                    have f9253 : fld g9248 129 19 = .int oo := (e2.1 129 19 (by unfold Only; omega)).trans c54_129_19
                    have hG := hG.st e1 e2 (rfl : rA 134 = (-2147483648, 2147483647)) (by have := i_rng (vp_nar .boolean (1 : Int32)); omega) (by have := i_rng (vp_nar .boolean (1 : Int32)); omega)
                    refine q_aload_n hM dX12_art_121 (lv_at hl 0 rfl) ?_
                    refine w_get (v := .ref (ad 135)) hM hW FG_X12_31 lb_129 (rf_129_14 hW.2.1) dX12_art_122 ?_
                    refine q_iload_n hM dX12_art_125 (lv_at hl 1 rfl) ?_
                    refine q_aload_n hM dX12_art_126 (lv_at hl 0 rfl) ?_
                    refine w_get (v := .int nn) hM hW FG_X12_227 lb_129 f9252 dX12_art_127 ?_
                    have bnn := hG.f f9252 rF_129_18 (by decide)
                    refine w_iast hM hW lb_135 (by omega) (i_in (by omega) (by omega)) dX12_art_130 (fun g9254 H locs hW e1 e2 => ?_)
                    have f9255 : fld g9254 129 4 = .int ee := (e2.1 129 4 (by unfold Only; omega)).trans f9249
                    have f9256 : fld g9254 129 3 = .int pp := (e2.1 129 3 (by unfold Only; omega)).trans f9250
                    have f9257 : fld g9254 129 5 = .int bb := (e2.1 129 5 (by unfold Only; omega)).trans f9251
                    have f9258 : fld g9254 129 18 = .int nn := (e2.1 129 18 (by unfold Only; omega)).trans f9252
                    have f9259 : fld g9254 129 19 = .int oo := (e2.1 129 19 (by unfold Only; omega)).trans f9253
                    have hG := hG.st e1 e2 rA_135 (by have := i_rng nn; omega) (by have := i_rng nn; omega)
                    refine q_iconst (v := (0 : Int32)) hM dX12_art_131 (by decide) ?_
                    refine q_istore_n (lv9 := [(3, .int (0 : Int32)), (0, .ref (ad 129)), (1, .int a), (2, .int b)]) hM dX12_art_132 hl (by decide) rfl (fun ls hl => ?_)
                    have L133 : ∀ (fu133 : Nat) (w133_3 : Int32) (g9 : Nat → va_E) (H : Heap) (locs : List Loc) (ls : Array Slot), (48 - w133_3.toInt).toNat < fu133 → (Rng g9) → (0 ≤ w133_3.toInt) → (w133_3.toInt ≤ 48) → lv_has ls 4 [(0, .ref (ad 129)), (1, .int a), (2, .int b), (3, .int w133_3)] → WS ad cA (fun i k => (i = 129 ∧ (k = 1 ∨ k = 3 ∨ k = 4 ∨ k = 5 ∨ k = 18 ∨ k = 19 ∨ k = 20)) ∨ (134 ≤ i ∧ i < 138) ∨ i = 139 ∨ i = 140 ∨ i = 141) g0 K g9 H locs → XX K 0 0 H locs 133 ls [] := by
                      intro fu133
                      induction fu133 with
                      | zero => intro w133_3 g9 H locs ls h0; omega
                      | succ fu133 ih133 =>
                        intro w133_3 g9 H locs ls hm133 i133_0 i133_1 i133_2 hl hW
                        have hG := i133_0
                        refine q_iload_n hM dX12_art_133 (lv_at hl 3 rfl) ?_
                        refine q_aload_n hM dX12_art_134 (lv_at hl 0 rfl) ?_
                        refine w_getI hM hW FG_X12_227 lb_129 (by decide) (by decide) dX12_art_135 (fun x9261 fx9261 => ?_)
                        have bx9261 := hG.f fx9261 rF_129_18 (by decide)
                        refine q_icmp_ge (tgt := 164) hM dX12_art_138 (by decide) (rfl : w133_3.toInt = w133_3.toInt) (rfl : x9261.toInt = x9261.toInt) (fun h138 => ?_) (fun h138 => ?_)
                        · refine q_aload_n hM dX12_art_164 (lv_at hl 0 rfl) ?_
                          refine w_get (v := .int x9261) hM hW FG_X12_227 lb_129 fx9261 dX12_art_165 ?_
                          have bx9261 := hG.f fx9261 rF_129_18 (by decide)
                          exact hE _ _ _ _ _ _ hW.1 ⟨_, rfl, hW.2.1, hG, hW.2.2⟩ dX12_art_168
                        · refine q_aload_n hM dX12_art_141 (lv_at hl 0 rfl) ?_
                          refine w_get (v := .ref (ad 136)) hM hW FG_X12_34 lb_129 (rf_129_15 hW.2.1) dX12_art_142 ?_
                          refine q_bipush (v := (48 : Int32)) hM dX12_art_145 (by decide) ?_
                          refine q_iload_n hM dX12_art_147 (lv_at hl 1 rfl) ?_
                          refine q_imul hM dX12_art_148 (fun z9264 hz9264 => ?_)
                          first | have tz9264 := i_mulT hz9264 (kc_48 : (48 : Int32).toInt = 48) (rfl : a.toInt = a.toInt) (by omega) (by omega) | skip
                          refine q_iload_n hM dX12_art_149 (lv_at hl 3 rfl) ?_
                          refine q_iadd hM dX12_art_150 (fun z9265 hz9265 => ?_)
                          first | have tz9265 := i_addT hz9265 (rfl : z9264.toInt = z9264.toInt) (rfl : w133_3.toInt = w133_3.toInt) (by omega) (by omega) | skip
                          refine q_aload_n hM dX12_art_151 (lv_at hl 0 rfl) ?_
                          refine w_get (v := .ref (ad 137)) hM hW FG_X12_37 lb_129 (rf_129_16 hW.2.1) dX12_art_152 ?_
                          refine q_iload_n hM dX12_art_155 (lv_at hl 3 rfl) ?_
                          refine w_iald hM hW lb_137 (i_in (by omega) (by omega)) dX12_art_156 ?_
                          refine q_top (fun y9266 hy9266 => ?_)
                          have by9266 := hG.a hy9266 rA_137
                          refine w_iast hM hW lb_136 (by omega) (i_in (by omega) (by omega)) dX12_art_157 (fun g9267 H locs hW e1 e2 => ?_)
                          have f9268 : fld g9267 129 18 = .int x9261 := (e2.1 129 18 (by unfold Only; omega)).trans fx9261
                          have hG := hG.st e1 e2 rA_136 (by have := i_rng y9266; omega) (by have := i_rng y9266; omega)
                          refine q_iinc (lv9 := fun z9269 => [(3, .int z9269), (0, .ref (ad 129)), (1, .int a), (2, .int b)]) hM dX12_art_158 hl (kq := 3) rfl (by decide) (fun _ => rfl) (fun z9269 ls hz9269 hl => ?_)
                          first | have tz9269 := i_addT hz9269 (rfl : w133_3.toInt = w133_3.toInt) (kc_1 : (Int32.ofInt 1).toInt = 1) (by omega) (by omega) | skip
                          refine q_goto (tgt := 133) hM dX12_art_161 (by decide) ?_
                          exact ih133 z9269 _ _ _ _ (by omega) hG (by omega) (by omega) (lv_sub hl [1, 2, 3, 0] rfl) hW
                    have := kc_0
                    exact L133 _ (0 : Int32) _ _ _ _ (Nat.lt_succ_self _) hG (by omega) (by omega) (lv_sub hl [1, 2, 3, 0] rfl) hW
                  · refine q_aload_n hM dX12_art_109 (lv_at hl 0 rfl) ?_
                    refine w_get (v := .int bb) hM hW FG_X12_179 lb_129 c54_129_5 dX12_art_110 ?_
                    have bbb := hG.f c54_129_5 rF_129_5 (by decide)
                    exact hE _ _ _ _ _ _ hW.1 ⟨_, rfl, hW.2.1, hG, hW.2.2⟩ dX12_art_113
                · refine q_aload_n hM dX12_art_86 (lv_at hl 0 rfl) ?_
                  refine w_get (v := .int oo) hM hW FG_X12_251 lb_129 c54_129_19 dX12_art_87 ?_
                  have boo := hG.f c54_129_19 rF_129_19 (by decide)
                  refine q_if_le (tgt := 102) hM dX12_art_90 (by decide) (rfl : oo.toInt = oo.toInt) (fun h90 => ?_) (fun h90 => ?_)
                  · refine q_aload_n hM dX12_art_102 (lv_at hl 0 rfl) ?_
                    refine w_get (v := .int bb) hM hW FG_X12_179 lb_129 c54_129_5 dX12_art_103 ?_
                    have bbb := hG.f c54_129_5 rF_129_5 (by decide)
                    refine q_if_ge (tgt := 114) hM dX12_art_106 (by decide) (rfl : bb.toInt = bb.toInt) (fun h106 => ?_) (fun h106 => ?_)
                    · refine q_aload_n hM dX12_art_114 (lv_at hl 0 rfl) ?_
                      refine w_get (v := .ref (ad 134)) hM hW FG_X12_28 lb_129 (rf_129_13 hW.2.1) dX12_art_115 ?_
                      refine q_iload_n hM dX12_art_118 (lv_at hl 1 rfl) ?_
                      refine q_iconst (v := (1 : Int32)) hM dX12_art_119 (by decide) ?_
                      refine w_zast hM hW lb_134 (by omega) (i_in (by omega) (by omega)) dX12_art_120 (fun g9274 H locs hW e1 e2 => ?_)
                      have f9275 : fld g9274 129 4 = .int ee := (e2.1 129 4 (by unfold Only; omega)).trans c54_129_4
                      have f9276 : fld g9274 129 3 = .int pp := (e2.1 129 3 (by unfold Only; omega)).trans c54_129_3
                      have f9277 : fld g9274 129 5 = .int bb := (e2.1 129 5 (by unfold Only; omega)).trans c54_129_5
                      have f9278 : fld g9274 129 18 = .int nn := (e2.1 129 18 (by unfold Only; omega)).trans c54_129_18
                      have f9279 : fld g9274 129 19 = .int oo := (e2.1 129 19 (by unfold Only; omega)).trans c54_129_19
                      have hG := hG.st e1 e2 (rfl : rA 134 = (-2147483648, 2147483647)) (by have := i_rng (vp_nar .boolean (1 : Int32)); omega) (by have := i_rng (vp_nar .boolean (1 : Int32)); omega)
                      refine q_aload_n hM dX12_art_121 (lv_at hl 0 rfl) ?_
                      refine w_get (v := .ref (ad 135)) hM hW FG_X12_31 lb_129 (rf_129_14 hW.2.1) dX12_art_122 ?_
                      refine q_iload_n hM dX12_art_125 (lv_at hl 1 rfl) ?_
                      refine q_aload_n hM dX12_art_126 (lv_at hl 0 rfl) ?_
                      refine w_get (v := .int nn) hM hW FG_X12_227 lb_129 f9278 dX12_art_127 ?_
                      have bnn := hG.f f9278 rF_129_18 (by decide)
                      refine w_iast hM hW lb_135 (by omega) (i_in (by omega) (by omega)) dX12_art_130 (fun g9280 H locs hW e1 e2 => ?_)
                      have f9281 : fld g9280 129 4 = .int ee := (e2.1 129 4 (by unfold Only; omega)).trans f9275
                      have f9282 : fld g9280 129 3 = .int pp := (e2.1 129 3 (by unfold Only; omega)).trans f9276
                      have f9283 : fld g9280 129 5 = .int bb := (e2.1 129 5 (by unfold Only; omega)).trans f9277
                      have f9284 : fld g9280 129 18 = .int nn := (e2.1 129 18 (by unfold Only; omega)).trans f9278
                      have f9285 : fld g9280 129 19 = .int oo := (e2.1 129 19 (by unfold Only; omega)).trans f9279
                      have hG := hG.st e1 e2 rA_135 (by have := i_rng nn; omega) (by have := i_rng nn; omega)
                      refine q_iconst (v := (0 : Int32)) hM dX12_art_131 (by decide) ?_
                      refine q_istore_n (lv9 := [(3, .int (0 : Int32)), (0, .ref (ad 129)), (1, .int a), (2, .int b)]) hM dX12_art_132 hl (by decide) rfl (fun ls hl => ?_)
                      have L133 : ∀ (fu133 : Nat) (w133_3 : Int32) (g9 : Nat → va_E) (H : Heap) (locs : List Loc) (ls : Array Slot), (48 - w133_3.toInt).toNat < fu133 → (Rng g9) → (0 ≤ w133_3.toInt) → (w133_3.toInt ≤ 48) → lv_has ls 4 [(0, .ref (ad 129)), (1, .int a), (2, .int b), (3, .int w133_3)] → WS ad cA (fun i k => (i = 129 ∧ (k = 1 ∨ k = 3 ∨ k = 4 ∨ k = 5 ∨ k = 18 ∨ k = 19 ∨ k = 20)) ∨ (134 ≤ i ∧ i < 138) ∨ i = 139 ∨ i = 140 ∨ i = 141) g0 K g9 H locs → XX K 0 0 H locs 133 ls [] := by
                        intro fu133
                        induction fu133 with
                        | zero => intro w133_3 g9 H locs ls h0; omega
                        | succ fu133 ih133 =>
                          intro w133_3 g9 H locs ls hm133 i133_0 i133_1 i133_2 hl hW
                          have hG := i133_0
                          refine q_iload_n hM dX12_art_133 (lv_at hl 3 rfl) ?_
                          refine q_aload_n hM dX12_art_134 (lv_at hl 0 rfl) ?_
                          refine w_getI hM hW FG_X12_227 lb_129 (by decide) (by decide) dX12_art_135 (fun x9287 fx9287 => ?_)
                          have bx9287 := hG.f fx9287 rF_129_18 (by decide)
                          refine q_icmp_ge (tgt := 164) hM dX12_art_138 (by decide) (rfl : w133_3.toInt = w133_3.toInt) (rfl : x9287.toInt = x9287.toInt) (fun h138 => ?_) (fun h138 => ?_)
                          · refine q_aload_n hM dX12_art_164 (lv_at hl 0 rfl) ?_
                            refine w_get (v := .int x9287) hM hW FG_X12_227 lb_129 fx9287 dX12_art_165 ?_
                            have bx9287 := hG.f fx9287 rF_129_18 (by decide)
                            exact hE _ _ _ _ _ _ hW.1 ⟨_, rfl, hW.2.1, hG, hW.2.2⟩ dX12_art_168
                          · refine q_aload_n hM dX12_art_141 (lv_at hl 0 rfl) ?_
                            refine w_get (v := .ref (ad 136)) hM hW FG_X12_34 lb_129 (rf_129_15 hW.2.1) dX12_art_142 ?_
                            refine q_bipush (v := (48 : Int32)) hM dX12_art_145 (by decide) ?_
                            refine q_iload_n hM dX12_art_147 (lv_at hl 1 rfl) ?_
                            refine q_imul hM dX12_art_148 (fun z9290 hz9290 => ?_)
                            first | have tz9290 := i_mulT hz9290 (kc_48 : (48 : Int32).toInt = 48) (rfl : a.toInt = a.toInt) (by omega) (by omega) | skip
                            refine q_iload_n hM dX12_art_149 (lv_at hl 3 rfl) ?_
                            refine q_iadd hM dX12_art_150 (fun z9291 hz9291 => ?_)
                            first | have tz9291 := i_addT hz9291 (rfl : z9290.toInt = z9290.toInt) (rfl : w133_3.toInt = w133_3.toInt) (by omega) (by omega) | skip
                            refine q_aload_n hM dX12_art_151 (lv_at hl 0 rfl) ?_
                            refine w_get (v := .ref (ad 137)) hM hW FG_X12_37 lb_129 (rf_129_16 hW.2.1) dX12_art_152 ?_
                            refine q_iload_n hM dX12_art_155 (lv_at hl 3 rfl) ?_
                            refine w_iald hM hW lb_137 (i_in (by omega) (by omega)) dX12_art_156 ?_
                            refine q_top (fun y9292 hy9292 => ?_)
                            have by9292 := hG.a hy9292 rA_137
                            refine w_iast hM hW lb_136 (by omega) (i_in (by omega) (by omega)) dX12_art_157 (fun g9293 H locs hW e1 e2 => ?_)
                            have f9294 : fld g9293 129 18 = .int x9287 := (e2.1 129 18 (by unfold Only; omega)).trans fx9287
                            have hG := hG.st e1 e2 rA_136 (by have := i_rng y9292; omega) (by have := i_rng y9292; omega)
                            refine q_iinc (lv9 := fun z9295 => [(3, .int z9295), (0, .ref (ad 129)), (1, .int a), (2, .int b)]) hM dX12_art_158 hl (kq := 3) rfl (by decide) (fun _ => rfl) (fun z9295 ls hz9295 hl => ?_)
                            first | have tz9295 := i_addT hz9295 (rfl : w133_3.toInt = w133_3.toInt) (kc_1 : (Int32.ofInt 1).toInt = 1) (by omega) (by omega) | skip
                            refine q_goto (tgt := 133) hM dX12_art_161 (by decide) ?_
                            exact ih133 z9295 _ _ _ _ (by omega) hG (by omega) (by omega) (lv_sub hl [1, 2, 3, 0] rfl) hW
                      have := kc_0
                      exact L133 _ (0 : Int32) _ _ _ _ (Nat.lt_succ_self _) hG (by omega) (by omega) (lv_sub hl [1, 2, 3, 0] rfl) hW
                    · refine q_aload_n hM dX12_art_109 (lv_at hl 0 rfl) ?_
                      refine w_get (v := .int bb) hM hW FG_X12_179 lb_129 c54_129_5 dX12_art_110 ?_
                      have bbb := hG.f c54_129_5 rF_129_5 (by decide)
                      exact hE _ _ _ _ _ _ hW.1 ⟨_, rfl, hW.2.1, hG, hW.2.2⟩ dX12_art_113
                  · refine q_aload_n hM dX12_art_93 (lv_at hl 0 rfl) ?_
                    refine q_iconst (v := (1 : Int32)) hM dX12_art_94 (by decide) ?_
                    refine q_aload_n hM dX12_art_95 (lv_at hl 0 rfl) ?_
                    refine w_get (v := .int pp) hM hW FG_X12_173 lb_129 c54_129_3 dX12_art_96 ?_
                    have bpp := hG.f c54_129_3 rF_129_3 (by decide)
                    refine q_callV (As := [.int (1 : Int32), .int pp]) (rest := []) hM hW.1 hR hC myX12_wrongs (kAW (v_5_9 (List.mem_of_getElem? (i := 11) rfl)) rfl) (rfl : vwCl[12]? = some (RX12, TX12, 86)) rfl lb_129.1 (shO hW.2.1 lb_129) (a_X12_wrongs _ _ cA ad g9 (1 : Int32) pp bb hW.2.1 hG c54_129_5 (by have := kc_1; omega) (by have := kc_1; omega) (by have := kc_1; omega) (by have := kc_1; omega)) ⟨by decide, by decide⟩ rfl rfl hl.1 (Nat.le_of_ble_eq_true rfl) dX12_art_99 (fun v g9301 H locs hp hW1 => ?_)
                    obtain ⟨v9298, rfl, hs1, hG, hf1, q9299, e9300⟩ := hp
                    have f9302 : fld g9301 129 4 = .int ee := (hf1.1 129 4 (by omega)).trans c54_129_4
                    have f9303 : fld g9301 129 3 = .int pp := (hf1.1 129 3 (by omega)).trans c54_129_3
                    have f9304 : fld g9301 129 18 = .int nn := (hf1.1 129 18 (by omega)).trans c54_129_18
                    have f9305 : fld g9301 129 19 = .int oo := (hf1.1 129 19 (by omega)).trans c54_129_19
                    have hW : WS ad cA (fun i k => (i = 129 ∧ (k = 1 ∨ k = 3 ∨ k = 4 ∨ k = 5 ∨ k = 18 ∨ k = 19 ∨ k = 20)) ∨ (134 ≤ i ∧ i < 138) ∨ i = 139 ∨ i = 140 ∨ i = 141) g0 K g9301 H locs := ⟨hW1, hs1, hW.2.2.tr hf1 (fun i k h => (Or.inl (by omega)))⟩
                    refine q_aload_n hM dX12_art_102 (lv_at hl 0 rfl) ?_
                    refine w_get (v := .int v9298) hM hW FG_X12_179 lb_129 q9299 dX12_art_103 ?_
                    have bv9298 := hG.f q9299 rF_129_5 (by decide)
                    refine q_if_ge (tgt := 114) hM dX12_art_106 (by decide) (rfl : v9298.toInt = v9298.toInt) (fun h106 => ?_) (fun h106 => ?_)
                    · refine q_aload_n hM dX12_art_114 (lv_at hl 0 rfl) ?_
                      refine w_get (v := .ref (ad 134)) hM hW FG_X12_28 lb_129 (rf_129_13 hW.2.1) dX12_art_115 ?_
                      refine q_iload_n hM dX12_art_118 (lv_at hl 1 rfl) ?_
                      refine q_iconst (v := (1 : Int32)) hM dX12_art_119 (by decide) ?_
                      refine w_zast hM hW lb_134 (by omega) (i_in (by omega) (by omega)) dX12_art_120 (fun g9307 H locs hW e1 e2 => ?_)
                      have f9308 : fld g9307 129 4 = .int ee := (e2.1 129 4 (by unfold Only; omega)).trans f9302
                      have f9309 : fld g9307 129 3 = .int pp := (e2.1 129 3 (by unfold Only; omega)).trans f9303
                      have f9310 : fld g9307 129 18 = .int nn := (e2.1 129 18 (by unfold Only; omega)).trans f9304
                      have f9311 : fld g9307 129 19 = .int oo := (e2.1 129 19 (by unfold Only; omega)).trans f9305
                      have f9312 : fld g9307 129 5 = .int v9298 := (e2.1 129 5 (by unfold Only; omega)).trans q9299
                      have hG := hG.st e1 e2 (rfl : rA 134 = (-2147483648, 2147483647)) (by have := i_rng (vp_nar .boolean (1 : Int32)); omega) (by have := i_rng (vp_nar .boolean (1 : Int32)); omega)
                      refine q_aload_n hM dX12_art_121 (lv_at hl 0 rfl) ?_
                      refine w_get (v := .ref (ad 135)) hM hW FG_X12_31 lb_129 (rf_129_14 hW.2.1) dX12_art_122 ?_
                      refine q_iload_n hM dX12_art_125 (lv_at hl 1 rfl) ?_
                      refine q_aload_n hM dX12_art_126 (lv_at hl 0 rfl) ?_
                      refine w_get (v := .int nn) hM hW FG_X12_227 lb_129 f9310 dX12_art_127 ?_
                      have bnn := hG.f f9310 rF_129_18 (by decide)
                      refine w_iast hM hW lb_135 (by omega) (i_in (by omega) (by omega)) dX12_art_130 (fun g9313 H locs hW e1 e2 => ?_)
                      have f9314 : fld g9313 129 4 = .int ee := (e2.1 129 4 (by unfold Only; omega)).trans f9308
                      have f9315 : fld g9313 129 3 = .int pp := (e2.1 129 3 (by unfold Only; omega)).trans f9309
                      have f9316 : fld g9313 129 18 = .int nn := (e2.1 129 18 (by unfold Only; omega)).trans f9310
                      have f9317 : fld g9313 129 19 = .int oo := (e2.1 129 19 (by unfold Only; omega)).trans f9311
                      have f9318 : fld g9313 129 5 = .int v9298 := (e2.1 129 5 (by unfold Only; omega)).trans f9312
                      have hG := hG.st e1 e2 rA_135 (by have := i_rng nn; omega) (by have := i_rng nn; omega)
                      refine q_iconst (v := (0 : Int32)) hM dX12_art_131 (by decide) ?_
                      refine q_istore_n (lv9 := [(3, .int (0 : Int32)), (0, .ref (ad 129)), (1, .int a), (2, .int b)]) hM dX12_art_132 hl (by decide) rfl (fun ls hl => ?_)
                      have L133 : ∀ (fu133 : Nat) (w133_3 : Int32) (g9 : Nat → va_E) (H : Heap) (locs : List Loc) (ls : Array Slot), (48 - w133_3.toInt).toNat < fu133 → (Rng g9) → (0 ≤ w133_3.toInt) → (w133_3.toInt ≤ 48) → lv_has ls 4 [(0, .ref (ad 129)), (1, .int a), (2, .int b), (3, .int w133_3)] → WS ad cA (fun i k => (i = 129 ∧ (k = 1 ∨ k = 3 ∨ k = 4 ∨ k = 5 ∨ k = 18 ∨ k = 19 ∨ k = 20)) ∨ (134 ≤ i ∧ i < 138) ∨ i = 139 ∨ i = 140 ∨ i = 141) g0 K g9 H locs → XX K 0 0 H locs 133 ls [] := by
                        intro fu133
                        induction fu133 with
                        | zero => intro w133_3 g9 H locs ls h0; omega
                        | succ fu133 ih133 =>
                          intro w133_3 g9 H locs ls hm133 i133_0 i133_1 i133_2 hl hW
                          have hG := i133_0
                          refine q_iload_n hM dX12_art_133 (lv_at hl 3 rfl) ?_
                          refine q_aload_n hM dX12_art_134 (lv_at hl 0 rfl) ?_
                          refine w_getI hM hW FG_X12_227 lb_129 (by decide) (by decide) dX12_art_135 (fun x9320 fx9320 => ?_)
                          have bx9320 := hG.f fx9320 rF_129_18 (by decide)
                          refine q_icmp_ge (tgt := 164) hM dX12_art_138 (by decide) (rfl : w133_3.toInt = w133_3.toInt) (rfl : x9320.toInt = x9320.toInt) (fun h138 => ?_) (fun h138 => ?_)
                          · refine q_aload_n hM dX12_art_164 (lv_at hl 0 rfl) ?_
                            refine w_get (v := .int x9320) hM hW FG_X12_227 lb_129 fx9320 dX12_art_165 ?_
                            have bx9320 := hG.f fx9320 rF_129_18 (by decide)
                            exact hE _ _ _ _ _ _ hW.1 ⟨_, rfl, hW.2.1, hG, hW.2.2⟩ dX12_art_168
                          · refine q_aload_n hM dX12_art_141 (lv_at hl 0 rfl) ?_
                            refine w_get (v := .ref (ad 136)) hM hW FG_X12_34 lb_129 (rf_129_15 hW.2.1) dX12_art_142 ?_
                            refine q_bipush (v := (48 : Int32)) hM dX12_art_145 (by decide) ?_
                            refine q_iload_n hM dX12_art_147 (lv_at hl 1 rfl) ?_
                            refine q_imul hM dX12_art_148 (fun z9323 hz9323 => ?_)
                            first | have tz9323 := i_mulT hz9323 (kc_48 : (48 : Int32).toInt = 48) (rfl : a.toInt = a.toInt) (by omega) (by omega) | skip
                            refine q_iload_n hM dX12_art_149 (lv_at hl 3 rfl) ?_
                            refine q_iadd hM dX12_art_150 (fun z9324 hz9324 => ?_)
                            first | have tz9324 := i_addT hz9324 (rfl : z9323.toInt = z9323.toInt) (rfl : w133_3.toInt = w133_3.toInt) (by omega) (by omega) | skip
                            refine q_aload_n hM dX12_art_151 (lv_at hl 0 rfl) ?_
                            refine w_get (v := .ref (ad 137)) hM hW FG_X12_37 lb_129 (rf_129_16 hW.2.1) dX12_art_152 ?_
                            refine q_iload_n hM dX12_art_155 (lv_at hl 3 rfl) ?_
                            refine w_iald hM hW lb_137 (i_in (by omega) (by omega)) dX12_art_156 ?_
                            refine q_top (fun y9325 hy9325 => ?_)
                            have by9325 := hG.a hy9325 rA_137
                            refine w_iast hM hW lb_136 (by omega) (i_in (by omega) (by omega)) dX12_art_157 (fun g9326 H locs hW e1 e2 => ?_)
                            have f9327 : fld g9326 129 18 = .int x9320 := (e2.1 129 18 (by unfold Only; omega)).trans fx9320
                            have hG := hG.st e1 e2 rA_136 (by have := i_rng y9325; omega) (by have := i_rng y9325; omega)
                            refine q_iinc (lv9 := fun z9328 => [(3, .int z9328), (0, .ref (ad 129)), (1, .int a), (2, .int b)]) hM dX12_art_158 hl (kq := 3) rfl (by decide) (fun _ => rfl) (fun z9328 ls hz9328 hl => ?_)
                            first | have tz9328 := i_addT hz9328 (rfl : w133_3.toInt = w133_3.toInt) (kc_1 : (Int32.ofInt 1).toInt = 1) (by omega) (by omega) | skip
                            refine q_goto (tgt := 133) hM dX12_art_161 (by decide) ?_
                            exact ih133 z9328 _ _ _ _ (by omega) hG (by omega) (by omega) (lv_sub hl [1, 2, 3, 0] rfl) hW
                      have := kc_0
                      exact L133 _ (0 : Int32) _ _ _ _ (Nat.lt_succ_self _) hG (by omega) (by omega) (lv_sub hl [1, 2, 3, 0] rfl) hW
                    · refine q_aload_n hM dX12_art_109 (lv_at hl 0 rfl) ?_
                      refine w_get (v := .int v9298) hM hW FG_X12_179 lb_129 q9299 dX12_art_110 ?_
                      have bv9298 := hG.f q9299 rF_129_5 (by decide)
                      exact hE _ _ _ _ _ _ hW.1 ⟨_, rfl, hW.2.1, hG, hW.2.2⟩ dX12_art_113
              · refine q_aload_n hM dX12_art_72 (lv_at hl 0 rfl) ?_
                refine q_callV (As := []) (rest := []) hM hW.1 hR hC myX12_stepTold (kAW (v_5_8 (List.mem_of_getElem? (i := 15) rfl)) rfl) (rfl : vwCl[12]? = some (RX12, TX12, 86)) rfl lb_129.1 (shO hW.2.1 lb_129) (a_X12_stepTold _ _ cA ad g9 pp ee bb nn oo hW.2.1 hG c54_129_3 c54_129_4 c54_129_5 c54_129_18 c54_129_19 (by  omega) (by  omega) (by  omega) (by  omega) (TB_fr hT hW.2.2 (by omega)) (by  omega)) ⟨by decide, by decide⟩ rfl rfl hl.1 (Nat.le_of_ble_eq_true rfl) dX12_art_73 (fun v g9343 H locs hp hW1 => ?_)
                obtain ⟨v9331, v9332, v9333, v9334, rfl, hs1, hG, hf1, q9335, q9336, q9337, q9338, e9339, e9340, e9341, e9342⟩ := hp
                have f9344 : fld g9343 129 4 = .int ee := (hf1.1 129 4 (by omega)).trans c54_129_4
                have hW : WS ad cA (fun i k => (i = 129 ∧ (k = 1 ∨ k = 3 ∨ k = 4 ∨ k = 5 ∨ k = 18 ∨ k = 19 ∨ k = 20)) ∨ (134 ≤ i ∧ i < 138) ∨ i = 139 ∨ i = 140 ∨ i = 141) g0 K g9343 H locs := ⟨hW1, hs1, hW.2.2.tr hf1 (fun i k h => h.elim (fun h => (Or.inl (by omega))) (fun h => h.elim (fun h => (Or.inr (Or.inl (by omega)))) (fun h => h.elim (fun h => (Or.inr (Or.inr (Or.inl h)))) (fun h => h.elim (fun h => (Or.inr (Or.inr (Or.inr (Or.inl h))))) (fun h => (Or.inr (Or.inr (Or.inr (Or.inr h)))))))))⟩
                refine q_goto (tgt := 54) hM dX12_art_76 (by decide) ?_
                exact ih54 ee v9331 v9332 v9333 v9334 _ _ _ _ (by omega) hG (by omega) (by omega) (by omega) (by omega) e9342 f9344 q9335 q9336 q9337 q9338 (lv_sub hl [0, 1, 2] rfl) hW
        have := kc_0
        have := kc_0
        exact L54 _ v9125 v9124 v9126 (0 : Int32) (0 : Int32) _ _ _ _ (Nat.lt_succ_self _) hG (by omega) (by omega) (by omega) (by omega) (fun _ j h => absurd h (by have := kc_0; omega)) f9147 f9146 f9148 f9149 f9150 (lv_sub hl [0, 1, 2] rfl) hW
      · refine q_iconst (v := ((-1) : Int32)) hM dX12_art_32 (by decide) ?_
        exact hE _ _ _ _ _ _ hW.1 ⟨_, rfl, hW.2.1, hG, hW.2.2⟩ dX12_art_33
