theorem dX12_stepTold_0 : decode cX12_stepTold 0 = .ok (.aload_n 0, 1) := by decide +kernel
theorem dX12_stepTold_1 : decode cX12_stepTold 1 = .ok (.getfield 173, 3) := by decide +kernel
theorem dX12_stepTold_4 : decode cX12_stepTold 4 = .ok (.istore_n 1, 1) := by decide +kernel
theorem dX12_stepTold_5 : decode cX12_stepTold 5 = .ok (.aload_n 0, 1) := by decide +kernel
theorem dX12_stepTold_6 : decode cX12_stepTold 6 = .ok (.invokevirtual 182, 3) := by decide +kernel
theorem dX12_stepTold_9 : decode cX12_stepTold 9 = .ok (.bipush 41, 2) := by decide +kernel
theorem dX12_stepTold_11 : decode cX12_stepTold 11 = .ok (.if_icmp .ne 69, 3) := by decide +kernel
theorem dX12_stepTold_14 : decode cX12_stepTold 14 = .ok (.aload_n 0, 1) := by decide +kernel
theorem dX12_stepTold_15 : decode cX12_stepTold 15 = .ok (.getfield 251, 3) := by decide +kernel
theorem dX12_stepTold_18 : decode cX12_stepTold 18 = .ok (.ifCond .le 62, 3) := by decide +kernel
theorem dX12_stepTold_21 : decode cX12_stepTold 21 = .ok (.aload_n 0, 1) := by decide +kernel
theorem dX12_stepTold_22 : decode cX12_stepTold 22 = .ok (.getfield 254, 3) := by decide +kernel
theorem dX12_stepTold_25 : decode cX12_stepTold 25 = .ok (.ifCond .eq 55, 3) := by decide +kernel
theorem dX12_stepTold_28 : decode cX12_stepTold 28 = .ok (.aload_n 0, 1) := by decide +kernel
theorem dX12_stepTold_29 : decode cX12_stepTold 29 = .ok (.dup, 1) := by decide +kernel
theorem dX12_stepTold_30 : decode cX12_stepTold 30 = .ok (.getfield 251, 3) := by decide +kernel
theorem dX12_stepTold_33 : decode cX12_stepTold 33 = .ok (.iconst 1, 1) := by decide +kernel
theorem dX12_stepTold_34 : decode cX12_stepTold 34 = .ok (.isub, 1) := by decide +kernel
theorem dX12_stepTold_35 : decode cX12_stepTold 35 = .ok (.putfield 251, 3) := by decide +kernel
theorem dX12_stepTold_38 : decode cX12_stepTold 38 = .ok (.aload_n 0, 1) := by decide +kernel
theorem dX12_stepTold_39 : decode cX12_stepTold 39 = .ok (.dup, 1) := by decide +kernel
theorem dX12_stepTold_40 : decode cX12_stepTold 40 = .ok (.getfield 173, 3) := by decide +kernel
theorem dX12_stepTold_43 : decode cX12_stepTold 43 = .ok (.iconst 1, 1) := by decide +kernel
theorem dX12_stepTold_44 : decode cX12_stepTold 44 = .ok (.iadd, 1) := by decide +kernel
theorem dX12_stepTold_45 : decode cX12_stepTold 45 = .ok (.putfield 173, 3) := by decide +kernel
theorem dX12_stepTold_48 : decode cX12_stepTold 48 = .ok (.aload_n 0, 1) := by decide +kernel
theorem dX12_stepTold_49 : decode cX12_stepTold 49 = .ok (.aload_n 0, 1) := by decide +kernel
theorem dX12_stepTold_50 : decode cX12_stepTold 50 = .ok (.getfield 43, 3) := by decide +kernel
theorem dX12_stepTold_53 : decode cX12_stepTold 53 = .ok (.aload_n 0, 1) := by decide +kernel
theorem dX12_stepTold_54 : decode cX12_stepTold 54 = .ok (.getfield 251, 3) := by decide +kernel
theorem dX12_stepTold_57 : decode cX12_stepTold 57 = .ok (.iaload, 1) := by decide +kernel
theorem dX12_stepTold_58 : decode cX12_stepTold 58 = .ok (.aload_n 0, 1) := by decide +kernel
theorem dX12_stepTold_59 : decode cX12_stepTold 59 = .ok (.getfield 46, 3) := by decide +kernel
theorem dX12_stepTold_62 : decode cX12_stepTold 62 = .ok (.aload_n 0, 1) := by decide +kernel
theorem dX12_stepTold_63 : decode cX12_stepTold 63 = .ok (.getfield 251, 3) := by decide +kernel
theorem dX12_stepTold_66 : decode cX12_stepTold 66 = .ok (.iaload, 1) := by decide +kernel
theorem dX12_stepTold_67 : decode cX12_stepTold 67 = .ok (.aload_n 0, 1) := by decide +kernel
theorem dX12_stepTold_68 : decode cX12_stepTold 68 = .ok (.getfield 49, 3) := by decide +kernel
theorem dX12_stepTold_71 : decode cX12_stepTold 71 = .ok (.aload_n 0, 1) := by decide +kernel
theorem dX12_stepTold_72 : decode cX12_stepTold 72 = .ok (.getfield 251, 3) := by decide +kernel
theorem dX12_stepTold_75 : decode cX12_stepTold 75 = .ok (.iaload, 1) := by decide +kernel
theorem dX12_stepTold_76 : decode cX12_stepTold 76 = .ok (.invokevirtual 258, 3) := by decide +kernel
theorem dX12_stepTold_79 : decode cX12_stepTold 79 = .ok (.return_, 1) := by decide +kernel
theorem dX12_stepTold_80 : decode cX12_stepTold 80 = .ok (.aload_n 0, 1) := by decide +kernel
theorem dX12_stepTold_81 : decode cX12_stepTold 81 = .ok (.invokevirtual 262, 3) := by decide +kernel
theorem dX12_stepTold_84 : decode cX12_stepTold 84 = .ok (.istore_n 2, 1) := by decide +kernel
theorem dX12_stepTold_85 : decode cX12_stepTold 85 = .ok (.aload_n 0, 1) := by decide +kernel
theorem dX12_stepTold_86 : decode cX12_stepTold 86 = .ok (.invokevirtual 182, 3) := by decide +kernel
theorem dX12_stepTold_89 : decode cX12_stepTold 89 = .ok (.bipush 40, 2) := by decide +kernel
theorem dX12_stepTold_91 : decode cX12_stepTold 91 = .ok (.if_icmp .ne 87, 3) := by decide +kernel
theorem dX12_stepTold_94 : decode cX12_stepTold 94 = .ok (.aload_n 0, 1) := by decide +kernel
theorem dX12_stepTold_95 : decode cX12_stepTold 95 = .ok (.getfield 251, 3) := by decide +kernel
theorem dX12_stepTold_98 : decode cX12_stepTold 98 = .ok (.iconst 2, 1) := by decide +kernel
theorem dX12_stepTold_99 : decode cX12_stepTold 99 = .ok (.if_icmp .ne 12, 3) := by decide +kernel
theorem dX12_stepTold_102 : decode cX12_stepTold 102 = .ok (.aload_n 0, 1) := by decide +kernel
theorem dX12_stepTold_103 : decode cX12_stepTold 103 = .ok (.iconst 5, 1) := by decide +kernel
theorem dX12_stepTold_104 : decode cX12_stepTold 104 = .ok (.aload_n 0, 1) := by decide +kernel
theorem dX12_stepTold_105 : decode cX12_stepTold 105 = .ok (.getfield 173, 3) := by decide +kernel
theorem dX12_stepTold_108 : decode cX12_stepTold 108 = .ok (.invokevirtual 230, 3) := by decide +kernel
theorem dX12_stepTold_111 : decode cX12_stepTold 111 = .ok (.aload_n 0, 1) := by decide +kernel
theorem dX12_stepTold_112 : decode cX12_stepTold 112 = .ok (.invokevirtual 234, 3) := by decide +kernel
theorem dX12_stepTold_115 : decode cX12_stepTold 115 = .ok (.ifCond .ne 4, 3) := by decide +kernel
theorem dX12_stepTold_118 : decode cX12_stepTold 118 = .ok (.return_, 1) := by decide +kernel
theorem dX12_stepTold_119 : decode cX12_stepTold 119 = .ok (.aload_n 0, 1) := by decide +kernel
theorem dX12_stepTold_120 : decode cX12_stepTold 120 = .ok (.getfield 43, 3) := by decide +kernel
theorem dX12_stepTold_123 : decode cX12_stepTold 123 = .ok (.aload_n 0, 1) := by decide +kernel
theorem dX12_stepTold_124 : decode cX12_stepTold 124 = .ok (.getfield 251, 3) := by decide +kernel
theorem dX12_stepTold_127 : decode cX12_stepTold 127 = .ok (.aload_n 0, 1) := by decide +kernel
theorem dX12_stepTold_128 : decode cX12_stepTold 128 = .ok (.getfield 227, 3) := by decide +kernel
theorem dX12_stepTold_131 : decode cX12_stepTold 131 = .ok (.iastore, 1) := by decide +kernel
theorem dX12_stepTold_132 : decode cX12_stepTold 132 = .ok (.aload_n 0, 1) := by decide +kernel
theorem dX12_stepTold_133 : decode cX12_stepTold 133 = .ok (.getfield 46, 3) := by decide +kernel
theorem dX12_stepTold_136 : decode cX12_stepTold 136 = .ok (.aload_n 0, 1) := by decide +kernel
theorem dX12_stepTold_137 : decode cX12_stepTold 137 = .ok (.getfield 251, 3) := by decide +kernel
theorem dX12_stepTold_140 : decode cX12_stepTold 140 = .ok (.iload_n 2, 1) := by decide +kernel
theorem dX12_stepTold_141 : decode cX12_stepTold 141 = .ok (.iastore, 1) := by decide +kernel
theorem dX12_stepTold_142 : decode cX12_stepTold 142 = .ok (.aload_n 0, 1) := by decide +kernel
theorem dX12_stepTold_143 : decode cX12_stepTold 143 = .ok (.getfield 49, 3) := by decide +kernel
theorem dX12_stepTold_146 : decode cX12_stepTold 146 = .ok (.aload_n 0, 1) := by decide +kernel
theorem dX12_stepTold_147 : decode cX12_stepTold 147 = .ok (.getfield 251, 3) := by decide +kernel
theorem dX12_stepTold_150 : decode cX12_stepTold 150 = .ok (.iload_n 1, 1) := by decide +kernel
theorem dX12_stepTold_151 : decode cX12_stepTold 151 = .ok (.iastore, 1) := by decide +kernel
theorem dX12_stepTold_152 : decode cX12_stepTold 152 = .ok (.aload_n 0, 1) := by decide +kernel
theorem dX12_stepTold_153 : decode cX12_stepTold 153 = .ok (.dup, 1) := by decide +kernel
theorem dX12_stepTold_154 : decode cX12_stepTold 154 = .ok (.getfield 251, 3) := by decide +kernel
theorem dX12_stepTold_157 : decode cX12_stepTold 157 = .ok (.iconst 1, 1) := by decide +kernel
theorem dX12_stepTold_158 : decode cX12_stepTold 158 = .ok (.iadd, 1) := by decide +kernel
theorem dX12_stepTold_159 : decode cX12_stepTold 159 = .ok (.putfield 251, 3) := by decide +kernel
theorem dX12_stepTold_162 : decode cX12_stepTold 162 = .ok (.aload_n 0, 1) := by decide +kernel
theorem dX12_stepTold_163 : decode cX12_stepTold 163 = .ok (.iconst 0, 1) := by decide +kernel
theorem dX12_stepTold_164 : decode cX12_stepTold 164 = .ok (.putfield 254, 3) := by decide +kernel
theorem dX12_stepTold_167 : decode cX12_stepTold 167 = .ok (.aload_n 0, 1) := by decide +kernel
theorem dX12_stepTold_168 : decode cX12_stepTold 168 = .ok (.dup, 1) := by decide +kernel
theorem dX12_stepTold_169 : decode cX12_stepTold 169 = .ok (.getfield 173, 3) := by decide +kernel
theorem dX12_stepTold_172 : decode cX12_stepTold 172 = .ok (.iconst 1, 1) := by decide +kernel
theorem dX12_stepTold_173 : decode cX12_stepTold 173 = .ok (.iadd, 1) := by decide +kernel
theorem dX12_stepTold_174 : decode cX12_stepTold 174 = .ok (.putfield 173, 3) := by decide +kernel
theorem dX12_stepTold_177 : decode cX12_stepTold 177 = .ok (.return_, 1) := by decide +kernel
theorem dX12_stepTold_178 : decode cX12_stepTold 178 = .ok (.aload_n 0, 1) := by decide +kernel
theorem dX12_stepTold_179 : decode cX12_stepTold 179 = .ok (.invokevirtual 265, 3) := by decide +kernel
theorem dX12_stepTold_182 : decode cX12_stepTold 182 = .ok (.istore_n 3, 1) := by decide +kernel
theorem dX12_stepTold_183 : decode cX12_stepTold 183 = .ok (.aload_n 0, 1) := by decide +kernel
theorem dX12_stepTold_184 : decode cX12_stepTold 184 = .ok (.invokevirtual 234, 3) := by decide +kernel
theorem dX12_stepTold_187 : decode cX12_stepTold 187 = .ok (.ifCond .eq 21, 3) := by decide +kernel
theorem dX12_stepTold_190 : decode cX12_stepTold 190 = .ok (.aload_n 0, 1) := by decide +kernel
theorem dX12_stepTold_191 : decode cX12_stepTold 191 = .ok (.getfield 227, 3) := by decide +kernel
theorem dX12_stepTold_194 : decode cX12_stepTold 194 = .ok (.iload_n 2, 1) := by decide +kernel
theorem dX12_stepTold_195 : decode cX12_stepTold 195 = .ok (.iadd, 1) := by decide +kernel
theorem dX12_stepTold_196 : decode cX12_stepTold 196 = .ok (.bipush 48, 2) := by decide +kernel
theorem dX12_stepTold_198 : decode cX12_stepTold 198 = .ok (.if_icmp .le 10, 3) := by decide +kernel
theorem dX12_stepTold_201 : decode cX12_stepTold 201 = .ok (.aload_n 0, 1) := by decide +kernel
theorem dX12_stepTold_202 : decode cX12_stepTold 202 = .ok (.bipush 6, 2) := by decide +kernel
theorem dX12_stepTold_204 : decode cX12_stepTold 204 = .ok (.iload_n 1, 1) := by decide +kernel
theorem dX12_stepTold_205 : decode cX12_stepTold 205 = .ok (.invokevirtual 230, 3) := by decide +kernel
theorem dX12_stepTold_208 : decode cX12_stepTold 208 = .ok (.aload_n 0, 1) := by decide +kernel
theorem dX12_stepTold_209 : decode cX12_stepTold 209 = .ok (.invokevirtual 234, 3) := by decide +kernel
theorem dX12_stepTold_212 : decode cX12_stepTold 212 = .ok (.ifCond .ne 4, 3) := by decide +kernel
theorem dX12_stepTold_215 : decode cX12_stepTold 215 = .ok (.return_, 1) := by decide +kernel
theorem dX12_stepTold_216 : decode cX12_stepTold 216 = .ok (.iconst 0, 1) := by decide +kernel
theorem dX12_stepTold_217 : decode cX12_stepTold 217 = .ok (.istore 4, 2) := by decide +kernel
theorem dX12_stepTold_219 : decode cX12_stepTold 219 = .ok (.iload 4, 2) := by decide +kernel
theorem dX12_stepTold_221 : decode cX12_stepTold 221 = .ok (.iload_n 2, 1) := by decide +kernel
theorem dX12_stepTold_222 : decode cX12_stepTold 222 = .ok (.if_icmp .ge 22, 3) := by decide +kernel
theorem dX12_stepTold_225 : decode cX12_stepTold 225 = .ok (.aload_n 0, 1) := by decide +kernel
theorem dX12_stepTold_226 : decode cX12_stepTold 226 = .ok (.getfield 37, 3) := by decide +kernel
theorem dX12_stepTold_229 : decode cX12_stepTold 229 = .ok (.aload_n 0, 1) := by decide +kernel
theorem dX12_stepTold_230 : decode cX12_stepTold 230 = .ok (.getfield 227, 3) := by decide +kernel
theorem dX12_stepTold_233 : decode cX12_stepTold 233 = .ok (.iload 4, 2) := by decide +kernel
theorem dX12_stepTold_235 : decode cX12_stepTold 235 = .ok (.iadd, 1) := by decide +kernel
theorem dX12_stepTold_236 : decode cX12_stepTold 236 = .ok (.iload_n 3, 1) := by decide +kernel
theorem dX12_stepTold_237 : decode cX12_stepTold 237 = .ok (.iastore, 1) := by decide +kernel
theorem dX12_stepTold_238 : decode cX12_stepTold 238 = .ok (.iinc 4 1, 3) := by decide +kernel
theorem dX12_stepTold_241 : decode cX12_stepTold 241 = .ok (.goto (-22), 3) := by decide +kernel
theorem dX12_stepTold_244 : decode cX12_stepTold 244 = .ok (.aload_n 0, 1) := by decide +kernel
theorem dX12_stepTold_245 : decode cX12_stepTold 245 = .ok (.dup, 1) := by decide +kernel
theorem dX12_stepTold_246 : decode cX12_stepTold 246 = .ok (.getfield 227, 3) := by decide +kernel
theorem dX12_stepTold_249 : decode cX12_stepTold 249 = .ok (.iload_n 2, 1) := by decide +kernel
theorem dX12_stepTold_250 : decode cX12_stepTold 250 = .ok (.iadd, 1) := by decide +kernel
theorem dX12_stepTold_251 : decode cX12_stepTold 251 = .ok (.putfield 227, 3) := by decide +kernel
theorem dX12_stepTold_254 : decode cX12_stepTold 254 = .ok (.aload_n 0, 1) := by decide +kernel
theorem dX12_stepTold_255 : decode cX12_stepTold 255 = .ok (.iconst 1, 1) := by decide +kernel
theorem dX12_stepTold_256 : decode cX12_stepTold 256 = .ok (.putfield 254, 3) := by decide +kernel
theorem dX12_stepTold_259 : decode cX12_stepTold 259 = .ok (.aload_n 0, 1) := by decide +kernel
theorem dX12_stepTold_260 : decode cX12_stepTold 260 = .ok (.dup, 1) := by decide +kernel
theorem dX12_stepTold_261 : decode cX12_stepTold 261 = .ok (.getfield 173, 3) := by decide +kernel
theorem dX12_stepTold_264 : decode cX12_stepTold 264 = .ok (.iconst 1, 1) := by decide +kernel
theorem dX12_stepTold_265 : decode cX12_stepTold 265 = .ok (.iadd, 1) := by decide +kernel
theorem dX12_stepTold_266 : decode cX12_stepTold 266 = .ok (.putfield 173, 3) := by decide +kernel
theorem dX12_stepTold_269 : decode cX12_stepTold 269 = .ok (.return_, 1) := by decide +kernel
theorem myX12_timesTold : MI yX12_timesTold cX12_timesTold 1 (some FieldType.int) 0 := ⟨kAW (v_5_10 (List.mem_of_getElem? (i := 2) rfl)) rfl, kAW (v_0_0 (List.mem_of_getElem? (i := 13) rfl)) rfl, kAW (v_5_10 (List.mem_of_getElem? (i := 1) rfl)) rfl, kAW (tp_t2 (List.mem_of_getElem? (i := 12) rfl)) rfl, by decide, by decide, by decide +kernel⟩
theorem myX12_stepHere : MI yX12_stepHere cX12_stepHere 2 (some FieldType.int) 0 := ⟨kAW (v_5_10 (List.mem_of_getElem? (i := 8) rfl)) rfl, kAW (v_0_0 (List.mem_of_getElem? (i := 13) rfl)) rfl, kAW (v_5_10 (List.mem_of_getElem? (i := 7) rfl)) rfl, kAW (tp_t2 (List.mem_of_getElem? (i := 13) rfl)) rfl, by decide, by decide, by decide +kernel⟩
theorem FP_X12_254 : FPX RX12 254 12 86 20 .boolean := ⟨⟨RX12, TX12, tyX12, rfl, wX12, by decide, kAW (v_4_4 (List.mem_of_getElem? (i := 1) rfl)) rfl, rfl, tyX12_ok, nmX12, by decide +kernel, rfl⟩, by decide +kernel⟩
theorem FG_X12_251 : FG RX12 251 12 86 19 := ⟨RX12, TX12, rfl, wX12, by decide, kAW (v_4_4 (List.mem_of_getElem? (i := 0) rfl)) rfl, rfl⟩
theorem FG_X12_43 : FG RX12 43 12 86 21 := ⟨RX12, TX12, rfl, wX12, by decide, kAW (v_4_4 (List.mem_of_getElem? (i := 2) rfl)) rfl, rfl⟩
theorem FG_X12_46 : FG RX12 46 12 86 22 := ⟨RX12, TX12, rfl, wX12, by decide, kAW (v_4_4 (List.mem_of_getElem? (i := 3) rfl)) rfl, rfl⟩
theorem FG_X12_49 : FG RX12 49 12 86 23 := ⟨RX12, TX12, rfl, wX12, by decide, kAW (v_4_4 (List.mem_of_getElem? (i := 4) rfl)) rfl, rfl⟩
theorem FP_X12_251 : FPX RX12 251 12 86 19 .int := ⟨⟨RX12, TX12, tyX12, rfl, wX12, by decide, kAW (v_4_4 (List.mem_of_getElem? (i := 0) rfl)) rfl, rfl, tyX12_ok, nmX12, by decide +kernel, rfl⟩, by decide +kernel⟩
theorem FG_X12_254 : FG RX12 254 12 86 20 := ⟨RX12, TX12, rfl, wX12, by decide, kAW (v_4_4 (List.mem_of_getElem? (i := 1) rfl)) rfl, rfl⟩
theorem myX12_repeats : MI yX12_repeats cX12_repeats 6 none 3 := ⟨kAW (v_5_9 (List.mem_of_getElem? (i := 10) rfl)) rfl, kAW (v_0_0 (List.mem_of_getElem? (i := 13) rfl)) rfl, kAW (v_5_9 (List.mem_of_getElem? (i := 9) rfl)) rfl, kAW (tp_t2 (List.mem_of_getElem? (i := 10) rfl)) rfl, by decide, by decide, by decide +kernel⟩
set_option maxRecDepth 100000 in
set_option maxHeartbeats 4000000 in
theorem a_X12_stepTold (l : Launch) (D : va_G) (cA : Nat → ClassId) (ad : Nat → Nat) (g0 : Nat → va_E)  (pl : Int32) (en : Int32) (bd : Int32) (nm : Int32) (om : Int32)  (hSh : Shp ad cA g0) (hG : Rng g0) (h_pl : fld g0 129 3 = .int pl) (h_en : fld g0 129 4 = .int en) (h_bd : fld g0 129 5 = .int bd) (h_nm : fld g0 129 18 = .int nm) (h_om : fld g0 129 19 = .int om) (pl0 : 0 ≤ pl.toInt) (pl1 : pl.toInt < en.toInt) (en1 : en.toInt ≤ 240) (bd0 : bd.toInt = 0) (hT : TB g0) (hO : OA (arI g0 139) (arI g0 140) (arI g0 141) nm.toInt om.toInt) : CT l NN ad cA D yX12_stepTold cX12_stepTold 5 none (3, 66) [.ref (ad 129)] g0 (fun v g' => ∃ (p9 : Int32) (b9 : Int32) (n9 : Int32) (o9 : Int32), v = none ∧ Shp ad cA g' ∧ Rng g' ∧ FR (fun i k => (i = 129 ∧ (k = 3 ∨ k = 5 ∨ k = 18 ∨ k = 19 ∨ k = 20)) ∨ i = 137 ∨ i = 139 ∨ i = 140 ∨ i = 141) g0 g' ∧ fld g' 129 3 = .int p9 ∧ fld g' 129 5 = .int b9 ∧ fld g' 129 18 = .int n9 ∧ fld g' 129 19 = .int o9 ∧ (pl.toInt ≤ p9.toInt) ∧ (p9.toInt ≤ en.toInt) ∧ (b9.toInt = 0 → pl.toInt < p9.toInt) ∧ (b9.toInt = 0 → OA (arI g' 139) (arI g' 140) (arI g' 141) n9.toInt o9.toInt) ∧ (b9.toInt ≤ 0)) := by
  refine q_enterV (by decide) (Nat.le_of_ble_eq_true rfl) (fun K H locs ls _ _ hM hW0 hR hC hE hl => ?_)
  have hl : lv_has ls 5 [(0, .ref (ad 129))] := hl
  have hW : WS ad cA (fun i k => (i = 129 ∧ (k = 3 ∨ k = 5 ∨ k = 18 ∨ k = 19 ∨ k = 20)) ∨ i = 137 ∨ i = 139 ∨ i = 140 ∨ i = 141) g0 K g0 H locs := ⟨hW0, hSh, FR.rf⟩
  have b_pl := hG.f h_pl rF_129_3 (by decide)
  have b_en := hG.f h_en rF_129_4 (by decide)
  have b_bd := hG.f h_bd rF_129_5 (by decide)
  have b_nm := hG.f h_nm rF_129_18 (by decide)
  have b_om := hG.f h_om rF_129_19 (by decide)
  have f8135 : fld g0 129 3 = .int pl := h_pl
  have f8136 : fld g0 129 5 = .int bd := h_bd
  have f8137 : fld g0 129 18 = .int nm := h_nm
  have f8138 : fld g0 129 19 = .int om := h_om
  refine q_aload_n hM dX12_stepTold_0 (lv_at hl 0 rfl) ?_
  refine w_get (v := .int pl) hM hW FG_X12_173 lb_129 f8135 dX12_stepTold_1 ?_
  have bpl := hG.f f8135 rF_129_3 (by decide)
  refine q_istore_n (lv9 := [(1, .int pl), (0, .ref (ad 129))]) hM dX12_stepTold_4 hl (by decide) rfl (fun ls hl => ?_)
  refine q_aload_n hM dX12_stepTold_5 (lv_at hl 1 rfl) ?_
  refine q_callV (As := []) (rest := []) hM hW.1 hR hC myX12_here (kAW (v_5_9 (List.mem_of_getElem? (i := 3) rfl)) rfl) (rfl : vwCl[12]? = some (RX12, TX12, 86)) rfl lb_129.1 (shO hW.2.1 lb_129) (a_X12_here _ _ cA ad g0 pl en hW.2.1 hG f8135 ((hW.2.2.1 129 4 (by omega)).trans h_en) (by  omega) (by  omega)) ⟨by decide, by decide⟩ rfl rfl hl.1 (Nat.le_of_ble_eq_true rfl) dX12_stepTold_6 (fun v g8140 H locs hp hW1 => ?_)
  obtain ⟨r8139, rfl, hr8139, rfl⟩ := hp
  have hW : WS ad cA (fun i k => (i = 129 ∧ (k = 3 ∨ k = 5 ∨ k = 18 ∨ k = 19 ∨ k = 20)) ∨ i = 137 ∨ i = 139 ∨ i = 140 ∨ i = 141) g0 K g0 H locs := ⟨hW1, hW.2.1, hW.2.2⟩
  rw [hW.2.2.2.1 130 (by omega)] at hr8139
  refine q_bipush (v := (41 : Int32)) hM dX12_stepTold_9 (by decide) ?_
  refine q_icmp_ne (tgt := 80) hM dX12_stepTold_11 (by decide) (rfl : r8139.toInt = r8139.toInt) (kc_41 : (41 : Int32).toInt = 41) (fun h11 => ?_) (fun h11 => ?_)
  · refine q_aload_n hM dX12_stepTold_80 (lv_at hl 1 rfl) ?_
    refine q_callV (As := []) (rest := []) hM hW.1 hR hC myX12_timesTold (kAW (v_5_9 (List.mem_of_getElem? (i := 15) rfl)) rfl) (rfl : vwCl[12]? = some (RX12, TX12, 86)) rfl lb_129.1 (shO hW.2.1 lb_129) (a_X12_timesTold _ _ cA ad g0 pl en hW.2.1 hG f8135 ((hW.2.2.1 129 4 (by omega)).trans h_en) (by  omega) (by  omega) (by  omega) (by  omega)) ⟨by decide, by decide⟩ rfl rfl hl.1 (Nat.le_of_ble_eq_true rfl) dX12_stepTold_81 (fun v g8147 H locs hp hW1 => ?_)
    obtain ⟨v8142, r8143, rfl, hs1, hG, hf1, q8144, e8145, e8146, hr8143⟩ := hp
    have f8148 : arI g8147 139 = arI g0 139 := (hf1.2.1 139 (by omega)).trans (rfl : arI g0 139 = arI g0 139)
    have f8149 : arI g8147 140 = arI g0 140 := (hf1.2.1 140 (by omega)).trans (rfl : arI g0 140 = arI g0 140)
    have f8150 : arI g8147 141 = arI g0 141 := (hf1.2.1 141 (by omega)).trans (rfl : arI g0 141 = arI g0 141)
    have f8151 : fld g8147 129 5 = .int bd := (hf1.1 129 5 (by omega)).trans f8136
    have f8152 : fld g8147 129 18 = .int nm := (hf1.1 129 18 (by omega)).trans f8137
    have f8153 : fld g8147 129 19 = .int om := (hf1.1 129 19 (by omega)).trans f8138
    have hW : WS ad cA (fun i k => (i = 129 ∧ (k = 3 ∨ k = 5 ∨ k = 18 ∨ k = 19 ∨ k = 20)) ∨ i = 137 ∨ i = 139 ∨ i = 140 ∨ i = 141) g0 K g8147 H locs := ⟨hW1, hs1, hW.2.2.tr hf1 (fun i k h => (Or.inl (by omega)))⟩
    refine q_istore_n (lv9 := [(2, .int r8143), (1, .int pl), (0, .ref (ad 129))]) hM dX12_stepTold_84 hl (by decide) rfl (fun ls hl => ?_)
    refine q_aload_n hM dX12_stepTold_85 (lv_at hl 2 rfl) ?_
    refine q_callV (As := []) (rest := []) hM hW.1 hR hC myX12_here (kAW (v_5_9 (List.mem_of_getElem? (i := 3) rfl)) rfl) (rfl : vwCl[12]? = some (RX12, TX12, 86)) rfl lb_129.1 (shO hW.2.1 lb_129) (a_X12_here _ _ cA ad g8147 v8142 en hW.2.1 hG q8144 ((hW.2.2.1 129 4 (by omega)).trans h_en) (by  omega) (by  omega)) ⟨by decide, by decide⟩ rfl rfl hl.1 (Nat.le_of_ble_eq_true rfl) dX12_stepTold_86 (fun v g8155 H locs hp hW1 => ?_)
    obtain ⟨r8154, rfl, hr8154, rfl⟩ := hp
    have hW : WS ad cA (fun i k => (i = 129 ∧ (k = 3 ∨ k = 5 ∨ k = 18 ∨ k = 19 ∨ k = 20)) ∨ i = 137 ∨ i = 139 ∨ i = 140 ∨ i = 141) g0 K g8147 H locs := ⟨hW1, hW.2.1, hW.2.2⟩
    rw [hW.2.2.2.1 130 (by omega)] at hr8154
    refine q_bipush (v := (40 : Int32)) hM dX12_stepTold_89 (by decide) ?_
    refine q_icmp_ne (tgt := 178) hM dX12_stepTold_91 (by decide) (rfl : r8154.toInt = r8154.toInt) (kc_40 : (40 : Int32).toInt = 40) (fun h91 => ?_) (fun h91 => ?_)
    · refine q_aload_n hM dX12_stepTold_178 (lv_at hl 2 rfl) ?_
      refine q_callV (As := []) (rest := []) hM hW.1 hR hC myX12_stepHere (kAW (v_5_10 (List.mem_of_getElem? (i := 5) rfl)) rfl) (rfl : vwCl[12]? = some (RX12, TX12, 86)) rfl lb_129.1 (shO hW.2.1 lb_129) (a_X12_stepHere _ _ cA ad g8147 v8142 en bd hW.2.1 hG q8144 ((hW.2.2.1 129 4 (by omega)).trans h_en) f8151 (by  omega) (by  omega) (by  omega)) ⟨by decide, by decide⟩ rfl rfl hl.1 (Nat.le_of_ble_eq_true rfl) dX12_stepTold_179 (fun v g8166 H locs hp hW1 => ?_)
      obtain ⟨v8157, v8158, r8159, rfl, hs1, hG, hf1, q8160, q8161, e8162, e8163, e8164, e8165, hr8159⟩ := hp
      have f8167 : arI g8166 139 = arI g0 139 := (hf1.2.1 139 (by omega)).trans f8148
      have f8168 : arI g8166 140 = arI g0 140 := (hf1.2.1 140 (by omega)).trans f8149
      have f8169 : arI g8166 141 = arI g0 141 := (hf1.2.1 141 (by omega)).trans f8150
      have f8170 : fld g8166 129 18 = .int nm := (hf1.1 129 18 (by omega)).trans f8152
      have f8171 : fld g8166 129 19 = .int om := (hf1.1 129 19 (by omega)).trans f8153
      have hW : WS ad cA (fun i k => (i = 129 ∧ (k = 3 ∨ k = 5 ∨ k = 18 ∨ k = 19 ∨ k = 20)) ∨ i = 137 ∨ i = 139 ∨ i = 140 ∨ i = 141) g0 K g8166 H locs := ⟨hW1, hs1, hW.2.2.tr hf1 (fun i k h => (Or.inl (by omega)))⟩
      refine q_istore_n (lv9 := [(3, .int r8159), (2, .int r8143), (1, .int pl), (0, .ref (ad 129))]) hM dX12_stepTold_182 hl (by decide) rfl (fun ls hl => ?_)
      refine q_aload_n hM dX12_stepTold_183 (lv_at hl 3 rfl) ?_
      refine q_callV (As := []) (rest := []) hM hW.1 hR hC myX12_isGood (kAW (v_5_8 (List.mem_of_getElem? (i := 11) rfl)) rfl) (rfl : vwCl[12]? = some (RX12, TX12, 86)) rfl lb_129.1 (shO hW.2.1 lb_129) (a_X12_isGood _ _ cA ad g8166 v8158 hW.2.1 hG q8161) ⟨by decide, by decide⟩ rfl rfl hl.1 (Nat.le_of_ble_eq_true rfl) dX12_stepTold_184 (fun v g8173 H locs hp hW1 => ?_)
      obtain ⟨r8172, rfl, hr8172, rfl⟩ := hp
      have hW : WS ad cA (fun i k => (i = 129 ∧ (k = 3 ∨ k = 5 ∨ k = 18 ∨ k = 19 ∨ k = 20)) ∨ i = 137 ∨ i = 139 ∨ i = 140 ∨ i = 141) g0 K g8166 H locs := ⟨hW1, hW.2.1, hW.2.2⟩
      refine q_if_eq (tgt := 208) hM dX12_stepTold_187 (by decide) (rfl : r8172.toInt = r8172.toInt) (fun h187 => ?_) (fun h187 => ?_)
      · refine q_aload_n hM dX12_stepTold_208 (lv_at hl 3 rfl) ?_
        refine q_callV (As := []) (rest := []) hM hW.1 hR hC myX12_isGood (kAW (v_5_8 (List.mem_of_getElem? (i := 11) rfl)) rfl) (rfl : vwCl[12]? = some (RX12, TX12, 86)) rfl lb_129.1 (shO hW.2.1 lb_129) (a_X12_isGood _ _ cA ad g8166 v8158 hW.2.1 hG q8161) ⟨by decide, by decide⟩ rfl rfl hl.1 (Nat.le_of_ble_eq_true rfl) dX12_stepTold_209 (fun v g8176 H locs hp hW1 => ?_)
        obtain ⟨r8175, rfl, hr8175, rfl⟩ := hp
        have hW : WS ad cA (fun i k => (i = 129 ∧ (k = 3 ∨ k = 5 ∨ k = 18 ∨ k = 19 ∨ k = 20)) ∨ i = 137 ∨ i = 139 ∨ i = 140 ∨ i = 141) g0 K g8166 H locs := ⟨hW1, hW.2.1, hW.2.2⟩
        refine q_if_ne (tgt := 216) hM dX12_stepTold_212 (by decide) (rfl : r8175.toInt = r8175.toInt) (fun h212 => ?_) (fun h212 => ?_)
        · refine q_iconst (v := (0 : Int32)) hM dX12_stepTold_216 (by decide) ?_
          refine q_istore (lv9 := [(4, .int (0 : Int32)), (3, .int r8159), (2, .int r8143), (1, .int pl), (0, .ref (ad 129))]) hM dX12_stepTold_217 hl (by decide) rfl (fun ls hl => ?_)
          have L219 : ∀ (fu219 : Nat) (w219_4 : Int32) (g9 : Nat → va_E) (H : Heap) (locs : List Loc) (ls : Array Slot), (r8143.toInt - w219_4.toInt + 1).toNat < fu219 → (Rng g9) → (0 ≤ w219_4.toInt) → (fld g9 129 3 = .int v8157) → (fld g9 129 5 = .int v8158) → (fld g9 129 18 = .int nm) → (fld g9 129 19 = .int om) → (arI g9 139 = arI g0 139) → (arI g9 140 = arI g0 140) → (arI g9 141 = arI g0 141) → lv_has ls 5 [(0, .ref (ad 129)), (1, .int pl), (2, .int r8143), (3, .int r8159), (4, .int w219_4)] → WS ad cA (fun i k => (i = 129 ∧ (k = 3 ∨ k = 5 ∨ k = 18 ∨ k = 19 ∨ k = 20)) ∨ i = 137 ∨ i = 139 ∨ i = 140 ∨ i = 141) g0 K g9 H locs → XX K 0 0 H locs 219 ls [] := by
            intro fu219
            induction fu219 with
            | zero => intro w219_4 g9 H locs ls h0; omega
            | succ fu219 ih219 =>
              intro w219_4 g9 H locs ls hm219 i219_0 i219_1 c219_129_3 c219_129_5 c219_129_18 c219_129_19 d219_139 d219_140 d219_141 hl hW
              have hG := i219_0
              have := i_rng r8143
              refine q_iload hM dX12_stepTold_219 (lv_at hl 4 rfl) ?_
              refine q_iload_n hM dX12_stepTold_221 (lv_at hl 2 rfl) ?_
              refine q_icmp_ge (tgt := 244) hM dX12_stepTold_222 (by decide) (rfl : w219_4.toInt = w219_4.toInt) (rfl : r8143.toInt = r8143.toInt) (fun h222 => ?_) (fun h222 => ?_)
              · refine q_aload_n hM dX12_stepTold_244 (lv_at hl 0 rfl) ?_
                refine q_dup hM dX12_stepTold_245 rfl ?_
                refine w_get (v := .int nm) hM hW FG_X12_227 lb_129 c219_129_18 dX12_stepTold_246 ?_
                have bnm := hG.f c219_129_18 rF_129_18 (by decide)
                refine q_iload_n hM dX12_stepTold_249 (lv_at hl 2 rfl) ?_
                refine q_iadd hM dX12_stepTold_250 (fun z8180 hz8180 => ?_)
                first | have tz8180 := i_addT hz8180 (rfl : nm.toInt = nm.toInt) (rfl : r8143.toInt = r8143.toInt) (by omega) (by omega) | skip
                refine w_put hM hW FP_X12_227 lb_129 (by omega) (Or.inl ⟨_, rfl⟩) rfl rfl dX12_stepTold_251 (fun g8181 H locs hW e1 e2 => ?_)
                have f8182 : fld g8181 129 3 = .int v8157 := (e2.1 129 3 (by unfold Only; omega)).trans c219_129_3
                have f8183 : fld g8181 129 5 = .int v8158 := (e2.1 129 5 (by unfold Only; omega)).trans c219_129_5
                have f8184 : fld g8181 129 19 = .int om := (e2.1 129 19 (by unfold Only; omega)).trans c219_129_19
                have f8185 : arI g8181 139 = arI g0 139 := (e2.2.1 139 (by unfold Only; omega)).trans d219_139
                have f8186 : arI g8181 140 = arI g0 140 := (e2.2.1 140 (by unfold Only; omega)).trans d219_140
                have f8187 : arI g8181 141 = arI g0 141 := (e2.2.1 141 (by unfold Only; omega)).trans d219_141
                have f8188 : fld g8181 129 18 = .int z8180 := e1
                have hG := hG.put e1 e2 rF_129_18 (by decide) (by have := i_rng z8180; omega) (by have := i_rng z8180; omega)
                refine q_aload_n hM dX12_stepTold_254 (lv_at hl 0 rfl) ?_
                refine q_iconst (v := (1 : Int32)) hM dX12_stepTold_255 (by decide) ?_
                refine w_put hM hW FP_X12_254 lb_129 (by omega) (Or.inl ⟨_, rfl⟩) rfl rfl dX12_stepTold_256 (fun g8189 H locs hW e1 e2 => ?_)
                have f8190 : fld g8189 129 3 = .int v8157 := (e2.1 129 3 (by unfold Only; omega)).trans f8182
                have f8191 : fld g8189 129 5 = .int v8158 := (e2.1 129 5 (by unfold Only; omega)).trans f8183
                have f8192 : fld g8189 129 19 = .int om := (e2.1 129 19 (by unfold Only; omega)).trans f8184
                have f8193 : arI g8189 139 = arI g0 139 := (e2.2.1 139 (by unfold Only; omega)).trans f8185
                have f8194 : arI g8189 140 = arI g0 140 := (e2.2.1 140 (by unfold Only; omega)).trans f8186
                have f8195 : arI g8189 141 = arI g0 141 := (e2.2.1 141 (by unfold Only; omega)).trans f8187
                have f8196 : fld g8189 129 18 = .int z8180 := (e2.1 129 18 (by unfold Only; omega)).trans f8188
                have f8197 : fld g8189 129 20 = .int (1 : Int32) := e1
                have hG := hG.put e1 e2 (rfl : rF 129 20 = (-2147483648, 2147483647)) (by decide) (by have := kc_1; have := i_rng (1 : Int32); omega) (by have := kc_1; have := i_rng (1 : Int32); omega)
                refine q_aload_n hM dX12_stepTold_259 (lv_at hl 0 rfl) ?_
                refine q_dup hM dX12_stepTold_260 rfl ?_
                refine w_get (v := .int v8157) hM hW FG_X12_173 lb_129 f8190 dX12_stepTold_261 ?_
                have bv8157 := hG.f f8190 rF_129_3 (by decide)
                refine q_iconst (v := (1 : Int32)) hM dX12_stepTold_264 (by decide) ?_
                refine q_iadd hM dX12_stepTold_265 (fun z8198 hz8198 => ?_)
                first | have tz8198 := i_addT hz8198 (rfl : v8157.toInt = v8157.toInt) (kc_1 : (1 : Int32).toInt = 1) (by omega) (by omega) | skip
                refine w_put hM hW FP_X12_173 lb_129 (by omega) (Or.inl ⟨_, rfl⟩) rfl rfl dX12_stepTold_266 (fun g8199 H locs hW e1 e2 => ?_)
                have f8200 : fld g8199 129 5 = .int v8158 := (e2.1 129 5 (by unfold Only; omega)).trans f8191
                have f8201 : fld g8199 129 19 = .int om := (e2.1 129 19 (by unfold Only; omega)).trans f8192
                have f8202 : arI g8199 139 = arI g0 139 := (e2.2.1 139 (by unfold Only; omega)).trans f8193
                have f8203 : arI g8199 140 = arI g0 140 := (e2.2.1 140 (by unfold Only; omega)).trans f8194
                have f8204 : arI g8199 141 = arI g0 141 := (e2.2.1 141 (by unfold Only; omega)).trans f8195
                have f8205 : fld g8199 129 18 = .int z8180 := (e2.1 129 18 (by unfold Only; omega)).trans f8196
                have f8206 : fld g8199 129 20 = .int (1 : Int32) := (e2.1 129 20 (by unfold Only; omega)).trans f8197
                have f8207 : fld g8199 129 3 = .int z8198 := e1
                have hG := hG.put e1 e2 rF_129_3 (by decide) (by have := i_rng z8198; omega) (by have := i_rng z8198; omega)
                exact hE _ _ _ _ _ hW.1 ⟨z8198, v8158, z8180, om, rfl, hW.2.1, hG, hW.2.2, f8207, f8200, f8205, f8201, (by omega), (by omega), (by omega), (fun _ => by rw [f8202, f8203, f8204]; exact OA_mono hO (by omega) (by omega)), (by omega)⟩ dX12_stepTold_269
              · refine q_aload_n hM dX12_stepTold_225 (lv_at hl 0 rfl) ?_
                refine w_get (v := .ref (ad 137)) hM hW FG_X12_37 lb_129 (rf_129_16 hW.2.1) dX12_stepTold_226 ?_
                refine q_aload_n hM dX12_stepTold_229 (lv_at hl 0 rfl) ?_
                refine w_get (v := .int nm) hM hW FG_X12_227 lb_129 c219_129_18 dX12_stepTold_230 ?_
                have bnm := hG.f c219_129_18 rF_129_18 (by decide)
                refine q_iload hM dX12_stepTold_233 (lv_at hl 4 rfl) ?_
                refine q_iadd hM dX12_stepTold_235 (fun z8209 hz8209 => ?_)
                first | have tz8209 := i_addT hz8209 (rfl : nm.toInt = nm.toInt) (rfl : w219_4.toInt = w219_4.toInt) (by omega) (by omega) | skip
                refine q_iload_n hM dX12_stepTold_236 (lv_at hl 3 rfl) ?_
                refine w_iast hM hW lb_137 (by omega) (i_in (by omega) (by omega)) dX12_stepTold_237 (fun g8210 H locs hW e1 e2 => ?_)
                have f8211 : fld g8210 129 3 = .int v8157 := (e2.1 129 3 (by unfold Only; omega)).trans c219_129_3
                have f8212 : fld g8210 129 5 = .int v8158 := (e2.1 129 5 (by unfold Only; omega)).trans c219_129_5
                have f8213 : fld g8210 129 18 = .int nm := (e2.1 129 18 (by unfold Only; omega)).trans c219_129_18
                have f8214 : fld g8210 129 19 = .int om := (e2.1 129 19 (by unfold Only; omega)).trans c219_129_19
                have f8215 : arI g8210 139 = arI g0 139 := (e2.2.1 139 (by unfold Only; omega)).trans d219_139
                have f8216 : arI g8210 140 = arI g0 140 := (e2.2.1 140 (by unfold Only; omega)).trans d219_140
                have f8217 : arI g8210 141 = arI g0 141 := (e2.2.1 141 (by unfold Only; omega)).trans d219_141
                have hG := hG.st e1 e2 rA_137 (by have := i_rng r8159; omega) (by have := i_rng r8159; omega)
                refine q_iinc (lv9 := fun z8218 => [(4, .int z8218), (0, .ref (ad 129)), (1, .int pl), (2, .int r8143), (3, .int r8159)]) hM dX12_stepTold_238 hl (kq := 4) rfl (by decide) (fun _ => rfl) (fun z8218 ls hz8218 hl => ?_)
                first | have tz8218 := i_addT hz8218 (rfl : w219_4.toInt = w219_4.toInt) (kc_1 : (Int32.ofInt 1).toInt = 1) (by omega) (by omega) | skip
                refine q_goto (tgt := 219) hM dX12_stepTold_241 (by decide) ?_
                exact ih219 z8218 _ _ _ _ (by omega) hG (by omega) f8211 f8212 f8213 f8214 f8215 f8216 f8217 (lv_sub hl [1, 2, 3, 4, 0] rfl) hW
          have := kc_0
          exact L219 _ (0 : Int32) _ _ _ _ (Nat.lt_succ_self _) hG (by omega) q8160 q8161 f8170 f8171 f8167 f8168 f8169 (lv_sub hl [4, 3, 2, 1, 0] rfl) hW
        · exact hE _ _ _ _ _ hW.1 ⟨v8157, v8158, nm, om, rfl, hW.2.1, hG, hW.2.2, q8160, q8161, f8170, f8171, (by omega), (by omega), (by omega), (fun _ => by rw [f8167, f8168, f8169]; exact OA_mono hO (by omega) (by omega)), (by omega)⟩ dX12_stepTold_215
      · refine q_aload_n hM dX12_stepTold_190 (lv_at hl 3 rfl) ?_
        refine w_get (v := .int nm) hM hW FG_X12_227 lb_129 f8170 dX12_stepTold_191 ?_
        have bnm := hG.f f8170 rF_129_18 (by decide)
        refine q_iload_n hM dX12_stepTold_194 (lv_at hl 1 rfl) ?_
        refine q_iadd hM dX12_stepTold_195 (fun z8221 hz8221 => ?_)
        first | have tz8221 := i_addT hz8221 (rfl : nm.toInt = nm.toInt) (rfl : r8143.toInt = r8143.toInt) (by omega) (by omega) | skip
        refine q_bipush (v := (48 : Int32)) hM dX12_stepTold_196 (by decide) ?_
        refine q_icmp_le (tgt := 208) hM dX12_stepTold_198 (by decide) (rfl : z8221.toInt = z8221.toInt) (kc_48 : (48 : Int32).toInt = 48) (fun h198 => ?_) (fun h198 => ?_)
        · refine q_aload_n hM dX12_stepTold_208 (lv_at hl 3 rfl) ?_
          refine q_callV (As := []) (rest := []) hM hW.1 hR hC myX12_isGood (kAW (v_5_8 (List.mem_of_getElem? (i := 11) rfl)) rfl) (rfl : vwCl[12]? = some (RX12, TX12, 86)) rfl lb_129.1 (shO hW.2.1 lb_129) (a_X12_isGood _ _ cA ad g8166 v8158 hW.2.1 hG q8161) ⟨by decide, by decide⟩ rfl rfl hl.1 (Nat.le_of_ble_eq_true rfl) dX12_stepTold_209 (fun v g8224 H locs hp hW1 => ?_)
          obtain ⟨r8223, rfl, hr8223, rfl⟩ := hp
          have hW : WS ad cA (fun i k => (i = 129 ∧ (k = 3 ∨ k = 5 ∨ k = 18 ∨ k = 19 ∨ k = 20)) ∨ i = 137 ∨ i = 139 ∨ i = 140 ∨ i = 141) g0 K g8166 H locs := ⟨hW1, hW.2.1, hW.2.2⟩
          refine q_if_ne (tgt := 216) hM dX12_stepTold_212 (by decide) (rfl : r8223.toInt = r8223.toInt) (fun h212 => ?_) (fun h212 => ?_)
          · refine q_iconst (v := (0 : Int32)) hM dX12_stepTold_216 (by decide) ?_
            refine q_istore (lv9 := [(4, .int (0 : Int32)), (3, .int r8159), (2, .int r8143), (1, .int pl), (0, .ref (ad 129))]) hM dX12_stepTold_217 hl (by decide) rfl (fun ls hl => ?_)
            have L219 : ∀ (fu219 : Nat) (w219_4 : Int32) (g9 : Nat → va_E) (H : Heap) (locs : List Loc) (ls : Array Slot), (r8143.toInt - w219_4.toInt + 1).toNat < fu219 → (Rng g9) → (0 ≤ w219_4.toInt) → (fld g9 129 3 = .int v8157) → (fld g9 129 5 = .int v8158) → (fld g9 129 18 = .int nm) → (fld g9 129 19 = .int om) → (arI g9 139 = arI g0 139) → (arI g9 140 = arI g0 140) → (arI g9 141 = arI g0 141) → lv_has ls 5 [(0, .ref (ad 129)), (1, .int pl), (2, .int r8143), (3, .int r8159), (4, .int w219_4)] → WS ad cA (fun i k => (i = 129 ∧ (k = 3 ∨ k = 5 ∨ k = 18 ∨ k = 19 ∨ k = 20)) ∨ i = 137 ∨ i = 139 ∨ i = 140 ∨ i = 141) g0 K g9 H locs → XX K 0 0 H locs 219 ls [] := by
              intro fu219
              induction fu219 with
              | zero => intro w219_4 g9 H locs ls h0; omega
              | succ fu219 ih219 =>
                intro w219_4 g9 H locs ls hm219 i219_0 i219_1 c219_129_3 c219_129_5 c219_129_18 c219_129_19 d219_139 d219_140 d219_141 hl hW
                have hG := i219_0
                have := i_rng r8143
                refine q_iload hM dX12_stepTold_219 (lv_at hl 4 rfl) ?_
                refine q_iload_n hM dX12_stepTold_221 (lv_at hl 2 rfl) ?_
                refine q_icmp_ge (tgt := 244) hM dX12_stepTold_222 (by decide) (rfl : w219_4.toInt = w219_4.toInt) (rfl : r8143.toInt = r8143.toInt) (fun h222 => ?_) (fun h222 => ?_)
                · refine q_aload_n hM dX12_stepTold_244 (lv_at hl 0 rfl) ?_
                  refine q_dup hM dX12_stepTold_245 rfl ?_
                  refine w_get (v := .int nm) hM hW FG_X12_227 lb_129 c219_129_18 dX12_stepTold_246 ?_
                  have bnm := hG.f c219_129_18 rF_129_18 (by decide)
                  refine q_iload_n hM dX12_stepTold_249 (lv_at hl 2 rfl) ?_
                  refine q_iadd hM dX12_stepTold_250 (fun z8228 hz8228 => ?_)
                  first | have tz8228 := i_addT hz8228 (rfl : nm.toInt = nm.toInt) (rfl : r8143.toInt = r8143.toInt) (by omega) (by omega) | skip
                  refine w_put hM hW FP_X12_227 lb_129 (by omega) (Or.inl ⟨_, rfl⟩) rfl rfl dX12_stepTold_251 (fun g8229 H locs hW e1 e2 => ?_)
                  have f8230 : fld g8229 129 3 = .int v8157 := (e2.1 129 3 (by unfold Only; omega)).trans c219_129_3
                  have f8231 : fld g8229 129 5 = .int v8158 := (e2.1 129 5 (by unfold Only; omega)).trans c219_129_5
                  have f8232 : fld g8229 129 19 = .int om := (e2.1 129 19 (by unfold Only; omega)).trans c219_129_19
                  have f8233 : arI g8229 139 = arI g0 139 := (e2.2.1 139 (by unfold Only; omega)).trans d219_139
                  have f8234 : arI g8229 140 = arI g0 140 := (e2.2.1 140 (by unfold Only; omega)).trans d219_140
                  have f8235 : arI g8229 141 = arI g0 141 := (e2.2.1 141 (by unfold Only; omega)).trans d219_141
                  have f8236 : fld g8229 129 18 = .int z8228 := e1
                  have hG := hG.put e1 e2 rF_129_18 (by decide) (by have := i_rng z8228; omega) (by have := i_rng z8228; omega)
                  refine q_aload_n hM dX12_stepTold_254 (lv_at hl 0 rfl) ?_
                  refine q_iconst (v := (1 : Int32)) hM dX12_stepTold_255 (by decide) ?_
                  refine w_put hM hW FP_X12_254 lb_129 (by omega) (Or.inl ⟨_, rfl⟩) rfl rfl dX12_stepTold_256 (fun g8237 H locs hW e1 e2 => ?_)
                  have f8238 : fld g8237 129 3 = .int v8157 := (e2.1 129 3 (by unfold Only; omega)).trans f8230
                  have f8239 : fld g8237 129 5 = .int v8158 := (e2.1 129 5 (by unfold Only; omega)).trans f8231
                  have f8240 : fld g8237 129 19 = .int om := (e2.1 129 19 (by unfold Only; omega)).trans f8232
                  have f8241 : arI g8237 139 = arI g0 139 := (e2.2.1 139 (by unfold Only; omega)).trans f8233
                  have f8242 : arI g8237 140 = arI g0 140 := (e2.2.1 140 (by unfold Only; omega)).trans f8234
                  have f8243 : arI g8237 141 = arI g0 141 := (e2.2.1 141 (by unfold Only; omega)).trans f8235
                  have f8244 : fld g8237 129 18 = .int z8228 := (e2.1 129 18 (by unfold Only; omega)).trans f8236
                  have f8245 : fld g8237 129 20 = .int (1 : Int32) := e1
                  have hG := hG.put e1 e2 (rfl : rF 129 20 = (-2147483648, 2147483647)) (by decide) (by have := kc_1; have := i_rng (1 : Int32); omega) (by have := kc_1; have := i_rng (1 : Int32); omega)
                  refine q_aload_n hM dX12_stepTold_259 (lv_at hl 0 rfl) ?_
                  refine q_dup hM dX12_stepTold_260 rfl ?_
                  refine w_get (v := .int v8157) hM hW FG_X12_173 lb_129 f8238 dX12_stepTold_261 ?_
                  have bv8157 := hG.f f8238 rF_129_3 (by decide)
                  refine q_iconst (v := (1 : Int32)) hM dX12_stepTold_264 (by decide) ?_
                  refine q_iadd hM dX12_stepTold_265 (fun z8246 hz8246 => ?_)
                  first | have tz8246 := i_addT hz8246 (rfl : v8157.toInt = v8157.toInt) (kc_1 : (1 : Int32).toInt = 1) (by omega) (by omega) | skip
                  refine w_put hM hW FP_X12_173 lb_129 (by omega) (Or.inl ⟨_, rfl⟩) rfl rfl dX12_stepTold_266 (fun g8247 H locs hW e1 e2 => ?_)
                  have f8248 : fld g8247 129 5 = .int v8158 := (e2.1 129 5 (by unfold Only; omega)).trans f8239
                  have f8249 : fld g8247 129 19 = .int om := (e2.1 129 19 (by unfold Only; omega)).trans f8240
                  have f8250 : arI g8247 139 = arI g0 139 := (e2.2.1 139 (by unfold Only; omega)).trans f8241
                  have f8251 : arI g8247 140 = arI g0 140 := (e2.2.1 140 (by unfold Only; omega)).trans f8242
                  have f8252 : arI g8247 141 = arI g0 141 := (e2.2.1 141 (by unfold Only; omega)).trans f8243
                  have f8253 : fld g8247 129 18 = .int z8228 := (e2.1 129 18 (by unfold Only; omega)).trans f8244
                  have f8254 : fld g8247 129 20 = .int (1 : Int32) := (e2.1 129 20 (by unfold Only; omega)).trans f8245
                  have f8255 : fld g8247 129 3 = .int z8246 := e1
                  have hG := hG.put e1 e2 rF_129_3 (by decide) (by have := i_rng z8246; omega) (by have := i_rng z8246; omega)
                  exact hE _ _ _ _ _ hW.1 ⟨z8246, v8158, z8228, om, rfl, hW.2.1, hG, hW.2.2, f8255, f8248, f8253, f8249, (by omega), (by omega), (by omega), (fun _ => by rw [f8250, f8251, f8252]; exact OA_mono hO (by omega) (by omega)), (by omega)⟩ dX12_stepTold_269
                · refine q_aload_n hM dX12_stepTold_225 (lv_at hl 0 rfl) ?_
                  refine w_get (v := .ref (ad 137)) hM hW FG_X12_37 lb_129 (rf_129_16 hW.2.1) dX12_stepTold_226 ?_
                  refine q_aload_n hM dX12_stepTold_229 (lv_at hl 0 rfl) ?_
                  refine w_get (v := .int nm) hM hW FG_X12_227 lb_129 c219_129_18 dX12_stepTold_230 ?_
                  have bnm := hG.f c219_129_18 rF_129_18 (by decide)
                  refine q_iload hM dX12_stepTold_233 (lv_at hl 4 rfl) ?_
                  refine q_iadd hM dX12_stepTold_235 (fun z8257 hz8257 => ?_)
                  first | have tz8257 := i_addT hz8257 (rfl : nm.toInt = nm.toInt) (rfl : w219_4.toInt = w219_4.toInt) (by omega) (by omega) | skip
                  refine q_iload_n hM dX12_stepTold_236 (lv_at hl 3 rfl) ?_
                  refine w_iast hM hW lb_137 (by omega) (i_in (by omega) (by omega)) dX12_stepTold_237 (fun g8258 H locs hW e1 e2 => ?_)
                  have f8259 : fld g8258 129 3 = .int v8157 := (e2.1 129 3 (by unfold Only; omega)).trans c219_129_3
                  have f8260 : fld g8258 129 5 = .int v8158 := (e2.1 129 5 (by unfold Only; omega)).trans c219_129_5
                  have f8261 : fld g8258 129 18 = .int nm := (e2.1 129 18 (by unfold Only; omega)).trans c219_129_18
                  have f8262 : fld g8258 129 19 = .int om := (e2.1 129 19 (by unfold Only; omega)).trans c219_129_19
                  have f8263 : arI g8258 139 = arI g0 139 := (e2.2.1 139 (by unfold Only; omega)).trans d219_139
                  have f8264 : arI g8258 140 = arI g0 140 := (e2.2.1 140 (by unfold Only; omega)).trans d219_140
                  have f8265 : arI g8258 141 = arI g0 141 := (e2.2.1 141 (by unfold Only; omega)).trans d219_141
                  have hG := hG.st e1 e2 rA_137 (by have := i_rng r8159; omega) (by have := i_rng r8159; omega)
                  refine q_iinc (lv9 := fun z8266 => [(4, .int z8266), (0, .ref (ad 129)), (1, .int pl), (2, .int r8143), (3, .int r8159)]) hM dX12_stepTold_238 hl (kq := 4) rfl (by decide) (fun _ => rfl) (fun z8266 ls hz8266 hl => ?_)
                  first | have tz8266 := i_addT hz8266 (rfl : w219_4.toInt = w219_4.toInt) (kc_1 : (Int32.ofInt 1).toInt = 1) (by omega) (by omega) | skip
                  refine q_goto (tgt := 219) hM dX12_stepTold_241 (by decide) ?_
                  exact ih219 z8266 _ _ _ _ (by omega) hG (by omega) f8259 f8260 f8261 f8262 f8263 f8264 f8265 (lv_sub hl [1, 2, 3, 4, 0] rfl) hW
            have := kc_0
            exact L219 _ (0 : Int32) _ _ _ _ (Nat.lt_succ_self _) hG (by omega) q8160 q8161 f8170 f8171 f8167 f8168 f8169 (lv_sub hl [4, 3, 2, 1, 0] rfl) hW
          · exact hE _ _ _ _ _ hW.1 ⟨v8157, v8158, nm, om, rfl, hW.2.1, hG, hW.2.2, q8160, q8161, f8170, f8171, (by omega), (by omega), (by omega), (fun _ => by rw [f8167, f8168, f8169]; exact OA_mono hO (by omega) (by omega)), (by omega)⟩ dX12_stepTold_215
        · refine q_aload_n hM dX12_stepTold_201 (lv_at hl 3 rfl) ?_
          refine q_bipush (v := (6 : Int32)) hM dX12_stepTold_202 (by decide) ?_
          refine q_iload_n hM dX12_stepTold_204 (lv_at hl 2 rfl) ?_
          refine q_callV (As := [.int (6 : Int32), .int pl]) (rest := []) hM hW.1 hR hC myX12_wrongs (kAW (v_5_9 (List.mem_of_getElem? (i := 11) rfl)) rfl) (rfl : vwCl[12]? = some (RX12, TX12, 86)) rfl lb_129.1 (shO hW.2.1 lb_129) (a_X12_wrongs _ _ cA ad g8166 (6 : Int32) pl v8158 hW.2.1 hG q8161 (by have := kc_6; omega) (by have := kc_6; omega) (by have := kc_6; omega) (by have := kc_6; omega)) ⟨by decide, by decide⟩ rfl rfl hl.1 (Nat.le_of_ble_eq_true rfl) dX12_stepTold_205 (fun v g8272 H locs hp hW1 => ?_)
          obtain ⟨v8269, rfl, hs1, hG, hf1, q8270, e8271⟩ := hp
          have f8273 : arI g8272 139 = arI g0 139 := (hf1.2.1 139 (by omega)).trans f8167
          have f8274 : arI g8272 140 = arI g0 140 := (hf1.2.1 140 (by omega)).trans f8168
          have f8275 : arI g8272 141 = arI g0 141 := (hf1.2.1 141 (by omega)).trans f8169
          have f8276 : fld g8272 129 18 = .int nm := (hf1.1 129 18 (by omega)).trans f8170
          have f8277 : fld g8272 129 19 = .int om := (hf1.1 129 19 (by omega)).trans f8171
          have f8278 : fld g8272 129 3 = .int v8157 := (hf1.1 129 3 (by omega)).trans q8160
          have hW : WS ad cA (fun i k => (i = 129 ∧ (k = 3 ∨ k = 5 ∨ k = 18 ∨ k = 19 ∨ k = 20)) ∨ i = 137 ∨ i = 139 ∨ i = 140 ∨ i = 141) g0 K g8272 H locs := ⟨hW1, hs1, hW.2.2.tr hf1 (fun i k h => (Or.inl (by omega)))⟩
          refine q_aload_n hM dX12_stepTold_208 (lv_at hl 3 rfl) ?_
          refine q_callV (As := []) (rest := []) hM hW.1 hR hC myX12_isGood (kAW (v_5_8 (List.mem_of_getElem? (i := 11) rfl)) rfl) (rfl : vwCl[12]? = some (RX12, TX12, 86)) rfl lb_129.1 (shO hW.2.1 lb_129) (a_X12_isGood _ _ cA ad g8272 v8269 hW.2.1 hG q8270) ⟨by decide, by decide⟩ rfl rfl hl.1 (Nat.le_of_ble_eq_true rfl) dX12_stepTold_209 (fun v g8280 H locs hp hW1 => ?_)
          obtain ⟨r8279, rfl, hr8279, rfl⟩ := hp
          have hW : WS ad cA (fun i k => (i = 129 ∧ (k = 3 ∨ k = 5 ∨ k = 18 ∨ k = 19 ∨ k = 20)) ∨ i = 137 ∨ i = 139 ∨ i = 140 ∨ i = 141) g0 K g8272 H locs := ⟨hW1, hW.2.1, hW.2.2⟩
          refine q_if_ne (tgt := 216) hM dX12_stepTold_212 (by decide) (rfl : r8279.toInt = r8279.toInt) (fun h212 => ?_) (fun h212 => ?_)
          · refine q_iconst (v := (0 : Int32)) hM dX12_stepTold_216 (by decide) ?_
            refine q_istore (lv9 := [(4, .int (0 : Int32)), (3, .int r8159), (2, .int r8143), (1, .int pl), (0, .ref (ad 129))]) hM dX12_stepTold_217 hl (by decide) rfl (fun ls hl => ?_)
            have L219 : ∀ (fu219 : Nat) (w219_4 : Int32) (g9 : Nat → va_E) (H : Heap) (locs : List Loc) (ls : Array Slot), (r8143.toInt - w219_4.toInt + 1).toNat < fu219 → (Rng g9) → (0 ≤ w219_4.toInt) → (fld g9 129 3 = .int v8157) → (fld g9 129 5 = .int v8269) → (fld g9 129 18 = .int nm) → (fld g9 129 19 = .int om) → (arI g9 139 = arI g0 139) → (arI g9 140 = arI g0 140) → (arI g9 141 = arI g0 141) → lv_has ls 5 [(0, .ref (ad 129)), (1, .int pl), (2, .int r8143), (3, .int r8159), (4, .int w219_4)] → WS ad cA (fun i k => (i = 129 ∧ (k = 3 ∨ k = 5 ∨ k = 18 ∨ k = 19 ∨ k = 20)) ∨ i = 137 ∨ i = 139 ∨ i = 140 ∨ i = 141) g0 K g9 H locs → XX K 0 0 H locs 219 ls [] := by
              intro fu219
              induction fu219 with
              | zero => intro w219_4 g9 H locs ls h0; omega
              | succ fu219 ih219 =>
                intro w219_4 g9 H locs ls hm219 i219_0 i219_1 c219_129_3 c219_129_5 c219_129_18 c219_129_19 d219_139 d219_140 d219_141 hl hW
                have hG := i219_0
                have := i_rng r8143
                refine q_iload hM dX12_stepTold_219 (lv_at hl 4 rfl) ?_
                refine q_iload_n hM dX12_stepTold_221 (lv_at hl 2 rfl) ?_
                refine q_icmp_ge (tgt := 244) hM dX12_stepTold_222 (by decide) (rfl : w219_4.toInt = w219_4.toInt) (rfl : r8143.toInt = r8143.toInt) (fun h222 => ?_) (fun h222 => ?_)
                · refine q_aload_n hM dX12_stepTold_244 (lv_at hl 0 rfl) ?_
                  refine q_dup hM dX12_stepTold_245 rfl ?_
                  refine w_get (v := .int nm) hM hW FG_X12_227 lb_129 c219_129_18 dX12_stepTold_246 ?_
                  have bnm := hG.f c219_129_18 rF_129_18 (by decide)
                  refine q_iload_n hM dX12_stepTold_249 (lv_at hl 2 rfl) ?_
                  refine q_iadd hM dX12_stepTold_250 (fun z8284 hz8284 => ?_)
                  first | have tz8284 := i_addT hz8284 (rfl : nm.toInt = nm.toInt) (rfl : r8143.toInt = r8143.toInt) (by omega) (by omega) | skip
                  refine w_put hM hW FP_X12_227 lb_129 (by omega) (Or.inl ⟨_, rfl⟩) rfl rfl dX12_stepTold_251 (fun g8285 H locs hW e1 e2 => ?_)
                  have f8286 : fld g8285 129 3 = .int v8157 := (e2.1 129 3 (by unfold Only; omega)).trans c219_129_3
                  have f8287 : fld g8285 129 5 = .int v8269 := (e2.1 129 5 (by unfold Only; omega)).trans c219_129_5
                  have f8288 : fld g8285 129 19 = .int om := (e2.1 129 19 (by unfold Only; omega)).trans c219_129_19
                  have f8289 : arI g8285 139 = arI g0 139 := (e2.2.1 139 (by unfold Only; omega)).trans d219_139
                  have f8290 : arI g8285 140 = arI g0 140 := (e2.2.1 140 (by unfold Only; omega)).trans d219_140
                  have f8291 : arI g8285 141 = arI g0 141 := (e2.2.1 141 (by unfold Only; omega)).trans d219_141
                  have f8292 : fld g8285 129 18 = .int z8284 := e1
                  have hG := hG.put e1 e2 rF_129_18 (by decide) (by have := i_rng z8284; omega) (by have := i_rng z8284; omega)
                  refine q_aload_n hM dX12_stepTold_254 (lv_at hl 0 rfl) ?_
                  refine q_iconst (v := (1 : Int32)) hM dX12_stepTold_255 (by decide) ?_
                  refine w_put hM hW FP_X12_254 lb_129 (by omega) (Or.inl ⟨_, rfl⟩) rfl rfl dX12_stepTold_256 (fun g8293 H locs hW e1 e2 => ?_)
                  have f8294 : fld g8293 129 3 = .int v8157 := (e2.1 129 3 (by unfold Only; omega)).trans f8286
                  have f8295 : fld g8293 129 5 = .int v8269 := (e2.1 129 5 (by unfold Only; omega)).trans f8287
                  have f8296 : fld g8293 129 19 = .int om := (e2.1 129 19 (by unfold Only; omega)).trans f8288
                  have f8297 : arI g8293 139 = arI g0 139 := (e2.2.1 139 (by unfold Only; omega)).trans f8289
                  have f8298 : arI g8293 140 = arI g0 140 := (e2.2.1 140 (by unfold Only; omega)).trans f8290
                  have f8299 : arI g8293 141 = arI g0 141 := (e2.2.1 141 (by unfold Only; omega)).trans f8291
                  have f8300 : fld g8293 129 18 = .int z8284 := (e2.1 129 18 (by unfold Only; omega)).trans f8292
                  have f8301 : fld g8293 129 20 = .int (1 : Int32) := e1
                  have hG := hG.put e1 e2 (rfl : rF 129 20 = (-2147483648, 2147483647)) (by decide) (by have := kc_1; have := i_rng (1 : Int32); omega) (by have := kc_1; have := i_rng (1 : Int32); omega)
                  refine q_aload_n hM dX12_stepTold_259 (lv_at hl 0 rfl) ?_
                  refine q_dup hM dX12_stepTold_260 rfl ?_
                  refine w_get (v := .int v8157) hM hW FG_X12_173 lb_129 f8294 dX12_stepTold_261 ?_
                  have bv8157 := hG.f f8294 rF_129_3 (by decide)
                  refine q_iconst (v := (1 : Int32)) hM dX12_stepTold_264 (by decide) ?_
                  refine q_iadd hM dX12_stepTold_265 (fun z8302 hz8302 => ?_)
                  first | have tz8302 := i_addT hz8302 (rfl : v8157.toInt = v8157.toInt) (kc_1 : (1 : Int32).toInt = 1) (by omega) (by omega) | skip
                  refine w_put hM hW FP_X12_173 lb_129 (by omega) (Or.inl ⟨_, rfl⟩) rfl rfl dX12_stepTold_266 (fun g8303 H locs hW e1 e2 => ?_)
                  have f8304 : fld g8303 129 5 = .int v8269 := (e2.1 129 5 (by unfold Only; omega)).trans f8295
                  have f8305 : fld g8303 129 19 = .int om := (e2.1 129 19 (by unfold Only; omega)).trans f8296
                  have f8306 : arI g8303 139 = arI g0 139 := (e2.2.1 139 (by unfold Only; omega)).trans f8297
                  have f8307 : arI g8303 140 = arI g0 140 := (e2.2.1 140 (by unfold Only; omega)).trans f8298
                  have f8308 : arI g8303 141 = arI g0 141 := (e2.2.1 141 (by unfold Only; omega)).trans f8299
                  have f8309 : fld g8303 129 18 = .int z8284 := (e2.1 129 18 (by unfold Only; omega)).trans f8300
                  have f8310 : fld g8303 129 20 = .int (1 : Int32) := (e2.1 129 20 (by unfold Only; omega)).trans f8301
                  have f8311 : fld g8303 129 3 = .int z8302 := e1
                  have hG := hG.put e1 e2 rF_129_3 (by decide) (by have := i_rng z8302; omega) (by have := i_rng z8302; omega)
                  exact hE _ _ _ _ _ hW.1 ⟨z8302, v8269, z8284, om, rfl, hW.2.1, hG, hW.2.2, f8311, f8304, f8309, f8305, (by omega), (by omega), (by omega), (fun _ => by rw [f8306, f8307, f8308]; exact OA_mono hO (by omega) (by omega)), (by omega)⟩ dX12_stepTold_269
                · refine q_aload_n hM dX12_stepTold_225 (lv_at hl 0 rfl) ?_
                  refine w_get (v := .ref (ad 137)) hM hW FG_X12_37 lb_129 (rf_129_16 hW.2.1) dX12_stepTold_226 ?_
                  refine q_aload_n hM dX12_stepTold_229 (lv_at hl 0 rfl) ?_
                  refine w_get (v := .int nm) hM hW FG_X12_227 lb_129 c219_129_18 dX12_stepTold_230 ?_
                  have bnm := hG.f c219_129_18 rF_129_18 (by decide)
                  refine q_iload hM dX12_stepTold_233 (lv_at hl 4 rfl) ?_
                  refine q_iadd hM dX12_stepTold_235 (fun z8313 hz8313 => ?_)
                  first | have tz8313 := i_addT hz8313 (rfl : nm.toInt = nm.toInt) (rfl : w219_4.toInt = w219_4.toInt) (by omega) (by omega) | skip
                  refine q_iload_n hM dX12_stepTold_236 (lv_at hl 3 rfl) ?_
                  refine w_iast hM hW lb_137 (by omega) (i_in (by omega) (by omega)) dX12_stepTold_237 (fun g8314 H locs hW e1 e2 => ?_)
                  have f8315 : fld g8314 129 3 = .int v8157 := (e2.1 129 3 (by unfold Only; omega)).trans c219_129_3
                  have f8316 : fld g8314 129 5 = .int v8269 := (e2.1 129 5 (by unfold Only; omega)).trans c219_129_5
                  have f8317 : fld g8314 129 18 = .int nm := (e2.1 129 18 (by unfold Only; omega)).trans c219_129_18
                  have f8318 : fld g8314 129 19 = .int om := (e2.1 129 19 (by unfold Only; omega)).trans c219_129_19
                  have f8319 : arI g8314 139 = arI g0 139 := (e2.2.1 139 (by unfold Only; omega)).trans d219_139
                  have f8320 : arI g8314 140 = arI g0 140 := (e2.2.1 140 (by unfold Only; omega)).trans d219_140
                  have f8321 : arI g8314 141 = arI g0 141 := (e2.2.1 141 (by unfold Only; omega)).trans d219_141
                  have hG := hG.st e1 e2 rA_137 (by have := i_rng r8159; omega) (by have := i_rng r8159; omega)
                  refine q_iinc (lv9 := fun z8322 => [(4, .int z8322), (0, .ref (ad 129)), (1, .int pl), (2, .int r8143), (3, .int r8159)]) hM dX12_stepTold_238 hl (kq := 4) rfl (by decide) (fun _ => rfl) (fun z8322 ls hz8322 hl => ?_)
                  first | have tz8322 := i_addT hz8322 (rfl : w219_4.toInt = w219_4.toInt) (kc_1 : (Int32.ofInt 1).toInt = 1) (by omega) (by omega) | skip
                  refine q_goto (tgt := 219) hM dX12_stepTold_241 (by decide) ?_
                  exact ih219 z8322 _ _ _ _ (by omega) hG (by omega) f8315 f8316 f8317 f8318 f8319 f8320 f8321 (lv_sub hl [1, 2, 3, 4, 0] rfl) hW
            have := kc_0
            exact L219 _ (0 : Int32) _ _ _ _ (Nat.lt_succ_self _) hG (by omega) f8278 q8270 f8276 f8277 f8273 f8274 f8275 (lv_sub hl [4, 3, 2, 1, 0] rfl) hW
          · exact hE _ _ _ _ _ hW.1 ⟨v8157, v8269, nm, om, rfl, hW.2.1, hG, hW.2.2, f8278, q8270, f8276, f8277, (by omega), (by omega), (by omega), (fun _ => by rw [f8273, f8274, f8275]; exact OA_mono hO (by omega) (by omega)), (by omega)⟩ dX12_stepTold_215
    · refine q_aload_n hM dX12_stepTold_94 (lv_at hl 2 rfl) ?_
      refine w_get (v := .int om) hM hW FG_X12_251 lb_129 f8153 dX12_stepTold_95 ?_
      have bom := hG.f f8153 rF_129_19 (by decide)
      refine q_iconst (v := (2 : Int32)) hM dX12_stepTold_98 (by decide) ?_
      refine q_icmp_ne (tgt := 111) hM dX12_stepTold_99 (by decide) (rfl : om.toInt = om.toInt) (kc_2 : (2 : Int32).toInt = 2) (fun h99 => ?_) (fun h99 => ?_)
      · refine q_aload_n hM dX12_stepTold_111 (lv_at hl 2 rfl) ?_
        refine q_callV (As := []) (rest := []) hM hW.1 hR hC myX12_isGood (kAW (v_5_8 (List.mem_of_getElem? (i := 11) rfl)) rfl) (rfl : vwCl[12]? = some (RX12, TX12, 86)) rfl lb_129.1 (shO hW.2.1 lb_129) (a_X12_isGood _ _ cA ad g8147 bd hW.2.1 hG f8151) ⟨by decide, by decide⟩ rfl rfl hl.1 (Nat.le_of_ble_eq_true rfl) dX12_stepTold_112 (fun v g8327 H locs hp hW1 => ?_)
        obtain ⟨r8326, rfl, hr8326, rfl⟩ := hp
        have hW : WS ad cA (fun i k => (i = 129 ∧ (k = 3 ∨ k = 5 ∨ k = 18 ∨ k = 19 ∨ k = 20)) ∨ i = 137 ∨ i = 139 ∨ i = 140 ∨ i = 141) g0 K g8147 H locs := ⟨hW1, hW.2.1, hW.2.2⟩
        refine q_if_ne (tgt := 119) hM dX12_stepTold_115 (by decide) (rfl : r8326.toInt = r8326.toInt) (fun h115 => ?_) (fun h115 => ?_)
        · refine q_aload_n hM dX12_stepTold_119 (lv_at hl 2 rfl) ?_
          refine w_get (v := .ref (ad 139)) hM hW FG_X12_43 lb_129 (rf_129_21 hW.2.1) dX12_stepTold_120 ?_
          refine q_aload_n hM dX12_stepTold_123 (lv_at hl 2 rfl) ?_
          refine w_get (v := .int om) hM hW FG_X12_251 lb_129 f8153 dX12_stepTold_124 ?_
          have bom := hG.f f8153 rF_129_19 (by decide)
          refine q_aload_n hM dX12_stepTold_127 (lv_at hl 2 rfl) ?_
          refine w_get (v := .int nm) hM hW FG_X12_227 lb_129 f8152 dX12_stepTold_128 ?_
          have bnm := hG.f f8152 rF_129_18 (by decide)
          refine w_iast hM hW lb_139 (by omega) (i_in (by omega) (by omega)) dX12_stepTold_131 (fun g8329 H locs hW e1 e2 => ?_)
          have f8330 : arI g8329 140 = arI g0 140 := (e2.2.1 140 (by unfold Only; omega)).trans f8149
          have f8331 : arI g8329 141 = arI g0 141 := (e2.2.1 141 (by unfold Only; omega)).trans f8150
          have f8332 : fld g8329 129 5 = .int bd := (e2.1 129 5 (by unfold Only; omega)).trans f8151
          have f8333 : fld g8329 129 18 = .int nm := (e2.1 129 18 (by unfold Only; omega)).trans f8152
          have f8334 : fld g8329 129 19 = .int om := (e2.1 129 19 (by unfold Only; omega)).trans f8153
          have f8335 : fld g8329 129 3 = .int v8142 := (e2.1 129 3 (by unfold Only; omega)).trans q8144
          have f8336 := e1
          rw [f8148] at f8336
          have hG := hG.st e1 e2 rA_139 (by have := i_rng nm; omega) (by have := i_rng nm; omega)
          refine q_aload_n hM dX12_stepTold_132 (lv_at hl 2 rfl) ?_
          refine w_get (v := .ref (ad 140)) hM hW FG_X12_46 lb_129 (rf_129_22 hW.2.1) dX12_stepTold_133 ?_
          refine q_aload_n hM dX12_stepTold_136 (lv_at hl 2 rfl) ?_
          refine w_get (v := .int om) hM hW FG_X12_251 lb_129 f8334 dX12_stepTold_137 ?_
          have bom := hG.f f8334 rF_129_19 (by decide)
          refine q_iload_n hM dX12_stepTold_140 (lv_at hl 0 rfl) ?_
          refine w_iast hM hW lb_140 (by omega) (i_in (by omega) (by omega)) dX12_stepTold_141 (fun g8337 H locs hW e1 e2 => ?_)
          have f8338 : arI g8337 141 = arI g0 141 := (e2.2.1 141 (by unfold Only; omega)).trans f8331
          have f8339 : fld g8337 129 5 = .int bd := (e2.1 129 5 (by unfold Only; omega)).trans f8332
          have f8340 : fld g8337 129 18 = .int nm := (e2.1 129 18 (by unfold Only; omega)).trans f8333
          have f8341 : fld g8337 129 19 = .int om := (e2.1 129 19 (by unfold Only; omega)).trans f8334
          have f8342 : fld g8337 129 3 = .int v8142 := (e2.1 129 3 (by unfold Only; omega)).trans f8335
          have f8343 : arI g8337 139 = upd (arI g0 139) om.toNatClampNeg nm := (e2.2.1 139 (by unfold Only; omega)).trans f8336
          have f8344 := e1
          rw [f8330] at f8344
          have hG := hG.st e1 e2 rA_140 (by have := i_rng r8143; omega) (by have := i_rng r8143; omega)
          refine q_aload_n hM dX12_stepTold_142 (lv_at hl 2 rfl) ?_
          refine w_get (v := .ref (ad 141)) hM hW FG_X12_49 lb_129 (rf_129_23 hW.2.1) dX12_stepTold_143 ?_
          refine q_aload_n hM dX12_stepTold_146 (lv_at hl 2 rfl) ?_
          refine w_get (v := .int om) hM hW FG_X12_251 lb_129 f8341 dX12_stepTold_147 ?_
          have bom := hG.f f8341 rF_129_19 (by decide)
          refine q_iload_n hM dX12_stepTold_150 (lv_at hl 1 rfl) ?_
          refine w_iast hM hW lb_141 (by omega) (i_in (by omega) (by omega)) dX12_stepTold_151 (fun g8345 H locs hW e1 e2 => ?_)
          have f8346 : fld g8345 129 5 = .int bd := (e2.1 129 5 (by unfold Only; omega)).trans f8339
          have f8347 : fld g8345 129 18 = .int nm := (e2.1 129 18 (by unfold Only; omega)).trans f8340
          have f8348 : fld g8345 129 19 = .int om := (e2.1 129 19 (by unfold Only; omega)).trans f8341
          have f8349 : fld g8345 129 3 = .int v8142 := (e2.1 129 3 (by unfold Only; omega)).trans f8342
          have f8350 : arI g8345 139 = upd (arI g0 139) om.toNatClampNeg nm := (e2.2.1 139 (by unfold Only; omega)).trans f8343
          have f8351 : arI g8345 140 = upd (arI g0 140) om.toNatClampNeg r8143 := (e2.2.1 140 (by unfold Only; omega)).trans f8344
          have f8352 := e1
          rw [f8338] at f8352
          have hG := hG.st e1 e2 (rfl : rA 141 = (-2147483648, 2147483647)) (by have := i_rng pl; omega) (by have := i_rng pl; omega)
          refine q_aload_n hM dX12_stepTold_152 (lv_at hl 2 rfl) ?_
          refine q_dup hM dX12_stepTold_153 rfl ?_
          refine w_get (v := .int om) hM hW FG_X12_251 lb_129 f8348 dX12_stepTold_154 ?_
          have bom := hG.f f8348 rF_129_19 (by decide)
          refine q_iconst (v := (1 : Int32)) hM dX12_stepTold_157 (by decide) ?_
          refine q_iadd hM dX12_stepTold_158 (fun z8353 hz8353 => ?_)
          first | have tz8353 := i_addT hz8353 (rfl : om.toInt = om.toInt) (kc_1 : (1 : Int32).toInt = 1) (by omega) (by omega) | skip
          refine w_put hM hW FP_X12_251 lb_129 (by omega) (Or.inl ⟨_, rfl⟩) rfl rfl dX12_stepTold_159 (fun g8354 H locs hW e1 e2 => ?_)
          have f8355 : fld g8354 129 5 = .int bd := (e2.1 129 5 (by unfold Only; omega)).trans f8346
          have f8356 : fld g8354 129 18 = .int nm := (e2.1 129 18 (by unfold Only; omega)).trans f8347
          have f8357 : fld g8354 129 3 = .int v8142 := (e2.1 129 3 (by unfold Only; omega)).trans f8349
          have f8358 : arI g8354 139 = upd (arI g0 139) om.toNatClampNeg nm := (e2.2.1 139 (by unfold Only; omega)).trans f8350
          have f8359 : arI g8354 140 = upd (arI g0 140) om.toNatClampNeg r8143 := (e2.2.1 140 (by unfold Only; omega)).trans f8351
          have f8360 : arI g8354 141 = upd (arI g0 141) om.toNatClampNeg pl := (e2.2.1 141 (by unfold Only; omega)).trans f8352
          have f8361 : fld g8354 129 19 = .int z8353 := e1
          have hG := hG.put e1 e2 rF_129_19 (by decide) (by have := i_rng z8353; omega) (by have := i_rng z8353; omega)
          refine q_aload_n hM dX12_stepTold_162 (lv_at hl 2 rfl) ?_
          refine q_iconst (v := (0 : Int32)) hM dX12_stepTold_163 (by decide) ?_
          refine w_put hM hW FP_X12_254 lb_129 (by omega) (Or.inl ⟨_, rfl⟩) rfl rfl dX12_stepTold_164 (fun g8362 H locs hW e1 e2 => ?_)
          have f8363 : fld g8362 129 5 = .int bd := (e2.1 129 5 (by unfold Only; omega)).trans f8355
          have f8364 : fld g8362 129 18 = .int nm := (e2.1 129 18 (by unfold Only; omega)).trans f8356
          have f8365 : fld g8362 129 3 = .int v8142 := (e2.1 129 3 (by unfold Only; omega)).trans f8357
          have f8366 : arI g8362 139 = upd (arI g0 139) om.toNatClampNeg nm := (e2.2.1 139 (by unfold Only; omega)).trans f8358
          have f8367 : arI g8362 140 = upd (arI g0 140) om.toNatClampNeg r8143 := (e2.2.1 140 (by unfold Only; omega)).trans f8359
          have f8368 : arI g8362 141 = upd (arI g0 141) om.toNatClampNeg pl := (e2.2.1 141 (by unfold Only; omega)).trans f8360
          have f8369 : fld g8362 129 19 = .int z8353 := (e2.1 129 19 (by unfold Only; omega)).trans f8361
          have f8370 : fld g8362 129 20 = .int (0 : Int32) := e1
          have hG := hG.put e1 e2 (rfl : rF 129 20 = (-2147483648, 2147483647)) (by decide) (by have := kc_0; have := i_rng (0 : Int32); omega) (by have := kc_0; have := i_rng (0 : Int32); omega)
          refine q_aload_n hM dX12_stepTold_167 (lv_at hl 2 rfl) ?_
          refine q_dup hM dX12_stepTold_168 rfl ?_
          refine w_get (v := .int v8142) hM hW FG_X12_173 lb_129 f8365 dX12_stepTold_169 ?_
          have bv8142 := hG.f f8365 rF_129_3 (by decide)
          refine q_iconst (v := (1 : Int32)) hM dX12_stepTold_172 (by decide) ?_
          refine q_iadd hM dX12_stepTold_173 (fun z8371 hz8371 => ?_)
          first | have tz8371 := i_addT hz8371 (rfl : v8142.toInt = v8142.toInt) (kc_1 : (1 : Int32).toInt = 1) (by omega) (by omega) | skip
          refine w_put hM hW FP_X12_173 lb_129 (by omega) (Or.inl ⟨_, rfl⟩) rfl rfl dX12_stepTold_174 (fun g8372 H locs hW e1 e2 => ?_)
          have f8373 : fld g8372 129 5 = .int bd := (e2.1 129 5 (by unfold Only; omega)).trans f8363
          have f8374 : fld g8372 129 18 = .int nm := (e2.1 129 18 (by unfold Only; omega)).trans f8364
          have f8375 : arI g8372 139 = upd (arI g0 139) om.toNatClampNeg nm := (e2.2.1 139 (by unfold Only; omega)).trans f8366
          have f8376 : arI g8372 140 = upd (arI g0 140) om.toNatClampNeg r8143 := (e2.2.1 140 (by unfold Only; omega)).trans f8367
          have f8377 : arI g8372 141 = upd (arI g0 141) om.toNatClampNeg pl := (e2.2.1 141 (by unfold Only; omega)).trans f8368
          have f8378 : fld g8372 129 19 = .int z8353 := (e2.1 129 19 (by unfold Only; omega)).trans f8369
          have f8379 : fld g8372 129 20 = .int (0 : Int32) := (e2.1 129 20 (by unfold Only; omega)).trans f8370
          have f8380 : fld g8372 129 3 = .int z8371 := e1
          have hG := hG.put e1 e2 rF_129_3 (by decide) (by have := i_rng z8371; omega) (by have := i_rng z8371; omega)
          exact hE _ _ _ _ _ hW.1 ⟨z8371, bd, nm, z8353, rfl, hW.2.1, hG, hW.2.2, f8380, f8373, f8374, f8378, (by omega), (by omega), (by omega), (fun _ => by rw [f8375, f8376, f8377]; exact OA_mono (OA_push hO rfl (by omega) (by omega) (by omega) (by omega) (by omega)) (by omega) (by omega)), (by omega)⟩ dX12_stepTold_177
        · exact hE _ _ _ _ _ hW.1 ⟨v8142, bd, nm, om, rfl, hW.2.1, hG, hW.2.2, q8144, f8151, f8152, f8153, (by omega), (by omega), (by omega), (fun _ => by rw [f8148, f8149, f8150]; exact OA_mono hO (by omega) (by omega)), (by omega)⟩ dX12_stepTold_118
      · refine q_aload_n hM dX12_stepTold_102 (lv_at hl 2 rfl) ?_
        refine q_iconst (v := (5 : Int32)) hM dX12_stepTold_103 (by decide) ?_
        refine q_aload_n hM dX12_stepTold_104 (lv_at hl 2 rfl) ?_
        refine w_get (v := .int v8142) hM hW FG_X12_173 lb_129 q8144 dX12_stepTold_105 ?_
        have bv8142 := hG.f q8144 rF_129_3 (by decide)
        refine q_callV (As := [.int (5 : Int32), .int v8142]) (rest := []) hM hW.1 hR hC myX12_wrongs (kAW (v_5_9 (List.mem_of_getElem? (i := 11) rfl)) rfl) (rfl : vwCl[12]? = some (RX12, TX12, 86)) rfl lb_129.1 (shO hW.2.1 lb_129) (a_X12_wrongs _ _ cA ad g8147 (5 : Int32) v8142 bd hW.2.1 hG f8151 (by have := kc_5; omega) (by have := kc_5; omega) (by have := kc_5; omega) (by have := kc_5; omega)) ⟨by decide, by decide⟩ rfl rfl hl.1 (Nat.le_of_ble_eq_true rfl) dX12_stepTold_108 (fun v g8386 H locs hp hW1 => ?_)
        obtain ⟨v8383, rfl, hs1, hG, hf1, q8384, e8385⟩ := hp
        have f8387 : arI g8386 139 = arI g0 139 := (hf1.2.1 139 (by omega)).trans f8148
        have f8388 : arI g8386 140 = arI g0 140 := (hf1.2.1 140 (by omega)).trans f8149
        have f8389 : arI g8386 141 = arI g0 141 := (hf1.2.1 141 (by omega)).trans f8150
        have f8390 : fld g8386 129 18 = .int nm := (hf1.1 129 18 (by omega)).trans f8152
        have f8391 : fld g8386 129 19 = .int om := (hf1.1 129 19 (by omega)).trans f8153
        have f8392 : fld g8386 129 3 = .int v8142 := (hf1.1 129 3 (by omega)).trans q8144
        have hW : WS ad cA (fun i k => (i = 129 ∧ (k = 3 ∨ k = 5 ∨ k = 18 ∨ k = 19 ∨ k = 20)) ∨ i = 137 ∨ i = 139 ∨ i = 140 ∨ i = 141) g0 K g8386 H locs := ⟨hW1, hs1, hW.2.2.tr hf1 (fun i k h => (Or.inl (by omega)))⟩
        refine q_aload_n hM dX12_stepTold_111 (lv_at hl 2 rfl) ?_
        refine q_callV (As := []) (rest := []) hM hW.1 hR hC myX12_isGood (kAW (v_5_8 (List.mem_of_getElem? (i := 11) rfl)) rfl) (rfl : vwCl[12]? = some (RX12, TX12, 86)) rfl lb_129.1 (shO hW.2.1 lb_129) (a_X12_isGood _ _ cA ad g8386 v8383 hW.2.1 hG q8384) ⟨by decide, by decide⟩ rfl rfl hl.1 (Nat.le_of_ble_eq_true rfl) dX12_stepTold_112 (fun v g8394 H locs hp hW1 => ?_)
        obtain ⟨r8393, rfl, hr8393, rfl⟩ := hp
        have hW : WS ad cA (fun i k => (i = 129 ∧ (k = 3 ∨ k = 5 ∨ k = 18 ∨ k = 19 ∨ k = 20)) ∨ i = 137 ∨ i = 139 ∨ i = 140 ∨ i = 141) g0 K g8386 H locs := ⟨hW1, hW.2.1, hW.2.2⟩
        refine q_if_ne (tgt := 119) hM dX12_stepTold_115 (by decide) (rfl : r8393.toInt = r8393.toInt) (fun h115 => ?_) (fun h115 => ?_)
        · refine q_aload_n hM dX12_stepTold_119 (lv_at hl 2 rfl) ?_
          refine w_get (v := .ref (ad 139)) hM hW FG_X12_43 lb_129 (rf_129_21 hW.2.1) dX12_stepTold_120 ?_
          refine q_aload_n hM dX12_stepTold_123 (lv_at hl 2 rfl) ?_
          refine w_get (v := .int om) hM hW FG_X12_251 lb_129 f8391 dX12_stepTold_124 ?_
          have bom := hG.f f8391 rF_129_19 (by decide)
          refine q_aload_n hM dX12_stepTold_127 (lv_at hl 2 rfl) ?_
          refine w_get (v := .int nm) hM hW FG_X12_227 lb_129 f8390 dX12_stepTold_128 ?_
          have bnm := hG.f f8390 rF_129_18 (by decide)
          refine w_iast hM hW lb_139 (by omega) (i_in (by omega) (by omega)) dX12_stepTold_131 (fun g8396 H locs hW e1 e2 => ?_)
          have f8397 : arI g8396 140 = arI g0 140 := (e2.2.1 140 (by unfold Only; omega)).trans f8388
          have f8398 : arI g8396 141 = arI g0 141 := (e2.2.1 141 (by unfold Only; omega)).trans f8389
          have f8399 : fld g8396 129 18 = .int nm := (e2.1 129 18 (by unfold Only; omega)).trans f8390
          have f8400 : fld g8396 129 19 = .int om := (e2.1 129 19 (by unfold Only; omega)).trans f8391
          have f8401 : fld g8396 129 3 = .int v8142 := (e2.1 129 3 (by unfold Only; omega)).trans f8392
          have f8402 : fld g8396 129 5 = .int v8383 := (e2.1 129 5 (by unfold Only; omega)).trans q8384
          have f8403 := e1
          rw [f8387] at f8403
          have hG := hG.st e1 e2 rA_139 (by have := i_rng nm; omega) (by have := i_rng nm; omega)
          refine q_aload_n hM dX12_stepTold_132 (lv_at hl 2 rfl) ?_
          refine w_get (v := .ref (ad 140)) hM hW FG_X12_46 lb_129 (rf_129_22 hW.2.1) dX12_stepTold_133 ?_
          refine q_aload_n hM dX12_stepTold_136 (lv_at hl 2 rfl) ?_
          refine w_get (v := .int om) hM hW FG_X12_251 lb_129 f8400 dX12_stepTold_137 ?_
          have bom := hG.f f8400 rF_129_19 (by decide)
          refine q_iload_n hM dX12_stepTold_140 (lv_at hl 0 rfl) ?_
          refine w_iast hM hW lb_140 (by omega) (i_in (by omega) (by omega)) dX12_stepTold_141 (fun g8404 H locs hW e1 e2 => ?_)
          have f8405 : arI g8404 141 = arI g0 141 := (e2.2.1 141 (by unfold Only; omega)).trans f8398
          have f8406 : fld g8404 129 18 = .int nm := (e2.1 129 18 (by unfold Only; omega)).trans f8399
          have f8407 : fld g8404 129 19 = .int om := (e2.1 129 19 (by unfold Only; omega)).trans f8400
          have f8408 : fld g8404 129 3 = .int v8142 := (e2.1 129 3 (by unfold Only; omega)).trans f8401
          have f8409 : fld g8404 129 5 = .int v8383 := (e2.1 129 5 (by unfold Only; omega)).trans f8402
          have f8410 : arI g8404 139 = upd (arI g0 139) om.toNatClampNeg nm := (e2.2.1 139 (by unfold Only; omega)).trans f8403
          have f8411 := e1
          rw [f8397] at f8411
          have hG := hG.st e1 e2 rA_140 (by have := i_rng r8143; omega) (by have := i_rng r8143; omega)
          refine q_aload_n hM dX12_stepTold_142 (lv_at hl 2 rfl) ?_
          refine w_get (v := .ref (ad 141)) hM hW FG_X12_49 lb_129 (rf_129_23 hW.2.1) dX12_stepTold_143 ?_
          refine q_aload_n hM dX12_stepTold_146 (lv_at hl 2 rfl) ?_
          refine w_get (v := .int om) hM hW FG_X12_251 lb_129 f8407 dX12_stepTold_147 ?_
          have bom := hG.f f8407 rF_129_19 (by decide)
          refine q_iload_n hM dX12_stepTold_150 (lv_at hl 1 rfl) ?_
          refine w_iast hM hW lb_141 (by omega) (i_in (by omega) (by omega)) dX12_stepTold_151 (fun g8412 H locs hW e1 e2 => ?_)
          have f8413 : fld g8412 129 18 = .int nm := (e2.1 129 18 (by unfold Only; omega)).trans f8406
          have f8414 : fld g8412 129 19 = .int om := (e2.1 129 19 (by unfold Only; omega)).trans f8407
          have f8415 : fld g8412 129 3 = .int v8142 := (e2.1 129 3 (by unfold Only; omega)).trans f8408
          have f8416 : fld g8412 129 5 = .int v8383 := (e2.1 129 5 (by unfold Only; omega)).trans f8409
          have f8417 : arI g8412 139 = upd (arI g0 139) om.toNatClampNeg nm := (e2.2.1 139 (by unfold Only; omega)).trans f8410
          have f8418 : arI g8412 140 = upd (arI g0 140) om.toNatClampNeg r8143 := (e2.2.1 140 (by unfold Only; omega)).trans f8411
          have f8419 := e1
          rw [f8405] at f8419
          have hG := hG.st e1 e2 (rfl : rA 141 = (-2147483648, 2147483647)) (by have := i_rng pl; omega) (by have := i_rng pl; omega)
          refine q_aload_n hM dX12_stepTold_152 (lv_at hl 2 rfl) ?_
          refine q_dup hM dX12_stepTold_153 rfl ?_
          refine w_get (v := .int om) hM hW FG_X12_251 lb_129 f8414 dX12_stepTold_154 ?_
          have bom := hG.f f8414 rF_129_19 (by decide)
          refine q_iconst (v := (1 : Int32)) hM dX12_stepTold_157 (by decide) ?_
          refine q_iadd hM dX12_stepTold_158 (fun z8420 hz8420 => ?_)
          first | have tz8420 := i_addT hz8420 (rfl : om.toInt = om.toInt) (kc_1 : (1 : Int32).toInt = 1) (by omega) (by omega) | skip
          refine w_put hM hW FP_X12_251 lb_129 (by omega) (Or.inl ⟨_, rfl⟩) rfl rfl dX12_stepTold_159 (fun g8421 H locs hW e1 e2 => ?_)
          have f8422 : fld g8421 129 18 = .int nm := (e2.1 129 18 (by unfold Only; omega)).trans f8413
          have f8423 : fld g8421 129 3 = .int v8142 := (e2.1 129 3 (by unfold Only; omega)).trans f8415
          have f8424 : fld g8421 129 5 = .int v8383 := (e2.1 129 5 (by unfold Only; omega)).trans f8416
          have f8425 : arI g8421 139 = upd (arI g0 139) om.toNatClampNeg nm := (e2.2.1 139 (by unfold Only; omega)).trans f8417
          have f8426 : arI g8421 140 = upd (arI g0 140) om.toNatClampNeg r8143 := (e2.2.1 140 (by unfold Only; omega)).trans f8418
          have f8427 : arI g8421 141 = upd (arI g0 141) om.toNatClampNeg pl := (e2.2.1 141 (by unfold Only; omega)).trans f8419
          have f8428 : fld g8421 129 19 = .int z8420 := e1
          have hG := hG.put e1 e2 rF_129_19 (by decide) (by have := i_rng z8420; omega) (by have := i_rng z8420; omega)
          refine q_aload_n hM dX12_stepTold_162 (lv_at hl 2 rfl) ?_
          refine q_iconst (v := (0 : Int32)) hM dX12_stepTold_163 (by decide) ?_
          refine w_put hM hW FP_X12_254 lb_129 (by omega) (Or.inl ⟨_, rfl⟩) rfl rfl dX12_stepTold_164 (fun g8429 H locs hW e1 e2 => ?_)
          have f8430 : fld g8429 129 18 = .int nm := (e2.1 129 18 (by unfold Only; omega)).trans f8422
          have f8431 : fld g8429 129 3 = .int v8142 := (e2.1 129 3 (by unfold Only; omega)).trans f8423
          have f8432 : fld g8429 129 5 = .int v8383 := (e2.1 129 5 (by unfold Only; omega)).trans f8424
          have f8433 : arI g8429 139 = upd (arI g0 139) om.toNatClampNeg nm := (e2.2.1 139 (by unfold Only; omega)).trans f8425
          have f8434 : arI g8429 140 = upd (arI g0 140) om.toNatClampNeg r8143 := (e2.2.1 140 (by unfold Only; omega)).trans f8426
          have f8435 : arI g8429 141 = upd (arI g0 141) om.toNatClampNeg pl := (e2.2.1 141 (by unfold Only; omega)).trans f8427
          have f8436 : fld g8429 129 19 = .int z8420 := (e2.1 129 19 (by unfold Only; omega)).trans f8428
          have f8437 : fld g8429 129 20 = .int (0 : Int32) := e1
          have hG := hG.put e1 e2 (rfl : rF 129 20 = (-2147483648, 2147483647)) (by decide) (by have := kc_0; have := i_rng (0 : Int32); omega) (by have := kc_0; have := i_rng (0 : Int32); omega)
          refine q_aload_n hM dX12_stepTold_167 (lv_at hl 2 rfl) ?_
          refine q_dup hM dX12_stepTold_168 rfl ?_
          refine w_get (v := .int v8142) hM hW FG_X12_173 lb_129 f8431 dX12_stepTold_169 ?_
          have bv8142 := hG.f f8431 rF_129_3 (by decide)
          refine q_iconst (v := (1 : Int32)) hM dX12_stepTold_172 (by decide) ?_
          refine q_iadd hM dX12_stepTold_173 (fun z8438 hz8438 => ?_)
          first | have tz8438 := i_addT hz8438 (rfl : v8142.toInt = v8142.toInt) (kc_1 : (1 : Int32).toInt = 1) (by omega) (by omega) | skip
          refine w_put hM hW FP_X12_173 lb_129 (by omega) (Or.inl ⟨_, rfl⟩) rfl rfl dX12_stepTold_174 (fun g8439 H locs hW e1 e2 => ?_)
          have f8440 : fld g8439 129 18 = .int nm := (e2.1 129 18 (by unfold Only; omega)).trans f8430
          have f8441 : fld g8439 129 5 = .int v8383 := (e2.1 129 5 (by unfold Only; omega)).trans f8432
          have f8442 : arI g8439 139 = upd (arI g0 139) om.toNatClampNeg nm := (e2.2.1 139 (by unfold Only; omega)).trans f8433
          have f8443 : arI g8439 140 = upd (arI g0 140) om.toNatClampNeg r8143 := (e2.2.1 140 (by unfold Only; omega)).trans f8434
          have f8444 : arI g8439 141 = upd (arI g0 141) om.toNatClampNeg pl := (e2.2.1 141 (by unfold Only; omega)).trans f8435
          have f8445 : fld g8439 129 19 = .int z8420 := (e2.1 129 19 (by unfold Only; omega)).trans f8436
          have f8446 : fld g8439 129 20 = .int (0 : Int32) := (e2.1 129 20 (by unfold Only; omega)).trans f8437
          have f8447 : fld g8439 129 3 = .int z8438 := e1
          have hG := hG.put e1 e2 rF_129_3 (by decide) (by have := i_rng z8438; omega) (by have := i_rng z8438; omega)
          exact hE _ _ _ _ _ hW.1 ⟨z8438, v8383, nm, z8420, rfl, hW.2.1, hG, hW.2.2, f8447, f8441, f8440, f8445, (by omega), (by omega), (by omega), (fun _ => by rw [f8442, f8443, f8444]; exact OA_mono (OA_push hO rfl (by omega) (by omega) (by omega) (by omega) (by omega)) (by omega) (by omega)), (by omega)⟩ dX12_stepTold_177
        · exact hE _ _ _ _ _ hW.1 ⟨v8142, v8383, nm, om, rfl, hW.2.1, hG, hW.2.2, f8392, q8384, f8390, f8391, (by omega), (by omega), (by omega), (fun _ => by rw [f8387, f8388, f8389]; exact OA_mono hO (by omega) (by omega)), (by omega)⟩ dX12_stepTold_118
  · refine q_aload_n hM dX12_stepTold_14 (lv_at hl 1 rfl) ?_
    refine w_get (v := .int om) hM hW FG_X12_251 lb_129 f8138 dX12_stepTold_15 ?_
    have bom := hG.f f8138 rF_129_19 (by decide)
    refine q_if_le (tgt := 80) hM dX12_stepTold_18 (by decide) (rfl : om.toInt = om.toInt) (fun h18 => ?_) (fun h18 => ?_)
    · refine q_aload_n hM dX12_stepTold_80 (lv_at hl 1 rfl) ?_
      refine q_callV (As := []) (rest := []) hM hW.1 hR hC myX12_timesTold (kAW (v_5_9 (List.mem_of_getElem? (i := 15) rfl)) rfl) (rfl : vwCl[12]? = some (RX12, TX12, 86)) rfl lb_129.1 (shO hW.2.1 lb_129) (a_X12_timesTold _ _ cA ad g0 pl en hW.2.1 hG f8135 ((hW.2.2.1 129 4 (by omega)).trans h_en) (by  omega) (by  omega) (by  omega) (by  omega)) ⟨by decide, by decide⟩ rfl rfl hl.1 (Nat.le_of_ble_eq_true rfl) dX12_stepTold_81 (fun v g8456 H locs hp hW1 => ?_)
      obtain ⟨v8451, r8452, rfl, hs1, hG, hf1, q8453, e8454, e8455, hr8452⟩ := hp
      have f8457 : arI g8456 139 = arI g0 139 := (hf1.2.1 139 (by omega)).trans (rfl : arI g0 139 = arI g0 139)
      have f8458 : arI g8456 140 = arI g0 140 := (hf1.2.1 140 (by omega)).trans (rfl : arI g0 140 = arI g0 140)
      have f8459 : arI g8456 141 = arI g0 141 := (hf1.2.1 141 (by omega)).trans (rfl : arI g0 141 = arI g0 141)
      have f8460 : fld g8456 129 5 = .int bd := (hf1.1 129 5 (by omega)).trans f8136
      have f8461 : fld g8456 129 18 = .int nm := (hf1.1 129 18 (by omega)).trans f8137
      have f8462 : fld g8456 129 19 = .int om := (hf1.1 129 19 (by omega)).trans f8138
      have hW : WS ad cA (fun i k => (i = 129 ∧ (k = 3 ∨ k = 5 ∨ k = 18 ∨ k = 19 ∨ k = 20)) ∨ i = 137 ∨ i = 139 ∨ i = 140 ∨ i = 141) g0 K g8456 H locs := ⟨hW1, hs1, hW.2.2.tr hf1 (fun i k h => (Or.inl (by omega)))⟩
      refine q_istore_n (lv9 := [(2, .int r8452), (1, .int pl), (0, .ref (ad 129))]) hM dX12_stepTold_84 hl (by decide) rfl (fun ls hl => ?_)
      refine q_aload_n hM dX12_stepTold_85 (lv_at hl 2 rfl) ?_
      refine q_callV (As := []) (rest := []) hM hW.1 hR hC myX12_here (kAW (v_5_9 (List.mem_of_getElem? (i := 3) rfl)) rfl) (rfl : vwCl[12]? = some (RX12, TX12, 86)) rfl lb_129.1 (shO hW.2.1 lb_129) (a_X12_here _ _ cA ad g8456 v8451 en hW.2.1 hG q8453 ((hW.2.2.1 129 4 (by omega)).trans h_en) (by  omega) (by  omega)) ⟨by decide, by decide⟩ rfl rfl hl.1 (Nat.le_of_ble_eq_true rfl) dX12_stepTold_86 (fun v g8464 H locs hp hW1 => ?_)
      obtain ⟨r8463, rfl, hr8463, rfl⟩ := hp
      have hW : WS ad cA (fun i k => (i = 129 ∧ (k = 3 ∨ k = 5 ∨ k = 18 ∨ k = 19 ∨ k = 20)) ∨ i = 137 ∨ i = 139 ∨ i = 140 ∨ i = 141) g0 K g8456 H locs := ⟨hW1, hW.2.1, hW.2.2⟩
      rw [hW.2.2.2.1 130 (by omega)] at hr8463
      refine q_bipush (v := (40 : Int32)) hM dX12_stepTold_89 (by decide) ?_
      refine q_icmp_ne (tgt := 178) hM dX12_stepTold_91 (by decide) (rfl : r8463.toInt = r8463.toInt) (kc_40 : (40 : Int32).toInt = 40) (fun h91 => ?_) (fun h91 => ?_)
      · refine q_aload_n hM dX12_stepTold_178 (lv_at hl 2 rfl) ?_
        refine q_callV (As := []) (rest := []) hM hW.1 hR hC myX12_stepHere (kAW (v_5_10 (List.mem_of_getElem? (i := 5) rfl)) rfl) (rfl : vwCl[12]? = some (RX12, TX12, 86)) rfl lb_129.1 (shO hW.2.1 lb_129) (a_X12_stepHere _ _ cA ad g8456 v8451 en bd hW.2.1 hG q8453 ((hW.2.2.1 129 4 (by omega)).trans h_en) f8460 (by  omega) (by  omega) (by  omega)) ⟨by decide, by decide⟩ rfl rfl hl.1 (Nat.le_of_ble_eq_true rfl) dX12_stepTold_179 (fun v g8475 H locs hp hW1 => ?_)
        obtain ⟨v8466, v8467, r8468, rfl, hs1, hG, hf1, q8469, q8470, e8471, e8472, e8473, e8474, hr8468⟩ := hp
        have f8476 : arI g8475 139 = arI g0 139 := (hf1.2.1 139 (by omega)).trans f8457
        have f8477 : arI g8475 140 = arI g0 140 := (hf1.2.1 140 (by omega)).trans f8458
        have f8478 : arI g8475 141 = arI g0 141 := (hf1.2.1 141 (by omega)).trans f8459
        have f8479 : fld g8475 129 18 = .int nm := (hf1.1 129 18 (by omega)).trans f8461
        have f8480 : fld g8475 129 19 = .int om := (hf1.1 129 19 (by omega)).trans f8462
        have hW : WS ad cA (fun i k => (i = 129 ∧ (k = 3 ∨ k = 5 ∨ k = 18 ∨ k = 19 ∨ k = 20)) ∨ i = 137 ∨ i = 139 ∨ i = 140 ∨ i = 141) g0 K g8475 H locs := ⟨hW1, hs1, hW.2.2.tr hf1 (fun i k h => (Or.inl (by omega)))⟩
        refine q_istore_n (lv9 := [(3, .int r8468), (2, .int r8452), (1, .int pl), (0, .ref (ad 129))]) hM dX12_stepTold_182 hl (by decide) rfl (fun ls hl => ?_)
        refine q_aload_n hM dX12_stepTold_183 (lv_at hl 3 rfl) ?_
        refine q_callV (As := []) (rest := []) hM hW.1 hR hC myX12_isGood (kAW (v_5_8 (List.mem_of_getElem? (i := 11) rfl)) rfl) (rfl : vwCl[12]? = some (RX12, TX12, 86)) rfl lb_129.1 (shO hW.2.1 lb_129) (a_X12_isGood _ _ cA ad g8475 v8467 hW.2.1 hG q8470) ⟨by decide, by decide⟩ rfl rfl hl.1 (Nat.le_of_ble_eq_true rfl) dX12_stepTold_184 (fun v g8482 H locs hp hW1 => ?_)
        obtain ⟨r8481, rfl, hr8481, rfl⟩ := hp
        have hW : WS ad cA (fun i k => (i = 129 ∧ (k = 3 ∨ k = 5 ∨ k = 18 ∨ k = 19 ∨ k = 20)) ∨ i = 137 ∨ i = 139 ∨ i = 140 ∨ i = 141) g0 K g8475 H locs := ⟨hW1, hW.2.1, hW.2.2⟩
        refine q_if_eq (tgt := 208) hM dX12_stepTold_187 (by decide) (rfl : r8481.toInt = r8481.toInt) (fun h187 => ?_) (fun h187 => ?_)
        · refine q_aload_n hM dX12_stepTold_208 (lv_at hl 3 rfl) ?_
          refine q_callV (As := []) (rest := []) hM hW.1 hR hC myX12_isGood (kAW (v_5_8 (List.mem_of_getElem? (i := 11) rfl)) rfl) (rfl : vwCl[12]? = some (RX12, TX12, 86)) rfl lb_129.1 (shO hW.2.1 lb_129) (a_X12_isGood _ _ cA ad g8475 v8467 hW.2.1 hG q8470) ⟨by decide, by decide⟩ rfl rfl hl.1 (Nat.le_of_ble_eq_true rfl) dX12_stepTold_209 (fun v g8485 H locs hp hW1 => ?_)
          obtain ⟨r8484, rfl, hr8484, rfl⟩ := hp
          have hW : WS ad cA (fun i k => (i = 129 ∧ (k = 3 ∨ k = 5 ∨ k = 18 ∨ k = 19 ∨ k = 20)) ∨ i = 137 ∨ i = 139 ∨ i = 140 ∨ i = 141) g0 K g8475 H locs := ⟨hW1, hW.2.1, hW.2.2⟩
          refine q_if_ne (tgt := 216) hM dX12_stepTold_212 (by decide) (rfl : r8484.toInt = r8484.toInt) (fun h212 => ?_) (fun h212 => ?_)
          · refine q_iconst (v := (0 : Int32)) hM dX12_stepTold_216 (by decide) ?_
            refine q_istore (lv9 := [(4, .int (0 : Int32)), (3, .int r8468), (2, .int r8452), (1, .int pl), (0, .ref (ad 129))]) hM dX12_stepTold_217 hl (by decide) rfl (fun ls hl => ?_)
            have L219 : ∀ (fu219 : Nat) (w219_4 : Int32) (g9 : Nat → va_E) (H : Heap) (locs : List Loc) (ls : Array Slot), (r8452.toInt - w219_4.toInt + 1).toNat < fu219 → (Rng g9) → (0 ≤ w219_4.toInt) → (fld g9 129 3 = .int v8466) → (fld g9 129 5 = .int v8467) → (fld g9 129 18 = .int nm) → (fld g9 129 19 = .int om) → (arI g9 139 = arI g0 139) → (arI g9 140 = arI g0 140) → (arI g9 141 = arI g0 141) → lv_has ls 5 [(0, .ref (ad 129)), (1, .int pl), (2, .int r8452), (3, .int r8468), (4, .int w219_4)] → WS ad cA (fun i k => (i = 129 ∧ (k = 3 ∨ k = 5 ∨ k = 18 ∨ k = 19 ∨ k = 20)) ∨ i = 137 ∨ i = 139 ∨ i = 140 ∨ i = 141) g0 K g9 H locs → XX K 0 0 H locs 219 ls [] := by
              intro fu219
              induction fu219 with
              | zero => intro w219_4 g9 H locs ls h0; omega
              | succ fu219 ih219 =>
                intro w219_4 g9 H locs ls hm219 i219_0 i219_1 c219_129_3 c219_129_5 c219_129_18 c219_129_19 d219_139 d219_140 d219_141 hl hW
                have hG := i219_0
                have := i_rng r8452
                refine q_iload hM dX12_stepTold_219 (lv_at hl 4 rfl) ?_
                refine q_iload_n hM dX12_stepTold_221 (lv_at hl 2 rfl) ?_
                refine q_icmp_ge (tgt := 244) hM dX12_stepTold_222 (by decide) (rfl : w219_4.toInt = w219_4.toInt) (rfl : r8452.toInt = r8452.toInt) (fun h222 => ?_) (fun h222 => ?_)
                · refine q_aload_n hM dX12_stepTold_244 (lv_at hl 0 rfl) ?_
                  refine q_dup hM dX12_stepTold_245 rfl ?_
                  refine w_get (v := .int nm) hM hW FG_X12_227 lb_129 c219_129_18 dX12_stepTold_246 ?_
                  have bnm := hG.f c219_129_18 rF_129_18 (by decide)
                  refine q_iload_n hM dX12_stepTold_249 (lv_at hl 2 rfl) ?_
                  refine q_iadd hM dX12_stepTold_250 (fun z8489 hz8489 => ?_)
                  first | have tz8489 := i_addT hz8489 (rfl : nm.toInt = nm.toInt) (rfl : r8452.toInt = r8452.toInt) (by omega) (by omega) | skip
                  refine w_put hM hW FP_X12_227 lb_129 (by omega) (Or.inl ⟨_, rfl⟩) rfl rfl dX12_stepTold_251 (fun g8490 H locs hW e1 e2 => ?_)
                  have f8491 : fld g8490 129 3 = .int v8466 := (e2.1 129 3 (by unfold Only; omega)).trans c219_129_3
                  have f8492 : fld g8490 129 5 = .int v8467 := (e2.1 129 5 (by unfold Only; omega)).trans c219_129_5
                  have f8493 : fld g8490 129 19 = .int om := (e2.1 129 19 (by unfold Only; omega)).trans c219_129_19
                  have f8494 : arI g8490 139 = arI g0 139 := (e2.2.1 139 (by unfold Only; omega)).trans d219_139
                  have f8495 : arI g8490 140 = arI g0 140 := (e2.2.1 140 (by unfold Only; omega)).trans d219_140
                  have f8496 : arI g8490 141 = arI g0 141 := (e2.2.1 141 (by unfold Only; omega)).trans d219_141
                  have f8497 : fld g8490 129 18 = .int z8489 := e1
                  have hG := hG.put e1 e2 rF_129_18 (by decide) (by have := i_rng z8489; omega) (by have := i_rng z8489; omega)
                  refine q_aload_n hM dX12_stepTold_254 (lv_at hl 0 rfl) ?_
                  refine q_iconst (v := (1 : Int32)) hM dX12_stepTold_255 (by decide) ?_
                  refine w_put hM hW FP_X12_254 lb_129 (by omega) (Or.inl ⟨_, rfl⟩) rfl rfl dX12_stepTold_256 (fun g8498 H locs hW e1 e2 => ?_)
                  have f8499 : fld g8498 129 3 = .int v8466 := (e2.1 129 3 (by unfold Only; omega)).trans f8491
                  have f8500 : fld g8498 129 5 = .int v8467 := (e2.1 129 5 (by unfold Only; omega)).trans f8492
                  have f8501 : fld g8498 129 19 = .int om := (e2.1 129 19 (by unfold Only; omega)).trans f8493
                  have f8502 : arI g8498 139 = arI g0 139 := (e2.2.1 139 (by unfold Only; omega)).trans f8494
                  have f8503 : arI g8498 140 = arI g0 140 := (e2.2.1 140 (by unfold Only; omega)).trans f8495
                  have f8504 : arI g8498 141 = arI g0 141 := (e2.2.1 141 (by unfold Only; omega)).trans f8496
                  have f8505 : fld g8498 129 18 = .int z8489 := (e2.1 129 18 (by unfold Only; omega)).trans f8497
                  have f8506 : fld g8498 129 20 = .int (1 : Int32) := e1
                  have hG := hG.put e1 e2 (rfl : rF 129 20 = (-2147483648, 2147483647)) (by decide) (by have := kc_1; have := i_rng (1 : Int32); omega) (by have := kc_1; have := i_rng (1 : Int32); omega)
                  refine q_aload_n hM dX12_stepTold_259 (lv_at hl 0 rfl) ?_
                  refine q_dup hM dX12_stepTold_260 rfl ?_
                  refine w_get (v := .int v8466) hM hW FG_X12_173 lb_129 f8499 dX12_stepTold_261 ?_
                  have bv8466 := hG.f f8499 rF_129_3 (by decide)
                  refine q_iconst (v := (1 : Int32)) hM dX12_stepTold_264 (by decide) ?_
                  refine q_iadd hM dX12_stepTold_265 (fun z8507 hz8507 => ?_)
                  first | have tz8507 := i_addT hz8507 (rfl : v8466.toInt = v8466.toInt) (kc_1 : (1 : Int32).toInt = 1) (by omega) (by omega) | skip
                  refine w_put hM hW FP_X12_173 lb_129 (by omega) (Or.inl ⟨_, rfl⟩) rfl rfl dX12_stepTold_266 (fun g8508 H locs hW e1 e2 => ?_)
                  have f8509 : fld g8508 129 5 = .int v8467 := (e2.1 129 5 (by unfold Only; omega)).trans f8500
                  have f8510 : fld g8508 129 19 = .int om := (e2.1 129 19 (by unfold Only; omega)).trans f8501
                  have f8511 : arI g8508 139 = arI g0 139 := (e2.2.1 139 (by unfold Only; omega)).trans f8502
                  have f8512 : arI g8508 140 = arI g0 140 := (e2.2.1 140 (by unfold Only; omega)).trans f8503
                  have f8513 : arI g8508 141 = arI g0 141 := (e2.2.1 141 (by unfold Only; omega)).trans f8504
                  have f8514 : fld g8508 129 18 = .int z8489 := (e2.1 129 18 (by unfold Only; omega)).trans f8505
                  have f8515 : fld g8508 129 20 = .int (1 : Int32) := (e2.1 129 20 (by unfold Only; omega)).trans f8506
                  have f8516 : fld g8508 129 3 = .int z8507 := e1
                  have hG := hG.put e1 e2 rF_129_3 (by decide) (by have := i_rng z8507; omega) (by have := i_rng z8507; omega)
                  exact hE _ _ _ _ _ hW.1 ⟨z8507, v8467, z8489, om, rfl, hW.2.1, hG, hW.2.2, f8516, f8509, f8514, f8510, (by omega), (by omega), (by omega), (fun _ => by rw [f8511, f8512, f8513]; exact OA_mono hO (by omega) (by omega)), (by omega)⟩ dX12_stepTold_269
                · refine q_aload_n hM dX12_stepTold_225 (lv_at hl 0 rfl) ?_
                  refine w_get (v := .ref (ad 137)) hM hW FG_X12_37 lb_129 (rf_129_16 hW.2.1) dX12_stepTold_226 ?_
                  refine q_aload_n hM dX12_stepTold_229 (lv_at hl 0 rfl) ?_
                  refine w_get (v := .int nm) hM hW FG_X12_227 lb_129 c219_129_18 dX12_stepTold_230 ?_
                  have bnm := hG.f c219_129_18 rF_129_18 (by decide)
                  refine q_iload hM dX12_stepTold_233 (lv_at hl 4 rfl) ?_
                  refine q_iadd hM dX12_stepTold_235 (fun z8518 hz8518 => ?_)
                  first | have tz8518 := i_addT hz8518 (rfl : nm.toInt = nm.toInt) (rfl : w219_4.toInt = w219_4.toInt) (by omega) (by omega) | skip
                  refine q_iload_n hM dX12_stepTold_236 (lv_at hl 3 rfl) ?_
                  refine w_iast hM hW lb_137 (by omega) (i_in (by omega) (by omega)) dX12_stepTold_237 (fun g8519 H locs hW e1 e2 => ?_)
                  have f8520 : fld g8519 129 3 = .int v8466 := (e2.1 129 3 (by unfold Only; omega)).trans c219_129_3
                  have f8521 : fld g8519 129 5 = .int v8467 := (e2.1 129 5 (by unfold Only; omega)).trans c219_129_5
                  have f8522 : fld g8519 129 18 = .int nm := (e2.1 129 18 (by unfold Only; omega)).trans c219_129_18
                  have f8523 : fld g8519 129 19 = .int om := (e2.1 129 19 (by unfold Only; omega)).trans c219_129_19
                  have f8524 : arI g8519 139 = arI g0 139 := (e2.2.1 139 (by unfold Only; omega)).trans d219_139
                  have f8525 : arI g8519 140 = arI g0 140 := (e2.2.1 140 (by unfold Only; omega)).trans d219_140
                  have f8526 : arI g8519 141 = arI g0 141 := (e2.2.1 141 (by unfold Only; omega)).trans d219_141
                  have hG := hG.st e1 e2 rA_137 (by have := i_rng r8468; omega) (by have := i_rng r8468; omega)
                  refine q_iinc (lv9 := fun z8527 => [(4, .int z8527), (0, .ref (ad 129)), (1, .int pl), (2, .int r8452), (3, .int r8468)]) hM dX12_stepTold_238 hl (kq := 4) rfl (by decide) (fun _ => rfl) (fun z8527 ls hz8527 hl => ?_)
                  first | have tz8527 := i_addT hz8527 (rfl : w219_4.toInt = w219_4.toInt) (kc_1 : (Int32.ofInt 1).toInt = 1) (by omega) (by omega) | skip
                  refine q_goto (tgt := 219) hM dX12_stepTold_241 (by decide) ?_
                  exact ih219 z8527 _ _ _ _ (by omega) hG (by omega) f8520 f8521 f8522 f8523 f8524 f8525 f8526 (lv_sub hl [1, 2, 3, 4, 0] rfl) hW
            have := kc_0
            exact L219 _ (0 : Int32) _ _ _ _ (Nat.lt_succ_self _) hG (by omega) q8469 q8470 f8479 f8480 f8476 f8477 f8478 (lv_sub hl [4, 3, 2, 1, 0] rfl) hW
          · exact hE _ _ _ _ _ hW.1 ⟨v8466, v8467, nm, om, rfl, hW.2.1, hG, hW.2.2, q8469, q8470, f8479, f8480, (by omega), (by omega), (by omega), (fun _ => by rw [f8476, f8477, f8478]; exact OA_mono hO (by omega) (by omega)), (by omega)⟩ dX12_stepTold_215
        · refine q_aload_n hM dX12_stepTold_190 (lv_at hl 3 rfl) ?_
          refine w_get (v := .int nm) hM hW FG_X12_227 lb_129 f8479 dX12_stepTold_191 ?_
          have bnm := hG.f f8479 rF_129_18 (by decide)
          refine q_iload_n hM dX12_stepTold_194 (lv_at hl 1 rfl) ?_
          refine q_iadd hM dX12_stepTold_195 (fun z8530 hz8530 => ?_)
          first | have tz8530 := i_addT hz8530 (rfl : nm.toInt = nm.toInt) (rfl : r8452.toInt = r8452.toInt) (by omega) (by omega) | skip
          refine q_bipush (v := (48 : Int32)) hM dX12_stepTold_196 (by decide) ?_
          refine q_icmp_le (tgt := 208) hM dX12_stepTold_198 (by decide) (rfl : z8530.toInt = z8530.toInt) (kc_48 : (48 : Int32).toInt = 48) (fun h198 => ?_) (fun h198 => ?_)
          · refine q_aload_n hM dX12_stepTold_208 (lv_at hl 3 rfl) ?_
            refine q_callV (As := []) (rest := []) hM hW.1 hR hC myX12_isGood (kAW (v_5_8 (List.mem_of_getElem? (i := 11) rfl)) rfl) (rfl : vwCl[12]? = some (RX12, TX12, 86)) rfl lb_129.1 (shO hW.2.1 lb_129) (a_X12_isGood _ _ cA ad g8475 v8467 hW.2.1 hG q8470) ⟨by decide, by decide⟩ rfl rfl hl.1 (Nat.le_of_ble_eq_true rfl) dX12_stepTold_209 (fun v g8533 H locs hp hW1 => ?_)
            obtain ⟨r8532, rfl, hr8532, rfl⟩ := hp
            have hW : WS ad cA (fun i k => (i = 129 ∧ (k = 3 ∨ k = 5 ∨ k = 18 ∨ k = 19 ∨ k = 20)) ∨ i = 137 ∨ i = 139 ∨ i = 140 ∨ i = 141) g0 K g8475 H locs := ⟨hW1, hW.2.1, hW.2.2⟩
            refine q_if_ne (tgt := 216) hM dX12_stepTold_212 (by decide) (rfl : r8532.toInt = r8532.toInt) (fun h212 => ?_) (fun h212 => ?_)
            · refine q_iconst (v := (0 : Int32)) hM dX12_stepTold_216 (by decide) ?_
              refine q_istore (lv9 := [(4, .int (0 : Int32)), (3, .int r8468), (2, .int r8452), (1, .int pl), (0, .ref (ad 129))]) hM dX12_stepTold_217 hl (by decide) rfl (fun ls hl => ?_)
              have L219 : ∀ (fu219 : Nat) (w219_4 : Int32) (g9 : Nat → va_E) (H : Heap) (locs : List Loc) (ls : Array Slot), (r8452.toInt - w219_4.toInt + 1).toNat < fu219 → (Rng g9) → (0 ≤ w219_4.toInt) → (fld g9 129 3 = .int v8466) → (fld g9 129 5 = .int v8467) → (fld g9 129 18 = .int nm) → (fld g9 129 19 = .int om) → (arI g9 139 = arI g0 139) → (arI g9 140 = arI g0 140) → (arI g9 141 = arI g0 141) → lv_has ls 5 [(0, .ref (ad 129)), (1, .int pl), (2, .int r8452), (3, .int r8468), (4, .int w219_4)] → WS ad cA (fun i k => (i = 129 ∧ (k = 3 ∨ k = 5 ∨ k = 18 ∨ k = 19 ∨ k = 20)) ∨ i = 137 ∨ i = 139 ∨ i = 140 ∨ i = 141) g0 K g9 H locs → XX K 0 0 H locs 219 ls [] := by
                intro fu219
                induction fu219 with
                | zero => intro w219_4 g9 H locs ls h0; omega
                | succ fu219 ih219 =>
                  intro w219_4 g9 H locs ls hm219 i219_0 i219_1 c219_129_3 c219_129_5 c219_129_18 c219_129_19 d219_139 d219_140 d219_141 hl hW
                  have hG := i219_0
                  have := i_rng r8452
                  refine q_iload hM dX12_stepTold_219 (lv_at hl 4 rfl) ?_
                  refine q_iload_n hM dX12_stepTold_221 (lv_at hl 2 rfl) ?_
                  refine q_icmp_ge (tgt := 244) hM dX12_stepTold_222 (by decide) (rfl : w219_4.toInt = w219_4.toInt) (rfl : r8452.toInt = r8452.toInt) (fun h222 => ?_) (fun h222 => ?_)
                  · refine q_aload_n hM dX12_stepTold_244 (lv_at hl 0 rfl) ?_
                    refine q_dup hM dX12_stepTold_245 rfl ?_
                    refine w_get (v := .int nm) hM hW FG_X12_227 lb_129 c219_129_18 dX12_stepTold_246 ?_
                    have bnm := hG.f c219_129_18 rF_129_18 (by decide)
                    refine q_iload_n hM dX12_stepTold_249 (lv_at hl 2 rfl) ?_
                    refine q_iadd hM dX12_stepTold_250 (fun z8537 hz8537 => ?_)
                    first | have tz8537 := i_addT hz8537 (rfl : nm.toInt = nm.toInt) (rfl : r8452.toInt = r8452.toInt) (by omega) (by omega) | skip
                    refine w_put hM hW FP_X12_227 lb_129 (by omega) (Or.inl ⟨_, rfl⟩) rfl rfl dX12_stepTold_251 (fun g8538 H locs hW e1 e2 => ?_)
                    have f8539 : fld g8538 129 3 = .int v8466 := (e2.1 129 3 (by unfold Only; omega)).trans c219_129_3
                    have f8540 : fld g8538 129 5 = .int v8467 := (e2.1 129 5 (by unfold Only; omega)).trans c219_129_5
                    have f8541 : fld g8538 129 19 = .int om := (e2.1 129 19 (by unfold Only; omega)).trans c219_129_19
                    have f8542 : arI g8538 139 = arI g0 139 := (e2.2.1 139 (by unfold Only; omega)).trans d219_139
                    have f8543 : arI g8538 140 = arI g0 140 := (e2.2.1 140 (by unfold Only; omega)).trans d219_140
                    have f8544 : arI g8538 141 = arI g0 141 := (e2.2.1 141 (by unfold Only; omega)).trans d219_141
                    have f8545 : fld g8538 129 18 = .int z8537 := e1
                    have hG := hG.put e1 e2 rF_129_18 (by decide) (by have := i_rng z8537; omega) (by have := i_rng z8537; omega)
                    refine q_aload_n hM dX12_stepTold_254 (lv_at hl 0 rfl) ?_
                    refine q_iconst (v := (1 : Int32)) hM dX12_stepTold_255 (by decide) ?_
                    refine w_put hM hW FP_X12_254 lb_129 (by omega) (Or.inl ⟨_, rfl⟩) rfl rfl dX12_stepTold_256 (fun g8546 H locs hW e1 e2 => ?_)
                    have f8547 : fld g8546 129 3 = .int v8466 := (e2.1 129 3 (by unfold Only; omega)).trans f8539
                    have f8548 : fld g8546 129 5 = .int v8467 := (e2.1 129 5 (by unfold Only; omega)).trans f8540
                    have f8549 : fld g8546 129 19 = .int om := (e2.1 129 19 (by unfold Only; omega)).trans f8541
                    have f8550 : arI g8546 139 = arI g0 139 := (e2.2.1 139 (by unfold Only; omega)).trans f8542
                    have f8551 : arI g8546 140 = arI g0 140 := (e2.2.1 140 (by unfold Only; omega)).trans f8543
                    have f8552 : arI g8546 141 = arI g0 141 := (e2.2.1 141 (by unfold Only; omega)).trans f8544
                    have f8553 : fld g8546 129 18 = .int z8537 := (e2.1 129 18 (by unfold Only; omega)).trans f8545
                    have f8554 : fld g8546 129 20 = .int (1 : Int32) := e1
                    have hG := hG.put e1 e2 (rfl : rF 129 20 = (-2147483648, 2147483647)) (by decide) (by have := kc_1; have := i_rng (1 : Int32); omega) (by have := kc_1; have := i_rng (1 : Int32); omega)
                    refine q_aload_n hM dX12_stepTold_259 (lv_at hl 0 rfl) ?_
                    refine q_dup hM dX12_stepTold_260 rfl ?_
                    refine w_get (v := .int v8466) hM hW FG_X12_173 lb_129 f8547 dX12_stepTold_261 ?_
                    have bv8466 := hG.f f8547 rF_129_3 (by decide)
                    refine q_iconst (v := (1 : Int32)) hM dX12_stepTold_264 (by decide) ?_
                    refine q_iadd hM dX12_stepTold_265 (fun z8555 hz8555 => ?_)
                    first | have tz8555 := i_addT hz8555 (rfl : v8466.toInt = v8466.toInt) (kc_1 : (1 : Int32).toInt = 1) (by omega) (by omega) | skip
                    refine w_put hM hW FP_X12_173 lb_129 (by omega) (Or.inl ⟨_, rfl⟩) rfl rfl dX12_stepTold_266 (fun g8556 H locs hW e1 e2 => ?_)
                    have f8557 : fld g8556 129 5 = .int v8467 := (e2.1 129 5 (by unfold Only; omega)).trans f8548
                    have f8558 : fld g8556 129 19 = .int om := (e2.1 129 19 (by unfold Only; omega)).trans f8549
                    have f8559 : arI g8556 139 = arI g0 139 := (e2.2.1 139 (by unfold Only; omega)).trans f8550
                    have f8560 : arI g8556 140 = arI g0 140 := (e2.2.1 140 (by unfold Only; omega)).trans f8551
                    have f8561 : arI g8556 141 = arI g0 141 := (e2.2.1 141 (by unfold Only; omega)).trans f8552
                    have f8562 : fld g8556 129 18 = .int z8537 := (e2.1 129 18 (by unfold Only; omega)).trans f8553
                    have f8563 : fld g8556 129 20 = .int (1 : Int32) := (e2.1 129 20 (by unfold Only; omega)).trans f8554
                    have f8564 : fld g8556 129 3 = .int z8555 := e1
                    have hG := hG.put e1 e2 rF_129_3 (by decide) (by have := i_rng z8555; omega) (by have := i_rng z8555; omega)
                    exact hE _ _ _ _ _ hW.1 ⟨z8555, v8467, z8537, om, rfl, hW.2.1, hG, hW.2.2, f8564, f8557, f8562, f8558, (by omega), (by omega), (by omega), (fun _ => by rw [f8559, f8560, f8561]; exact OA_mono hO (by omega) (by omega)), (by omega)⟩ dX12_stepTold_269
                  · refine q_aload_n hM dX12_stepTold_225 (lv_at hl 0 rfl) ?_
                    refine w_get (v := .ref (ad 137)) hM hW FG_X12_37 lb_129 (rf_129_16 hW.2.1) dX12_stepTold_226 ?_
                    refine q_aload_n hM dX12_stepTold_229 (lv_at hl 0 rfl) ?_
                    refine w_get (v := .int nm) hM hW FG_X12_227 lb_129 c219_129_18 dX12_stepTold_230 ?_
                    have bnm := hG.f c219_129_18 rF_129_18 (by decide)
                    refine q_iload hM dX12_stepTold_233 (lv_at hl 4 rfl) ?_
                    refine q_iadd hM dX12_stepTold_235 (fun z8566 hz8566 => ?_)
                    first | have tz8566 := i_addT hz8566 (rfl : nm.toInt = nm.toInt) (rfl : w219_4.toInt = w219_4.toInt) (by omega) (by omega) | skip
                    refine q_iload_n hM dX12_stepTold_236 (lv_at hl 3 rfl) ?_
                    refine w_iast hM hW lb_137 (by omega) (i_in (by omega) (by omega)) dX12_stepTold_237 (fun g8567 H locs hW e1 e2 => ?_)
                    have f8568 : fld g8567 129 3 = .int v8466 := (e2.1 129 3 (by unfold Only; omega)).trans c219_129_3
                    have f8569 : fld g8567 129 5 = .int v8467 := (e2.1 129 5 (by unfold Only; omega)).trans c219_129_5
                    have f8570 : fld g8567 129 18 = .int nm := (e2.1 129 18 (by unfold Only; omega)).trans c219_129_18
                    have f8571 : fld g8567 129 19 = .int om := (e2.1 129 19 (by unfold Only; omega)).trans c219_129_19
                    have f8572 : arI g8567 139 = arI g0 139 := (e2.2.1 139 (by unfold Only; omega)).trans d219_139
                    have f8573 : arI g8567 140 = arI g0 140 := (e2.2.1 140 (by unfold Only; omega)).trans d219_140
                    have f8574 : arI g8567 141 = arI g0 141 := (e2.2.1 141 (by unfold Only; omega)).trans d219_141
                    have hG := hG.st e1 e2 rA_137 (by have := i_rng r8468; omega) (by have := i_rng r8468; omega)
                    refine q_iinc (lv9 := fun z8575 => [(4, .int z8575), (0, .ref (ad 129)), (1, .int pl), (2, .int r8452), (3, .int r8468)]) hM dX12_stepTold_238 hl (kq := 4) rfl (by decide) (fun _ => rfl) (fun z8575 ls hz8575 hl => ?_)
                    first | have tz8575 := i_addT hz8575 (rfl : w219_4.toInt = w219_4.toInt) (kc_1 : (Int32.ofInt 1).toInt = 1) (by omega) (by omega) | skip
                    refine q_goto (tgt := 219) hM dX12_stepTold_241 (by decide) ?_
                    exact ih219 z8575 _ _ _ _ (by omega) hG (by omega) f8568 f8569 f8570 f8571 f8572 f8573 f8574 (lv_sub hl [1, 2, 3, 4, 0] rfl) hW
              have := kc_0
              exact L219 _ (0 : Int32) _ _ _ _ (Nat.lt_succ_self _) hG (by omega) q8469 q8470 f8479 f8480 f8476 f8477 f8478 (lv_sub hl [4, 3, 2, 1, 0] rfl) hW
            · exact hE _ _ _ _ _ hW.1 ⟨v8466, v8467, nm, om, rfl, hW.2.1, hG, hW.2.2, q8469, q8470, f8479, f8480, (by omega), (by omega), (by omega), (fun _ => by rw [f8476, f8477, f8478]; exact OA_mono hO (by omega) (by omega)), (by omega)⟩ dX12_stepTold_215
          · refine q_aload_n hM dX12_stepTold_201 (lv_at hl 3 rfl) ?_
            refine q_bipush (v := (6 : Int32)) hM dX12_stepTold_202 (by decide) ?_
            refine q_iload_n hM dX12_stepTold_204 (lv_at hl 2 rfl) ?_
            refine q_callV (As := [.int (6 : Int32), .int pl]) (rest := []) hM hW.1 hR hC myX12_wrongs (kAW (v_5_9 (List.mem_of_getElem? (i := 11) rfl)) rfl) (rfl : vwCl[12]? = some (RX12, TX12, 86)) rfl lb_129.1 (shO hW.2.1 lb_129) (a_X12_wrongs _ _ cA ad g8475 (6 : Int32) pl v8467 hW.2.1 hG q8470 (by have := kc_6; omega) (by have := kc_6; omega) (by have := kc_6; omega) (by have := kc_6; omega)) ⟨by decide, by decide⟩ rfl rfl hl.1 (Nat.le_of_ble_eq_true rfl) dX12_stepTold_205 (fun v g8581 H locs hp hW1 => ?_)
            obtain ⟨v8578, rfl, hs1, hG, hf1, q8579, e8580⟩ := hp
            have f8582 : arI g8581 139 = arI g0 139 := (hf1.2.1 139 (by omega)).trans f8476
            have f8583 : arI g8581 140 = arI g0 140 := (hf1.2.1 140 (by omega)).trans f8477
            have f8584 : arI g8581 141 = arI g0 141 := (hf1.2.1 141 (by omega)).trans f8478
            have f8585 : fld g8581 129 18 = .int nm := (hf1.1 129 18 (by omega)).trans f8479
            have f8586 : fld g8581 129 19 = .int om := (hf1.1 129 19 (by omega)).trans f8480
            have f8587 : fld g8581 129 3 = .int v8466 := (hf1.1 129 3 (by omega)).trans q8469
            have hW : WS ad cA (fun i k => (i = 129 ∧ (k = 3 ∨ k = 5 ∨ k = 18 ∨ k = 19 ∨ k = 20)) ∨ i = 137 ∨ i = 139 ∨ i = 140 ∨ i = 141) g0 K g8581 H locs := ⟨hW1, hs1, hW.2.2.tr hf1 (fun i k h => (Or.inl (by omega)))⟩
            refine q_aload_n hM dX12_stepTold_208 (lv_at hl 3 rfl) ?_
            refine q_callV (As := []) (rest := []) hM hW.1 hR hC myX12_isGood (kAW (v_5_8 (List.mem_of_getElem? (i := 11) rfl)) rfl) (rfl : vwCl[12]? = some (RX12, TX12, 86)) rfl lb_129.1 (shO hW.2.1 lb_129) (a_X12_isGood _ _ cA ad g8581 v8578 hW.2.1 hG q8579) ⟨by decide, by decide⟩ rfl rfl hl.1 (Nat.le_of_ble_eq_true rfl) dX12_stepTold_209 (fun v g8589 H locs hp hW1 => ?_)
            obtain ⟨r8588, rfl, hr8588, rfl⟩ := hp
            have hW : WS ad cA (fun i k => (i = 129 ∧ (k = 3 ∨ k = 5 ∨ k = 18 ∨ k = 19 ∨ k = 20)) ∨ i = 137 ∨ i = 139 ∨ i = 140 ∨ i = 141) g0 K g8581 H locs := ⟨hW1, hW.2.1, hW.2.2⟩
            refine q_if_ne (tgt := 216) hM dX12_stepTold_212 (by decide) (rfl : r8588.toInt = r8588.toInt) (fun h212 => ?_) (fun h212 => ?_)
            · refine q_iconst (v := (0 : Int32)) hM dX12_stepTold_216 (by decide) ?_
              refine q_istore (lv9 := [(4, .int (0 : Int32)), (3, .int r8468), (2, .int r8452), (1, .int pl), (0, .ref (ad 129))]) hM dX12_stepTold_217 hl (by decide) rfl (fun ls hl => ?_)
              have L219 : ∀ (fu219 : Nat) (w219_4 : Int32) (g9 : Nat → va_E) (H : Heap) (locs : List Loc) (ls : Array Slot), (r8452.toInt - w219_4.toInt + 1).toNat < fu219 → (Rng g9) → (0 ≤ w219_4.toInt) → (fld g9 129 3 = .int v8466) → (fld g9 129 5 = .int v8578) → (fld g9 129 18 = .int nm) → (fld g9 129 19 = .int om) → (arI g9 139 = arI g0 139) → (arI g9 140 = arI g0 140) → (arI g9 141 = arI g0 141) → lv_has ls 5 [(0, .ref (ad 129)), (1, .int pl), (2, .int r8452), (3, .int r8468), (4, .int w219_4)] → WS ad cA (fun i k => (i = 129 ∧ (k = 3 ∨ k = 5 ∨ k = 18 ∨ k = 19 ∨ k = 20)) ∨ i = 137 ∨ i = 139 ∨ i = 140 ∨ i = 141) g0 K g9 H locs → XX K 0 0 H locs 219 ls [] := by
                intro fu219
                induction fu219 with
                | zero => intro w219_4 g9 H locs ls h0; omega
                | succ fu219 ih219 =>
                  intro w219_4 g9 H locs ls hm219 i219_0 i219_1 c219_129_3 c219_129_5 c219_129_18 c219_129_19 d219_139 d219_140 d219_141 hl hW
                  have hG := i219_0
                  have := i_rng r8452
                  refine q_iload hM dX12_stepTold_219 (lv_at hl 4 rfl) ?_
                  refine q_iload_n hM dX12_stepTold_221 (lv_at hl 2 rfl) ?_
                  refine q_icmp_ge (tgt := 244) hM dX12_stepTold_222 (by decide) (rfl : w219_4.toInt = w219_4.toInt) (rfl : r8452.toInt = r8452.toInt) (fun h222 => ?_) (fun h222 => ?_)
                  · refine q_aload_n hM dX12_stepTold_244 (lv_at hl 0 rfl) ?_
                    refine q_dup hM dX12_stepTold_245 rfl ?_
                    refine w_get (v := .int nm) hM hW FG_X12_227 lb_129 c219_129_18 dX12_stepTold_246 ?_
                    have bnm := hG.f c219_129_18 rF_129_18 (by decide)
                    refine q_iload_n hM dX12_stepTold_249 (lv_at hl 2 rfl) ?_
                    refine q_iadd hM dX12_stepTold_250 (fun z8593 hz8593 => ?_)
                    first | have tz8593 := i_addT hz8593 (rfl : nm.toInt = nm.toInt) (rfl : r8452.toInt = r8452.toInt) (by omega) (by omega) | skip
                    refine w_put hM hW FP_X12_227 lb_129 (by omega) (Or.inl ⟨_, rfl⟩) rfl rfl dX12_stepTold_251 (fun g8594 H locs hW e1 e2 => ?_)
                    have f8595 : fld g8594 129 3 = .int v8466 := (e2.1 129 3 (by unfold Only; omega)).trans c219_129_3
                    have f8596 : fld g8594 129 5 = .int v8578 := (e2.1 129 5 (by unfold Only; omega)).trans c219_129_5
                    have f8597 : fld g8594 129 19 = .int om := (e2.1 129 19 (by unfold Only; omega)).trans c219_129_19
                    have f8598 : arI g8594 139 = arI g0 139 := (e2.2.1 139 (by unfold Only; omega)).trans d219_139
                    have f8599 : arI g8594 140 = arI g0 140 := (e2.2.1 140 (by unfold Only; omega)).trans d219_140
                    have f8600 : arI g8594 141 = arI g0 141 := (e2.2.1 141 (by unfold Only; omega)).trans d219_141
                    have f8601 : fld g8594 129 18 = .int z8593 := e1
                    have hG := hG.put e1 e2 rF_129_18 (by decide) (by have := i_rng z8593; omega) (by have := i_rng z8593; omega)
                    refine q_aload_n hM dX12_stepTold_254 (lv_at hl 0 rfl) ?_
                    refine q_iconst (v := (1 : Int32)) hM dX12_stepTold_255 (by decide) ?_
                    refine w_put hM hW FP_X12_254 lb_129 (by omega) (Or.inl ⟨_, rfl⟩) rfl rfl dX12_stepTold_256 (fun g8602 H locs hW e1 e2 => ?_)
                    have f8603 : fld g8602 129 3 = .int v8466 := (e2.1 129 3 (by unfold Only; omega)).trans f8595
                    have f8604 : fld g8602 129 5 = .int v8578 := (e2.1 129 5 (by unfold Only; omega)).trans f8596
                    have f8605 : fld g8602 129 19 = .int om := (e2.1 129 19 (by unfold Only; omega)).trans f8597
                    have f8606 : arI g8602 139 = arI g0 139 := (e2.2.1 139 (by unfold Only; omega)).trans f8598
                    have f8607 : arI g8602 140 = arI g0 140 := (e2.2.1 140 (by unfold Only; omega)).trans f8599
                    have f8608 : arI g8602 141 = arI g0 141 := (e2.2.1 141 (by unfold Only; omega)).trans f8600
                    have f8609 : fld g8602 129 18 = .int z8593 := (e2.1 129 18 (by unfold Only; omega)).trans f8601
                    have f8610 : fld g8602 129 20 = .int (1 : Int32) := e1
                    have hG := hG.put e1 e2 (rfl : rF 129 20 = (-2147483648, 2147483647)) (by decide) (by have := kc_1; have := i_rng (1 : Int32); omega) (by have := kc_1; have := i_rng (1 : Int32); omega)
                    refine q_aload_n hM dX12_stepTold_259 (lv_at hl 0 rfl) ?_
                    refine q_dup hM dX12_stepTold_260 rfl ?_
                    refine w_get (v := .int v8466) hM hW FG_X12_173 lb_129 f8603 dX12_stepTold_261 ?_
                    have bv8466 := hG.f f8603 rF_129_3 (by decide)
                    refine q_iconst (v := (1 : Int32)) hM dX12_stepTold_264 (by decide) ?_
                    refine q_iadd hM dX12_stepTold_265 (fun z8611 hz8611 => ?_)
                    first | have tz8611 := i_addT hz8611 (rfl : v8466.toInt = v8466.toInt) (kc_1 : (1 : Int32).toInt = 1) (by omega) (by omega) | skip
                    refine w_put hM hW FP_X12_173 lb_129 (by omega) (Or.inl ⟨_, rfl⟩) rfl rfl dX12_stepTold_266 (fun g8612 H locs hW e1 e2 => ?_)
                    have f8613 : fld g8612 129 5 = .int v8578 := (e2.1 129 5 (by unfold Only; omega)).trans f8604
                    have f8614 : fld g8612 129 19 = .int om := (e2.1 129 19 (by unfold Only; omega)).trans f8605
                    have f8615 : arI g8612 139 = arI g0 139 := (e2.2.1 139 (by unfold Only; omega)).trans f8606
                    have f8616 : arI g8612 140 = arI g0 140 := (e2.2.1 140 (by unfold Only; omega)).trans f8607
                    have f8617 : arI g8612 141 = arI g0 141 := (e2.2.1 141 (by unfold Only; omega)).trans f8608
                    have f8618 : fld g8612 129 18 = .int z8593 := (e2.1 129 18 (by unfold Only; omega)).trans f8609
                    have f8619 : fld g8612 129 20 = .int (1 : Int32) := (e2.1 129 20 (by unfold Only; omega)).trans f8610
                    have f8620 : fld g8612 129 3 = .int z8611 := e1
                    have hG := hG.put e1 e2 rF_129_3 (by decide) (by have := i_rng z8611; omega) (by have := i_rng z8611; omega)
                    exact hE _ _ _ _ _ hW.1 ⟨z8611, v8578, z8593, om, rfl, hW.2.1, hG, hW.2.2, f8620, f8613, f8618, f8614, (by omega), (by omega), (by omega), (fun _ => by rw [f8615, f8616, f8617]; exact OA_mono hO (by omega) (by omega)), (by omega)⟩ dX12_stepTold_269
                  · refine q_aload_n hM dX12_stepTold_225 (lv_at hl 0 rfl) ?_
                    refine w_get (v := .ref (ad 137)) hM hW FG_X12_37 lb_129 (rf_129_16 hW.2.1) dX12_stepTold_226 ?_
                    refine q_aload_n hM dX12_stepTold_229 (lv_at hl 0 rfl) ?_
                    refine w_get (v := .int nm) hM hW FG_X12_227 lb_129 c219_129_18 dX12_stepTold_230 ?_
                    have bnm := hG.f c219_129_18 rF_129_18 (by decide)
                    refine q_iload hM dX12_stepTold_233 (lv_at hl 4 rfl) ?_
                    refine q_iadd hM dX12_stepTold_235 (fun z8622 hz8622 => ?_)
                    first | have tz8622 := i_addT hz8622 (rfl : nm.toInt = nm.toInt) (rfl : w219_4.toInt = w219_4.toInt) (by omega) (by omega) | skip
                    refine q_iload_n hM dX12_stepTold_236 (lv_at hl 3 rfl) ?_
                    refine w_iast hM hW lb_137 (by omega) (i_in (by omega) (by omega)) dX12_stepTold_237 (fun g8623 H locs hW e1 e2 => ?_)
                    have f8624 : fld g8623 129 3 = .int v8466 := (e2.1 129 3 (by unfold Only; omega)).trans c219_129_3
                    have f8625 : fld g8623 129 5 = .int v8578 := (e2.1 129 5 (by unfold Only; omega)).trans c219_129_5
                    have f8626 : fld g8623 129 18 = .int nm := (e2.1 129 18 (by unfold Only; omega)).trans c219_129_18
                    have f8627 : fld g8623 129 19 = .int om := (e2.1 129 19 (by unfold Only; omega)).trans c219_129_19
                    have f8628 : arI g8623 139 = arI g0 139 := (e2.2.1 139 (by unfold Only; omega)).trans d219_139
                    have f8629 : arI g8623 140 = arI g0 140 := (e2.2.1 140 (by unfold Only; omega)).trans d219_140
                    have f8630 : arI g8623 141 = arI g0 141 := (e2.2.1 141 (by unfold Only; omega)).trans d219_141
                    have hG := hG.st e1 e2 rA_137 (by have := i_rng r8468; omega) (by have := i_rng r8468; omega)
                    refine q_iinc (lv9 := fun z8631 => [(4, .int z8631), (0, .ref (ad 129)), (1, .int pl), (2, .int r8452), (3, .int r8468)]) hM dX12_stepTold_238 hl (kq := 4) rfl (by decide) (fun _ => rfl) (fun z8631 ls hz8631 hl => ?_)
                    first | have tz8631 := i_addT hz8631 (rfl : w219_4.toInt = w219_4.toInt) (kc_1 : (Int32.ofInt 1).toInt = 1) (by omega) (by omega) | skip
                    refine q_goto (tgt := 219) hM dX12_stepTold_241 (by decide) ?_
                    exact ih219 z8631 _ _ _ _ (by omega) hG (by omega) f8624 f8625 f8626 f8627 f8628 f8629 f8630 (lv_sub hl [1, 2, 3, 4, 0] rfl) hW
              have := kc_0
              exact L219 _ (0 : Int32) _ _ _ _ (Nat.lt_succ_self _) hG (by omega) f8587 q8579 f8585 f8586 f8582 f8583 f8584 (lv_sub hl [4, 3, 2, 1, 0] rfl) hW
            · exact hE _ _ _ _ _ hW.1 ⟨v8466, v8578, nm, om, rfl, hW.2.1, hG, hW.2.2, f8587, q8579, f8585, f8586, (by omega), (by omega), (by omega), (fun _ => by rw [f8582, f8583, f8584]; exact OA_mono hO (by omega) (by omega)), (by omega)⟩ dX12_stepTold_215
      · refine q_aload_n hM dX12_stepTold_94 (lv_at hl 2 rfl) ?_
        refine w_get (v := .int om) hM hW FG_X12_251 lb_129 f8462 dX12_stepTold_95 ?_
        have bom := hG.f f8462 rF_129_19 (by decide)
        refine q_iconst (v := (2 : Int32)) hM dX12_stepTold_98 (by decide) ?_
        refine q_icmp_ne (tgt := 111) hM dX12_stepTold_99 (by decide) (rfl : om.toInt = om.toInt) (kc_2 : (2 : Int32).toInt = 2) (fun h99 => ?_) (fun h99 => ?_)
        · refine q_aload_n hM dX12_stepTold_111 (lv_at hl 2 rfl) ?_
          refine q_callV (As := []) (rest := []) hM hW.1 hR hC myX12_isGood (kAW (v_5_8 (List.mem_of_getElem? (i := 11) rfl)) rfl) (rfl : vwCl[12]? = some (RX12, TX12, 86)) rfl lb_129.1 (shO hW.2.1 lb_129) (a_X12_isGood _ _ cA ad g8456 bd hW.2.1 hG f8460) ⟨by decide, by decide⟩ rfl rfl hl.1 (Nat.le_of_ble_eq_true rfl) dX12_stepTold_112 (fun v g8636 H locs hp hW1 => ?_)
          obtain ⟨r8635, rfl, hr8635, rfl⟩ := hp
          have hW : WS ad cA (fun i k => (i = 129 ∧ (k = 3 ∨ k = 5 ∨ k = 18 ∨ k = 19 ∨ k = 20)) ∨ i = 137 ∨ i = 139 ∨ i = 140 ∨ i = 141) g0 K g8456 H locs := ⟨hW1, hW.2.1, hW.2.2⟩
          refine q_if_ne (tgt := 119) hM dX12_stepTold_115 (by decide) (rfl : r8635.toInt = r8635.toInt) (fun h115 => ?_) (fun h115 => ?_)
          · refine q_aload_n hM dX12_stepTold_119 (lv_at hl 2 rfl) ?_
            refine w_get (v := .ref (ad 139)) hM hW FG_X12_43 lb_129 (rf_129_21 hW.2.1) dX12_stepTold_120 ?_
            refine q_aload_n hM dX12_stepTold_123 (lv_at hl 2 rfl) ?_
            refine w_get (v := .int om) hM hW FG_X12_251 lb_129 f8462 dX12_stepTold_124 ?_
            have bom := hG.f f8462 rF_129_19 (by decide)
            refine q_aload_n hM dX12_stepTold_127 (lv_at hl 2 rfl) ?_
            refine w_get (v := .int nm) hM hW FG_X12_227 lb_129 f8461 dX12_stepTold_128 ?_
            have bnm := hG.f f8461 rF_129_18 (by decide)
            refine w_iast hM hW lb_139 (by omega) (i_in (by omega) (by omega)) dX12_stepTold_131 (fun g8638 H locs hW e1 e2 => ?_)
            have f8639 : arI g8638 140 = arI g0 140 := (e2.2.1 140 (by unfold Only; omega)).trans f8458
            have f8640 : arI g8638 141 = arI g0 141 := (e2.2.1 141 (by unfold Only; omega)).trans f8459
            have f8641 : fld g8638 129 5 = .int bd := (e2.1 129 5 (by unfold Only; omega)).trans f8460
            have f8642 : fld g8638 129 18 = .int nm := (e2.1 129 18 (by unfold Only; omega)).trans f8461
            have f8643 : fld g8638 129 19 = .int om := (e2.1 129 19 (by unfold Only; omega)).trans f8462
            have f8644 : fld g8638 129 3 = .int v8451 := (e2.1 129 3 (by unfold Only; omega)).trans q8453
            have f8645 := e1
            rw [f8457] at f8645
            have hG := hG.st e1 e2 rA_139 (by have := i_rng nm; omega) (by have := i_rng nm; omega)
            refine q_aload_n hM dX12_stepTold_132 (lv_at hl 2 rfl) ?_
            refine w_get (v := .ref (ad 140)) hM hW FG_X12_46 lb_129 (rf_129_22 hW.2.1) dX12_stepTold_133 ?_
            refine q_aload_n hM dX12_stepTold_136 (lv_at hl 2 rfl) ?_
            refine w_get (v := .int om) hM hW FG_X12_251 lb_129 f8643 dX12_stepTold_137 ?_
            have bom := hG.f f8643 rF_129_19 (by decide)
            refine q_iload_n hM dX12_stepTold_140 (lv_at hl 0 rfl) ?_
            refine w_iast hM hW lb_140 (by omega) (i_in (by omega) (by omega)) dX12_stepTold_141 (fun g8646 H locs hW e1 e2 => ?_)
            have f8647 : arI g8646 141 = arI g0 141 := (e2.2.1 141 (by unfold Only; omega)).trans f8640
            have f8648 : fld g8646 129 5 = .int bd := (e2.1 129 5 (by unfold Only; omega)).trans f8641
            have f8649 : fld g8646 129 18 = .int nm := (e2.1 129 18 (by unfold Only; omega)).trans f8642
            have f8650 : fld g8646 129 19 = .int om := (e2.1 129 19 (by unfold Only; omega)).trans f8643
            have f8651 : fld g8646 129 3 = .int v8451 := (e2.1 129 3 (by unfold Only; omega)).trans f8644
            have f8652 : arI g8646 139 = upd (arI g0 139) om.toNatClampNeg nm := (e2.2.1 139 (by unfold Only; omega)).trans f8645
            have f8653 := e1
            rw [f8639] at f8653
            have hG := hG.st e1 e2 rA_140 (by have := i_rng r8452; omega) (by have := i_rng r8452; omega)
            refine q_aload_n hM dX12_stepTold_142 (lv_at hl 2 rfl) ?_
            refine w_get (v := .ref (ad 141)) hM hW FG_X12_49 lb_129 (rf_129_23 hW.2.1) dX12_stepTold_143 ?_
            refine q_aload_n hM dX12_stepTold_146 (lv_at hl 2 rfl) ?_
            refine w_get (v := .int om) hM hW FG_X12_251 lb_129 f8650 dX12_stepTold_147 ?_
            have bom := hG.f f8650 rF_129_19 (by decide)
            refine q_iload_n hM dX12_stepTold_150 (lv_at hl 1 rfl) ?_
            refine w_iast hM hW lb_141 (by omega) (i_in (by omega) (by omega)) dX12_stepTold_151 (fun g8654 H locs hW e1 e2 => ?_)
            have f8655 : fld g8654 129 5 = .int bd := (e2.1 129 5 (by unfold Only; omega)).trans f8648
            have f8656 : fld g8654 129 18 = .int nm := (e2.1 129 18 (by unfold Only; omega)).trans f8649
            have f8657 : fld g8654 129 19 = .int om := (e2.1 129 19 (by unfold Only; omega)).trans f8650
            have f8658 : fld g8654 129 3 = .int v8451 := (e2.1 129 3 (by unfold Only; omega)).trans f8651
            have f8659 : arI g8654 139 = upd (arI g0 139) om.toNatClampNeg nm := (e2.2.1 139 (by unfold Only; omega)).trans f8652
            have f8660 : arI g8654 140 = upd (arI g0 140) om.toNatClampNeg r8452 := (e2.2.1 140 (by unfold Only; omega)).trans f8653
            have f8661 := e1
            rw [f8647] at f8661
            have hG := hG.st e1 e2 (rfl : rA 141 = (-2147483648, 2147483647)) (by have := i_rng pl; omega) (by have := i_rng pl; omega)
            refine q_aload_n hM dX12_stepTold_152 (lv_at hl 2 rfl) ?_
            refine q_dup hM dX12_stepTold_153 rfl ?_
            refine w_get (v := .int om) hM hW FG_X12_251 lb_129 f8657 dX12_stepTold_154 ?_
            have bom := hG.f f8657 rF_129_19 (by decide)
            refine q_iconst (v := (1 : Int32)) hM dX12_stepTold_157 (by decide) ?_
            refine q_iadd hM dX12_stepTold_158 (fun z8662 hz8662 => ?_)
            first | have tz8662 := i_addT hz8662 (rfl : om.toInt = om.toInt) (kc_1 : (1 : Int32).toInt = 1) (by omega) (by omega) | skip
            refine w_put hM hW FP_X12_251 lb_129 (by omega) (Or.inl ⟨_, rfl⟩) rfl rfl dX12_stepTold_159 (fun g8663 H locs hW e1 e2 => ?_)
            have f8664 : fld g8663 129 5 = .int bd := (e2.1 129 5 (by unfold Only; omega)).trans f8655
            have f8665 : fld g8663 129 18 = .int nm := (e2.1 129 18 (by unfold Only; omega)).trans f8656
            have f8666 : fld g8663 129 3 = .int v8451 := (e2.1 129 3 (by unfold Only; omega)).trans f8658
            have f8667 : arI g8663 139 = upd (arI g0 139) om.toNatClampNeg nm := (e2.2.1 139 (by unfold Only; omega)).trans f8659
            have f8668 : arI g8663 140 = upd (arI g0 140) om.toNatClampNeg r8452 := (e2.2.1 140 (by unfold Only; omega)).trans f8660
            have f8669 : arI g8663 141 = upd (arI g0 141) om.toNatClampNeg pl := (e2.2.1 141 (by unfold Only; omega)).trans f8661
            have f8670 : fld g8663 129 19 = .int z8662 := e1
            have hG := hG.put e1 e2 rF_129_19 (by decide) (by have := i_rng z8662; omega) (by have := i_rng z8662; omega)
            refine q_aload_n hM dX12_stepTold_162 (lv_at hl 2 rfl) ?_
            refine q_iconst (v := (0 : Int32)) hM dX12_stepTold_163 (by decide) ?_
            refine w_put hM hW FP_X12_254 lb_129 (by omega) (Or.inl ⟨_, rfl⟩) rfl rfl dX12_stepTold_164 (fun g8671 H locs hW e1 e2 => ?_)
            have f8672 : fld g8671 129 5 = .int bd := (e2.1 129 5 (by unfold Only; omega)).trans f8664
            have f8673 : fld g8671 129 18 = .int nm := (e2.1 129 18 (by unfold Only; omega)).trans f8665
            have f8674 : fld g8671 129 3 = .int v8451 := (e2.1 129 3 (by unfold Only; omega)).trans f8666
            have f8675 : arI g8671 139 = upd (arI g0 139) om.toNatClampNeg nm := (e2.2.1 139 (by unfold Only; omega)).trans f8667
            have f8676 : arI g8671 140 = upd (arI g0 140) om.toNatClampNeg r8452 := (e2.2.1 140 (by unfold Only; omega)).trans f8668
            have f8677 : arI g8671 141 = upd (arI g0 141) om.toNatClampNeg pl := (e2.2.1 141 (by unfold Only; omega)).trans f8669
            have f8678 : fld g8671 129 19 = .int z8662 := (e2.1 129 19 (by unfold Only; omega)).trans f8670
            have f8679 : fld g8671 129 20 = .int (0 : Int32) := e1
            have hG := hG.put e1 e2 (rfl : rF 129 20 = (-2147483648, 2147483647)) (by decide) (by have := kc_0; have := i_rng (0 : Int32); omega) (by have := kc_0; have := i_rng (0 : Int32); omega)
            refine q_aload_n hM dX12_stepTold_167 (lv_at hl 2 rfl) ?_
            refine q_dup hM dX12_stepTold_168 rfl ?_
            refine w_get (v := .int v8451) hM hW FG_X12_173 lb_129 f8674 dX12_stepTold_169 ?_
            have bv8451 := hG.f f8674 rF_129_3 (by decide)
            refine q_iconst (v := (1 : Int32)) hM dX12_stepTold_172 (by decide) ?_
            refine q_iadd hM dX12_stepTold_173 (fun z8680 hz8680 => ?_)
            first | have tz8680 := i_addT hz8680 (rfl : v8451.toInt = v8451.toInt) (kc_1 : (1 : Int32).toInt = 1) (by omega) (by omega) | skip
            refine w_put hM hW FP_X12_173 lb_129 (by omega) (Or.inl ⟨_, rfl⟩) rfl rfl dX12_stepTold_174 (fun g8681 H locs hW e1 e2 => ?_)
            have f8682 : fld g8681 129 5 = .int bd := (e2.1 129 5 (by unfold Only; omega)).trans f8672
            have f8683 : fld g8681 129 18 = .int nm := (e2.1 129 18 (by unfold Only; omega)).trans f8673
            have f8684 : arI g8681 139 = upd (arI g0 139) om.toNatClampNeg nm := (e2.2.1 139 (by unfold Only; omega)).trans f8675
            have f8685 : arI g8681 140 = upd (arI g0 140) om.toNatClampNeg r8452 := (e2.2.1 140 (by unfold Only; omega)).trans f8676
            have f8686 : arI g8681 141 = upd (arI g0 141) om.toNatClampNeg pl := (e2.2.1 141 (by unfold Only; omega)).trans f8677
            have f8687 : fld g8681 129 19 = .int z8662 := (e2.1 129 19 (by unfold Only; omega)).trans f8678
            have f8688 : fld g8681 129 20 = .int (0 : Int32) := (e2.1 129 20 (by unfold Only; omega)).trans f8679
            have f8689 : fld g8681 129 3 = .int z8680 := e1
            have hG := hG.put e1 e2 rF_129_3 (by decide) (by have := i_rng z8680; omega) (by have := i_rng z8680; omega)
            exact hE _ _ _ _ _ hW.1 ⟨z8680, bd, nm, z8662, rfl, hW.2.1, hG, hW.2.2, f8689, f8682, f8683, f8687, (by omega), (by omega), (by omega), (fun _ => by rw [f8684, f8685, f8686]; exact OA_mono (OA_push hO rfl (by omega) (by omega) (by omega) (by omega) (by omega)) (by omega) (by omega)), (by omega)⟩ dX12_stepTold_177
          · exact hE _ _ _ _ _ hW.1 ⟨v8451, bd, nm, om, rfl, hW.2.1, hG, hW.2.2, q8453, f8460, f8461, f8462, (by omega), (by omega), (by omega), (fun _ => by rw [f8457, f8458, f8459]; exact OA_mono hO (by omega) (by omega)), (by omega)⟩ dX12_stepTold_118
        · refine q_aload_n hM dX12_stepTold_102 (lv_at hl 2 rfl) ?_
          refine q_iconst (v := (5 : Int32)) hM dX12_stepTold_103 (by decide) ?_
          refine q_aload_n hM dX12_stepTold_104 (lv_at hl 2 rfl) ?_
          refine w_get (v := .int v8451) hM hW FG_X12_173 lb_129 q8453 dX12_stepTold_105 ?_
          have bv8451 := hG.f q8453 rF_129_3 (by decide)
          refine q_callV (As := [.int (5 : Int32), .int v8451]) (rest := []) hM hW.1 hR hC myX12_wrongs (kAW (v_5_9 (List.mem_of_getElem? (i := 11) rfl)) rfl) (rfl : vwCl[12]? = some (RX12, TX12, 86)) rfl lb_129.1 (shO hW.2.1 lb_129) (a_X12_wrongs _ _ cA ad g8456 (5 : Int32) v8451 bd hW.2.1 hG f8460 (by have := kc_5; omega) (by have := kc_5; omega) (by have := kc_5; omega) (by have := kc_5; omega)) ⟨by decide, by decide⟩ rfl rfl hl.1 (Nat.le_of_ble_eq_true rfl) dX12_stepTold_108 (fun v g8695 H locs hp hW1 => ?_)
          obtain ⟨v8692, rfl, hs1, hG, hf1, q8693, e8694⟩ := hp
          have f8696 : arI g8695 139 = arI g0 139 := (hf1.2.1 139 (by omega)).trans f8457
          have f8697 : arI g8695 140 = arI g0 140 := (hf1.2.1 140 (by omega)).trans f8458
          have f8698 : arI g8695 141 = arI g0 141 := (hf1.2.1 141 (by omega)).trans f8459
          have f8699 : fld g8695 129 18 = .int nm := (hf1.1 129 18 (by omega)).trans f8461
          have f8700 : fld g8695 129 19 = .int om := (hf1.1 129 19 (by omega)).trans f8462
          have f8701 : fld g8695 129 3 = .int v8451 := (hf1.1 129 3 (by omega)).trans q8453
          have hW : WS ad cA (fun i k => (i = 129 ∧ (k = 3 ∨ k = 5 ∨ k = 18 ∨ k = 19 ∨ k = 20)) ∨ i = 137 ∨ i = 139 ∨ i = 140 ∨ i = 141) g0 K g8695 H locs := ⟨hW1, hs1, hW.2.2.tr hf1 (fun i k h => (Or.inl (by omega)))⟩
          refine q_aload_n hM dX12_stepTold_111 (lv_at hl 2 rfl) ?_
          refine q_callV (As := []) (rest := []) hM hW.1 hR hC myX12_isGood (kAW (v_5_8 (List.mem_of_getElem? (i := 11) rfl)) rfl) (rfl : vwCl[12]? = some (RX12, TX12, 86)) rfl lb_129.1 (shO hW.2.1 lb_129) (a_X12_isGood _ _ cA ad g8695 v8692 hW.2.1 hG q8693) ⟨by decide, by decide⟩ rfl rfl hl.1 (Nat.le_of_ble_eq_true rfl) dX12_stepTold_112 (fun v g8703 H locs hp hW1 => ?_)
          obtain ⟨r8702, rfl, hr8702, rfl⟩ := hp
          have hW : WS ad cA (fun i k => (i = 129 ∧ (k = 3 ∨ k = 5 ∨ k = 18 ∨ k = 19 ∨ k = 20)) ∨ i = 137 ∨ i = 139 ∨ i = 140 ∨ i = 141) g0 K g8695 H locs := ⟨hW1, hW.2.1, hW.2.2⟩
          refine q_if_ne (tgt := 119) hM dX12_stepTold_115 (by decide) (rfl : r8702.toInt = r8702.toInt) (fun h115 => ?_) (fun h115 => ?_)
          · refine q_aload_n hM dX12_stepTold_119 (lv_at hl 2 rfl) ?_
            refine w_get (v := .ref (ad 139)) hM hW FG_X12_43 lb_129 (rf_129_21 hW.2.1) dX12_stepTold_120 ?_
            refine q_aload_n hM dX12_stepTold_123 (lv_at hl 2 rfl) ?_
            refine w_get (v := .int om) hM hW FG_X12_251 lb_129 f8700 dX12_stepTold_124 ?_
            have bom := hG.f f8700 rF_129_19 (by decide)
            refine q_aload_n hM dX12_stepTold_127 (lv_at hl 2 rfl) ?_
            refine w_get (v := .int nm) hM hW FG_X12_227 lb_129 f8699 dX12_stepTold_128 ?_
            have bnm := hG.f f8699 rF_129_18 (by decide)
            refine w_iast hM hW lb_139 (by omega) (i_in (by omega) (by omega)) dX12_stepTold_131 (fun g8705 H locs hW e1 e2 => ?_)
            have f8706 : arI g8705 140 = arI g0 140 := (e2.2.1 140 (by unfold Only; omega)).trans f8697
            have f8707 : arI g8705 141 = arI g0 141 := (e2.2.1 141 (by unfold Only; omega)).trans f8698
            have f8708 : fld g8705 129 18 = .int nm := (e2.1 129 18 (by unfold Only; omega)).trans f8699
            have f8709 : fld g8705 129 19 = .int om := (e2.1 129 19 (by unfold Only; omega)).trans f8700
            have f8710 : fld g8705 129 3 = .int v8451 := (e2.1 129 3 (by unfold Only; omega)).trans f8701
            have f8711 : fld g8705 129 5 = .int v8692 := (e2.1 129 5 (by unfold Only; omega)).trans q8693
            have f8712 := e1
            rw [f8696] at f8712
            have hG := hG.st e1 e2 rA_139 (by have := i_rng nm; omega) (by have := i_rng nm; omega)
            refine q_aload_n hM dX12_stepTold_132 (lv_at hl 2 rfl) ?_
            refine w_get (v := .ref (ad 140)) hM hW FG_X12_46 lb_129 (rf_129_22 hW.2.1) dX12_stepTold_133 ?_
            refine q_aload_n hM dX12_stepTold_136 (lv_at hl 2 rfl) ?_
            refine w_get (v := .int om) hM hW FG_X12_251 lb_129 f8709 dX12_stepTold_137 ?_
            have bom := hG.f f8709 rF_129_19 (by decide)
            refine q_iload_n hM dX12_stepTold_140 (lv_at hl 0 rfl) ?_
            refine w_iast hM hW lb_140 (by omega) (i_in (by omega) (by omega)) dX12_stepTold_141 (fun g8713 H locs hW e1 e2 => ?_)
            have f8714 : arI g8713 141 = arI g0 141 := (e2.2.1 141 (by unfold Only; omega)).trans f8707
            have f8715 : fld g8713 129 18 = .int nm := (e2.1 129 18 (by unfold Only; omega)).trans f8708
            have f8716 : fld g8713 129 19 = .int om := (e2.1 129 19 (by unfold Only; omega)).trans f8709
            have f8717 : fld g8713 129 3 = .int v8451 := (e2.1 129 3 (by unfold Only; omega)).trans f8710
            have f8718 : fld g8713 129 5 = .int v8692 := (e2.1 129 5 (by unfold Only; omega)).trans f8711
            have f8719 : arI g8713 139 = upd (arI g0 139) om.toNatClampNeg nm := (e2.2.1 139 (by unfold Only; omega)).trans f8712
            have f8720 := e1
            rw [f8706] at f8720
            have hG := hG.st e1 e2 rA_140 (by have := i_rng r8452; omega) (by have := i_rng r8452; omega)
            refine q_aload_n hM dX12_stepTold_142 (lv_at hl 2 rfl) ?_
            refine w_get (v := .ref (ad 141)) hM hW FG_X12_49 lb_129 (rf_129_23 hW.2.1) dX12_stepTold_143 ?_
            refine q_aload_n hM dX12_stepTold_146 (lv_at hl 2 rfl) ?_
            refine w_get (v := .int om) hM hW FG_X12_251 lb_129 f8716 dX12_stepTold_147 ?_
            have bom := hG.f f8716 rF_129_19 (by decide)
            refine q_iload_n hM dX12_stepTold_150 (lv_at hl 1 rfl) ?_
            refine w_iast hM hW lb_141 (by omega) (i_in (by omega) (by omega)) dX12_stepTold_151 (fun g8721 H locs hW e1 e2 => ?_)
            have f8722 : fld g8721 129 18 = .int nm := (e2.1 129 18 (by unfold Only; omega)).trans f8715
            have f8723 : fld g8721 129 19 = .int om := (e2.1 129 19 (by unfold Only; omega)).trans f8716
            have f8724 : fld g8721 129 3 = .int v8451 := (e2.1 129 3 (by unfold Only; omega)).trans f8717
            have f8725 : fld g8721 129 5 = .int v8692 := (e2.1 129 5 (by unfold Only; omega)).trans f8718
            have f8726 : arI g8721 139 = upd (arI g0 139) om.toNatClampNeg nm := (e2.2.1 139 (by unfold Only; omega)).trans f8719
            have f8727 : arI g8721 140 = upd (arI g0 140) om.toNatClampNeg r8452 := (e2.2.1 140 (by unfold Only; omega)).trans f8720
            have f8728 := e1
            rw [f8714] at f8728
            have hG := hG.st e1 e2 (rfl : rA 141 = (-2147483648, 2147483647)) (by have := i_rng pl; omega) (by have := i_rng pl; omega)
            refine q_aload_n hM dX12_stepTold_152 (lv_at hl 2 rfl) ?_
            refine q_dup hM dX12_stepTold_153 rfl ?_
            refine w_get (v := .int om) hM hW FG_X12_251 lb_129 f8723 dX12_stepTold_154 ?_
            have bom := hG.f f8723 rF_129_19 (by decide)
            refine q_iconst (v := (1 : Int32)) hM dX12_stepTold_157 (by decide) ?_
            refine q_iadd hM dX12_stepTold_158 (fun z8729 hz8729 => ?_)
            first | have tz8729 := i_addT hz8729 (rfl : om.toInt = om.toInt) (kc_1 : (1 : Int32).toInt = 1) (by omega) (by omega) | skip
            refine w_put hM hW FP_X12_251 lb_129 (by omega) (Or.inl ⟨_, rfl⟩) rfl rfl dX12_stepTold_159 (fun g8730 H locs hW e1 e2 => ?_)
            have f8731 : fld g8730 129 18 = .int nm := (e2.1 129 18 (by unfold Only; omega)).trans f8722
            have f8732 : fld g8730 129 3 = .int v8451 := (e2.1 129 3 (by unfold Only; omega)).trans f8724
            have f8733 : fld g8730 129 5 = .int v8692 := (e2.1 129 5 (by unfold Only; omega)).trans f8725
            have f8734 : arI g8730 139 = upd (arI g0 139) om.toNatClampNeg nm := (e2.2.1 139 (by unfold Only; omega)).trans f8726
            have f8735 : arI g8730 140 = upd (arI g0 140) om.toNatClampNeg r8452 := (e2.2.1 140 (by unfold Only; omega)).trans f8727
            have f8736 : arI g8730 141 = upd (arI g0 141) om.toNatClampNeg pl := (e2.2.1 141 (by unfold Only; omega)).trans f8728
            have f8737 : fld g8730 129 19 = .int z8729 := e1
            have hG := hG.put e1 e2 rF_129_19 (by decide) (by have := i_rng z8729; omega) (by have := i_rng z8729; omega)
            refine q_aload_n hM dX12_stepTold_162 (lv_at hl 2 rfl) ?_
            refine q_iconst (v := (0 : Int32)) hM dX12_stepTold_163 (by decide) ?_
            refine w_put hM hW FP_X12_254 lb_129 (by omega) (Or.inl ⟨_, rfl⟩) rfl rfl dX12_stepTold_164 (fun g8738 H locs hW e1 e2 => ?_)
            have f8739 : fld g8738 129 18 = .int nm := (e2.1 129 18 (by unfold Only; omega)).trans f8731
            have f8740 : fld g8738 129 3 = .int v8451 := (e2.1 129 3 (by unfold Only; omega)).trans f8732
            have f8741 : fld g8738 129 5 = .int v8692 := (e2.1 129 5 (by unfold Only; omega)).trans f8733
            have f8742 : arI g8738 139 = upd (arI g0 139) om.toNatClampNeg nm := (e2.2.1 139 (by unfold Only; omega)).trans f8734
            have f8743 : arI g8738 140 = upd (arI g0 140) om.toNatClampNeg r8452 := (e2.2.1 140 (by unfold Only; omega)).trans f8735
            have f8744 : arI g8738 141 = upd (arI g0 141) om.toNatClampNeg pl := (e2.2.1 141 (by unfold Only; omega)).trans f8736
            have f8745 : fld g8738 129 19 = .int z8729 := (e2.1 129 19 (by unfold Only; omega)).trans f8737
            have f8746 : fld g8738 129 20 = .int (0 : Int32) := e1
            have hG := hG.put e1 e2 (rfl : rF 129 20 = (-2147483648, 2147483647)) (by decide) (by have := kc_0; have := i_rng (0 : Int32); omega) (by have := kc_0; have := i_rng (0 : Int32); omega)
            refine q_aload_n hM dX12_stepTold_167 (lv_at hl 2 rfl) ?_
            refine q_dup hM dX12_stepTold_168 rfl ?_
            refine w_get (v := .int v8451) hM hW FG_X12_173 lb_129 f8740 dX12_stepTold_169 ?_
            have bv8451 := hG.f f8740 rF_129_3 (by decide)
            refine q_iconst (v := (1 : Int32)) hM dX12_stepTold_172 (by decide) ?_
            refine q_iadd hM dX12_stepTold_173 (fun z8747 hz8747 => ?_)
            first | have tz8747 := i_addT hz8747 (rfl : v8451.toInt = v8451.toInt) (kc_1 : (1 : Int32).toInt = 1) (by omega) (by omega) | skip
            refine w_put hM hW FP_X12_173 lb_129 (by omega) (Or.inl ⟨_, rfl⟩) rfl rfl dX12_stepTold_174 (fun g8748 H locs hW e1 e2 => ?_)
            have f8749 : fld g8748 129 18 = .int nm := (e2.1 129 18 (by unfold Only; omega)).trans f8739
            have f8750 : fld g8748 129 5 = .int v8692 := (e2.1 129 5 (by unfold Only; omega)).trans f8741
            have f8751 : arI g8748 139 = upd (arI g0 139) om.toNatClampNeg nm := (e2.2.1 139 (by unfold Only; omega)).trans f8742
            have f8752 : arI g8748 140 = upd (arI g0 140) om.toNatClampNeg r8452 := (e2.2.1 140 (by unfold Only; omega)).trans f8743
            have f8753 : arI g8748 141 = upd (arI g0 141) om.toNatClampNeg pl := (e2.2.1 141 (by unfold Only; omega)).trans f8744
            have f8754 : fld g8748 129 19 = .int z8729 := (e2.1 129 19 (by unfold Only; omega)).trans f8745
            have f8755 : fld g8748 129 20 = .int (0 : Int32) := (e2.1 129 20 (by unfold Only; omega)).trans f8746
            have f8756 : fld g8748 129 3 = .int z8747 := e1
            have hG := hG.put e1 e2 rF_129_3 (by decide) (by have := i_rng z8747; omega) (by have := i_rng z8747; omega)
            exact hE _ _ _ _ _ hW.1 ⟨z8747, v8692, nm, z8729, rfl, hW.2.1, hG, hW.2.2, f8756, f8750, f8749, f8754, (by omega), (by omega), (by omega), (fun _ => by rw [f8751, f8752, f8753]; exact OA_mono (OA_push hO rfl (by omega) (by omega) (by omega) (by omega) (by omega)) (by omega) (by omega)), (by omega)⟩ dX12_stepTold_177
          · exact hE _ _ _ _ _ hW.1 ⟨v8451, v8692, nm, om, rfl, hW.2.1, hG, hW.2.2, f8701, q8693, f8699, f8700, (by omega), (by omega), (by omega), (fun _ => by rw [f8696, f8697, f8698]; exact OA_mono hO (by omega) (by omega)), (by omega)⟩ dX12_stepTold_118
    · refine q_aload_n hM dX12_stepTold_21 (lv_at hl 1 rfl) ?_
      refine w_getI hM hW FG_X12_254 lb_129 (by decide) (by decide) dX12_stepTold_22 (fun x8759 fx8759 => ?_)
      refine q_if_eq (tgt := 80) hM dX12_stepTold_25 (by decide) (rfl : x8759.toInt = x8759.toInt) (fun h25 => ?_) (fun h25 => ?_)
      · refine q_aload_n hM dX12_stepTold_80 (lv_at hl 1 rfl) ?_
        refine q_callV (As := []) (rest := []) hM hW.1 hR hC myX12_timesTold (kAW (v_5_9 (List.mem_of_getElem? (i := 15) rfl)) rfl) (rfl : vwCl[12]? = some (RX12, TX12, 86)) rfl lb_129.1 (shO hW.2.1 lb_129) (a_X12_timesTold _ _ cA ad g0 pl en hW.2.1 hG f8135 ((hW.2.2.1 129 4 (by omega)).trans h_en) (by  omega) (by  omega) (by  omega) (by  omega)) ⟨by decide, by decide⟩ rfl rfl hl.1 (Nat.le_of_ble_eq_true rfl) dX12_stepTold_81 (fun v g8766 H locs hp hW1 => ?_)
        obtain ⟨v8761, r8762, rfl, hs1, hG, hf1, q8763, e8764, e8765, hr8762⟩ := hp
        have f8767 : arI g8766 139 = arI g0 139 := (hf1.2.1 139 (by omega)).trans (rfl : arI g0 139 = arI g0 139)
        have f8768 : arI g8766 140 = arI g0 140 := (hf1.2.1 140 (by omega)).trans (rfl : arI g0 140 = arI g0 140)
        have f8769 : arI g8766 141 = arI g0 141 := (hf1.2.1 141 (by omega)).trans (rfl : arI g0 141 = arI g0 141)
        have f8770 : fld g8766 129 5 = .int bd := (hf1.1 129 5 (by omega)).trans f8136
        have f8771 : fld g8766 129 18 = .int nm := (hf1.1 129 18 (by omega)).trans f8137
        have f8772 : fld g8766 129 19 = .int om := (hf1.1 129 19 (by omega)).trans f8138
        have f8773 : fld g8766 129 20 = .int x8759 := (hf1.1 129 20 (by omega)).trans fx8759
        have hW : WS ad cA (fun i k => (i = 129 ∧ (k = 3 ∨ k = 5 ∨ k = 18 ∨ k = 19 ∨ k = 20)) ∨ i = 137 ∨ i = 139 ∨ i = 140 ∨ i = 141) g0 K g8766 H locs := ⟨hW1, hs1, hW.2.2.tr hf1 (fun i k h => (Or.inl (by omega)))⟩
        refine q_istore_n (lv9 := [(2, .int r8762), (1, .int pl), (0, .ref (ad 129))]) hM dX12_stepTold_84 hl (by decide) rfl (fun ls hl => ?_)
        refine q_aload_n hM dX12_stepTold_85 (lv_at hl 2 rfl) ?_
        refine q_callV (As := []) (rest := []) hM hW.1 hR hC myX12_here (kAW (v_5_9 (List.mem_of_getElem? (i := 3) rfl)) rfl) (rfl : vwCl[12]? = some (RX12, TX12, 86)) rfl lb_129.1 (shO hW.2.1 lb_129) (a_X12_here _ _ cA ad g8766 v8761 en hW.2.1 hG q8763 ((hW.2.2.1 129 4 (by omega)).trans h_en) (by  omega) (by  omega)) ⟨by decide, by decide⟩ rfl rfl hl.1 (Nat.le_of_ble_eq_true rfl) dX12_stepTold_86 (fun v g8775 H locs hp hW1 => ?_)
        obtain ⟨r8774, rfl, hr8774, rfl⟩ := hp
        have hW : WS ad cA (fun i k => (i = 129 ∧ (k = 3 ∨ k = 5 ∨ k = 18 ∨ k = 19 ∨ k = 20)) ∨ i = 137 ∨ i = 139 ∨ i = 140 ∨ i = 141) g0 K g8766 H locs := ⟨hW1, hW.2.1, hW.2.2⟩
        rw [hW.2.2.2.1 130 (by omega)] at hr8774
        refine q_bipush (v := (40 : Int32)) hM dX12_stepTold_89 (by decide) ?_
        refine q_icmp_ne (tgt := 178) hM dX12_stepTold_91 (by decide) (rfl : r8774.toInt = r8774.toInt) (kc_40 : (40 : Int32).toInt = 40) (fun h91 => ?_) (fun h91 => ?_)
        · refine q_aload_n hM dX12_stepTold_178 (lv_at hl 2 rfl) ?_
          refine q_callV (As := []) (rest := []) hM hW.1 hR hC myX12_stepHere (kAW (v_5_10 (List.mem_of_getElem? (i := 5) rfl)) rfl) (rfl : vwCl[12]? = some (RX12, TX12, 86)) rfl lb_129.1 (shO hW.2.1 lb_129) (a_X12_stepHere _ _ cA ad g8766 v8761 en bd hW.2.1 hG q8763 ((hW.2.2.1 129 4 (by omega)).trans h_en) f8770 (by  omega) (by  omega) (by  omega)) ⟨by decide, by decide⟩ rfl rfl hl.1 (Nat.le_of_ble_eq_true rfl) dX12_stepTold_179 (fun v g8786 H locs hp hW1 => ?_)
          obtain ⟨v8777, v8778, r8779, rfl, hs1, hG, hf1, q8780, q8781, e8782, e8783, e8784, e8785, hr8779⟩ := hp
          have f8787 : arI g8786 139 = arI g0 139 := (hf1.2.1 139 (by omega)).trans f8767
          have f8788 : arI g8786 140 = arI g0 140 := (hf1.2.1 140 (by omega)).trans f8768
          have f8789 : arI g8786 141 = arI g0 141 := (hf1.2.1 141 (by omega)).trans f8769
          have f8790 : fld g8786 129 18 = .int nm := (hf1.1 129 18 (by omega)).trans f8771
          have f8791 : fld g8786 129 19 = .int om := (hf1.1 129 19 (by omega)).trans f8772
          have f8792 : fld g8786 129 20 = .int x8759 := (hf1.1 129 20 (by omega)).trans f8773
          have hW : WS ad cA (fun i k => (i = 129 ∧ (k = 3 ∨ k = 5 ∨ k = 18 ∨ k = 19 ∨ k = 20)) ∨ i = 137 ∨ i = 139 ∨ i = 140 ∨ i = 141) g0 K g8786 H locs := ⟨hW1, hs1, hW.2.2.tr hf1 (fun i k h => (Or.inl (by omega)))⟩
          refine q_istore_n (lv9 := [(3, .int r8779), (2, .int r8762), (1, .int pl), (0, .ref (ad 129))]) hM dX12_stepTold_182 hl (by decide) rfl (fun ls hl => ?_)
          refine q_aload_n hM dX12_stepTold_183 (lv_at hl 3 rfl) ?_
          refine q_callV (As := []) (rest := []) hM hW.1 hR hC myX12_isGood (kAW (v_5_8 (List.mem_of_getElem? (i := 11) rfl)) rfl) (rfl : vwCl[12]? = some (RX12, TX12, 86)) rfl lb_129.1 (shO hW.2.1 lb_129) (a_X12_isGood _ _ cA ad g8786 v8778 hW.2.1 hG q8781) ⟨by decide, by decide⟩ rfl rfl hl.1 (Nat.le_of_ble_eq_true rfl) dX12_stepTold_184 (fun v g8794 H locs hp hW1 => ?_)
          obtain ⟨r8793, rfl, hr8793, rfl⟩ := hp
          have hW : WS ad cA (fun i k => (i = 129 ∧ (k = 3 ∨ k = 5 ∨ k = 18 ∨ k = 19 ∨ k = 20)) ∨ i = 137 ∨ i = 139 ∨ i = 140 ∨ i = 141) g0 K g8786 H locs := ⟨hW1, hW.2.1, hW.2.2⟩
          refine q_if_eq (tgt := 208) hM dX12_stepTold_187 (by decide) (rfl : r8793.toInt = r8793.toInt) (fun h187 => ?_) (fun h187 => ?_)
          · refine q_aload_n hM dX12_stepTold_208 (lv_at hl 3 rfl) ?_
            refine q_callV (As := []) (rest := []) hM hW.1 hR hC myX12_isGood (kAW (v_5_8 (List.mem_of_getElem? (i := 11) rfl)) rfl) (rfl : vwCl[12]? = some (RX12, TX12, 86)) rfl lb_129.1 (shO hW.2.1 lb_129) (a_X12_isGood _ _ cA ad g8786 v8778 hW.2.1 hG q8781) ⟨by decide, by decide⟩ rfl rfl hl.1 (Nat.le_of_ble_eq_true rfl) dX12_stepTold_209 (fun v g8797 H locs hp hW1 => ?_)
            obtain ⟨r8796, rfl, hr8796, rfl⟩ := hp
            have hW : WS ad cA (fun i k => (i = 129 ∧ (k = 3 ∨ k = 5 ∨ k = 18 ∨ k = 19 ∨ k = 20)) ∨ i = 137 ∨ i = 139 ∨ i = 140 ∨ i = 141) g0 K g8786 H locs := ⟨hW1, hW.2.1, hW.2.2⟩
            refine q_if_ne (tgt := 216) hM dX12_stepTold_212 (by decide) (rfl : r8796.toInt = r8796.toInt) (fun h212 => ?_) (fun h212 => ?_)
            · refine q_iconst (v := (0 : Int32)) hM dX12_stepTold_216 (by decide) ?_
              refine q_istore (lv9 := [(4, .int (0 : Int32)), (3, .int r8779), (2, .int r8762), (1, .int pl), (0, .ref (ad 129))]) hM dX12_stepTold_217 hl (by decide) rfl (fun ls hl => ?_)
              have L219 : ∀ (fu219 : Nat) (w219_4 : Int32) (g9 : Nat → va_E) (H : Heap) (locs : List Loc) (ls : Array Slot), (r8762.toInt - w219_4.toInt + 1).toNat < fu219 → (Rng g9) → (0 ≤ w219_4.toInt) → (fld g9 129 3 = .int v8777) → (fld g9 129 5 = .int v8778) → (fld g9 129 18 = .int nm) → (fld g9 129 19 = .int om) → (arI g9 139 = arI g0 139) → (arI g9 140 = arI g0 140) → (arI g9 141 = arI g0 141) → lv_has ls 5 [(0, .ref (ad 129)), (1, .int pl), (2, .int r8762), (3, .int r8779), (4, .int w219_4)] → WS ad cA (fun i k => (i = 129 ∧ (k = 3 ∨ k = 5 ∨ k = 18 ∨ k = 19 ∨ k = 20)) ∨ i = 137 ∨ i = 139 ∨ i = 140 ∨ i = 141) g0 K g9 H locs → XX K 0 0 H locs 219 ls [] := by
                intro fu219
                induction fu219 with
                | zero => intro w219_4 g9 H locs ls h0; omega
                | succ fu219 ih219 =>
                  intro w219_4 g9 H locs ls hm219 i219_0 i219_1 c219_129_3 c219_129_5 c219_129_18 c219_129_19 d219_139 d219_140 d219_141 hl hW
                  have hG := i219_0
                  have := i_rng r8762
                  refine q_iload hM dX12_stepTold_219 (lv_at hl 4 rfl) ?_
                  refine q_iload_n hM dX12_stepTold_221 (lv_at hl 2 rfl) ?_
                  refine q_icmp_ge (tgt := 244) hM dX12_stepTold_222 (by decide) (rfl : w219_4.toInt = w219_4.toInt) (rfl : r8762.toInt = r8762.toInt) (fun h222 => ?_) (fun h222 => ?_)
                  · refine q_aload_n hM dX12_stepTold_244 (lv_at hl 0 rfl) ?_
                    refine q_dup hM dX12_stepTold_245 rfl ?_
                    refine w_get (v := .int nm) hM hW FG_X12_227 lb_129 c219_129_18 dX12_stepTold_246 ?_
                    have bnm := hG.f c219_129_18 rF_129_18 (by decide)
                    refine q_iload_n hM dX12_stepTold_249 (lv_at hl 2 rfl) ?_
                    refine q_iadd hM dX12_stepTold_250 (fun z8801 hz8801 => ?_)
                    first | have tz8801 := i_addT hz8801 (rfl : nm.toInt = nm.toInt) (rfl : r8762.toInt = r8762.toInt) (by omega) (by omega) | skip
                    refine w_put hM hW FP_X12_227 lb_129 (by omega) (Or.inl ⟨_, rfl⟩) rfl rfl dX12_stepTold_251 (fun g8802 H locs hW e1 e2 => ?_)
                    have f8803 : fld g8802 129 3 = .int v8777 := (e2.1 129 3 (by unfold Only; omega)).trans c219_129_3
                    have f8804 : fld g8802 129 5 = .int v8778 := (e2.1 129 5 (by unfold Only; omega)).trans c219_129_5
                    have f8805 : fld g8802 129 19 = .int om := (e2.1 129 19 (by unfold Only; omega)).trans c219_129_19
                    have f8806 : arI g8802 139 = arI g0 139 := (e2.2.1 139 (by unfold Only; omega)).trans d219_139
                    have f8807 : arI g8802 140 = arI g0 140 := (e2.2.1 140 (by unfold Only; omega)).trans d219_140
                    have f8808 : arI g8802 141 = arI g0 141 := (e2.2.1 141 (by unfold Only; omega)).trans d219_141
                    have f8809 : fld g8802 129 18 = .int z8801 := e1
                    have hG := hG.put e1 e2 rF_129_18 (by decide) (by have := i_rng z8801; omega) (by have := i_rng z8801; omega)
                    refine q_aload_n hM dX12_stepTold_254 (lv_at hl 0 rfl) ?_
                    refine q_iconst (v := (1 : Int32)) hM dX12_stepTold_255 (by decide) ?_
                    refine w_put hM hW FP_X12_254 lb_129 (by omega) (Or.inl ⟨_, rfl⟩) rfl rfl dX12_stepTold_256 (fun g8810 H locs hW e1 e2 => ?_)
                    have f8811 : fld g8810 129 3 = .int v8777 := (e2.1 129 3 (by unfold Only; omega)).trans f8803
                    have f8812 : fld g8810 129 5 = .int v8778 := (e2.1 129 5 (by unfold Only; omega)).trans f8804
                    have f8813 : fld g8810 129 19 = .int om := (e2.1 129 19 (by unfold Only; omega)).trans f8805
                    have f8814 : arI g8810 139 = arI g0 139 := (e2.2.1 139 (by unfold Only; omega)).trans f8806
                    have f8815 : arI g8810 140 = arI g0 140 := (e2.2.1 140 (by unfold Only; omega)).trans f8807
                    have f8816 : arI g8810 141 = arI g0 141 := (e2.2.1 141 (by unfold Only; omega)).trans f8808
                    have f8817 : fld g8810 129 18 = .int z8801 := (e2.1 129 18 (by unfold Only; omega)).trans f8809
                    have f8818 : fld g8810 129 20 = .int (1 : Int32) := e1
                    have hG := hG.put e1 e2 (rfl : rF 129 20 = (-2147483648, 2147483647)) (by decide) (by have := kc_1; have := i_rng (1 : Int32); omega) (by have := kc_1; have := i_rng (1 : Int32); omega)
                    refine q_aload_n hM dX12_stepTold_259 (lv_at hl 0 rfl) ?_
                    refine q_dup hM dX12_stepTold_260 rfl ?_
                    refine w_get (v := .int v8777) hM hW FG_X12_173 lb_129 f8811 dX12_stepTold_261 ?_
                    have bv8777 := hG.f f8811 rF_129_3 (by decide)
                    refine q_iconst (v := (1 : Int32)) hM dX12_stepTold_264 (by decide) ?_
                    refine q_iadd hM dX12_stepTold_265 (fun z8819 hz8819 => ?_)
                    first | have tz8819 := i_addT hz8819 (rfl : v8777.toInt = v8777.toInt) (kc_1 : (1 : Int32).toInt = 1) (by omega) (by omega) | skip
                    refine w_put hM hW FP_X12_173 lb_129 (by omega) (Or.inl ⟨_, rfl⟩) rfl rfl dX12_stepTold_266 (fun g8820 H locs hW e1 e2 => ?_)
                    have f8821 : fld g8820 129 5 = .int v8778 := (e2.1 129 5 (by unfold Only; omega)).trans f8812
                    have f8822 : fld g8820 129 19 = .int om := (e2.1 129 19 (by unfold Only; omega)).trans f8813
                    have f8823 : arI g8820 139 = arI g0 139 := (e2.2.1 139 (by unfold Only; omega)).trans f8814
                    have f8824 : arI g8820 140 = arI g0 140 := (e2.2.1 140 (by unfold Only; omega)).trans f8815
                    have f8825 : arI g8820 141 = arI g0 141 := (e2.2.1 141 (by unfold Only; omega)).trans f8816
                    have f8826 : fld g8820 129 18 = .int z8801 := (e2.1 129 18 (by unfold Only; omega)).trans f8817
                    have f8827 : fld g8820 129 20 = .int (1 : Int32) := (e2.1 129 20 (by unfold Only; omega)).trans f8818
                    have f8828 : fld g8820 129 3 = .int z8819 := e1
                    have hG := hG.put e1 e2 rF_129_3 (by decide) (by have := i_rng z8819; omega) (by have := i_rng z8819; omega)
                    exact hE _ _ _ _ _ hW.1 ⟨z8819, v8778, z8801, om, rfl, hW.2.1, hG, hW.2.2, f8828, f8821, f8826, f8822, (by omega), (by omega), (by omega), (fun _ => by rw [f8823, f8824, f8825]; exact OA_mono hO (by omega) (by omega)), (by omega)⟩ dX12_stepTold_269
                  · refine q_aload_n hM dX12_stepTold_225 (lv_at hl 0 rfl) ?_
                    refine w_get (v := .ref (ad 137)) hM hW FG_X12_37 lb_129 (rf_129_16 hW.2.1) dX12_stepTold_226 ?_
                    refine q_aload_n hM dX12_stepTold_229 (lv_at hl 0 rfl) ?_
                    refine w_get (v := .int nm) hM hW FG_X12_227 lb_129 c219_129_18 dX12_stepTold_230 ?_
                    have bnm := hG.f c219_129_18 rF_129_18 (by decide)
                    refine q_iload hM dX12_stepTold_233 (lv_at hl 4 rfl) ?_
                    refine q_iadd hM dX12_stepTold_235 (fun z8830 hz8830 => ?_)
                    first | have tz8830 := i_addT hz8830 (rfl : nm.toInt = nm.toInt) (rfl : w219_4.toInt = w219_4.toInt) (by omega) (by omega) | skip
                    refine q_iload_n hM dX12_stepTold_236 (lv_at hl 3 rfl) ?_
                    refine w_iast hM hW lb_137 (by omega) (i_in (by omega) (by omega)) dX12_stepTold_237 (fun g8831 H locs hW e1 e2 => ?_)
                    have f8832 : fld g8831 129 3 = .int v8777 := (e2.1 129 3 (by unfold Only; omega)).trans c219_129_3
                    have f8833 : fld g8831 129 5 = .int v8778 := (e2.1 129 5 (by unfold Only; omega)).trans c219_129_5
                    have f8834 : fld g8831 129 18 = .int nm := (e2.1 129 18 (by unfold Only; omega)).trans c219_129_18
                    have f8835 : fld g8831 129 19 = .int om := (e2.1 129 19 (by unfold Only; omega)).trans c219_129_19
                    have f8836 : arI g8831 139 = arI g0 139 := (e2.2.1 139 (by unfold Only; omega)).trans d219_139
                    have f8837 : arI g8831 140 = arI g0 140 := (e2.2.1 140 (by unfold Only; omega)).trans d219_140
                    have f8838 : arI g8831 141 = arI g0 141 := (e2.2.1 141 (by unfold Only; omega)).trans d219_141
                    have hG := hG.st e1 e2 rA_137 (by have := i_rng r8779; omega) (by have := i_rng r8779; omega)
                    refine q_iinc (lv9 := fun z8839 => [(4, .int z8839), (0, .ref (ad 129)), (1, .int pl), (2, .int r8762), (3, .int r8779)]) hM dX12_stepTold_238 hl (kq := 4) rfl (by decide) (fun _ => rfl) (fun z8839 ls hz8839 hl => ?_)
                    first | have tz8839 := i_addT hz8839 (rfl : w219_4.toInt = w219_4.toInt) (kc_1 : (Int32.ofInt 1).toInt = 1) (by omega) (by omega) | skip
                    refine q_goto (tgt := 219) hM dX12_stepTold_241 (by decide) ?_
                    exact ih219 z8839 _ _ _ _ (by omega) hG (by omega) f8832 f8833 f8834 f8835 f8836 f8837 f8838 (lv_sub hl [1, 2, 3, 4, 0] rfl) hW
              have := kc_0
              exact L219 _ (0 : Int32) _ _ _ _ (Nat.lt_succ_self _) hG (by omega) q8780 q8781 f8790 f8791 f8787 f8788 f8789 (lv_sub hl [4, 3, 2, 1, 0] rfl) hW
            · exact hE _ _ _ _ _ hW.1 ⟨v8777, v8778, nm, om, rfl, hW.2.1, hG, hW.2.2, q8780, q8781, f8790, f8791, (by omega), (by omega), (by omega), (fun _ => by rw [f8787, f8788, f8789]; exact OA_mono hO (by omega) (by omega)), (by omega)⟩ dX12_stepTold_215
          · refine q_aload_n hM dX12_stepTold_190 (lv_at hl 3 rfl) ?_
            refine w_get (v := .int nm) hM hW FG_X12_227 lb_129 f8790 dX12_stepTold_191 ?_
            have bnm := hG.f f8790 rF_129_18 (by decide)
            refine q_iload_n hM dX12_stepTold_194 (lv_at hl 1 rfl) ?_
            refine q_iadd hM dX12_stepTold_195 (fun z8842 hz8842 => ?_)
            first | have tz8842 := i_addT hz8842 (rfl : nm.toInt = nm.toInt) (rfl : r8762.toInt = r8762.toInt) (by omega) (by omega) | skip
            refine q_bipush (v := (48 : Int32)) hM dX12_stepTold_196 (by decide) ?_
            refine q_icmp_le (tgt := 208) hM dX12_stepTold_198 (by decide) (rfl : z8842.toInt = z8842.toInt) (kc_48 : (48 : Int32).toInt = 48) (fun h198 => ?_) (fun h198 => ?_)
            · refine q_aload_n hM dX12_stepTold_208 (lv_at hl 3 rfl) ?_
              refine q_callV (As := []) (rest := []) hM hW.1 hR hC myX12_isGood (kAW (v_5_8 (List.mem_of_getElem? (i := 11) rfl)) rfl) (rfl : vwCl[12]? = some (RX12, TX12, 86)) rfl lb_129.1 (shO hW.2.1 lb_129) (a_X12_isGood _ _ cA ad g8786 v8778 hW.2.1 hG q8781) ⟨by decide, by decide⟩ rfl rfl hl.1 (Nat.le_of_ble_eq_true rfl) dX12_stepTold_209 (fun v g8845 H locs hp hW1 => ?_)
              obtain ⟨r8844, rfl, hr8844, rfl⟩ := hp
              have hW : WS ad cA (fun i k => (i = 129 ∧ (k = 3 ∨ k = 5 ∨ k = 18 ∨ k = 19 ∨ k = 20)) ∨ i = 137 ∨ i = 139 ∨ i = 140 ∨ i = 141) g0 K g8786 H locs := ⟨hW1, hW.2.1, hW.2.2⟩
              refine q_if_ne (tgt := 216) hM dX12_stepTold_212 (by decide) (rfl : r8844.toInt = r8844.toInt) (fun h212 => ?_) (fun h212 => ?_)
              · refine q_iconst (v := (0 : Int32)) hM dX12_stepTold_216 (by decide) ?_
                refine q_istore (lv9 := [(4, .int (0 : Int32)), (3, .int r8779), (2, .int r8762), (1, .int pl), (0, .ref (ad 129))]) hM dX12_stepTold_217 hl (by decide) rfl (fun ls hl => ?_)
                have L219 : ∀ (fu219 : Nat) (w219_4 : Int32) (g9 : Nat → va_E) (H : Heap) (locs : List Loc) (ls : Array Slot), (r8762.toInt - w219_4.toInt + 1).toNat < fu219 → (Rng g9) → (0 ≤ w219_4.toInt) → (fld g9 129 3 = .int v8777) → (fld g9 129 5 = .int v8778) → (fld g9 129 18 = .int nm) → (fld g9 129 19 = .int om) → (arI g9 139 = arI g0 139) → (arI g9 140 = arI g0 140) → (arI g9 141 = arI g0 141) → lv_has ls 5 [(0, .ref (ad 129)), (1, .int pl), (2, .int r8762), (3, .int r8779), (4, .int w219_4)] → WS ad cA (fun i k => (i = 129 ∧ (k = 3 ∨ k = 5 ∨ k = 18 ∨ k = 19 ∨ k = 20)) ∨ i = 137 ∨ i = 139 ∨ i = 140 ∨ i = 141) g0 K g9 H locs → XX K 0 0 H locs 219 ls [] := by
                  intro fu219
                  induction fu219 with
                  | zero => intro w219_4 g9 H locs ls h0; omega
                  | succ fu219 ih219 =>
                    intro w219_4 g9 H locs ls hm219 i219_0 i219_1 c219_129_3 c219_129_5 c219_129_18 c219_129_19 d219_139 d219_140 d219_141 hl hW
                    have hG := i219_0
                    have := i_rng r8762
                    refine q_iload hM dX12_stepTold_219 (lv_at hl 4 rfl) ?_
                    refine q_iload_n hM dX12_stepTold_221 (lv_at hl 2 rfl) ?_
                    refine q_icmp_ge (tgt := 244) hM dX12_stepTold_222 (by decide) (rfl : w219_4.toInt = w219_4.toInt) (rfl : r8762.toInt = r8762.toInt) (fun h222 => ?_) (fun h222 => ?_)
                    · refine q_aload_n hM dX12_stepTold_244 (lv_at hl 0 rfl) ?_
                      refine q_dup hM dX12_stepTold_245 rfl ?_
                      refine w_get (v := .int nm) hM hW FG_X12_227 lb_129 c219_129_18 dX12_stepTold_246 ?_
                      have bnm := hG.f c219_129_18 rF_129_18 (by decide)
                      refine q_iload_n hM dX12_stepTold_249 (lv_at hl 2 rfl) ?_
                      refine q_iadd hM dX12_stepTold_250 (fun z8849 hz8849 => ?_)
                      first | have tz8849 := i_addT hz8849 (rfl : nm.toInt = nm.toInt) (rfl : r8762.toInt = r8762.toInt) (by omega) (by omega) | skip
                      refine w_put hM hW FP_X12_227 lb_129 (by omega) (Or.inl ⟨_, rfl⟩) rfl rfl dX12_stepTold_251 (fun g8850 H locs hW e1 e2 => ?_)
                      have f8851 : fld g8850 129 3 = .int v8777 := (e2.1 129 3 (by unfold Only; omega)).trans c219_129_3
                      have f8852 : fld g8850 129 5 = .int v8778 := (e2.1 129 5 (by unfold Only; omega)).trans c219_129_5
                      have f8853 : fld g8850 129 19 = .int om := (e2.1 129 19 (by unfold Only; omega)).trans c219_129_19
                      have f8854 : arI g8850 139 = arI g0 139 := (e2.2.1 139 (by unfold Only; omega)).trans d219_139
                      have f8855 : arI g8850 140 = arI g0 140 := (e2.2.1 140 (by unfold Only; omega)).trans d219_140
                      have f8856 : arI g8850 141 = arI g0 141 := (e2.2.1 141 (by unfold Only; omega)).trans d219_141
                      have f8857 : fld g8850 129 18 = .int z8849 := e1
                      have hG := hG.put e1 e2 rF_129_18 (by decide) (by have := i_rng z8849; omega) (by have := i_rng z8849; omega)
                      refine q_aload_n hM dX12_stepTold_254 (lv_at hl 0 rfl) ?_
                      refine q_iconst (v := (1 : Int32)) hM dX12_stepTold_255 (by decide) ?_
                      refine w_put hM hW FP_X12_254 lb_129 (by omega) (Or.inl ⟨_, rfl⟩) rfl rfl dX12_stepTold_256 (fun g8858 H locs hW e1 e2 => ?_)
                      have f8859 : fld g8858 129 3 = .int v8777 := (e2.1 129 3 (by unfold Only; omega)).trans f8851
                      have f8860 : fld g8858 129 5 = .int v8778 := (e2.1 129 5 (by unfold Only; omega)).trans f8852
                      have f8861 : fld g8858 129 19 = .int om := (e2.1 129 19 (by unfold Only; omega)).trans f8853
                      have f8862 : arI g8858 139 = arI g0 139 := (e2.2.1 139 (by unfold Only; omega)).trans f8854
                      have f8863 : arI g8858 140 = arI g0 140 := (e2.2.1 140 (by unfold Only; omega)).trans f8855
                      have f8864 : arI g8858 141 = arI g0 141 := (e2.2.1 141 (by unfold Only; omega)).trans f8856
                      have f8865 : fld g8858 129 18 = .int z8849 := (e2.1 129 18 (by unfold Only; omega)).trans f8857
                      have f8866 : fld g8858 129 20 = .int (1 : Int32) := e1
                      have hG := hG.put e1 e2 (rfl : rF 129 20 = (-2147483648, 2147483647)) (by decide) (by have := kc_1; have := i_rng (1 : Int32); omega) (by have := kc_1; have := i_rng (1 : Int32); omega)
                      refine q_aload_n hM dX12_stepTold_259 (lv_at hl 0 rfl) ?_
                      refine q_dup hM dX12_stepTold_260 rfl ?_
                      refine w_get (v := .int v8777) hM hW FG_X12_173 lb_129 f8859 dX12_stepTold_261 ?_
                      have bv8777 := hG.f f8859 rF_129_3 (by decide)
                      refine q_iconst (v := (1 : Int32)) hM dX12_stepTold_264 (by decide) ?_
                      refine q_iadd hM dX12_stepTold_265 (fun z8867 hz8867 => ?_)
                      first | have tz8867 := i_addT hz8867 (rfl : v8777.toInt = v8777.toInt) (kc_1 : (1 : Int32).toInt = 1) (by omega) (by omega) | skip
                      refine w_put hM hW FP_X12_173 lb_129 (by omega) (Or.inl ⟨_, rfl⟩) rfl rfl dX12_stepTold_266 (fun g8868 H locs hW e1 e2 => ?_)
                      have f8869 : fld g8868 129 5 = .int v8778 := (e2.1 129 5 (by unfold Only; omega)).trans f8860
                      have f8870 : fld g8868 129 19 = .int om := (e2.1 129 19 (by unfold Only; omega)).trans f8861
                      have f8871 : arI g8868 139 = arI g0 139 := (e2.2.1 139 (by unfold Only; omega)).trans f8862
                      have f8872 : arI g8868 140 = arI g0 140 := (e2.2.1 140 (by unfold Only; omega)).trans f8863
                      have f8873 : arI g8868 141 = arI g0 141 := (e2.2.1 141 (by unfold Only; omega)).trans f8864
                      have f8874 : fld g8868 129 18 = .int z8849 := (e2.1 129 18 (by unfold Only; omega)).trans f8865
                      have f8875 : fld g8868 129 20 = .int (1 : Int32) := (e2.1 129 20 (by unfold Only; omega)).trans f8866
                      have f8876 : fld g8868 129 3 = .int z8867 := e1
                      have hG := hG.put e1 e2 rF_129_3 (by decide) (by have := i_rng z8867; omega) (by have := i_rng z8867; omega)
                      exact hE _ _ _ _ _ hW.1 ⟨z8867, v8778, z8849, om, rfl, hW.2.1, hG, hW.2.2, f8876, f8869, f8874, f8870, (by omega), (by omega), (by omega), (fun _ => by rw [f8871, f8872, f8873]; exact OA_mono hO (by omega) (by omega)), (by omega)⟩ dX12_stepTold_269
                    · refine q_aload_n hM dX12_stepTold_225 (lv_at hl 0 rfl) ?_
                      refine w_get (v := .ref (ad 137)) hM hW FG_X12_37 lb_129 (rf_129_16 hW.2.1) dX12_stepTold_226 ?_
                      refine q_aload_n hM dX12_stepTold_229 (lv_at hl 0 rfl) ?_
                      refine w_get (v := .int nm) hM hW FG_X12_227 lb_129 c219_129_18 dX12_stepTold_230 ?_
                      have bnm := hG.f c219_129_18 rF_129_18 (by decide)
                      refine q_iload hM dX12_stepTold_233 (lv_at hl 4 rfl) ?_
                      refine q_iadd hM dX12_stepTold_235 (fun z8878 hz8878 => ?_)
                      first | have tz8878 := i_addT hz8878 (rfl : nm.toInt = nm.toInt) (rfl : w219_4.toInt = w219_4.toInt) (by omega) (by omega) | skip
                      refine q_iload_n hM dX12_stepTold_236 (lv_at hl 3 rfl) ?_
                      refine w_iast hM hW lb_137 (by omega) (i_in (by omega) (by omega)) dX12_stepTold_237 (fun g8879 H locs hW e1 e2 => ?_)
                      have f8880 : fld g8879 129 3 = .int v8777 := (e2.1 129 3 (by unfold Only; omega)).trans c219_129_3
                      have f8881 : fld g8879 129 5 = .int v8778 := (e2.1 129 5 (by unfold Only; omega)).trans c219_129_5
                      have f8882 : fld g8879 129 18 = .int nm := (e2.1 129 18 (by unfold Only; omega)).trans c219_129_18
                      have f8883 : fld g8879 129 19 = .int om := (e2.1 129 19 (by unfold Only; omega)).trans c219_129_19
                      have f8884 : arI g8879 139 = arI g0 139 := (e2.2.1 139 (by unfold Only; omega)).trans d219_139
                      have f8885 : arI g8879 140 = arI g0 140 := (e2.2.1 140 (by unfold Only; omega)).trans d219_140
                      have f8886 : arI g8879 141 = arI g0 141 := (e2.2.1 141 (by unfold Only; omega)).trans d219_141
                      have hG := hG.st e1 e2 rA_137 (by have := i_rng r8779; omega) (by have := i_rng r8779; omega)
                      refine q_iinc (lv9 := fun z8887 => [(4, .int z8887), (0, .ref (ad 129)), (1, .int pl), (2, .int r8762), (3, .int r8779)]) hM dX12_stepTold_238 hl (kq := 4) rfl (by decide) (fun _ => rfl) (fun z8887 ls hz8887 hl => ?_)
                      first | have tz8887 := i_addT hz8887 (rfl : w219_4.toInt = w219_4.toInt) (kc_1 : (Int32.ofInt 1).toInt = 1) (by omega) (by omega) | skip
                      refine q_goto (tgt := 219) hM dX12_stepTold_241 (by decide) ?_
                      exact ih219 z8887 _ _ _ _ (by omega) hG (by omega) f8880 f8881 f8882 f8883 f8884 f8885 f8886 (lv_sub hl [1, 2, 3, 4, 0] rfl) hW
                have := kc_0
                exact L219 _ (0 : Int32) _ _ _ _ (Nat.lt_succ_self _) hG (by omega) q8780 q8781 f8790 f8791 f8787 f8788 f8789 (lv_sub hl [4, 3, 2, 1, 0] rfl) hW
              · exact hE _ _ _ _ _ hW.1 ⟨v8777, v8778, nm, om, rfl, hW.2.1, hG, hW.2.2, q8780, q8781, f8790, f8791, (by omega), (by omega), (by omega), (fun _ => by rw [f8787, f8788, f8789]; exact OA_mono hO (by omega) (by omega)), (by omega)⟩ dX12_stepTold_215
            · refine q_aload_n hM dX12_stepTold_201 (lv_at hl 3 rfl) ?_
              refine q_bipush (v := (6 : Int32)) hM dX12_stepTold_202 (by decide) ?_
              refine q_iload_n hM dX12_stepTold_204 (lv_at hl 2 rfl) ?_
              refine q_callV (As := [.int (6 : Int32), .int pl]) (rest := []) hM hW.1 hR hC myX12_wrongs (kAW (v_5_9 (List.mem_of_getElem? (i := 11) rfl)) rfl) (rfl : vwCl[12]? = some (RX12, TX12, 86)) rfl lb_129.1 (shO hW.2.1 lb_129) (a_X12_wrongs _ _ cA ad g8786 (6 : Int32) pl v8778 hW.2.1 hG q8781 (by have := kc_6; omega) (by have := kc_6; omega) (by have := kc_6; omega) (by have := kc_6; omega)) ⟨by decide, by decide⟩ rfl rfl hl.1 (Nat.le_of_ble_eq_true rfl) dX12_stepTold_205 (fun v g8893 H locs hp hW1 => ?_)
              obtain ⟨v8890, rfl, hs1, hG, hf1, q8891, e8892⟩ := hp
              have f8894 : arI g8893 139 = arI g0 139 := (hf1.2.1 139 (by omega)).trans f8787
              have f8895 : arI g8893 140 = arI g0 140 := (hf1.2.1 140 (by omega)).trans f8788
              have f8896 : arI g8893 141 = arI g0 141 := (hf1.2.1 141 (by omega)).trans f8789
              have f8897 : fld g8893 129 18 = .int nm := (hf1.1 129 18 (by omega)).trans f8790
              have f8898 : fld g8893 129 19 = .int om := (hf1.1 129 19 (by omega)).trans f8791
              have f8899 : fld g8893 129 20 = .int x8759 := (hf1.1 129 20 (by omega)).trans f8792
              have f8900 : fld g8893 129 3 = .int v8777 := (hf1.1 129 3 (by omega)).trans q8780
              have hW : WS ad cA (fun i k => (i = 129 ∧ (k = 3 ∨ k = 5 ∨ k = 18 ∨ k = 19 ∨ k = 20)) ∨ i = 137 ∨ i = 139 ∨ i = 140 ∨ i = 141) g0 K g8893 H locs := ⟨hW1, hs1, hW.2.2.tr hf1 (fun i k h => (Or.inl (by omega)))⟩
              refine q_aload_n hM dX12_stepTold_208 (lv_at hl 3 rfl) ?_
              refine q_callV (As := []) (rest := []) hM hW.1 hR hC myX12_isGood (kAW (v_5_8 (List.mem_of_getElem? (i := 11) rfl)) rfl) (rfl : vwCl[12]? = some (RX12, TX12, 86)) rfl lb_129.1 (shO hW.2.1 lb_129) (a_X12_isGood _ _ cA ad g8893 v8890 hW.2.1 hG q8891) ⟨by decide, by decide⟩ rfl rfl hl.1 (Nat.le_of_ble_eq_true rfl) dX12_stepTold_209 (fun v g8902 H locs hp hW1 => ?_)
              obtain ⟨r8901, rfl, hr8901, rfl⟩ := hp
              have hW : WS ad cA (fun i k => (i = 129 ∧ (k = 3 ∨ k = 5 ∨ k = 18 ∨ k = 19 ∨ k = 20)) ∨ i = 137 ∨ i = 139 ∨ i = 140 ∨ i = 141) g0 K g8893 H locs := ⟨hW1, hW.2.1, hW.2.2⟩
              refine q_if_ne (tgt := 216) hM dX12_stepTold_212 (by decide) (rfl : r8901.toInt = r8901.toInt) (fun h212 => ?_) (fun h212 => ?_)
              · refine q_iconst (v := (0 : Int32)) hM dX12_stepTold_216 (by decide) ?_
                refine q_istore (lv9 := [(4, .int (0 : Int32)), (3, .int r8779), (2, .int r8762), (1, .int pl), (0, .ref (ad 129))]) hM dX12_stepTold_217 hl (by decide) rfl (fun ls hl => ?_)
                have L219 : ∀ (fu219 : Nat) (w219_4 : Int32) (g9 : Nat → va_E) (H : Heap) (locs : List Loc) (ls : Array Slot), (r8762.toInt - w219_4.toInt + 1).toNat < fu219 → (Rng g9) → (0 ≤ w219_4.toInt) → (fld g9 129 3 = .int v8777) → (fld g9 129 5 = .int v8890) → (fld g9 129 18 = .int nm) → (fld g9 129 19 = .int om) → (arI g9 139 = arI g0 139) → (arI g9 140 = arI g0 140) → (arI g9 141 = arI g0 141) → lv_has ls 5 [(0, .ref (ad 129)), (1, .int pl), (2, .int r8762), (3, .int r8779), (4, .int w219_4)] → WS ad cA (fun i k => (i = 129 ∧ (k = 3 ∨ k = 5 ∨ k = 18 ∨ k = 19 ∨ k = 20)) ∨ i = 137 ∨ i = 139 ∨ i = 140 ∨ i = 141) g0 K g9 H locs → XX K 0 0 H locs 219 ls [] := by
                  intro fu219
                  induction fu219 with
                  | zero => intro w219_4 g9 H locs ls h0; omega
                  | succ fu219 ih219 =>
                    intro w219_4 g9 H locs ls hm219 i219_0 i219_1 c219_129_3 c219_129_5 c219_129_18 c219_129_19 d219_139 d219_140 d219_141 hl hW
                    have hG := i219_0
                    have := i_rng r8762
                    refine q_iload hM dX12_stepTold_219 (lv_at hl 4 rfl) ?_
                    refine q_iload_n hM dX12_stepTold_221 (lv_at hl 2 rfl) ?_
                    refine q_icmp_ge (tgt := 244) hM dX12_stepTold_222 (by decide) (rfl : w219_4.toInt = w219_4.toInt) (rfl : r8762.toInt = r8762.toInt) (fun h222 => ?_) (fun h222 => ?_)
                    · refine q_aload_n hM dX12_stepTold_244 (lv_at hl 0 rfl) ?_
                      refine q_dup hM dX12_stepTold_245 rfl ?_
                      refine w_get (v := .int nm) hM hW FG_X12_227 lb_129 c219_129_18 dX12_stepTold_246 ?_
                      have bnm := hG.f c219_129_18 rF_129_18 (by decide)
                      refine q_iload_n hM dX12_stepTold_249 (lv_at hl 2 rfl) ?_
                      refine q_iadd hM dX12_stepTold_250 (fun z8906 hz8906 => ?_)
                      first | have tz8906 := i_addT hz8906 (rfl : nm.toInt = nm.toInt) (rfl : r8762.toInt = r8762.toInt) (by omega) (by omega) | skip
                      refine w_put hM hW FP_X12_227 lb_129 (by omega) (Or.inl ⟨_, rfl⟩) rfl rfl dX12_stepTold_251 (fun g8907 H locs hW e1 e2 => ?_)
                      have f8908 : fld g8907 129 3 = .int v8777 := (e2.1 129 3 (by unfold Only; omega)).trans c219_129_3
                      have f8909 : fld g8907 129 5 = .int v8890 := (e2.1 129 5 (by unfold Only; omega)).trans c219_129_5
                      have f8910 : fld g8907 129 19 = .int om := (e2.1 129 19 (by unfold Only; omega)).trans c219_129_19
                      have f8911 : arI g8907 139 = arI g0 139 := (e2.2.1 139 (by unfold Only; omega)).trans d219_139
                      have f8912 : arI g8907 140 = arI g0 140 := (e2.2.1 140 (by unfold Only; omega)).trans d219_140
                      have f8913 : arI g8907 141 = arI g0 141 := (e2.2.1 141 (by unfold Only; omega)).trans d219_141
                      have f8914 : fld g8907 129 18 = .int z8906 := e1
                      have hG := hG.put e1 e2 rF_129_18 (by decide) (by have := i_rng z8906; omega) (by have := i_rng z8906; omega)
                      refine q_aload_n hM dX12_stepTold_254 (lv_at hl 0 rfl) ?_
                      refine q_iconst (v := (1 : Int32)) hM dX12_stepTold_255 (by decide) ?_
                      refine w_put hM hW FP_X12_254 lb_129 (by omega) (Or.inl ⟨_, rfl⟩) rfl rfl dX12_stepTold_256 (fun g8915 H locs hW e1 e2 => ?_)
                      have f8916 : fld g8915 129 3 = .int v8777 := (e2.1 129 3 (by unfold Only; omega)).trans f8908
                      have f8917 : fld g8915 129 5 = .int v8890 := (e2.1 129 5 (by unfold Only; omega)).trans f8909
                      have f8918 : fld g8915 129 19 = .int om := (e2.1 129 19 (by unfold Only; omega)).trans f8910
                      have f8919 : arI g8915 139 = arI g0 139 := (e2.2.1 139 (by unfold Only; omega)).trans f8911
                      have f8920 : arI g8915 140 = arI g0 140 := (e2.2.1 140 (by unfold Only; omega)).trans f8912
                      have f8921 : arI g8915 141 = arI g0 141 := (e2.2.1 141 (by unfold Only; omega)).trans f8913
                      have f8922 : fld g8915 129 18 = .int z8906 := (e2.1 129 18 (by unfold Only; omega)).trans f8914
                      have f8923 : fld g8915 129 20 = .int (1 : Int32) := e1
                      have hG := hG.put e1 e2 (rfl : rF 129 20 = (-2147483648, 2147483647)) (by decide) (by have := kc_1; have := i_rng (1 : Int32); omega) (by have := kc_1; have := i_rng (1 : Int32); omega)
                      refine q_aload_n hM dX12_stepTold_259 (lv_at hl 0 rfl) ?_
                      refine q_dup hM dX12_stepTold_260 rfl ?_
                      refine w_get (v := .int v8777) hM hW FG_X12_173 lb_129 f8916 dX12_stepTold_261 ?_
                      have bv8777 := hG.f f8916 rF_129_3 (by decide)
                      refine q_iconst (v := (1 : Int32)) hM dX12_stepTold_264 (by decide) ?_
                      refine q_iadd hM dX12_stepTold_265 (fun z8924 hz8924 => ?_)
                      first | have tz8924 := i_addT hz8924 (rfl : v8777.toInt = v8777.toInt) (kc_1 : (1 : Int32).toInt = 1) (by omega) (by omega) | skip
                      refine w_put hM hW FP_X12_173 lb_129 (by omega) (Or.inl ⟨_, rfl⟩) rfl rfl dX12_stepTold_266 (fun g8925 H locs hW e1 e2 => ?_)
                      have f8926 : fld g8925 129 5 = .int v8890 := (e2.1 129 5 (by unfold Only; omega)).trans f8917
                      have f8927 : fld g8925 129 19 = .int om := (e2.1 129 19 (by unfold Only; omega)).trans f8918
                      have f8928 : arI g8925 139 = arI g0 139 := (e2.2.1 139 (by unfold Only; omega)).trans f8919
                      have f8929 : arI g8925 140 = arI g0 140 := (e2.2.1 140 (by unfold Only; omega)).trans f8920
                      have f8930 : arI g8925 141 = arI g0 141 := (e2.2.1 141 (by unfold Only; omega)).trans f8921
                      have f8931 : fld g8925 129 18 = .int z8906 := (e2.1 129 18 (by unfold Only; omega)).trans f8922
                      have f8932 : fld g8925 129 20 = .int (1 : Int32) := (e2.1 129 20 (by unfold Only; omega)).trans f8923
                      have f8933 : fld g8925 129 3 = .int z8924 := e1
                      have hG := hG.put e1 e2 rF_129_3 (by decide) (by have := i_rng z8924; omega) (by have := i_rng z8924; omega)
                      exact hE _ _ _ _ _ hW.1 ⟨z8924, v8890, z8906, om, rfl, hW.2.1, hG, hW.2.2, f8933, f8926, f8931, f8927, (by omega), (by omega), (by omega), (fun _ => by rw [f8928, f8929, f8930]; exact OA_mono hO (by omega) (by omega)), (by omega)⟩ dX12_stepTold_269
                    · refine q_aload_n hM dX12_stepTold_225 (lv_at hl 0 rfl) ?_
                      refine w_get (v := .ref (ad 137)) hM hW FG_X12_37 lb_129 (rf_129_16 hW.2.1) dX12_stepTold_226 ?_
                      refine q_aload_n hM dX12_stepTold_229 (lv_at hl 0 rfl) ?_
                      refine w_get (v := .int nm) hM hW FG_X12_227 lb_129 c219_129_18 dX12_stepTold_230 ?_
                      have bnm := hG.f c219_129_18 rF_129_18 (by decide)
                      refine q_iload hM dX12_stepTold_233 (lv_at hl 4 rfl) ?_
                      refine q_iadd hM dX12_stepTold_235 (fun z8935 hz8935 => ?_)
                      first | have tz8935 := i_addT hz8935 (rfl : nm.toInt = nm.toInt) (rfl : w219_4.toInt = w219_4.toInt) (by omega) (by omega) | skip
                      refine q_iload_n hM dX12_stepTold_236 (lv_at hl 3 rfl) ?_
                      refine w_iast hM hW lb_137 (by omega) (i_in (by omega) (by omega)) dX12_stepTold_237 (fun g8936 H locs hW e1 e2 => ?_)
                      have f8937 : fld g8936 129 3 = .int v8777 := (e2.1 129 3 (by unfold Only; omega)).trans c219_129_3
                      have f8938 : fld g8936 129 5 = .int v8890 := (e2.1 129 5 (by unfold Only; omega)).trans c219_129_5
                      have f8939 : fld g8936 129 18 = .int nm := (e2.1 129 18 (by unfold Only; omega)).trans c219_129_18
                      have f8940 : fld g8936 129 19 = .int om := (e2.1 129 19 (by unfold Only; omega)).trans c219_129_19
                      have f8941 : arI g8936 139 = arI g0 139 := (e2.2.1 139 (by unfold Only; omega)).trans d219_139
                      have f8942 : arI g8936 140 = arI g0 140 := (e2.2.1 140 (by unfold Only; omega)).trans d219_140
                      have f8943 : arI g8936 141 = arI g0 141 := (e2.2.1 141 (by unfold Only; omega)).trans d219_141
                      have hG := hG.st e1 e2 rA_137 (by have := i_rng r8779; omega) (by have := i_rng r8779; omega)
                      refine q_iinc (lv9 := fun z8944 => [(4, .int z8944), (0, .ref (ad 129)), (1, .int pl), (2, .int r8762), (3, .int r8779)]) hM dX12_stepTold_238 hl (kq := 4) rfl (by decide) (fun _ => rfl) (fun z8944 ls hz8944 hl => ?_)
                      first | have tz8944 := i_addT hz8944 (rfl : w219_4.toInt = w219_4.toInt) (kc_1 : (Int32.ofInt 1).toInt = 1) (by omega) (by omega) | skip
                      refine q_goto (tgt := 219) hM dX12_stepTold_241 (by decide) ?_
                      exact ih219 z8944 _ _ _ _ (by omega) hG (by omega) f8937 f8938 f8939 f8940 f8941 f8942 f8943 (lv_sub hl [1, 2, 3, 4, 0] rfl) hW
                have := kc_0
                exact L219 _ (0 : Int32) _ _ _ _ (Nat.lt_succ_self _) hG (by omega) f8900 q8891 f8897 f8898 f8894 f8895 f8896 (lv_sub hl [4, 3, 2, 1, 0] rfl) hW
              · exact hE _ _ _ _ _ hW.1 ⟨v8777, v8890, nm, om, rfl, hW.2.1, hG, hW.2.2, f8900, q8891, f8897, f8898, (by omega), (by omega), (by omega), (fun _ => by rw [f8894, f8895, f8896]; exact OA_mono hO (by omega) (by omega)), (by omega)⟩ dX12_stepTold_215
        · refine q_aload_n hM dX12_stepTold_94 (lv_at hl 2 rfl) ?_
          refine w_get (v := .int om) hM hW FG_X12_251 lb_129 f8772 dX12_stepTold_95 ?_
          have bom := hG.f f8772 rF_129_19 (by decide)
          refine q_iconst (v := (2 : Int32)) hM dX12_stepTold_98 (by decide) ?_
          refine q_icmp_ne (tgt := 111) hM dX12_stepTold_99 (by decide) (rfl : om.toInt = om.toInt) (kc_2 : (2 : Int32).toInt = 2) (fun h99 => ?_) (fun h99 => ?_)
          · refine q_aload_n hM dX12_stepTold_111 (lv_at hl 2 rfl) ?_
            refine q_callV (As := []) (rest := []) hM hW.1 hR hC myX12_isGood (kAW (v_5_8 (List.mem_of_getElem? (i := 11) rfl)) rfl) (rfl : vwCl[12]? = some (RX12, TX12, 86)) rfl lb_129.1 (shO hW.2.1 lb_129) (a_X12_isGood _ _ cA ad g8766 bd hW.2.1 hG f8770) ⟨by decide, by decide⟩ rfl rfl hl.1 (Nat.le_of_ble_eq_true rfl) dX12_stepTold_112 (fun v g8949 H locs hp hW1 => ?_)
            obtain ⟨r8948, rfl, hr8948, rfl⟩ := hp
            have hW : WS ad cA (fun i k => (i = 129 ∧ (k = 3 ∨ k = 5 ∨ k = 18 ∨ k = 19 ∨ k = 20)) ∨ i = 137 ∨ i = 139 ∨ i = 140 ∨ i = 141) g0 K g8766 H locs := ⟨hW1, hW.2.1, hW.2.2⟩
            refine q_if_ne (tgt := 119) hM dX12_stepTold_115 (by decide) (rfl : r8948.toInt = r8948.toInt) (fun h115 => ?_) (fun h115 => ?_)
            · refine q_aload_n hM dX12_stepTold_119 (lv_at hl 2 rfl) ?_
              refine w_get (v := .ref (ad 139)) hM hW FG_X12_43 lb_129 (rf_129_21 hW.2.1) dX12_stepTold_120 ?_
              refine q_aload_n hM dX12_stepTold_123 (lv_at hl 2 rfl) ?_
              refine w_get (v := .int om) hM hW FG_X12_251 lb_129 f8772 dX12_stepTold_124 ?_
              have bom := hG.f f8772 rF_129_19 (by decide)
              refine q_aload_n hM dX12_stepTold_127 (lv_at hl 2 rfl) ?_
              refine w_get (v := .int nm) hM hW FG_X12_227 lb_129 f8771 dX12_stepTold_128 ?_
              have bnm := hG.f f8771 rF_129_18 (by decide)
              refine w_iast hM hW lb_139 (by omega) (i_in (by omega) (by omega)) dX12_stepTold_131 (fun g8951 H locs hW e1 e2 => ?_)
              have f8952 : arI g8951 140 = arI g0 140 := (e2.2.1 140 (by unfold Only; omega)).trans f8768
              have f8953 : arI g8951 141 = arI g0 141 := (e2.2.1 141 (by unfold Only; omega)).trans f8769
              have f8954 : fld g8951 129 5 = .int bd := (e2.1 129 5 (by unfold Only; omega)).trans f8770
              have f8955 : fld g8951 129 18 = .int nm := (e2.1 129 18 (by unfold Only; omega)).trans f8771
              have f8956 : fld g8951 129 19 = .int om := (e2.1 129 19 (by unfold Only; omega)).trans f8772
              have f8957 : fld g8951 129 20 = .int x8759 := (e2.1 129 20 (by unfold Only; omega)).trans f8773
              have f8958 : fld g8951 129 3 = .int v8761 := (e2.1 129 3 (by unfold Only; omega)).trans q8763
              have f8959 := e1
              rw [f8767] at f8959
              have hG := hG.st e1 e2 rA_139 (by have := i_rng nm; omega) (by have := i_rng nm; omega)
              refine q_aload_n hM dX12_stepTold_132 (lv_at hl 2 rfl) ?_
              refine w_get (v := .ref (ad 140)) hM hW FG_X12_46 lb_129 (rf_129_22 hW.2.1) dX12_stepTold_133 ?_
              refine q_aload_n hM dX12_stepTold_136 (lv_at hl 2 rfl) ?_
              refine w_get (v := .int om) hM hW FG_X12_251 lb_129 f8956 dX12_stepTold_137 ?_
              have bom := hG.f f8956 rF_129_19 (by decide)
              refine q_iload_n hM dX12_stepTold_140 (lv_at hl 0 rfl) ?_
              refine w_iast hM hW lb_140 (by omega) (i_in (by omega) (by omega)) dX12_stepTold_141 (fun g8960 H locs hW e1 e2 => ?_)
              have f8961 : arI g8960 141 = arI g0 141 := (e2.2.1 141 (by unfold Only; omega)).trans f8953
              have f8962 : fld g8960 129 5 = .int bd := (e2.1 129 5 (by unfold Only; omega)).trans f8954
              have f8963 : fld g8960 129 18 = .int nm := (e2.1 129 18 (by unfold Only; omega)).trans f8955
              have f8964 : fld g8960 129 19 = .int om := (e2.1 129 19 (by unfold Only; omega)).trans f8956
              have f8965 : fld g8960 129 20 = .int x8759 := (e2.1 129 20 (by unfold Only; omega)).trans f8957
              have f8966 : fld g8960 129 3 = .int v8761 := (e2.1 129 3 (by unfold Only; omega)).trans f8958
              have f8967 : arI g8960 139 = upd (arI g0 139) om.toNatClampNeg nm := (e2.2.1 139 (by unfold Only; omega)).trans f8959
              have f8968 := e1
              rw [f8952] at f8968
              have hG := hG.st e1 e2 rA_140 (by have := i_rng r8762; omega) (by have := i_rng r8762; omega)
              refine q_aload_n hM dX12_stepTold_142 (lv_at hl 2 rfl) ?_
              refine w_get (v := .ref (ad 141)) hM hW FG_X12_49 lb_129 (rf_129_23 hW.2.1) dX12_stepTold_143 ?_
              refine q_aload_n hM dX12_stepTold_146 (lv_at hl 2 rfl) ?_
              refine w_get (v := .int om) hM hW FG_X12_251 lb_129 f8964 dX12_stepTold_147 ?_
              have bom := hG.f f8964 rF_129_19 (by decide)
              refine q_iload_n hM dX12_stepTold_150 (lv_at hl 1 rfl) ?_
              refine w_iast hM hW lb_141 (by omega) (i_in (by omega) (by omega)) dX12_stepTold_151 (fun g8969 H locs hW e1 e2 => ?_)
              have f8970 : fld g8969 129 5 = .int bd := (e2.1 129 5 (by unfold Only; omega)).trans f8962
              have f8971 : fld g8969 129 18 = .int nm := (e2.1 129 18 (by unfold Only; omega)).trans f8963
              have f8972 : fld g8969 129 19 = .int om := (e2.1 129 19 (by unfold Only; omega)).trans f8964
              have f8973 : fld g8969 129 20 = .int x8759 := (e2.1 129 20 (by unfold Only; omega)).trans f8965
              have f8974 : fld g8969 129 3 = .int v8761 := (e2.1 129 3 (by unfold Only; omega)).trans f8966
              have f8975 : arI g8969 139 = upd (arI g0 139) om.toNatClampNeg nm := (e2.2.1 139 (by unfold Only; omega)).trans f8967
              have f8976 : arI g8969 140 = upd (arI g0 140) om.toNatClampNeg r8762 := (e2.2.1 140 (by unfold Only; omega)).trans f8968
              have f8977 := e1
              rw [f8961] at f8977
              have hG := hG.st e1 e2 (rfl : rA 141 = (-2147483648, 2147483647)) (by have := i_rng pl; omega) (by have := i_rng pl; omega)
              refine q_aload_n hM dX12_stepTold_152 (lv_at hl 2 rfl) ?_
              refine q_dup hM dX12_stepTold_153 rfl ?_
              refine w_get (v := .int om) hM hW FG_X12_251 lb_129 f8972 dX12_stepTold_154 ?_
              have bom := hG.f f8972 rF_129_19 (by decide)
              refine q_iconst (v := (1 : Int32)) hM dX12_stepTold_157 (by decide) ?_
              refine q_iadd hM dX12_stepTold_158 (fun z8978 hz8978 => ?_)
              first | have tz8978 := i_addT hz8978 (rfl : om.toInt = om.toInt) (kc_1 : (1 : Int32).toInt = 1) (by omega) (by omega) | skip
              refine w_put hM hW FP_X12_251 lb_129 (by omega) (Or.inl ⟨_, rfl⟩) rfl rfl dX12_stepTold_159 (fun g8979 H locs hW e1 e2 => ?_)
              have f8980 : fld g8979 129 5 = .int bd := (e2.1 129 5 (by unfold Only; omega)).trans f8970
              have f8981 : fld g8979 129 18 = .int nm := (e2.1 129 18 (by unfold Only; omega)).trans f8971
              have f8982 : fld g8979 129 20 = .int x8759 := (e2.1 129 20 (by unfold Only; omega)).trans f8973
              have f8983 : fld g8979 129 3 = .int v8761 := (e2.1 129 3 (by unfold Only; omega)).trans f8974
              have f8984 : arI g8979 139 = upd (arI g0 139) om.toNatClampNeg nm := (e2.2.1 139 (by unfold Only; omega)).trans f8975
              have f8985 : arI g8979 140 = upd (arI g0 140) om.toNatClampNeg r8762 := (e2.2.1 140 (by unfold Only; omega)).trans f8976
              have f8986 : arI g8979 141 = upd (arI g0 141) om.toNatClampNeg pl := (e2.2.1 141 (by unfold Only; omega)).trans f8977
              have f8987 : fld g8979 129 19 = .int z8978 := e1
              have hG := hG.put e1 e2 rF_129_19 (by decide) (by have := i_rng z8978; omega) (by have := i_rng z8978; omega)
              refine q_aload_n hM dX12_stepTold_162 (lv_at hl 2 rfl) ?_
              refine q_iconst (v := (0 : Int32)) hM dX12_stepTold_163 (by decide) ?_
              refine w_put hM hW FP_X12_254 lb_129 (by omega) (Or.inl ⟨_, rfl⟩) rfl rfl dX12_stepTold_164 (fun g8988 H locs hW e1 e2 => ?_)
              have f8989 : fld g8988 129 5 = .int bd := (e2.1 129 5 (by unfold Only; omega)).trans f8980
              have f8990 : fld g8988 129 18 = .int nm := (e2.1 129 18 (by unfold Only; omega)).trans f8981
              have f8991 : fld g8988 129 3 = .int v8761 := (e2.1 129 3 (by unfold Only; omega)).trans f8983
              have f8992 : arI g8988 139 = upd (arI g0 139) om.toNatClampNeg nm := (e2.2.1 139 (by unfold Only; omega)).trans f8984
              have f8993 : arI g8988 140 = upd (arI g0 140) om.toNatClampNeg r8762 := (e2.2.1 140 (by unfold Only; omega)).trans f8985
              have f8994 : arI g8988 141 = upd (arI g0 141) om.toNatClampNeg pl := (e2.2.1 141 (by unfold Only; omega)).trans f8986
              have f8995 : fld g8988 129 19 = .int z8978 := (e2.1 129 19 (by unfold Only; omega)).trans f8987
              have f8996 : fld g8988 129 20 = .int (0 : Int32) := e1
              have hG := hG.put e1 e2 (rfl : rF 129 20 = (-2147483648, 2147483647)) (by decide) (by have := kc_0; have := i_rng (0 : Int32); omega) (by have := kc_0; have := i_rng (0 : Int32); omega)
              refine q_aload_n hM dX12_stepTold_167 (lv_at hl 2 rfl) ?_
              refine q_dup hM dX12_stepTold_168 rfl ?_
              refine w_get (v := .int v8761) hM hW FG_X12_173 lb_129 f8991 dX12_stepTold_169 ?_
              have bv8761 := hG.f f8991 rF_129_3 (by decide)
              refine q_iconst (v := (1 : Int32)) hM dX12_stepTold_172 (by decide) ?_
              refine q_iadd hM dX12_stepTold_173 (fun z8997 hz8997 => ?_)
              first | have tz8997 := i_addT hz8997 (rfl : v8761.toInt = v8761.toInt) (kc_1 : (1 : Int32).toInt = 1) (by omega) (by omega) | skip
              refine w_put hM hW FP_X12_173 lb_129 (by omega) (Or.inl ⟨_, rfl⟩) rfl rfl dX12_stepTold_174 (fun g8998 H locs hW e1 e2 => ?_)
              have f8999 : fld g8998 129 5 = .int bd := (e2.1 129 5 (by unfold Only; omega)).trans f8989
              have f9000 : fld g8998 129 18 = .int nm := (e2.1 129 18 (by unfold Only; omega)).trans f8990
              have f9001 : arI g8998 139 = upd (arI g0 139) om.toNatClampNeg nm := (e2.2.1 139 (by unfold Only; omega)).trans f8992
              have f9002 : arI g8998 140 = upd (arI g0 140) om.toNatClampNeg r8762 := (e2.2.1 140 (by unfold Only; omega)).trans f8993
              have f9003 : arI g8998 141 = upd (arI g0 141) om.toNatClampNeg pl := (e2.2.1 141 (by unfold Only; omega)).trans f8994
              have f9004 : fld g8998 129 19 = .int z8978 := (e2.1 129 19 (by unfold Only; omega)).trans f8995
              have f9005 : fld g8998 129 20 = .int (0 : Int32) := (e2.1 129 20 (by unfold Only; omega)).trans f8996
              have f9006 : fld g8998 129 3 = .int z8997 := e1
              have hG := hG.put e1 e2 rF_129_3 (by decide) (by have := i_rng z8997; omega) (by have := i_rng z8997; omega)
              exact hE _ _ _ _ _ hW.1 ⟨z8997, bd, nm, z8978, rfl, hW.2.1, hG, hW.2.2, f9006, f8999, f9000, f9004, (by omega), (by omega), (by omega), (fun _ => by rw [f9001, f9002, f9003]; exact OA_mono (OA_push hO rfl (by omega) (by omega) (by omega) (by omega) (by omega)) (by omega) (by omega)), (by omega)⟩ dX12_stepTold_177
            · exact hE _ _ _ _ _ hW.1 ⟨v8761, bd, nm, om, rfl, hW.2.1, hG, hW.2.2, q8763, f8770, f8771, f8772, (by omega), (by omega), (by omega), (fun _ => by rw [f8767, f8768, f8769]; exact OA_mono hO (by omega) (by omega)), (by omega)⟩ dX12_stepTold_118
          · refine q_aload_n hM dX12_stepTold_102 (lv_at hl 2 rfl) ?_
            refine q_iconst (v := (5 : Int32)) hM dX12_stepTold_103 (by decide) ?_
            refine q_aload_n hM dX12_stepTold_104 (lv_at hl 2 rfl) ?_
            refine w_get (v := .int v8761) hM hW FG_X12_173 lb_129 q8763 dX12_stepTold_105 ?_
            have bv8761 := hG.f q8763 rF_129_3 (by decide)
            refine q_callV (As := [.int (5 : Int32), .int v8761]) (rest := []) hM hW.1 hR hC myX12_wrongs (kAW (v_5_9 (List.mem_of_getElem? (i := 11) rfl)) rfl) (rfl : vwCl[12]? = some (RX12, TX12, 86)) rfl lb_129.1 (shO hW.2.1 lb_129) (a_X12_wrongs _ _ cA ad g8766 (5 : Int32) v8761 bd hW.2.1 hG f8770 (by have := kc_5; omega) (by have := kc_5; omega) (by have := kc_5; omega) (by have := kc_5; omega)) ⟨by decide, by decide⟩ rfl rfl hl.1 (Nat.le_of_ble_eq_true rfl) dX12_stepTold_108 (fun v g9012 H locs hp hW1 => ?_)
            obtain ⟨v9009, rfl, hs1, hG, hf1, q9010, e9011⟩ := hp
            have f9013 : arI g9012 139 = arI g0 139 := (hf1.2.1 139 (by omega)).trans f8767
            have f9014 : arI g9012 140 = arI g0 140 := (hf1.2.1 140 (by omega)).trans f8768
            have f9015 : arI g9012 141 = arI g0 141 := (hf1.2.1 141 (by omega)).trans f8769
            have f9016 : fld g9012 129 18 = .int nm := (hf1.1 129 18 (by omega)).trans f8771
            have f9017 : fld g9012 129 19 = .int om := (hf1.1 129 19 (by omega)).trans f8772
            have f9018 : fld g9012 129 20 = .int x8759 := (hf1.1 129 20 (by omega)).trans f8773
            have f9019 : fld g9012 129 3 = .int v8761 := (hf1.1 129 3 (by omega)).trans q8763
            have hW : WS ad cA (fun i k => (i = 129 ∧ (k = 3 ∨ k = 5 ∨ k = 18 ∨ k = 19 ∨ k = 20)) ∨ i = 137 ∨ i = 139 ∨ i = 140 ∨ i = 141) g0 K g9012 H locs := ⟨hW1, hs1, hW.2.2.tr hf1 (fun i k h => (Or.inl (by omega)))⟩
            refine q_aload_n hM dX12_stepTold_111 (lv_at hl 2 rfl) ?_
            refine q_callV (As := []) (rest := []) hM hW.1 hR hC myX12_isGood (kAW (v_5_8 (List.mem_of_getElem? (i := 11) rfl)) rfl) (rfl : vwCl[12]? = some (RX12, TX12, 86)) rfl lb_129.1 (shO hW.2.1 lb_129) (a_X12_isGood _ _ cA ad g9012 v9009 hW.2.1 hG q9010) ⟨by decide, by decide⟩ rfl rfl hl.1 (Nat.le_of_ble_eq_true rfl) dX12_stepTold_112 (fun v g9021 H locs hp hW1 => ?_)
            obtain ⟨r9020, rfl, hr9020, rfl⟩ := hp
            have hW : WS ad cA (fun i k => (i = 129 ∧ (k = 3 ∨ k = 5 ∨ k = 18 ∨ k = 19 ∨ k = 20)) ∨ i = 137 ∨ i = 139 ∨ i = 140 ∨ i = 141) g0 K g9012 H locs := ⟨hW1, hW.2.1, hW.2.2⟩
            refine q_if_ne (tgt := 119) hM dX12_stepTold_115 (by decide) (rfl : r9020.toInt = r9020.toInt) (fun h115 => ?_) (fun h115 => ?_)
            · refine q_aload_n hM dX12_stepTold_119 (lv_at hl 2 rfl) ?_
              refine w_get (v := .ref (ad 139)) hM hW FG_X12_43 lb_129 (rf_129_21 hW.2.1) dX12_stepTold_120 ?_
              refine q_aload_n hM dX12_stepTold_123 (lv_at hl 2 rfl) ?_
              refine w_get (v := .int om) hM hW FG_X12_251 lb_129 f9017 dX12_stepTold_124 ?_
              have bom := hG.f f9017 rF_129_19 (by decide)
              refine q_aload_n hM dX12_stepTold_127 (lv_at hl 2 rfl) ?_
              refine w_get (v := .int nm) hM hW FG_X12_227 lb_129 f9016 dX12_stepTold_128 ?_
              have bnm := hG.f f9016 rF_129_18 (by decide)
              refine w_iast hM hW lb_139 (by omega) (i_in (by omega) (by omega)) dX12_stepTold_131 (fun g9023 H locs hW e1 e2 => ?_)
              have f9024 : arI g9023 140 = arI g0 140 := (e2.2.1 140 (by unfold Only; omega)).trans f9014
              have f9025 : arI g9023 141 = arI g0 141 := (e2.2.1 141 (by unfold Only; omega)).trans f9015
              have f9026 : fld g9023 129 18 = .int nm := (e2.1 129 18 (by unfold Only; omega)).trans f9016
              have f9027 : fld g9023 129 19 = .int om := (e2.1 129 19 (by unfold Only; omega)).trans f9017
              have f9028 : fld g9023 129 20 = .int x8759 := (e2.1 129 20 (by unfold Only; omega)).trans f9018
              have f9029 : fld g9023 129 3 = .int v8761 := (e2.1 129 3 (by unfold Only; omega)).trans f9019
              have f9030 : fld g9023 129 5 = .int v9009 := (e2.1 129 5 (by unfold Only; omega)).trans q9010
              have f9031 := e1
              rw [f9013] at f9031
              have hG := hG.st e1 e2 rA_139 (by have := i_rng nm; omega) (by have := i_rng nm; omega)
              refine q_aload_n hM dX12_stepTold_132 (lv_at hl 2 rfl) ?_
              refine w_get (v := .ref (ad 140)) hM hW FG_X12_46 lb_129 (rf_129_22 hW.2.1) dX12_stepTold_133 ?_
              refine q_aload_n hM dX12_stepTold_136 (lv_at hl 2 rfl) ?_
              refine w_get (v := .int om) hM hW FG_X12_251 lb_129 f9027 dX12_stepTold_137 ?_
              have bom := hG.f f9027 rF_129_19 (by decide)
              refine q_iload_n hM dX12_stepTold_140 (lv_at hl 0 rfl) ?_
              refine w_iast hM hW lb_140 (by omega) (i_in (by omega) (by omega)) dX12_stepTold_141 (fun g9032 H locs hW e1 e2 => ?_)
              have f9033 : arI g9032 141 = arI g0 141 := (e2.2.1 141 (by unfold Only; omega)).trans f9025
              have f9034 : fld g9032 129 18 = .int nm := (e2.1 129 18 (by unfold Only; omega)).trans f9026
              have f9035 : fld g9032 129 19 = .int om := (e2.1 129 19 (by unfold Only; omega)).trans f9027
              have f9036 : fld g9032 129 20 = .int x8759 := (e2.1 129 20 (by unfold Only; omega)).trans f9028
              have f9037 : fld g9032 129 3 = .int v8761 := (e2.1 129 3 (by unfold Only; omega)).trans f9029
              have f9038 : fld g9032 129 5 = .int v9009 := (e2.1 129 5 (by unfold Only; omega)).trans f9030
              have f9039 : arI g9032 139 = upd (arI g0 139) om.toNatClampNeg nm := (e2.2.1 139 (by unfold Only; omega)).trans f9031
              have f9040 := e1
              rw [f9024] at f9040
              have hG := hG.st e1 e2 rA_140 (by have := i_rng r8762; omega) (by have := i_rng r8762; omega)
              refine q_aload_n hM dX12_stepTold_142 (lv_at hl 2 rfl) ?_
              refine w_get (v := .ref (ad 141)) hM hW FG_X12_49 lb_129 (rf_129_23 hW.2.1) dX12_stepTold_143 ?_
              refine q_aload_n hM dX12_stepTold_146 (lv_at hl 2 rfl) ?_
              refine w_get (v := .int om) hM hW FG_X12_251 lb_129 f9035 dX12_stepTold_147 ?_
              have bom := hG.f f9035 rF_129_19 (by decide)
              refine q_iload_n hM dX12_stepTold_150 (lv_at hl 1 rfl) ?_
              refine w_iast hM hW lb_141 (by omega) (i_in (by omega) (by omega)) dX12_stepTold_151 (fun g9041 H locs hW e1 e2 => ?_)
              have f9042 : fld g9041 129 18 = .int nm := (e2.1 129 18 (by unfold Only; omega)).trans f9034
              have f9043 : fld g9041 129 19 = .int om := (e2.1 129 19 (by unfold Only; omega)).trans f9035
              have f9044 : fld g9041 129 20 = .int x8759 := (e2.1 129 20 (by unfold Only; omega)).trans f9036
              have f9045 : fld g9041 129 3 = .int v8761 := (e2.1 129 3 (by unfold Only; omega)).trans f9037
              have f9046 : fld g9041 129 5 = .int v9009 := (e2.1 129 5 (by unfold Only; omega)).trans f9038
              have f9047 : arI g9041 139 = upd (arI g0 139) om.toNatClampNeg nm := (e2.2.1 139 (by unfold Only; omega)).trans f9039
              have f9048 : arI g9041 140 = upd (arI g0 140) om.toNatClampNeg r8762 := (e2.2.1 140 (by unfold Only; omega)).trans f9040
              have f9049 := e1
              rw [f9033] at f9049
              have hG := hG.st e1 e2 (rfl : rA 141 = (-2147483648, 2147483647)) (by have := i_rng pl; omega) (by have := i_rng pl; omega)
              refine q_aload_n hM dX12_stepTold_152 (lv_at hl 2 rfl) ?_
              refine q_dup hM dX12_stepTold_153 rfl ?_
              refine w_get (v := .int om) hM hW FG_X12_251 lb_129 f9043 dX12_stepTold_154 ?_
              have bom := hG.f f9043 rF_129_19 (by decide)
              refine q_iconst (v := (1 : Int32)) hM dX12_stepTold_157 (by decide) ?_
              refine q_iadd hM dX12_stepTold_158 (fun z9050 hz9050 => ?_)
              first | have tz9050 := i_addT hz9050 (rfl : om.toInt = om.toInt) (kc_1 : (1 : Int32).toInt = 1) (by omega) (by omega) | skip
              refine w_put hM hW FP_X12_251 lb_129 (by omega) (Or.inl ⟨_, rfl⟩) rfl rfl dX12_stepTold_159 (fun g9051 H locs hW e1 e2 => ?_)
              have f9052 : fld g9051 129 18 = .int nm := (e2.1 129 18 (by unfold Only; omega)).trans f9042
              have f9053 : fld g9051 129 20 = .int x8759 := (e2.1 129 20 (by unfold Only; omega)).trans f9044
              have f9054 : fld g9051 129 3 = .int v8761 := (e2.1 129 3 (by unfold Only; omega)).trans f9045
              have f9055 : fld g9051 129 5 = .int v9009 := (e2.1 129 5 (by unfold Only; omega)).trans f9046
              have f9056 : arI g9051 139 = upd (arI g0 139) om.toNatClampNeg nm := (e2.2.1 139 (by unfold Only; omega)).trans f9047
              have f9057 : arI g9051 140 = upd (arI g0 140) om.toNatClampNeg r8762 := (e2.2.1 140 (by unfold Only; omega)).trans f9048
              have f9058 : arI g9051 141 = upd (arI g0 141) om.toNatClampNeg pl := (e2.2.1 141 (by unfold Only; omega)).trans f9049
              have f9059 : fld g9051 129 19 = .int z9050 := e1
              have hG := hG.put e1 e2 rF_129_19 (by decide) (by have := i_rng z9050; omega) (by have := i_rng z9050; omega)
              refine q_aload_n hM dX12_stepTold_162 (lv_at hl 2 rfl) ?_
              refine q_iconst (v := (0 : Int32)) hM dX12_stepTold_163 (by decide) ?_
              refine w_put hM hW FP_X12_254 lb_129 (by omega) (Or.inl ⟨_, rfl⟩) rfl rfl dX12_stepTold_164 (fun g9060 H locs hW e1 e2 => ?_)
              have f9061 : fld g9060 129 18 = .int nm := (e2.1 129 18 (by unfold Only; omega)).trans f9052
              have f9062 : fld g9060 129 3 = .int v8761 := (e2.1 129 3 (by unfold Only; omega)).trans f9054
              have f9063 : fld g9060 129 5 = .int v9009 := (e2.1 129 5 (by unfold Only; omega)).trans f9055
              have f9064 : arI g9060 139 = upd (arI g0 139) om.toNatClampNeg nm := (e2.2.1 139 (by unfold Only; omega)).trans f9056
              have f9065 : arI g9060 140 = upd (arI g0 140) om.toNatClampNeg r8762 := (e2.2.1 140 (by unfold Only; omega)).trans f9057
              have f9066 : arI g9060 141 = upd (arI g0 141) om.toNatClampNeg pl := (e2.2.1 141 (by unfold Only; omega)).trans f9058
              have f9067 : fld g9060 129 19 = .int z9050 := (e2.1 129 19 (by unfold Only; omega)).trans f9059
              have f9068 : fld g9060 129 20 = .int (0 : Int32) := e1
              have hG := hG.put e1 e2 (rfl : rF 129 20 = (-2147483648, 2147483647)) (by decide) (by have := kc_0; have := i_rng (0 : Int32); omega) (by have := kc_0; have := i_rng (0 : Int32); omega)
              refine q_aload_n hM dX12_stepTold_167 (lv_at hl 2 rfl) ?_
              refine q_dup hM dX12_stepTold_168 rfl ?_
              refine w_get (v := .int v8761) hM hW FG_X12_173 lb_129 f9062 dX12_stepTold_169 ?_
              have bv8761 := hG.f f9062 rF_129_3 (by decide)
              refine q_iconst (v := (1 : Int32)) hM dX12_stepTold_172 (by decide) ?_
              refine q_iadd hM dX12_stepTold_173 (fun z9069 hz9069 => ?_)
              first | have tz9069 := i_addT hz9069 (rfl : v8761.toInt = v8761.toInt) (kc_1 : (1 : Int32).toInt = 1) (by omega) (by omega) | skip
              refine w_put hM hW FP_X12_173 lb_129 (by omega) (Or.inl ⟨_, rfl⟩) rfl rfl dX12_stepTold_174 (fun g9070 H locs hW e1 e2 => ?_)
              have f9071 : fld g9070 129 18 = .int nm := (e2.1 129 18 (by unfold Only; omega)).trans f9061
              have f9072 : fld g9070 129 5 = .int v9009 := (e2.1 129 5 (by unfold Only; omega)).trans f9063
              have f9073 : arI g9070 139 = upd (arI g0 139) om.toNatClampNeg nm := (e2.2.1 139 (by unfold Only; omega)).trans f9064
              have f9074 : arI g9070 140 = upd (arI g0 140) om.toNatClampNeg r8762 := (e2.2.1 140 (by unfold Only; omega)).trans f9065
              have f9075 : arI g9070 141 = upd (arI g0 141) om.toNatClampNeg pl := (e2.2.1 141 (by unfold Only; omega)).trans f9066
              have f9076 : fld g9070 129 19 = .int z9050 := (e2.1 129 19 (by unfold Only; omega)).trans f9067
              have f9077 : fld g9070 129 20 = .int (0 : Int32) := (e2.1 129 20 (by unfold Only; omega)).trans f9068
              have f9078 : fld g9070 129 3 = .int z9069 := e1
              have hG := hG.put e1 e2 rF_129_3 (by decide) (by have := i_rng z9069; omega) (by have := i_rng z9069; omega)
              exact hE _ _ _ _ _ hW.1 ⟨z9069, v9009, nm, z9050, rfl, hW.2.1, hG, hW.2.2, f9078, f9072, f9071, f9076, (by omega), (by omega), (by omega), (fun _ => by rw [f9073, f9074, f9075]; exact OA_mono (OA_push hO rfl (by omega) (by omega) (by omega) (by omega) (by omega)) (by omega) (by omega)), (by omega)⟩ dX12_stepTold_177
            · exact hE _ _ _ _ _ hW.1 ⟨v8761, v9009, nm, om, rfl, hW.2.1, hG, hW.2.2, f9019, q9010, f9016, f9017, (by omega), (by omega), (by omega), (fun _ => by rw [f9013, f9014, f9015]; exact OA_mono hO (by omega) (by omega)), (by omega)⟩ dX12_stepTold_118
      · refine q_aload_n hM dX12_stepTold_28 (lv_at hl 1 rfl) ?_
        refine q_dup hM dX12_stepTold_29 rfl ?_
        refine w_get (v := .int om) hM hW FG_X12_251 lb_129 f8138 dX12_stepTold_30 ?_
        have bom := hG.f f8138 rF_129_19 (by decide)
        refine q_iconst (v := (1 : Int32)) hM dX12_stepTold_33 (by decide) ?_
        refine q_isub hM dX12_stepTold_34 (fun z9081 hz9081 => ?_)
        first | have tz9081 := i_subT hz9081 (rfl : om.toInt = om.toInt) (kc_1 : (1 : Int32).toInt = 1) (by omega) (by omega) | skip
        refine w_put hM hW FP_X12_251 lb_129 (by omega) (Or.inl ⟨_, rfl⟩) rfl rfl dX12_stepTold_35 (fun g9082 H locs hW e1 e2 => ?_)
        have f9083 : arI g9082 139 = arI g0 139 := (e2.2.1 139 (by unfold Only; omega)).trans (rfl : arI g0 139 = arI g0 139)
        have f9084 : arI g9082 140 = arI g0 140 := (e2.2.1 140 (by unfold Only; omega)).trans (rfl : arI g0 140 = arI g0 140)
        have f9085 : arI g9082 141 = arI g0 141 := (e2.2.1 141 (by unfold Only; omega)).trans (rfl : arI g0 141 = arI g0 141)
        have f9086 : fld g9082 129 3 = .int pl := (e2.1 129 3 (by unfold Only; omega)).trans f8135
        have f9087 : fld g9082 129 5 = .int bd := (e2.1 129 5 (by unfold Only; omega)).trans f8136
        have f9088 : fld g9082 129 18 = .int nm := (e2.1 129 18 (by unfold Only; omega)).trans f8137
        have f9089 : fld g9082 129 20 = .int x8759 := (e2.1 129 20 (by unfold Only; omega)).trans fx8759
        have f9090 : fld g9082 129 19 = .int z9081 := e1
        have hG := hG.put e1 e2 rF_129_19 (by decide) (by have := i_rng z9081; omega) (by have := i_rng z9081; omega)
        refine q_aload_n hM dX12_stepTold_38 (lv_at hl 1 rfl) ?_
        refine q_dup hM dX12_stepTold_39 rfl ?_
        refine w_get (v := .int pl) hM hW FG_X12_173 lb_129 f9086 dX12_stepTold_40 ?_
        have bpl := hG.f f9086 rF_129_3 (by decide)
        refine q_iconst (v := (1 : Int32)) hM dX12_stepTold_43 (by decide) ?_
        refine q_iadd hM dX12_stepTold_44 (fun z9091 hz9091 => ?_)
        first | have tz9091 := i_addT hz9091 (rfl : pl.toInt = pl.toInt) (kc_1 : (1 : Int32).toInt = 1) (by omega) (by omega) | skip
        refine w_put hM hW FP_X12_173 lb_129 (by omega) (Or.inl ⟨_, rfl⟩) rfl rfl dX12_stepTold_45 (fun g9092 H locs hW e1 e2 => ?_)
        have f9093 : arI g9092 139 = arI g0 139 := (e2.2.1 139 (by unfold Only; omega)).trans f9083
        have f9094 : arI g9092 140 = arI g0 140 := (e2.2.1 140 (by unfold Only; omega)).trans f9084
        have f9095 : arI g9092 141 = arI g0 141 := (e2.2.1 141 (by unfold Only; omega)).trans f9085
        have f9096 : fld g9092 129 5 = .int bd := (e2.1 129 5 (by unfold Only; omega)).trans f9087
        have f9097 : fld g9092 129 18 = .int nm := (e2.1 129 18 (by unfold Only; omega)).trans f9088
        have f9098 : fld g9092 129 20 = .int x8759 := (e2.1 129 20 (by unfold Only; omega)).trans f9089
        have f9099 : fld g9092 129 19 = .int z9081 := (e2.1 129 19 (by unfold Only; omega)).trans f9090
        have f9100 : fld g9092 129 3 = .int z9091 := e1
        have hG := hG.put e1 e2 rF_129_3 (by decide) (by have := i_rng z9091; omega) (by have := i_rng z9091; omega)
        refine q_aload_n hM dX12_stepTold_48 (lv_at hl 1 rfl) ?_
        refine q_aload_n hM dX12_stepTold_49 (lv_at hl 1 rfl) ?_
        refine w_get (v := .ref (ad 139)) hM hW FG_X12_43 lb_129 (rf_129_21 hW.2.1) dX12_stepTold_50 ?_
        refine q_aload_n hM dX12_stepTold_53 (lv_at hl 1 rfl) ?_
        refine w_get (v := .int z9081) hM hW FG_X12_251 lb_129 f9099 dX12_stepTold_54 ?_
        have bz9081 := hG.f f9099 rF_129_19 (by decide)
        refine w_iald hM hW lb_139 (i_in (by omega) (by omega)) dX12_stepTold_57 ?_
        refine q_top (fun y9101 hy9101 => ?_)
        have by9101 := hG.a hy9101 rA_139
        rw [f9093] at hy9101
        rw [show z9081.toNatClampNeg = (om.toInt - 1).toNat by show z9081.toInt.toNat = _; omega] at hy9101
        refine q_aload_n hM dX12_stepTold_58 (lv_at hl 1 rfl) ?_
        refine w_get (v := .ref (ad 140)) hM hW FG_X12_46 lb_129 (rf_129_22 hW.2.1) dX12_stepTold_59 ?_
        refine q_aload_n hM dX12_stepTold_62 (lv_at hl 1 rfl) ?_
        refine w_get (v := .int z9081) hM hW FG_X12_251 lb_129 f9099 dX12_stepTold_63 ?_
        have bz9081 := hG.f f9099 rF_129_19 (by decide)
        refine w_iald hM hW lb_140 (i_in (by omega) (by omega)) dX12_stepTold_66 ?_
        refine q_top (fun y9102 hy9102 => ?_)
        have by9102 := hG.a hy9102 rA_140
        rw [f9094] at hy9102
        rw [show z9081.toNatClampNeg = (om.toInt - 1).toNat by show z9081.toInt.toNat = _; omega] at hy9102
        refine q_aload_n hM dX12_stepTold_67 (lv_at hl 1 rfl) ?_
        refine w_get (v := .ref (ad 141)) hM hW FG_X12_49 lb_129 (rf_129_23 hW.2.1) dX12_stepTold_68 ?_
        refine q_aload_n hM dX12_stepTold_71 (lv_at hl 1 rfl) ?_
        refine w_get (v := .int z9081) hM hW FG_X12_251 lb_129 f9099 dX12_stepTold_72 ?_
        have bz9081 := hG.f f9099 rF_129_19 (by decide)
        refine w_iald hM hW lb_141 (i_in (by omega) (by omega)) dX12_stepTold_75 ?_
        refine q_top (fun y9103 hy9103 => ?_)
        rw [f9095] at hy9103
        rw [show z9081.toNatClampNeg = (om.toInt - 1).toNat by show z9081.toInt.toNat = _; omega] at hy9103
        have oa := hO (om.toInt - 1).toNat (by omega)
        rw [← hy9101, ← hy9102, ← hy9103] at oa
        refine q_callV (As := [.int y9101, .int y9102, .int y9103]) (rest := []) hM hW.1 hR hC myX12_repeats (kAW (v_5_9 (List.mem_of_getElem? (i := 7) rfl)) rfl) (rfl : vwCl[12]? = some (RX12, TX12, 86)) rfl lb_129.1 (shO hW.2.1 lb_129) (a_X12_repeats _ _ cA ad g9092 y9101 y9102 y9103 bd nm hW.2.1 hG f9096 f9097 (by  omega) (by  omega) (by  omega) (by  omega) (by  omega) (by  omega)) ⟨by decide, by decide⟩ rfl rfl hl.1 (Nat.le_of_ble_eq_true rfl) dX12_stepTold_76 (fun v g9111 H locs hp hW1 => ?_)
        obtain ⟨v9104, v9105, rfl, hs1, hG, hf1, q9106, q9107, e9108, e9109, e9110⟩ := hp
        have f9112 : arI g9111 139 = arI g0 139 := (hf1.2.1 139 (by omega)).trans f9093
        have f9113 : arI g9111 140 = arI g0 140 := (hf1.2.1 140 (by omega)).trans f9094
        have f9114 : arI g9111 141 = arI g0 141 := (hf1.2.1 141 (by omega)).trans f9095
        have f9115 : fld g9111 129 20 = .int x8759 := (hf1.1 129 20 (by omega)).trans f9098
        have f9116 : fld g9111 129 19 = .int z9081 := (hf1.1 129 19 (by omega)).trans f9099
        have f9117 : fld g9111 129 3 = .int z9091 := (hf1.1 129 3 (by omega)).trans f9100
        have hW : WS ad cA (fun i k => (i = 129 ∧ (k = 3 ∨ k = 5 ∨ k = 18 ∨ k = 19 ∨ k = 20)) ∨ i = 137 ∨ i = 139 ∨ i = 140 ∨ i = 141) g0 K g9111 H locs := ⟨hW1, hs1, hW.2.2.tr hf1 (fun i k h => h.elim (fun h => (Or.inl (by omega))) (fun h => (Or.inr (Or.inl h))))⟩
        exact hE _ _ _ _ _ hW.1 ⟨z9091, v9104, v9105, z9081, rfl, hW.2.1, hG, hW.2.2, f9117, q9106, q9107, f9116, (by omega), (by omega), (by omega), (fun _ => by rw [f9112, f9113, f9114]; exact OA_mono hO (by omega) (by omega)), (by omega)⟩ dX12_stepTold_79

theorem dX12_art_0 : decode cX12_art 0 = .ok (.iload_n 1, 1) := by decide +kernel
theorem dX12_art_1 : decode cX12_art 1 = .ok (.i2l, 1) := by decide +kernel
theorem dX12_art_2 : decode cX12_art 2 = .ok (.lconst 0, 1) := by decide +kernel
theorem dX12_art_3 : decode cX12_art 3 = .ok (.ldc2_w 225, 3) := by decide +kernel
theorem dX12_art_6 : decode cX12_art 6 = .ok (.invokestatic 190, 3) := by decide +kernel
theorem dX12_art_9 : decode cX12_art 9 = .ok (.ifCond .eq 23, 3) := by decide +kernel
theorem dX12_art_12 : decode cX12_art 12 = .ok (.iload_n 2, 1) := by decide +kernel
theorem dX12_art_13 : decode cX12_art 13 = .ok (.i2l, 1) := by decide +kernel
theorem dX12_art_14 : decode cX12_art 14 = .ok (.lconst 1, 1) := by decide +kernel
theorem dX12_art_15 : decode cX12_art 15 = .ok (.ldc2_w 268, 3) := by decide +kernel
theorem dX12_art_18 : decode cX12_art 18 = .ok (.invokestatic 190, 3) := by decide +kernel
theorem dX12_art_21 : decode cX12_art 21 = .ok (.ifCond .eq 11, 3) := by decide +kernel
theorem dX12_art_24 : decode cX12_art 24 = .ok (.iload_n 2, 1) := by decide +kernel
theorem dX12_art_25 : decode cX12_art 25 = .ok (.aload_n 0, 1) := by decide +kernel
theorem dX12_art_26 : decode cX12_art 26 = .ok (.getfield 166, 3) := by decide +kernel
theorem dX12_art_29 : decode cX12_art 29 = .ok (.if_icmp .le 5, 3) := by decide +kernel
theorem dX12_art_32 : decode cX12_art 32 = .ok (.iconst (-1), 1) := by decide +kernel
theorem dX12_art_33 : decode cX12_art 33 = .ok (.ireturn, 1) := by decide +kernel
theorem dX12_art_34 : decode cX12_art 34 = .ok (.aload_n 0, 1) := by decide +kernel
theorem dX12_art_35 : decode cX12_art 35 = .ok (.iload_n 2, 1) := by decide +kernel
theorem dX12_art_36 : decode cX12_art 36 = .ok (.invokevirtual 270, 3) := by decide +kernel
theorem dX12_art_39 : decode cX12_art 39 = .ok (.aload_n 0, 1) := by decide +kernel
theorem dX12_art_40 : decode cX12_art 40 = .ok (.iconst 0, 1) := by decide +kernel
theorem dX12_art_41 : decode cX12_art 41 = .ok (.putfield 227, 3) := by decide +kernel
theorem dX12_art_44 : decode cX12_art 44 = .ok (.aload_n 0, 1) := by decide +kernel
theorem dX12_art_45 : decode cX12_art 45 = .ok (.iconst 0, 1) := by decide +kernel
theorem dX12_art_46 : decode cX12_art 46 = .ok (.putfield 251, 3) := by decide +kernel
theorem dX12_art_49 : decode cX12_art 49 = .ok (.aload_n 0, 1) := by decide +kernel
theorem dX12_art_50 : decode cX12_art 50 = .ok (.iconst 0, 1) := by decide +kernel
theorem dX12_art_51 : decode cX12_art 51 = .ok (.putfield 254, 3) := by decide +kernel
theorem dX12_art_54 : decode cX12_art 54 = .ok (.aload_n 0, 1) := by decide +kernel
theorem dX12_art_55 : decode cX12_art 55 = .ok (.invokevirtual 234, 3) := by decide +kernel
theorem dX12_art_58 : decode cX12_art 58 = .ok (.ifCond .eq 21, 3) := by decide +kernel
theorem dX12_art_61 : decode cX12_art 61 = .ok (.aload_n 0, 1) := by decide +kernel
theorem dX12_art_62 : decode cX12_art 62 = .ok (.getfield 173, 3) := by decide +kernel
theorem dX12_art_65 : decode cX12_art 65 = .ok (.aload_n 0, 1) := by decide +kernel
theorem dX12_art_66 : decode cX12_art 66 = .ok (.getfield 176, 3) := by decide +kernel
theorem dX12_art_69 : decode cX12_art 69 = .ok (.if_icmp .ge 10, 3) := by decide +kernel
theorem dX12_art_72 : decode cX12_art 72 = .ok (.aload_n 0, 1) := by decide +kernel
theorem dX12_art_73 : decode cX12_art 73 = .ok (.invokevirtual 273, 3) := by decide +kernel
theorem dX12_art_76 : decode cX12_art 76 = .ok (.goto (-22), 3) := by decide +kernel
theorem dX12_art_79 : decode cX12_art 79 = .ok (.aload_n 0, 1) := by decide +kernel
theorem dX12_art_80 : decode cX12_art 80 = .ok (.invokevirtual 234, 3) := by decide +kernel
theorem dX12_art_83 : decode cX12_art 83 = .ok (.ifCond .eq 19, 3) := by decide +kernel
theorem dX12_art_86 : decode cX12_art 86 = .ok (.aload_n 0, 1) := by decide +kernel
theorem dX12_art_87 : decode cX12_art 87 = .ok (.getfield 251, 3) := by decide +kernel
theorem dX12_art_90 : decode cX12_art 90 = .ok (.ifCond .le 12, 3) := by decide +kernel
theorem dX12_art_93 : decode cX12_art 93 = .ok (.aload_n 0, 1) := by decide +kernel
theorem dX12_art_94 : decode cX12_art 94 = .ok (.iconst 1, 1) := by decide +kernel
theorem dX12_art_95 : decode cX12_art 95 = .ok (.aload_n 0, 1) := by decide +kernel
theorem dX12_art_96 : decode cX12_art 96 = .ok (.getfield 173, 3) := by decide +kernel
theorem dX12_art_99 : decode cX12_art 99 = .ok (.invokevirtual 230, 3) := by decide +kernel
theorem dX12_art_102 : decode cX12_art 102 = .ok (.aload_n 0, 1) := by decide +kernel
theorem dX12_art_103 : decode cX12_art 103 = .ok (.getfield 179, 3) := by decide +kernel
theorem dX12_art_106 : decode cX12_art 106 = .ok (.ifCond .ge 8, 3) := by decide +kernel
theorem dX12_art_109 : decode cX12_art 109 = .ok (.aload_n 0, 1) := by decide +kernel
theorem dX12_art_110 : decode cX12_art 110 = .ok (.getfield 179, 3) := by decide +kernel
theorem dX12_art_113 : decode cX12_art 113 = .ok (.ireturn, 1) := by decide +kernel
theorem dX12_art_114 : decode cX12_art 114 = .ok (.aload_n 0, 1) := by decide +kernel
theorem dX12_art_115 : decode cX12_art 115 = .ok (.getfield 28, 3) := by decide +kernel
theorem dX12_art_118 : decode cX12_art 118 = .ok (.iload_n 1, 1) := by decide +kernel
theorem dX12_art_119 : decode cX12_art 119 = .ok (.iconst 1, 1) := by decide +kernel
theorem dX12_art_120 : decode cX12_art 120 = .ok (.bastore, 1) := by decide +kernel
theorem dX12_art_121 : decode cX12_art 121 = .ok (.aload_n 0, 1) := by decide +kernel
theorem dX12_art_122 : decode cX12_art 122 = .ok (.getfield 31, 3) := by decide +kernel
theorem dX12_art_125 : decode cX12_art 125 = .ok (.iload_n 1, 1) := by decide +kernel
theorem dX12_art_126 : decode cX12_art 126 = .ok (.aload_n 0, 1) := by decide +kernel
theorem dX12_art_127 : decode cX12_art 127 = .ok (.getfield 227, 3) := by decide +kernel
theorem dX12_art_130 : decode cX12_art 130 = .ok (.iastore, 1) := by decide +kernel
theorem dX12_art_131 : decode cX12_art 131 = .ok (.iconst 0, 1) := by decide +kernel
theorem dX12_art_132 : decode cX12_art 132 = .ok (.istore_n 3, 1) := by decide +kernel
theorem dX12_art_133 : decode cX12_art 133 = .ok (.iload_n 3, 1) := by decide +kernel
theorem dX12_art_134 : decode cX12_art 134 = .ok (.aload_n 0, 1) := by decide +kernel
theorem dX12_art_135 : decode cX12_art 135 = .ok (.getfield 227, 3) := by decide +kernel
theorem dX12_art_138 : decode cX12_art 138 = .ok (.if_icmp .ge 26, 3) := by decide +kernel
theorem dX12_art_141 : decode cX12_art 141 = .ok (.aload_n 0, 1) := by decide +kernel
theorem dX12_art_142 : decode cX12_art 142 = .ok (.getfield 34, 3) := by decide +kernel
theorem dX12_art_145 : decode cX12_art 145 = .ok (.bipush 48, 2) := by decide +kernel
theorem dX12_art_147 : decode cX12_art 147 = .ok (.iload_n 1, 1) := by decide +kernel
theorem dX12_art_148 : decode cX12_art 148 = .ok (.imul, 1) := by decide +kernel
theorem dX12_art_149 : decode cX12_art 149 = .ok (.iload_n 3, 1) := by decide +kernel
theorem dX12_art_150 : decode cX12_art 150 = .ok (.iadd, 1) := by decide +kernel
theorem dX12_art_151 : decode cX12_art 151 = .ok (.aload_n 0, 1) := by decide +kernel
theorem dX12_art_152 : decode cX12_art 152 = .ok (.getfield 37, 3) := by decide +kernel
theorem dX12_art_155 : decode cX12_art 155 = .ok (.iload_n 3, 1) := by decide +kernel
theorem dX12_art_156 : decode cX12_art 156 = .ok (.iaload, 1) := by decide +kernel
theorem dX12_art_157 : decode cX12_art 157 = .ok (.iastore, 1) := by decide +kernel
theorem dX12_art_158 : decode cX12_art 158 = .ok (.iinc 3 1, 3) := by decide +kernel
theorem dX12_art_161 : decode cX12_art 161 = .ok (.goto (-28), 3) := by decide +kernel
theorem dX12_art_164 : decode cX12_art 164 = .ok (.aload_n 0, 1) := by decide +kernel
theorem dX12_art_165 : decode cX12_art 165 = .ok (.getfield 227, 3) := by decide +kernel
theorem dX12_art_168 : decode cX12_art 168 = .ok (.ireturn, 1) := by decide +kernel
theorem myX12_begins : MI yX12_begins cX12_begins 2 none 1 := ⟨kAW (v_5_8 (List.mem_of_getElem? (i := 10) rfl)) rfl, kAW (v_0_0 (List.mem_of_getElem? (i := 13) rfl)) rfl, kAW (v_5_8 (List.mem_of_getElem? (i := 9) rfl)) rfl, kAW (tp_t2 (List.mem_of_getElem? (i := 6) rfl)) rfl, by decide, by decide, by decide +kernel⟩
theorem myX12_stepTold : MI yX12_stepTold cX12_stepTold 5 none 0 := ⟨kAW (v_5_9 (List.mem_of_getElem? (i := 2) rfl)) rfl, kAW (v_0_0 (List.mem_of_getElem? (i := 13) rfl)) rfl, kAW (v_5_9 (List.mem_of_getElem? (i := 1) rfl)) rfl, kAW (tp_t2 (List.mem_of_getElem? (i := 8) rfl)) rfl, by decide, by decide, by decide +kernel⟩
set_option maxRecDepth 100000 in
set_option maxHeartbeats 4000000 in
theorem p_X12_art (l : Launch) (D : va_G) (cA : Nat → ClassId) (ad : Nat → Nat) (g0 : Nat → va_E) (a : Int32) (b : Int32)   (hSh : Shp ad cA g0) (hG : Rng g0) (hT : TB g0) : CT l NN ad cA D yX12_art cX12_art 4 (some FieldType.int) (4, 90) [.ref (ad 129), .int a, .int b] g0 (fun v g' => ∃ (r : Int32), v = some (.int r) ∧ Shp ad cA g' ∧ Rng g' ∧ FR (fun i k => (i = 129 ∧ (k = 1 ∨ k = 3 ∨ k = 4 ∨ k = 5 ∨ k = 18 ∨ k = 19 ∨ k = 20)) ∨ (134 ≤ i ∧ i < 138) ∨ i = 139 ∨ i = 140 ∨ i = 141) g0 g') := by
  refine q_enterI (by decide) (Nat.le_of_ble_eq_true rfl) rfl (fun K H locs ls _ _ hM hW0 hR hC hE hl => ?_)
  have hl : lv_has ls 4 [(0, .ref (ad 129)), (1, .int a), (2, .int b)] := hl
  have hW : WS ad cA (fun i k => (i = 129 ∧ (k = 1 ∨ k = 3 ∨ k = 4 ∨ k = 5 ∨ k = 18 ∨ k = 19 ∨ k = 20)) ∨ (134 ≤ i ∧ i < 138) ∨ i = 139 ∨ i = 140 ∨ i = 141) g0 K g0 H locs := ⟨hW0, hSh, FR.rf⟩
  have := kc_0
  have := kc_1
  have := kc_m1
  have := kc_m2
  refine q_iload_n hM dX12_art_0 (lv_at hl 1 rfl) ?_
  refine q_i2l hM dX12_art_1 ?_
  have := l_i2l a
  refine q_lconst (v := 0) hM dX12_art_2 (by decide) ?_
  have := kl_0
  refine q_ldc2 (v := 5) hM (kAW (v_5_8 (List.mem_of_getElem? (i := 5) rfl)) rfl) dX12_art_3 ?_
  have := kl_5
  refine q_callS (As := [.long a.toInt64, .long (0 : Int64), .long (5 : Int64)]) (rest := []) hM hW.1 hR hC myX12_lies (kAW (v_5_4 (List.mem_of_getElem? (i := 14) rfl)) rfl) (c_X12_lies _ _ cA ad g0 a.toInt64 (0 : Int64) (5 : Int64) hW.2.1) ⟨by decide, by decide⟩ rfl rfl hl.1 (Nat.le_of_ble_eq_true rfl) dX12_art_6 (fun v g9119 H locs hp hW1 => ?_)
  obtain ⟨r9118, rfl, hr9118, rfl⟩ := hp
  have hW : WS ad cA (fun i k => (i = 129 ∧ (k = 1 ∨ k = 3 ∨ k = 4 ∨ k = 5 ∨ k = 18 ∨ k = 19 ∨ k = 20)) ∨ (134 ≤ i ∧ i < 138) ∨ i = 139 ∨ i = 140 ∨ i = 141) g0 K g0 H locs := ⟨hW1, hW.2.1, hW.2.2⟩
  refine q_if_eq (tgt := 32) hM dX12_art_9 (by decide) (rfl : r9118.toInt = r9118.toInt) (fun h9 => ?_) (fun h9 => ?_)
  · refine q_iconst (v := ((-1) : Int32)) hM dX12_art_32 (by decide) ?_
    exact hE _ _ _ _ _ _ hW.1 ⟨_, rfl, hW.2.1, hG, hW.2.2⟩ dX12_art_33
  · refine q_iload_n hM dX12_art_12 (lv_at hl 2 rfl) ?_
    refine q_i2l hM dX12_art_13 ?_
    have := l_i2l b
    refine q_lconst (v := 1) hM dX12_art_14 (by decide) ?_
    have := kl_1
    refine q_ldc2 (v := 60) hM (kAW (v_5_8 (List.mem_of_getElem? (i := 6) rfl)) rfl) dX12_art_15 ?_
    have := kl_60
    refine q_callS (As := [.long b.toInt64, .long (1 : Int64), .long (60 : Int64)]) (rest := []) hM hW.1 hR hC myX12_lies (kAW (v_5_4 (List.mem_of_getElem? (i := 14) rfl)) rfl) (c_X12_lies _ _ cA ad g0 b.toInt64 (1 : Int64) (60 : Int64) hW.2.1) ⟨by decide, by decide⟩ rfl rfl hl.1 (Nat.le_of_ble_eq_true rfl) dX12_art_18 (fun v g9123 H locs hp hW1 => ?_)
    obtain ⟨r9122, rfl, hr9122, rfl⟩ := hp
    have hW : WS ad cA (fun i k => (i = 129 ∧ (k = 1 ∨ k = 3 ∨ k = 4 ∨ k = 5 ∨ k = 18 ∨ k = 19 ∨ k = 20)) ∨ (134 ≤ i ∧ i < 138) ∨ i = 139 ∨ i = 140 ∨ i = 141) g0 K g0 H locs := ⟨hW1, hW.2.1, hW.2.2⟩
    refine q_if_eq (tgt := 32) hM dX12_art_21 (by decide) (rfl : r9122.toInt = r9122.toInt) (fun h21 => ?_) (fun h21 => ?_)
    · refine q_iconst (v := ((-1) : Int32)) hM dX12_art_32 (by decide) ?_
      exact hE _ _ _ _ _ _ hW.1 ⟨_, rfl, hW.2.1, hG, hW.2.2⟩ dX12_art_33
    · refine q_iload_n hM dX12_art_24 (lv_at hl 2 rfl) ?_
      refine q_aload_n hM dX12_art_25 (lv_at hl 0 rfl) ?_
      refine w_getI hM hW FG_X12_166 lb_129 (by decide) (by decide) dX12_art_26 (fun x9126 fx9126 => ?_)
      have bx9126 := hG.f fx9126 rF_129_1 (by decide)
      refine q_icmp_le (tgt := 34) hM dX12_art_29 (by decide) (rfl : b.toInt = b.toInt) (rfl : x9126.toInt = x9126.toInt) (fun h29 => ?_) (fun h29 => ?_)
      · refine q_aload_n hM dX12_art_34 (lv_at hl 0 rfl) ?_
        refine q_iload_n hM dX12_art_35 (lv_at hl 2 rfl) ?_
        refine q_callV (As := [.int b]) (rest := []) hM hW.1 hR hC myX12_begins (kAW (v_5_8 (List.mem_of_getElem? (i := 7) rfl)) rfl) (rfl : vwCl[12]? = some (RX12, TX12, 86)) rfl lb_129.1 (shO hW.2.1 lb_129) (a_X12_begins _ _ cA ad g0 b hW.2.1 hG (by  omega) (by  omega)) ⟨by decide, by decide⟩ rfl rfl hl.1 (Nat.le_of_ble_eq_true rfl) dX12_art_36 (fun v g9137 H locs hp hW1 => ?_)
        obtain ⟨v9128, v9129, v9130, rfl, hs1, hG, hf1, q9131, q9132, q9133, e9134, e9135, e9136⟩ := hp
        have hW : WS ad cA (fun i k => (i = 129 ∧ (k = 1 ∨ k = 3 ∨ k = 4 ∨ k = 5 ∨ k = 18 ∨ k = 19 ∨ k = 20)) ∨ (134 ≤ i ∧ i < 138) ∨ i = 139 ∨ i = 140 ∨ i = 141) g0 K g9137 H locs := ⟨hW1, hs1, hW.2.2.tr hf1 (fun i k h => (Or.inl (by omega)))⟩
        refine q_aload_n hM dX12_art_39 (lv_at hl 0 rfl) ?_
        refine q_iconst (v := (0 : Int32)) hM dX12_art_40 (by decide) ?_
        refine w_put hM hW FP_X12_227 lb_129 (by omega) (Or.inl ⟨_, rfl⟩) rfl rfl dX12_art_41 (fun g9138 H locs hW e1 e2 => ?_)
        have f9139 : fld g9138 129 3 = .int v9128 := (e2.1 129 3 (by unfold Only; omega)).trans q9131
        have f9140 : fld g9138 129 4 = .int v9129 := (e2.1 129 4 (by unfold Only; omega)).trans q9132
        have f9141 : fld g9138 129 5 = .int v9130 := (e2.1 129 5 (by unfold Only; omega)).trans q9133
        have f9142 : fld g9138 129 18 = .int (0 : Int32) := e1
        have hG := hG.put e1 e2 rF_129_18 (by decide) (by have := kc_0; have := i_rng (0 : Int32); omega) (by have := kc_0; have := i_rng (0 : Int32); omega)
        refine q_aload_n hM dX12_art_44 (lv_at hl 0 rfl) ?_
        refine q_iconst (v := (0 : Int32)) hM dX12_art_45 (by decide) ?_
        refine w_put hM hW FP_X12_251 lb_129 (by omega) (Or.inl ⟨_, rfl⟩) rfl rfl dX12_art_46 (fun g9143 H locs hW e1 e2 => ?_)
        have f9144 : fld g9143 129 3 = .int v9128 := (e2.1 129 3 (by unfold Only; omega)).trans f9139
        have f9145 : fld g9143 129 4 = .int v9129 := (e2.1 129 4 (by unfold Only; omega)).trans f9140
        have f9146 : fld g9143 129 5 = .int v9130 := (e2.1 129 5 (by unfold Only; omega)).trans f9141
        have f9147 : fld g9143 129 18 = .int (0 : Int32) := (e2.1 129 18 (by unfold Only; omega)).trans f9142
        have f9148 : fld g9143 129 19 = .int (0 : Int32) := e1
        have hG := hG.put e1 e2 rF_129_19 (by decide) (by have := kc_0; have := i_rng (0 : Int32); omega) (by have := kc_0; have := i_rng (0 : Int32); omega)
        refine q_aload_n hM dX12_art_49 (lv_at hl 0 rfl) ?_
        refine q_iconst (v := (0 : Int32)) hM dX12_art_50 (by decide) ?_
        refine w_put hM hW FP_X12_254 lb_129 (by omega) (Or.inl ⟨_, rfl⟩) rfl rfl dX12_art_51 (fun g9149 H locs hW e1 e2 => ?_)
        have f9150 : fld g9149 129 3 = .int v9128 := (e2.1 129 3 (by unfold Only; omega)).trans f9144
        have f9151 : fld g9149 129 4 = .int v9129 := (e2.1 129 4 (by unfold Only; omega)).trans f9145
        have f9152 : fld g9149 129 5 = .int v9130 := (e2.1 129 5 (by unfold Only; omega)).trans f9146
        have f9153 : fld g9149 129 18 = .int (0 : Int32) := (e2.1 129 18 (by unfold Only; omega)).trans f9147
        have f9154 : fld g9149 129 19 = .int (0 : Int32) := (e2.1 129 19 (by unfold Only; omega)).trans f9148
        have f9155 : fld g9149 129 20 = .int (0 : Int32) := e1
        have hG := hG.put e1 e2 (rfl : rF 129 20 = (-2147483648, 2147483647)) (by decide) (by have := kc_0; have := i_rng (0 : Int32); omega) (by have := kc_0; have := i_rng (0 : Int32); omega)
        have L54 : ∀ (fu54 : Nat) (ee : Int32) (pp : Int32) (bb : Int32) (nn : Int32) (oo : Int32) (g9 : Nat → va_E) (H : Heap) (locs : List Loc) (ls : Array Slot), (ee.toInt - pp.toInt + 1).toNat + (bb.toInt + 1).toNat < fu54 → (Rng g9) → (0 ≤ pp.toInt) → (pp.toInt ≤ ee.toInt) → (ee.toInt ≤ 60) → (bb.toInt ≤ 0) → (bb.toInt = 0 → OA (arI g9 139) (arI g9 140) (arI g9 141) nn.toInt oo.toInt) → (fld g9 129 4 = .int ee) → (fld g9 129 3 = .int pp) → (fld g9 129 5 = .int bb) → (fld g9 129 18 = .int nn) → (fld g9 129 19 = .int oo) → lv_has ls 4 [(0, .ref (ad 129)), (1, .int a), (2, .int b)] → WS ad cA (fun i k => (i = 129 ∧ (k = 1 ∨ k = 3 ∨ k = 4 ∨ k = 5 ∨ k = 18 ∨ k = 19 ∨ k = 20)) ∨ (134 ≤ i ∧ i < 138) ∨ i = 139 ∨ i = 140 ∨ i = 141) g0 K g9 H locs → XX K 0 0 H locs 54 ls [] := by
          intro fu54
          induction fu54 with
          | zero => intro ee pp bb nn oo g9 H locs ls h0; omega
          | succ fu54 ih54 =>
            intro ee pp bb nn oo g9 H locs ls hm54 i54_0 i54_1 i54_2 i54_3 i54_4 i54_5 c54_129_4 c54_129_3 c54_129_5 c54_129_18 c54_129_19 hl hW
            have hG := i54_0
            refine q_aload_n hM dX12_art_54 (lv_at hl 0 rfl) ?_
            refine q_callV (As := []) (rest := []) hM hW.1 hR hC myX12_isGood (kAW (v_5_8 (List.mem_of_getElem? (i := 11) rfl)) rfl) (rfl : vwCl[12]? = some (RX12, TX12, 86)) rfl lb_129.1 (shO hW.2.1 lb_129) (a_X12_isGood _ _ cA ad g9 bb hW.2.1 hG c54_129_5) ⟨by decide, by decide⟩ rfl rfl hl.1 (Nat.le_of_ble_eq_true rfl) dX12_art_55 (fun v g9158 H locs hp hW1 => ?_)
            obtain ⟨r9157, rfl, hr9157, rfl⟩ := hp
            have hW : WS ad cA (fun i k => (i = 129 ∧ (k = 1 ∨ k = 3 ∨ k = 4 ∨ k = 5 ∨ k = 18 ∨ k = 19 ∨ k = 20)) ∨ (134 ≤ i ∧ i < 138) ∨ i = 139 ∨ i = 140 ∨ i = 141) g0 K g9 H locs := ⟨hW1, hW.2.1, hW.2.2⟩
            refine q_if_eq (tgt := 79) hM dX12_art_58 (by decide) (rfl : r9157.toInt = r9157.toInt) (fun h58 => ?_) (fun h58 => ?_)
            · refine q_aload_n hM dX12_art_79 (lv_at hl 0 rfl) ?_
              refine q_callV (As := []) (rest := []) hM hW.1 hR hC myX12_isGood (kAW (v_5_8 (List.mem_of_getElem? (i := 11) rfl)) rfl) (rfl : vwCl[12]? = some (RX12, TX12, 86)) rfl lb_129.1 (shO hW.2.1 lb_129) (a_X12_isGood _ _ cA ad g9 bb hW.2.1 hG c54_129_5) ⟨by decide, by decide⟩ rfl rfl hl.1 (Nat.le_of_ble_eq_true rfl) dX12_art_80 (fun v g9161 H locs hp hW1 => ?_)
              obtain ⟨r9160, rfl, hr9160, rfl⟩ := hp
              have hW : WS ad cA (fun i k => (i = 129 ∧ (k = 1 ∨ k = 3 ∨ k = 4 ∨ k = 5 ∨ k = 18 ∨ k = 19 ∨ k = 20)) ∨ (134 ≤ i ∧ i < 138) ∨ i = 139 ∨ i = 140 ∨ i = 141) g0 K g9 H locs := ⟨hW1, hW.2.1, hW.2.2⟩
              refine q_if_eq (tgt := 102) hM dX12_art_83 (by decide) (rfl : r9160.toInt = r9160.toInt) (fun h83 => ?_) (fun h83 => ?_)
              · refine q_aload_n hM dX12_art_102 (lv_at hl 0 rfl) ?_
                refine w_get (v := .int bb) hM hW FG_X12_179 lb_129 c54_129_5 dX12_art_103 ?_
                have bbb := hG.f c54_129_5 rF_129_5 (by decide)
                refine q_if_ge (tgt := 114) hM dX12_art_106 (by decide) (rfl : bb.toInt = bb.toInt) (fun h106 => ?_) (fun h106 => ?_)
                · refine q_aload_n hM dX12_art_114 (lv_at hl 0 rfl) ?_
                  refine w_get (v := .ref (ad 134)) hM hW FG_X12_28 lb_129 (rf_129_13 hW.2.1) dX12_art_115 ?_
                  refine q_iload_n hM dX12_art_118 (lv_at hl 1 rfl) ?_
                  refine q_iconst (v := (1 : Int32)) hM dX12_art_119 (by decide) ?_
                  refine w_zast hM hW lb_134 (by omega) (i_in (by omega) (by omega)) dX12_art_120 (fun g9164 H locs hW e1 e2 => ?_)
                  have f9165 : fld g9164 129 4 = .int ee := (e2.1 129 4 (by unfold Only; omega)).trans c54_129_4
                  have f9166 : fld g9164 129 3 = .int pp := (e2.1 129 3 (by unfold Only; omega)).trans c54_129_3
                  have f9167 : fld g9164 129 5 = .int bb := (e2.1 129 5 (by unfold Only; omega)).trans c54_129_5
                  have f9168 : fld g9164 129 18 = .int nn := (e2.1 129 18 (by unfold Only; omega)).trans c54_129_18
                  have f9169 : fld g9164 129 19 = .int oo := (e2.1 129 19 (by unfold Only; omega)).trans c54_129_19
                  have hG := hG.st e1 e2 (rfl : rA 134 = (-2147483648, 2147483647)) (by have := i_rng (vp_nar .boolean (1 : Int32)); omega) (by have := i_rng (vp_nar .boolean (1 : Int32)); omega)
                  refine q_aload_n hM dX12_art_121 (lv_at hl 0 rfl) ?_
                  refine w_get (v := .ref (ad 135)) hM hW FG_X12_31 lb_129 (rf_129_14 hW.2.1) dX12_art_122 ?_
                  refine q_iload_n hM dX12_art_125 (lv_at hl 1 rfl) ?_
                  refine q_aload_n hM dX12_art_126 (lv_at hl 0 rfl) ?_
                  refine w_get (v := .int nn) hM hW FG_X12_227 lb_129 f9168 dX12_art_127 ?_
                  have bnn := hG.f f9168 rF_129_18 (by decide)
                  refine w_iast hM hW lb_135 (by omega) (i_in (by omega) (by omega)) dX12_art_130 (fun g9170 H locs hW e1 e2 => ?_)
                  have f9171 : fld g9170 129 4 = .int ee := (e2.1 129 4 (by unfold Only; omega)).trans f9165
                  have f9172 : fld g9170 129 3 = .int pp := (e2.1 129 3 (by unfold Only; omega)).trans f9166
                  have f9173 : fld g9170 129 5 = .int bb := (e2.1 129 5 (by unfold Only; omega)).trans f9167
                  have f9174 : fld g9170 129 18 = .int nn := (e2.1 129 18 (by unfold Only; omega)).trans f9168
                  have f9175 : fld g9170 129 19 = .int oo := (e2.1 129 19 (by unfold Only; omega)).trans f9169
                  have hG := hG.st e1 e2 rA_135 (by have := i_rng nn; omega) (by have := i_rng nn; omega)
                  refine q_iconst (v := (0 : Int32)) hM dX12_art_131 (by decide) ?_
                  refine q_istore_n (lv9 := [(3, .int (0 : Int32)), (0, .ref (ad 129)), (1, .int a), (2, .int b)]) hM dX12_art_132 hl (by decide) rfl (fun ls hl => ?_)
                  have L133 : ∀ (fu133 : Nat) (w133_3 : Int32) (g9 : Nat → va_E) (H : Heap) (locs : List Loc) (ls : Array Slot), (48 - w133_3.toInt).toNat < fu133 → (Rng g9) → (0 ≤ w133_3.toInt) → (w133_3.toInt ≤ 48) → lv_has ls 4 [(0, .ref (ad 129)), (1, .int a), (2, .int b), (3, .int w133_3)] → WS ad cA (fun i k => (i = 129 ∧ (k = 1 ∨ k = 3 ∨ k = 4 ∨ k = 5 ∨ k = 18 ∨ k = 19 ∨ k = 20)) ∨ (134 ≤ i ∧ i < 138) ∨ i = 139 ∨ i = 140 ∨ i = 141) g0 K g9 H locs → XX K 0 0 H locs 133 ls [] := by
                    intro fu133
                    induction fu133 with
                    | zero => intro w133_3 g9 H locs ls h0; omega
                    | succ fu133 ih133 =>
                      intro w133_3 g9 H locs ls hm133 i133_0 i133_1 i133_2 hl hW
                      have hG := i133_0
                      refine q_iload_n hM dX12_art_133 (lv_at hl 3 rfl) ?_
                      refine q_aload_n hM dX12_art_134 (lv_at hl 0 rfl) ?_
                      refine w_getI hM hW FG_X12_227 lb_129 (by decide) (by decide) dX12_art_135 (fun x9177 fx9177 => ?_)
                      have bx9177 := hG.f fx9177 rF_129_18 (by decide)
                      refine q_icmp_ge (tgt := 164) hM dX12_art_138 (by decide) (rfl : w133_3.toInt = w133_3.toInt) (rfl : x9177.toInt = x9177.toInt) (fun h138 => ?_) (fun h138 => ?_)
                      · refine q_aload_n hM dX12_art_164 (lv_at hl 0 rfl) ?_
                        refine w_get (v := .int x9177) hM hW FG_X12_227 lb_129 fx9177 dX12_art_165 ?_
                        have bx9177 := hG.f fx9177 rF_129_18 (by decide)
                        exact hE _ _ _ _ _ _ hW.1 ⟨_, rfl, hW.2.1, hG, hW.2.2⟩ dX12_art_168
                      · refine q_aload_n hM dX12_art_141 (lv_at hl 0 rfl) ?_
                        refine w_get (v := .ref (ad 136)) hM hW FG_X12_34 lb_129 (rf_129_15 hW.2.1) dX12_art_142 ?_
                        refine q_bipush (v := (48 : Int32)) hM dX12_art_145 (by decide) ?_
                        refine q_iload_n hM dX12_art_147 (lv_at hl 1 rfl) ?_
                        refine q_imul hM dX12_art_148 (fun z9180 hz9180 => ?_)
                        first | have tz9180 := i_mulT hz9180 (kc_48 : (48 : Int32).toInt = 48) (rfl : a.toInt = a.toInt) (by omega) (by omega) | skip
                        refine q_iload_n hM dX12_art_149 (lv_at hl 3 rfl) ?_
                        refine q_iadd hM dX12_art_150 (fun z9181 hz9181 => ?_)
                        first | have tz9181 := i_addT hz9181 (rfl : z9180.toInt = z9180.toInt) (rfl : w133_3.toInt = w133_3.toInt) (by omega) (by omega) | skip
                        refine q_aload_n hM dX12_art_151 (lv_at hl 0 rfl) ?_
                        refine w_get (v := .ref (ad 137)) hM hW FG_X12_37 lb_129 (rf_129_16 hW.2.1) dX12_art_152 ?_
                        refine q_iload_n hM dX12_art_155 (lv_at hl 3 rfl) ?_
                        refine w_iald hM hW lb_137 (i_in (by omega) (by omega)) dX12_art_156 ?_
                        refine q_top (fun y9182 hy9182 => ?_)
                        have by9182 := hG.a hy9182 rA_137
                        refine w_iast hM hW lb_136 (by omega) (i_in (by omega) (by omega)) dX12_art_157 (fun g9183 H locs hW e1 e2 => ?_)
                        have f9184 : fld g9183 129 18 = .int x9177 := (e2.1 129 18 (by unfold Only; omega)).trans fx9177
                        have hG := hG.st e1 e2 rA_136 (by have := i_rng y9182; omega) (by have := i_rng y9182; omega)
                        refine q_iinc (lv9 := fun z9185 => [(3, .int z9185), (0, .ref (ad 129)), (1, .int a), (2, .int b)]) hM dX12_art_158 hl (kq := 3) rfl (by decide) (fun _ => rfl) (fun z9185 ls hz9185 hl => ?_)
                        first | have tz9185 := i_addT hz9185 (rfl : w133_3.toInt = w133_3.toInt) (kc_1 : (Int32.ofInt 1).toInt = 1) (by omega) (by omega) | skip
                        refine q_goto (tgt := 133) hM dX12_art_161 (by decide) ?_
                        exact ih133 z9185 _ _ _ _ (by omega) hG (by omega) (by omega) (lv_sub hl [1, 2, 3, 0] rfl) hW
                  have := kc_0
                  exact L133 _ (0 : Int32) _ _ _ _ (Nat.lt_succ_self _) hG (by omega) (by omega) (lv_sub hl [1, 2, 3, 0] rfl) hW
                · refine q_aload_n hM dX12_art_109 (lv_at hl 0 rfl) ?_
                  refine w_get (v := .int bb) hM hW FG_X12_179 lb_129 c54_129_5 dX12_art_110 ?_
                  have bbb := hG.f c54_129_5 rF_129_5 (by decide)
                  exact hE _ _ _ _ _ _ hW.1 ⟨_, rfl, hW.2.1, hG, hW.2.2⟩ dX12_art_113
              · refine q_aload_n hM dX12_art_86 (lv_at hl 0 rfl) ?_
                refine w_get (v := .int oo) hM hW FG_X12_251 lb_129 c54_129_19 dX12_art_87 ?_
                have boo := hG.f c54_129_19 rF_129_19 (by decide)
                refine q_if_le (tgt := 102) hM dX12_art_90 (by decide) (rfl : oo.toInt = oo.toInt) (fun h90 => ?_) (fun h90 => ?_)
                · refine q_aload_n hM dX12_art_102 (lv_at hl 0 rfl) ?_
                  refine w_get (v := .int bb) hM hW FG_X12_179 lb_129 c54_129_5 dX12_art_103 ?_
                  have bbb := hG.f c54_129_5 rF_129_5 (by decide)
                  refine q_if_ge (tgt := 114) hM dX12_art_106 (by decide) (rfl : bb.toInt = bb.toInt) (fun h106 => ?_) (fun h106 => ?_)
                  · refine q_aload_n hM dX12_art_114 (lv_at hl 0 rfl) ?_
                    refine w_get (v := .ref (ad 134)) hM hW FG_X12_28 lb_129 (rf_129_13 hW.2.1) dX12_art_115 ?_
                    refine q_iload_n hM dX12_art_118 (lv_at hl 1 rfl) ?_
                    refine q_iconst (v := (1 : Int32)) hM dX12_art_119 (by decide) ?_
                    refine w_zast hM hW lb_134 (by omega) (i_in (by omega) (by omega)) dX12_art_120 (fun g9190 H locs hW e1 e2 => ?_)
                    have f9191 : fld g9190 129 4 = .int ee := (e2.1 129 4 (by unfold Only; omega)).trans c54_129_4
                    have f9192 : fld g9190 129 3 = .int pp := (e2.1 129 3 (by unfold Only; omega)).trans c54_129_3
                    have f9193 : fld g9190 129 5 = .int bb := (e2.1 129 5 (by unfold Only; omega)).trans c54_129_5
                    have f9194 : fld g9190 129 18 = .int nn := (e2.1 129 18 (by unfold Only; omega)).trans c54_129_18
                    have f9195 : fld g9190 129 19 = .int oo := (e2.1 129 19 (by unfold Only; omega)).trans c54_129_19
                    have hG := hG.st e1 e2 (rfl : rA 134 = (-2147483648, 2147483647)) (by have := i_rng (vp_nar .boolean (1 : Int32)); omega) (by have := i_rng (vp_nar .boolean (1 : Int32)); omega)
                    refine q_aload_n hM dX12_art_121 (lv_at hl 0 rfl) ?_
                    refine w_get (v := .ref (ad 135)) hM hW FG_X12_31 lb_129 (rf_129_14 hW.2.1) dX12_art_122 ?_
                    refine q_iload_n hM dX12_art_125 (lv_at hl 1 rfl) ?_
                    refine q_aload_n hM dX12_art_126 (lv_at hl 0 rfl) ?_
                    refine w_get (v := .int nn) hM hW FG_X12_227 lb_129 f9194 dX12_art_127 ?_
                    have bnn := hG.f f9194 rF_129_18 (by decide)
                    refine w_iast hM hW lb_135 (by omega) (i_in (by omega) (by omega)) dX12_art_130 (fun g9196 H locs hW e1 e2 => ?_)
                    have f9197 : fld g9196 129 4 = .int ee := (e2.1 129 4 (by unfold Only; omega)).trans f9191
                    have f9198 : fld g9196 129 3 = .int pp := (e2.1 129 3 (by unfold Only; omega)).trans f9192
                    have f9199 : fld g9196 129 5 = .int bb := (e2.1 129 5 (by unfold Only; omega)).trans f9193
                    have f9200 : fld g9196 129 18 = .int nn := (e2.1 129 18 (by unfold Only; omega)).trans f9194
                    have f9201 : fld g9196 129 19 = .int oo := (e2.1 129 19 (by unfold Only; omega)).trans f9195
                    have hG := hG.st e1 e2 rA_135 (by have := i_rng nn; omega) (by have := i_rng nn; omega)
                    refine q_iconst (v := (0 : Int32)) hM dX12_art_131 (by decide) ?_
                    refine q_istore_n (lv9 := [(3, .int (0 : Int32)), (0, .ref (ad 129)), (1, .int a), (2, .int b)]) hM dX12_art_132 hl (by decide) rfl (fun ls hl => ?_)
                    have L133 : ∀ (fu133 : Nat) (w133_3 : Int32) (g9 : Nat → va_E) (H : Heap) (locs : List Loc) (ls : Array Slot), (48 - w133_3.toInt).toNat < fu133 → (Rng g9) → (0 ≤ w133_3.toInt) → (w133_3.toInt ≤ 48) → lv_has ls 4 [(0, .ref (ad 129)), (1, .int a), (2, .int b), (3, .int w133_3)] → WS ad cA (fun i k => (i = 129 ∧ (k = 1 ∨ k = 3 ∨ k = 4 ∨ k = 5 ∨ k = 18 ∨ k = 19 ∨ k = 20)) ∨ (134 ≤ i ∧ i < 138) ∨ i = 139 ∨ i = 140 ∨ i = 141) g0 K g9 H locs → XX K 0 0 H locs 133 ls [] := by
                      intro fu133
                      induction fu133 with
                      | zero => intro w133_3 g9 H locs ls h0; omega
                      | succ fu133 ih133 =>
                        intro w133_3 g9 H locs ls hm133 i133_0 i133_1 i133_2 hl hW
                        have hG := i133_0
                        refine q_iload_n hM dX12_art_133 (lv_at hl 3 rfl) ?_
                        refine q_aload_n hM dX12_art_134 (lv_at hl 0 rfl) ?_
                        refine w_getI hM hW FG_X12_227 lb_129 (by decide) (by decide) dX12_art_135 (fun x9203 fx9203 => ?_)
                        have bx9203 := hG.f fx9203 rF_129_18 (by decide)
                        refine q_icmp_ge (tgt := 164) hM dX12_art_138 (by decide) (rfl : w133_3.toInt = w133_3.toInt) (rfl : x9203.toInt = x9203.toInt) (fun h138 => ?_) (fun h138 => ?_)
                        · refine q_aload_n hM dX12_art_164 (lv_at hl 0 rfl) ?_
                          refine w_get (v := .int x9203) hM hW FG_X12_227 lb_129 fx9203 dX12_art_165 ?_
                          have bx9203 := hG.f fx9203 rF_129_18 (by decide)
                          exact hE _ _ _ _ _ _ hW.1 ⟨_, rfl, hW.2.1, hG, hW.2.2⟩ dX12_art_168
                        · refine q_aload_n hM dX12_art_141 (lv_at hl 0 rfl) ?_
                          refine w_get (v := .ref (ad 136)) hM hW FG_X12_34 lb_129 (rf_129_15 hW.2.1) dX12_art_142 ?_
                          refine q_bipush (v := (48 : Int32)) hM dX12_art_145 (by decide) ?_
                          refine q_iload_n hM dX12_art_147 (lv_at hl 1 rfl) ?_
                          refine q_imul hM dX12_art_148 (fun z9206 hz9206 => ?_)
                          first | have tz9206 := i_mulT hz9206 (kc_48 : (48 : Int32).toInt = 48) (rfl : a.toInt = a.toInt) (by omega) (by omega) | skip
                          refine q_iload_n hM dX12_art_149 (lv_at hl 3 rfl) ?_
                          refine q_iadd hM dX12_art_150 (fun z9207 hz9207 => ?_)
                          first | have tz9207 := i_addT hz9207 (rfl : z9206.toInt = z9206.toInt) (rfl : w133_3.toInt = w133_3.toInt) (by omega) (by omega) | skip
                          refine q_aload_n hM dX12_art_151 (lv_at hl 0 rfl) ?_
                          refine w_get (v := .ref (ad 137)) hM hW FG_X12_37 lb_129 (rf_129_16 hW.2.1) dX12_art_152 ?_
                          refine q_iload_n hM dX12_art_155 (lv_at hl 3 rfl) ?_
                          refine w_iald hM hW lb_137 (i_in (by omega) (by omega)) dX12_art_156 ?_
                          refine q_top (fun y9208 hy9208 => ?_)
                          have by9208 := hG.a hy9208 rA_137
                          refine w_iast hM hW lb_136 (by omega) (i_in (by omega) (by omega)) dX12_art_157 (fun g9209 H locs hW e1 e2 => ?_)
                          have f9210 : fld g9209 129 18 = .int x9203 := (e2.1 129 18 (by unfold Only; omega)).trans fx9203
                          have hG := hG.st e1 e2 rA_136 (by have := i_rng y9208; omega) (by have := i_rng y9208; omega)
                          refine q_iinc (lv9 := fun z9211 => [(3, .int z9211), (0, .ref (ad 129)), (1, .int a), (2, .int b)]) hM dX12_art_158 hl (kq := 3) rfl (by decide) (fun _ => rfl) (fun z9211 ls hz9211 hl => ?_)
                          first | have tz9211 := i_addT hz9211 (rfl : w133_3.toInt = w133_3.toInt) (kc_1 : (Int32.ofInt 1).toInt = 1) (by omega) (by omega) | skip
                          refine q_goto (tgt := 133) hM dX12_art_161 (by decide) ?_
                          exact ih133 z9211 _ _ _ _ (by omega) hG (by omega) (by omega) (lv_sub hl [1, 2, 3, 0] rfl) hW
                    have := kc_0
                    exact L133 _ (0 : Int32) _ _ _ _ (Nat.lt_succ_self _) hG (by omega) (by omega) (lv_sub hl [1, 2, 3, 0] rfl) hW
                  · refine q_aload_n hM dX12_art_109 (lv_at hl 0 rfl) ?_
                    refine w_get (v := .int bb) hM hW FG_X12_179 lb_129 c54_129_5 dX12_art_110 ?_
                    have bbb := hG.f c54_129_5 rF_129_5 (by decide)
                    exact hE _ _ _ _ _ _ hW.1 ⟨_, rfl, hW.2.1, hG, hW.2.2⟩ dX12_art_113
                · refine q_aload_n hM dX12_art_93 (lv_at hl 0 rfl) ?_
                  refine q_iconst (v := (1 : Int32)) hM dX12_art_94 (by decide) ?_
                  refine q_aload_n hM dX12_art_95 (lv_at hl 0 rfl) ?_
                  refine w_get (v := .int pp) hM hW FG_X12_173 lb_129 c54_129_3 dX12_art_96 ?_
                  have bpp := hG.f c54_129_3 rF_129_3 (by decide)
                  refine q_callV (As := [.int (1 : Int32), .int pp]) (rest := []) hM hW.1 hR hC myX12_wrongs (kAW (v_5_9 (List.mem_of_getElem? (i := 11) rfl)) rfl) (rfl : vwCl[12]? = some (RX12, TX12, 86)) rfl lb_129.1 (shO hW.2.1 lb_129) (a_X12_wrongs _ _ cA ad g9 (1 : Int32) pp bb hW.2.1 hG c54_129_5 (by have := kc_1; omega) (by have := kc_1; omega) (by have := kc_1; omega) (by have := kc_1; omega)) ⟨by decide, by decide⟩ rfl rfl hl.1 (Nat.le_of_ble_eq_true rfl) dX12_art_99 (fun v g9217 H locs hp hW1 => ?_)
                  obtain ⟨v9214, rfl, hs1, hG, hf1, q9215, e9216⟩ := hp
                  have f9218 : fld g9217 129 4 = .int ee := (hf1.1 129 4 (by omega)).trans c54_129_4
                  have f9219 : fld g9217 129 3 = .int pp := (hf1.1 129 3 (by omega)).trans c54_129_3
                  have f9220 : fld g9217 129 18 = .int nn := (hf1.1 129 18 (by omega)).trans c54_129_18
                  have f9221 : fld g9217 129 19 = .int oo := (hf1.1 129 19 (by omega)).trans c54_129_19
                  have hW : WS ad cA (fun i k => (i = 129 ∧ (k = 1 ∨ k = 3 ∨ k = 4 ∨ k = 5 ∨ k = 18 ∨ k = 19 ∨ k = 20)) ∨ (134 ≤ i ∧ i < 138) ∨ i = 139 ∨ i = 140 ∨ i = 141) g0 K g9217 H locs := ⟨hW1, hs1, hW.2.2.tr hf1 (fun i k h => (Or.inl (by omega)))⟩
                  refine q_aload_n hM dX12_art_102 (lv_at hl 0 rfl) ?_
                  refine w_get (v := .int v9214) hM hW FG_X12_179 lb_129 q9215 dX12_art_103 ?_
                  have bv9214 := hG.f q9215 rF_129_5 (by decide)
                  refine q_if_ge (tgt := 114) hM dX12_art_106 (by decide) (rfl : v9214.toInt = v9214.toInt) (fun h106 => ?_) (fun h106 => ?_)
                  · refine q_aload_n hM dX12_art_114 (lv_at hl 0 rfl) ?_
                    refine w_get (v := .ref (ad 134)) hM hW FG_X12_28 lb_129 (rf_129_13 hW.2.1) dX12_art_115 ?_
                    refine q_iload_n hM dX12_art_118 (lv_at hl 1 rfl) ?_
                    refine q_iconst (v := (1 : Int32)) hM dX12_art_119 (by decide) ?_
                    refine w_zast hM hW lb_134 (by omega) (i_in (by omega) (by omega)) dX12_art_120 (fun g9223 H locs hW e1 e2 => ?_)
                    have f9224 : fld g9223 129 4 = .int ee := (e2.1 129 4 (by unfold Only; omega)).trans f9218
                    have f9225 : fld g9223 129 3 = .int pp := (e2.1 129 3 (by unfold Only; omega)).trans f9219
                    have f9226 : fld g9223 129 18 = .int nn := (e2.1 129 18 (by unfold Only; omega)).trans f9220
                    have f9227 : fld g9223 129 19 = .int oo := (e2.1 129 19 (by unfold Only; omega)).trans f9221
                    have f9228 : fld g9223 129 5 = .int v9214 := (e2.1 129 5 (by unfold Only; omega)).trans q9215
                    have hG := hG.st e1 e2 (rfl : rA 134 = (-2147483648, 2147483647)) (by have := i_rng (vp_nar .boolean (1 : Int32)); omega) (by have := i_rng (vp_nar .boolean (1 : Int32)); omega)
                    refine q_aload_n hM dX12_art_121 (lv_at hl 0 rfl) ?_
                    refine w_get (v := .ref (ad 135)) hM hW FG_X12_31 lb_129 (rf_129_14 hW.2.1) dX12_art_122 ?_
                    refine q_iload_n hM dX12_art_125 (lv_at hl 1 rfl) ?_
                    refine q_aload_n hM dX12_art_126 (lv_at hl 0 rfl) ?_
                    refine w_get (v := .int nn) hM hW FG_X12_227 lb_129 f9226 dX12_art_127 ?_
                    have bnn := hG.f f9226 rF_129_18 (by decide)
                    refine w_iast hM hW lb_135 (by omega) (i_in (by omega) (by omega)) dX12_art_130 (fun g9229 H locs hW e1 e2 => ?_)
                    have f9230 : fld g9229 129 4 = .int ee := (e2.1 129 4 (by unfold Only; omega)).trans f9224
                    have f9231 : fld g9229 129 3 = .int pp := (e2.1 129 3 (by unfold Only; omega)).trans f9225
                    have f9232 : fld g9229 129 18 = .int nn := (e2.1 129 18 (by unfold Only; omega)).trans f9226
                    have f9233 : fld g9229 129 19 = .int oo := (e2.1 129 19 (by unfold Only; omega)).trans f9227
                    have f9234 : fld g9229 129 5 = .int v9214 := (e2.1 129 5 (by unfold Only; omega)).trans f9228
                    have hG := hG.st e1 e2 rA_135 (by have := i_rng nn; omega) (by have := i_rng nn; omega)
                    refine q_iconst (v := (0 : Int32)) hM dX12_art_131 (by decide) ?_
                    refine q_istore_n (lv9 := [(3, .int (0 : Int32)), (0, .ref (ad 129)), (1, .int a), (2, .int b)]) hM dX12_art_132 hl (by decide) rfl (fun ls hl => ?_)
                    have L133 : ∀ (fu133 : Nat) (w133_3 : Int32) (g9 : Nat → va_E) (H : Heap) (locs : List Loc) (ls : Array Slot), (48 - w133_3.toInt).toNat < fu133 → (Rng g9) → (0 ≤ w133_3.toInt) → (w133_3.toInt ≤ 48) → lv_has ls 4 [(0, .ref (ad 129)), (1, .int a), (2, .int b), (3, .int w133_3)] → WS ad cA (fun i k => (i = 129 ∧ (k = 1 ∨ k = 3 ∨ k = 4 ∨ k = 5 ∨ k = 18 ∨ k = 19 ∨ k = 20)) ∨ (134 ≤ i ∧ i < 138) ∨ i = 139 ∨ i = 140 ∨ i = 141) g0 K g9 H locs → XX K 0 0 H locs 133 ls [] := by
                      intro fu133
                      induction fu133 with
                      | zero => intro w133_3 g9 H locs ls h0; omega
                      | succ fu133 ih133 =>
                        intro w133_3 g9 H locs ls hm133 i133_0 i133_1 i133_2 hl hW
                        have hG := i133_0
                        refine q_iload_n hM dX12_art_133 (lv_at hl 3 rfl) ?_
                        refine q_aload_n hM dX12_art_134 (lv_at hl 0 rfl) ?_
                        refine w_getI hM hW FG_X12_227 lb_129 (by decide) (by decide) dX12_art_135 (fun x9236 fx9236 => ?_)
                        have bx9236 := hG.f fx9236 rF_129_18 (by decide)
                        refine q_icmp_ge (tgt := 164) hM dX12_art_138 (by decide) (rfl : w133_3.toInt = w133_3.toInt) (rfl : x9236.toInt = x9236.toInt) (fun h138 => ?_) (fun h138 => ?_)
                        · refine q_aload_n hM dX12_art_164 (lv_at hl 0 rfl) ?_
                          refine w_get (v := .int x9236) hM hW FG_X12_227 lb_129 fx9236 dX12_art_165 ?_
                          have bx9236 := hG.f fx9236 rF_129_18 (by decide)
                          exact hE _ _ _ _ _ _ hW.1 ⟨_, rfl, hW.2.1, hG, hW.2.2⟩ dX12_art_168
                        · refine q_aload_n hM dX12_art_141 (lv_at hl 0 rfl) ?_
                          refine w_get (v := .ref (ad 136)) hM hW FG_X12_34 lb_129 (rf_129_15 hW.2.1) dX12_art_142 ?_
                          refine q_bipush (v := (48 : Int32)) hM dX12_art_145 (by decide) ?_
                          refine q_iload_n hM dX12_art_147 (lv_at hl 1 rfl) ?_
                          refine q_imul hM dX12_art_148 (fun z9239 hz9239 => ?_)
                          first | have tz9239 := i_mulT hz9239 (kc_48 : (48 : Int32).toInt = 48) (rfl : a.toInt = a.toInt) (by omega) (by omega) | skip
                          refine q_iload_n hM dX12_art_149 (lv_at hl 3 rfl) ?_
                          refine q_iadd hM dX12_art_150 (fun z9240 hz9240 => ?_)
                          first | have tz9240 := i_addT hz9240 (rfl : z9239.toInt = z9239.toInt) (rfl : w133_3.toInt = w133_3.toInt) (by omega) (by omega) | skip
                          refine q_aload_n hM dX12_art_151 (lv_at hl 0 rfl) ?_
                          refine w_get (v := .ref (ad 137)) hM hW FG_X12_37 lb_129 (rf_129_16 hW.2.1) dX12_art_152 ?_
                          refine q_iload_n hM dX12_art_155 (lv_at hl 3 rfl) ?_
                          refine w_iald hM hW lb_137 (i_in (by omega) (by omega)) dX12_art_156 ?_
                          refine q_top (fun y9241 hy9241 => ?_)
                          have by9241 := hG.a hy9241 rA_137
                          refine w_iast hM hW lb_136 (by omega) (i_in (by omega) (by omega)) dX12_art_157 (fun g9242 H locs hW e1 e2 => ?_)
                          have f9243 : fld g9242 129 18 = .int x9236 := (e2.1 129 18 (by unfold Only; omega)).trans fx9236
                          have hG := hG.st e1 e2 rA_136 (by have := i_rng y9241; omega) (by have := i_rng y9241; omega)
                          refine q_iinc (lv9 := fun z9244 => [(3, .int z9244), (0, .ref (ad 129)), (1, .int a), (2, .int b)]) hM dX12_art_158 hl (kq := 3) rfl (by decide) (fun _ => rfl) (fun z9244 ls hz9244 hl => ?_)
                          first | have tz9244 := i_addT hz9244 (rfl : w133_3.toInt = w133_3.toInt) (kc_1 : (Int32.ofInt 1).toInt = 1) (by omega) (by omega) | skip
                          refine q_goto (tgt := 133) hM dX12_art_161 (by decide) ?_
                          exact ih133 z9244 _ _ _ _ (by omega) hG (by omega) (by omega) (lv_sub hl [1, 2, 3, 0] rfl) hW
                    have := kc_0
                    exact L133 _ (0 : Int32) _ _ _ _ (Nat.lt_succ_self _) hG (by omega) (by omega) (lv_sub hl [1, 2, 3, 0] rfl) hW
                  · refine q_aload_n hM dX12_art_109 (lv_at hl 0 rfl) ?_
                    refine w_get (v := .int v9214) hM hW FG_X12_179 lb_129 q9215 dX12_art_110 ?_
                    have bv9214 := hG.f q9215 rF_129_5 (by decide)
                    exact hE _ _ _ _ _ _ hW.1 ⟨_, rfl, hW.2.1, hG, hW.2.2⟩ dX12_art_113
            · refine q_aload_n hM dX12_art_61 (lv_at hl 0 rfl) ?_
              refine w_get (v := .int pp) hM hW FG_X12_173 lb_129 c54_129_3 dX12_art_62 ?_
              have bpp := hG.f c54_129_3 rF_129_3 (by decide)
              refine q_aload_n hM dX12_art_65 (lv_at hl 0 rfl) ?_
              refine w_get (v := .int ee) hM hW FG_X12_176 lb_129 c54_129_4 dX12_art_66 ?_
              have bee := hG.f c54_129_4 rF_129_4 (by decide)
              refine q_icmp_ge (tgt := 79) hM dX12_art_69 (by decide) (rfl : pp.toInt = pp.toInt) (rfl : ee.toInt = ee.toInt) (fun h69 => ?_) (fun h69 => ?_)
              · refine q_aload_n hM dX12_art_79 (lv_at hl 0 rfl) ?_
                refine q_callV (As := []) (rest := []) hM hW.1 hR hC myX12_isGood (kAW (v_5_8 (List.mem_of_getElem? (i := 11) rfl)) rfl) (rfl : vwCl[12]? = some (RX12, TX12, 86)) rfl lb_129.1 (shO hW.2.1 lb_129) (a_X12_isGood _ _ cA ad g9 bb hW.2.1 hG c54_129_5) ⟨by decide, by decide⟩ rfl rfl hl.1 (Nat.le_of_ble_eq_true rfl) dX12_art_80 (fun v g9249 H locs hp hW1 => ?_)
                obtain ⟨r9248, rfl, hr9248, rfl⟩ := hp
                have hW : WS ad cA (fun i k => (i = 129 ∧ (k = 1 ∨ k = 3 ∨ k = 4 ∨ k = 5 ∨ k = 18 ∨ k = 19 ∨ k = 20)) ∨ (134 ≤ i ∧ i < 138) ∨ i = 139 ∨ i = 140 ∨ i = 141) g0 K g9 H locs := ⟨hW1, hW.2.1, hW.2.2⟩
                refine q_if_eq (tgt := 102) hM dX12_art_83 (by decide) (rfl : r9248.toInt = r9248.toInt) (fun h83 => ?_) (fun h83 => ?_)
                · refine q_aload_n hM dX12_art_102 (lv_at hl 0 rfl) ?_
                  refine w_get (v := .int bb) hM hW FG_X12_179 lb_129 c54_129_5 dX12_art_103 ?_
                  have bbb := hG.f c54_129_5 rF_129_5 (by decide)
                  refine q_if_ge (tgt := 114) hM dX12_art_106 (by decide) (rfl : bb.toInt = bb.toInt) (fun h106 => ?_) (fun h106 => ?_)
                  · refine q_aload_n hM dX12_art_114 (lv_at hl 0 rfl) ?_
                    refine w_get (v := .ref (ad 134)) hM hW FG_X12_28 lb_129 (rf_129_13 hW.2.1) dX12_art_115 ?_
                    refine q_iload_n hM dX12_art_118 (lv_at hl 1 rfl) ?_
                    refine q_iconst (v := (1 : Int32)) hM dX12_art_119 (by decide) ?_
                    refine w_zast hM hW lb_134 (by omega) (i_in (by omega) (by omega)) dX12_art_120 (fun g9252 H locs hW e1 e2 => ?_)
                    have f9253 : fld g9252 129 4 = .int ee := (e2.1 129 4 (by unfold Only; omega)).trans c54_129_4
                    have f9254 : fld g9252 129 3 = .int pp := (e2.1 129 3 (by unfold Only; omega)).trans c54_129_3
                    have f9255 : fld g9252 129 5 = .int bb := (e2.1 129 5 (by unfold Only; omega)).trans c54_129_5
                    have f9256 : fld g9252 129 18 = .int nn := (e2.1 129 18 (by unfold Only; omega)).trans c54_129_18
                    have f9257 : fld g9252 129 19 = .int oo := (e2.1 129 19 (by unfold Only; omega)).trans c54_129_19
                    have hG := hG.st e1 e2 (rfl : rA 134 = (-2147483648, 2147483647)) (by have := i_rng (vp_nar .boolean (1 : Int32)); omega) (by have := i_rng (vp_nar .boolean (1 : Int32)); omega)
                    refine q_aload_n hM dX12_art_121 (lv_at hl 0 rfl) ?_
                    refine w_get (v := .ref (ad 135)) hM hW FG_X12_31 lb_129 (rf_129_14 hW.2.1) dX12_art_122 ?_
                    refine q_iload_n hM dX12_art_125 (lv_at hl 1 rfl) ?_
                    refine q_aload_n hM dX12_art_126 (lv_at hl 0 rfl) ?_
                    refine w_get (v := .int nn) hM hW FG_X12_227 lb_129 f9256 dX12_art_127 ?_
                    have bnn := hG.f f9256 rF_129_18 (by decide)
                    refine w_iast hM hW lb_135 (by omega) (i_in (by omega) (by omega)) dX12_art_130 (fun g9258 H locs hW e1 e2 => ?_)
                    have f9259 : fld g9258 129 4 = .int ee := (e2.1 129 4 (by unfold Only; omega)).trans f9253
                    have f9260 : fld g9258 129 3 = .int pp := (e2.1 129 3 (by unfold Only; omega)).trans f9254
                    have f9261 : fld g9258 129 5 = .int bb := (e2.1 129 5 (by unfold Only; omega)).trans f9255
                    have f9262 : fld g9258 129 18 = .int nn := (e2.1 129 18 (by unfold Only; omega)).trans f9256
                    have f9263 : fld g9258 129 19 = .int oo := (e2.1 129 19 (by unfold Only; omega)).trans f9257
                    have hG := hG.st e1 e2 rA_135 (by have := i_rng nn; omega) (by have := i_rng nn; omega)
                    refine q_iconst (v := (0 : Int32)) hM dX12_art_131 (by decide) ?_
                    refine q_istore_n (lv9 := [(3, .int (0 : Int32)), (0, .ref (ad 129)), (1, .int a), (2, .int b)]) hM dX12_art_132 hl (by decide) rfl (fun ls hl => ?_)
                    have L133 : ∀ (fu133 : Nat) (w133_3 : Int32) (g9 : Nat → va_E) (H : Heap) (locs : List Loc) (ls : Array Slot), (48 - w133_3.toInt).toNat < fu133 → (Rng g9) → (0 ≤ w133_3.toInt) → (w133_3.toInt ≤ 48) → lv_has ls 4 [(0, .ref (ad 129)), (1, .int a), (2, .int b), (3, .int w133_3)] → WS ad cA (fun i k => (i = 129 ∧ (k = 1 ∨ k = 3 ∨ k = 4 ∨ k = 5 ∨ k = 18 ∨ k = 19 ∨ k = 20)) ∨ (134 ≤ i ∧ i < 138) ∨ i = 139 ∨ i = 140 ∨ i = 141) g0 K g9 H locs → XX K 0 0 H locs 133 ls [] := by
                      intro fu133
                      induction fu133 with
                      | zero => intro w133_3 g9 H locs ls h0; omega
                      | succ fu133 ih133 =>
                        intro w133_3 g9 H locs ls hm133 i133_0 i133_1 i133_2 hl hW
                        have hG := i133_0
                        refine q_iload_n hM dX12_art_133 (lv_at hl 3 rfl) ?_
                        refine q_aload_n hM dX12_art_134 (lv_at hl 0 rfl) ?_
                        refine w_getI hM hW FG_X12_227 lb_129 (by decide) (by decide) dX12_art_135 (fun x9265 fx9265 => ?_)
                        have bx9265 := hG.f fx9265 rF_129_18 (by decide)
                        refine q_icmp_ge (tgt := 164) hM dX12_art_138 (by decide) (rfl : w133_3.toInt = w133_3.toInt) (rfl : x9265.toInt = x9265.toInt) (fun h138 => ?_) (fun h138 => ?_)
                        · refine q_aload_n hM dX12_art_164 (lv_at hl 0 rfl) ?_
                          refine w_get (v := .int x9265) hM hW FG_X12_227 lb_129 fx9265 dX12_art_165 ?_
                          have bx9265 := hG.f fx9265 rF_129_18 (by decide)
                          exact hE _ _ _ _ _ _ hW.1 ⟨_, rfl, hW.2.1, hG, hW.2.2⟩ dX12_art_168
                        · refine q_aload_n hM dX12_art_141 (lv_at hl 0 rfl) ?_
                          refine w_get (v := .ref (ad 136)) hM hW FG_X12_34 lb_129 (rf_129_15 hW.2.1) dX12_art_142 ?_
                          refine q_bipush (v := (48 : Int32)) hM dX12_art_145 (by decide) ?_
                          refine q_iload_n hM dX12_art_147 (lv_at hl 1 rfl) ?_
                          refine q_imul hM dX12_art_148 (fun z9268 hz9268 => ?_)
                          first | have tz9268 := i_mulT hz9268 (kc_48 : (48 : Int32).toInt = 48) (rfl : a.toInt = a.toInt) (by omega) (by omega) | skip
                          refine q_iload_n hM dX12_art_149 (lv_at hl 3 rfl) ?_
                          refine q_iadd hM dX12_art_150 (fun z9269 hz9269 => ?_)
                          first | have tz9269 := i_addT hz9269 (rfl : z9268.toInt = z9268.toInt) (rfl : w133_3.toInt = w133_3.toInt) (by omega) (by omega) | skip
                          refine q_aload_n hM dX12_art_151 (lv_at hl 0 rfl) ?_
                          refine w_get (v := .ref (ad 137)) hM hW FG_X12_37 lb_129 (rf_129_16 hW.2.1) dX12_art_152 ?_
                          refine q_iload_n hM dX12_art_155 (lv_at hl 3 rfl) ?_
                          refine w_iald hM hW lb_137 (i_in (by omega) (by omega)) dX12_art_156 ?_
                          refine q_top (fun y9270 hy9270 => ?_)
                          have by9270 := hG.a hy9270 rA_137
                          refine w_iast hM hW lb_136 (by omega) (i_in (by omega) (by omega)) dX12_art_157 (fun g9271 H locs hW e1 e2 => ?_)
                          have f9272 : fld g9271 129 18 = .int x9265 := (e2.1 129 18 (by unfold Only; omega)).trans fx9265
                          have hG := hG.st e1 e2 rA_136 (by have := i_rng y9270; omega) (by have := i_rng y9270; omega)
                          refine q_iinc (lv9 := fun z9273 => [(3, .int z9273), (0, .ref (ad 129)), (1, .int a), (2, .int b)]) hM dX12_art_158 hl (kq := 3) rfl (by decide) (fun _ => rfl) (fun z9273 ls hz9273 hl => ?_)
                          first | have tz9273 := i_addT hz9273 (rfl : w133_3.toInt = w133_3.toInt) (kc_1 : (Int32.ofInt 1).toInt = 1) (by omega) (by omega) | skip
                          refine q_goto (tgt := 133) hM dX12_art_161 (by decide) ?_
                          exact ih133 z9273 _ _ _ _ (by omega) hG (by omega) (by omega) (lv_sub hl [1, 2, 3, 0] rfl) hW
                    have := kc_0
                    exact L133 _ (0 : Int32) _ _ _ _ (Nat.lt_succ_self _) hG (by omega) (by omega) (lv_sub hl [1, 2, 3, 0] rfl) hW
                  · refine q_aload_n hM dX12_art_109 (lv_at hl 0 rfl) ?_
                    refine w_get (v := .int bb) hM hW FG_X12_179 lb_129 c54_129_5 dX12_art_110 ?_
                    have bbb := hG.f c54_129_5 rF_129_5 (by decide)
                    exact hE _ _ _ _ _ _ hW.1 ⟨_, rfl, hW.2.1, hG, hW.2.2⟩ dX12_art_113
                · refine q_aload_n hM dX12_art_86 (lv_at hl 0 rfl) ?_
                  refine w_get (v := .int oo) hM hW FG_X12_251 lb_129 c54_129_19 dX12_art_87 ?_
                  have boo := hG.f c54_129_19 rF_129_19 (by decide)
                  refine q_if_le (tgt := 102) hM dX12_art_90 (by decide) (rfl : oo.toInt = oo.toInt) (fun h90 => ?_) (fun h90 => ?_)
                  · refine q_aload_n hM dX12_art_102 (lv_at hl 0 rfl) ?_
                    refine w_get (v := .int bb) hM hW FG_X12_179 lb_129 c54_129_5 dX12_art_103 ?_
                    have bbb := hG.f c54_129_5 rF_129_5 (by decide)
                    refine q_if_ge (tgt := 114) hM dX12_art_106 (by decide) (rfl : bb.toInt = bb.toInt) (fun h106 => ?_) (fun h106 => ?_)
                    · refine q_aload_n hM dX12_art_114 (lv_at hl 0 rfl) ?_
                      refine w_get (v := .ref (ad 134)) hM hW FG_X12_28 lb_129 (rf_129_13 hW.2.1) dX12_art_115 ?_
                      refine q_iload_n hM dX12_art_118 (lv_at hl 1 rfl) ?_
                      refine q_iconst (v := (1 : Int32)) hM dX12_art_119 (by decide) ?_
                      refine w_zast hM hW lb_134 (by omega) (i_in (by omega) (by omega)) dX12_art_120 (fun g9278 H locs hW e1 e2 => ?_)
                      have f9279 : fld g9278 129 4 = .int ee := (e2.1 129 4 (by unfold Only; omega)).trans c54_129_4
                      have f9280 : fld g9278 129 3 = .int pp := (e2.1 129 3 (by unfold Only; omega)).trans c54_129_3
                      have f9281 : fld g9278 129 5 = .int bb := (e2.1 129 5 (by unfold Only; omega)).trans c54_129_5
                      have f9282 : fld g9278 129 18 = .int nn := (e2.1 129 18 (by unfold Only; omega)).trans c54_129_18
                      have f9283 : fld g9278 129 19 = .int oo := (e2.1 129 19 (by unfold Only; omega)).trans c54_129_19
                      have hG := hG.st e1 e2 (rfl : rA 134 = (-2147483648, 2147483647)) (by have := i_rng (vp_nar .boolean (1 : Int32)); omega) (by have := i_rng (vp_nar .boolean (1 : Int32)); omega)
                      refine q_aload_n hM dX12_art_121 (lv_at hl 0 rfl) ?_
                      refine w_get (v := .ref (ad 135)) hM hW FG_X12_31 lb_129 (rf_129_14 hW.2.1) dX12_art_122 ?_
                      refine q_iload_n hM dX12_art_125 (lv_at hl 1 rfl) ?_
                      refine q_aload_n hM dX12_art_126 (lv_at hl 0 rfl) ?_
                      refine w_get (v := .int nn) hM hW FG_X12_227 lb_129 f9282 dX12_art_127 ?_
                      have bnn := hG.f f9282 rF_129_18 (by decide)
                      refine w_iast hM hW lb_135 (by omega) (i_in (by omega) (by omega)) dX12_art_130 (fun g9284 H locs hW e1 e2 => ?_)
                      have f9285 : fld g9284 129 4 = .int ee := (e2.1 129 4 (by unfold Only; omega)).trans f9279
                      have f9286 : fld g9284 129 3 = .int pp := (e2.1 129 3 (by unfold Only; omega)).trans f9280
                      have f9287 : fld g9284 129 5 = .int bb := (e2.1 129 5 (by unfold Only; omega)).trans f9281
                      have f9288 : fld g9284 129 18 = .int nn := (e2.1 129 18 (by unfold Only; omega)).trans f9282
                      have f9289 : fld g9284 129 19 = .int oo := (e2.1 129 19 (by unfold Only; omega)).trans f9283
                      have hG := hG.st e1 e2 rA_135 (by have := i_rng nn; omega) (by have := i_rng nn; omega)
                      refine q_iconst (v := (0 : Int32)) hM dX12_art_131 (by decide) ?_
                      refine q_istore_n (lv9 := [(3, .int (0 : Int32)), (0, .ref (ad 129)), (1, .int a), (2, .int b)]) hM dX12_art_132 hl (by decide) rfl (fun ls hl => ?_)
                      have L133 : ∀ (fu133 : Nat) (w133_3 : Int32) (g9 : Nat → va_E) (H : Heap) (locs : List Loc) (ls : Array Slot), (48 - w133_3.toInt).toNat < fu133 → (Rng g9) → (0 ≤ w133_3.toInt) → (w133_3.toInt ≤ 48) → lv_has ls 4 [(0, .ref (ad 129)), (1, .int a), (2, .int b), (3, .int w133_3)] → WS ad cA (fun i k => (i = 129 ∧ (k = 1 ∨ k = 3 ∨ k = 4 ∨ k = 5 ∨ k = 18 ∨ k = 19 ∨ k = 20)) ∨ (134 ≤ i ∧ i < 138) ∨ i = 139 ∨ i = 140 ∨ i = 141) g0 K g9 H locs → XX K 0 0 H locs 133 ls [] := by
                        intro fu133
                        induction fu133 with
                        | zero => intro w133_3 g9 H locs ls h0; omega
                        | succ fu133 ih133 =>
                          intro w133_3 g9 H locs ls hm133 i133_0 i133_1 i133_2 hl hW
                          have hG := i133_0
                          refine q_iload_n hM dX12_art_133 (lv_at hl 3 rfl) ?_
                          refine q_aload_n hM dX12_art_134 (lv_at hl 0 rfl) ?_
                          refine w_getI hM hW FG_X12_227 lb_129 (by decide) (by decide) dX12_art_135 (fun x9291 fx9291 => ?_)
                          have bx9291 := hG.f fx9291 rF_129_18 (by decide)
                          refine q_icmp_ge (tgt := 164) hM dX12_art_138 (by decide) (rfl : w133_3.toInt = w133_3.toInt) (rfl : x9291.toInt = x9291.toInt) (fun h138 => ?_) (fun h138 => ?_)
                          · refine q_aload_n hM dX12_art_164 (lv_at hl 0 rfl) ?_
                            refine w_get (v := .int x9291) hM hW FG_X12_227 lb_129 fx9291 dX12_art_165 ?_
                            have bx9291 := hG.f fx9291 rF_129_18 (by decide)
                            exact hE _ _ _ _ _ _ hW.1 ⟨_, rfl, hW.2.1, hG, hW.2.2⟩ dX12_art_168
                          · refine q_aload_n hM dX12_art_141 (lv_at hl 0 rfl) ?_
                            refine w_get (v := .ref (ad 136)) hM hW FG_X12_34 lb_129 (rf_129_15 hW.2.1) dX12_art_142 ?_
                            refine q_bipush (v := (48 : Int32)) hM dX12_art_145 (by decide) ?_
                            refine q_iload_n hM dX12_art_147 (lv_at hl 1 rfl) ?_
                            refine q_imul hM dX12_art_148 (fun z9294 hz9294 => ?_)
                            first | have tz9294 := i_mulT hz9294 (kc_48 : (48 : Int32).toInt = 48) (rfl : a.toInt = a.toInt) (by omega) (by omega) | skip
                            refine q_iload_n hM dX12_art_149 (lv_at hl 3 rfl) ?_
                            refine q_iadd hM dX12_art_150 (fun z9295 hz9295 => ?_)
                            first | have tz9295 := i_addT hz9295 (rfl : z9294.toInt = z9294.toInt) (rfl : w133_3.toInt = w133_3.toInt) (by omega) (by omega) | skip
                            refine q_aload_n hM dX12_art_151 (lv_at hl 0 rfl) ?_
                            refine w_get (v := .ref (ad 137)) hM hW FG_X12_37 lb_129 (rf_129_16 hW.2.1) dX12_art_152 ?_
                            refine q_iload_n hM dX12_art_155 (lv_at hl 3 rfl) ?_
                            refine w_iald hM hW lb_137 (i_in (by omega) (by omega)) dX12_art_156 ?_
                            refine q_top (fun y9296 hy9296 => ?_)
                            have by9296 := hG.a hy9296 rA_137
                            refine w_iast hM hW lb_136 (by omega) (i_in (by omega) (by omega)) dX12_art_157 (fun g9297 H locs hW e1 e2 => ?_)
                            have f9298 : fld g9297 129 18 = .int x9291 := (e2.1 129 18 (by unfold Only; omega)).trans fx9291
                            have hG := hG.st e1 e2 rA_136 (by have := i_rng y9296; omega) (by have := i_rng y9296; omega)
                            refine q_iinc (lv9 := fun z9299 => [(3, .int z9299), (0, .ref (ad 129)), (1, .int a), (2, .int b)]) hM dX12_art_158 hl (kq := 3) rfl (by decide) (fun _ => rfl) (fun z9299 ls hz9299 hl => ?_)
                            first | have tz9299 := i_addT hz9299 (rfl : w133_3.toInt = w133_3.toInt) (kc_1 : (Int32.ofInt 1).toInt = 1) (by omega) (by omega) | skip
                            refine q_goto (tgt := 133) hM dX12_art_161 (by decide) ?_
                            exact ih133 z9299 _ _ _ _ (by omega) hG (by omega) (by omega) (lv_sub hl [1, 2, 3, 0] rfl) hW
                      have := kc_0
                      exact L133 _ (0 : Int32) _ _ _ _ (Nat.lt_succ_self _) hG (by omega) (by omega) (lv_sub hl [1, 2, 3, 0] rfl) hW
                    · refine q_aload_n hM dX12_art_109 (lv_at hl 0 rfl) ?_
                      refine w_get (v := .int bb) hM hW FG_X12_179 lb_129 c54_129_5 dX12_art_110 ?_
                      have bbb := hG.f c54_129_5 rF_129_5 (by decide)
                      exact hE _ _ _ _ _ _ hW.1 ⟨_, rfl, hW.2.1, hG, hW.2.2⟩ dX12_art_113
                  · refine q_aload_n hM dX12_art_93 (lv_at hl 0 rfl) ?_
                    refine q_iconst (v := (1 : Int32)) hM dX12_art_94 (by decide) ?_
                    refine q_aload_n hM dX12_art_95 (lv_at hl 0 rfl) ?_
                    refine w_get (v := .int pp) hM hW FG_X12_173 lb_129 c54_129_3 dX12_art_96 ?_
                    have bpp := hG.f c54_129_3 rF_129_3 (by decide)
                    refine q_callV (As := [.int (1 : Int32), .int pp]) (rest := []) hM hW.1 hR hC myX12_wrongs (kAW (v_5_9 (List.mem_of_getElem? (i := 11) rfl)) rfl) (rfl : vwCl[12]? = some (RX12, TX12, 86)) rfl lb_129.1 (shO hW.2.1 lb_129) (a_X12_wrongs _ _ cA ad g9 (1 : Int32) pp bb hW.2.1 hG c54_129_5 (by have := kc_1; omega) (by have := kc_1; omega) (by have := kc_1; omega) (by have := kc_1; omega)) ⟨by decide, by decide⟩ rfl rfl hl.1 (Nat.le_of_ble_eq_true rfl) dX12_art_99 (fun v g9305 H locs hp hW1 => ?_)
                    obtain ⟨v9302, rfl, hs1, hG, hf1, q9303, e9304⟩ := hp
                    have f9306 : fld g9305 129 4 = .int ee := (hf1.1 129 4 (by omega)).trans c54_129_4
                    have f9307 : fld g9305 129 3 = .int pp := (hf1.1 129 3 (by omega)).trans c54_129_3
                    have f9308 : fld g9305 129 18 = .int nn := (hf1.1 129 18 (by omega)).trans c54_129_18
                    have f9309 : fld g9305 129 19 = .int oo := (hf1.1 129 19 (by omega)).trans c54_129_19
                    have hW : WS ad cA (fun i k => (i = 129 ∧ (k = 1 ∨ k = 3 ∨ k = 4 ∨ k = 5 ∨ k = 18 ∨ k = 19 ∨ k = 20)) ∨ (134 ≤ i ∧ i < 138) ∨ i = 139 ∨ i = 140 ∨ i = 141) g0 K g9305 H locs := ⟨hW1, hs1, hW.2.2.tr hf1 (fun i k h => (Or.inl (by omega)))⟩
                    refine q_aload_n hM dX12_art_102 (lv_at hl 0 rfl) ?_
                    refine w_get (v := .int v9302) hM hW FG_X12_179 lb_129 q9303 dX12_art_103 ?_
                    have bv9302 := hG.f q9303 rF_129_5 (by decide)
                    refine q_if_ge (tgt := 114) hM dX12_art_106 (by decide) (rfl : v9302.toInt = v9302.toInt) (fun h106 => ?_) (fun h106 => ?_)
                    · refine q_aload_n hM dX12_art_114 (lv_at hl 0 rfl) ?_
                      refine w_get (v := .ref (ad 134)) hM hW FG_X12_28 lb_129 (rf_129_13 hW.2.1) dX12_art_115 ?_
                      refine q_iload_n hM dX12_art_118 (lv_at hl 1 rfl) ?_
                      refine q_iconst (v := (1 : Int32)) hM dX12_art_119 (by decide) ?_
                      refine w_zast hM hW lb_134 (by omega) (i_in (by omega) (by omega)) dX12_art_120 (fun g9311 H locs hW e1 e2 => ?_)
                      have f9312 : fld g9311 129 4 = .int ee := (e2.1 129 4 (by unfold Only; omega)).trans f9306
                      have f9313 : fld g9311 129 3 = .int pp := (e2.1 129 3 (by unfold Only; omega)).trans f9307
                      have f9314 : fld g9311 129 18 = .int nn := (e2.1 129 18 (by unfold Only; omega)).trans f9308
                      have f9315 : fld g9311 129 19 = .int oo := (e2.1 129 19 (by unfold Only; omega)).trans f9309
                      have f9316 : fld g9311 129 5 = .int v9302 := (e2.1 129 5 (by unfold Only; omega)).trans q9303
                      have hG := hG.st e1 e2 (rfl : rA 134 = (-2147483648, 2147483647)) (by have := i_rng (vp_nar .boolean (1 : Int32)); omega) (by have := i_rng (vp_nar .boolean (1 : Int32)); omega)
                      refine q_aload_n hM dX12_art_121 (lv_at hl 0 rfl) ?_
                      refine w_get (v := .ref (ad 135)) hM hW FG_X12_31 lb_129 (rf_129_14 hW.2.1) dX12_art_122 ?_
                      refine q_iload_n hM dX12_art_125 (lv_at hl 1 rfl) ?_
                      refine q_aload_n hM dX12_art_126 (lv_at hl 0 rfl) ?_
                      refine w_get (v := .int nn) hM hW FG_X12_227 lb_129 f9314 dX12_art_127 ?_
                      have bnn := hG.f f9314 rF_129_18 (by decide)
                      refine w_iast hM hW lb_135 (by omega) (i_in (by omega) (by omega)) dX12_art_130 (fun g9317 H locs hW e1 e2 => ?_)
                      have f9318 : fld g9317 129 4 = .int ee := (e2.1 129 4 (by unfold Only; omega)).trans f9312
                      have f9319 : fld g9317 129 3 = .int pp := (e2.1 129 3 (by unfold Only; omega)).trans f9313
                      have f9320 : fld g9317 129 18 = .int nn := (e2.1 129 18 (by unfold Only; omega)).trans f9314
                      have f9321 : fld g9317 129 19 = .int oo := (e2.1 129 19 (by unfold Only; omega)).trans f9315
                      have f9322 : fld g9317 129 5 = .int v9302 := (e2.1 129 5 (by unfold Only; omega)).trans f9316
                      have hG := hG.st e1 e2 rA_135 (by have := i_rng nn; omega) (by have := i_rng nn; omega)
                      refine q_iconst (v := (0 : Int32)) hM dX12_art_131 (by decide) ?_
                      refine q_istore_n (lv9 := [(3, .int (0 : Int32)), (0, .ref (ad 129)), (1, .int a), (2, .int b)]) hM dX12_art_132 hl (by decide) rfl (fun ls hl => ?_)
                      have L133 : ∀ (fu133 : Nat) (w133_3 : Int32) (g9 : Nat → va_E) (H : Heap) (locs : List Loc) (ls : Array Slot), (48 - w133_3.toInt).toNat < fu133 → (Rng g9) → (0 ≤ w133_3.toInt) → (w133_3.toInt ≤ 48) → lv_has ls 4 [(0, .ref (ad 129)), (1, .int a), (2, .int b), (3, .int w133_3)] → WS ad cA (fun i k => (i = 129 ∧ (k = 1 ∨ k = 3 ∨ k = 4 ∨ k = 5 ∨ k = 18 ∨ k = 19 ∨ k = 20)) ∨ (134 ≤ i ∧ i < 138) ∨ i = 139 ∨ i = 140 ∨ i = 141) g0 K g9 H locs → XX K 0 0 H locs 133 ls [] := by
                        intro fu133
                        induction fu133 with
                        | zero => intro w133_3 g9 H locs ls h0; omega
                        | succ fu133 ih133 =>
                          intro w133_3 g9 H locs ls hm133 i133_0 i133_1 i133_2 hl hW
                          have hG := i133_0
                          refine q_iload_n hM dX12_art_133 (lv_at hl 3 rfl) ?_
                          refine q_aload_n hM dX12_art_134 (lv_at hl 0 rfl) ?_
                          refine w_getI hM hW FG_X12_227 lb_129 (by decide) (by decide) dX12_art_135 (fun x9324 fx9324 => ?_)
                          have bx9324 := hG.f fx9324 rF_129_18 (by decide)
                          refine q_icmp_ge (tgt := 164) hM dX12_art_138 (by decide) (rfl : w133_3.toInt = w133_3.toInt) (rfl : x9324.toInt = x9324.toInt) (fun h138 => ?_) (fun h138 => ?_)
                          · refine q_aload_n hM dX12_art_164 (lv_at hl 0 rfl) ?_
                            refine w_get (v := .int x9324) hM hW FG_X12_227 lb_129 fx9324 dX12_art_165 ?_
                            have bx9324 := hG.f fx9324 rF_129_18 (by decide)
                            exact hE _ _ _ _ _ _ hW.1 ⟨_, rfl, hW.2.1, hG, hW.2.2⟩ dX12_art_168
                          · refine q_aload_n hM dX12_art_141 (lv_at hl 0 rfl) ?_
                            refine w_get (v := .ref (ad 136)) hM hW FG_X12_34 lb_129 (rf_129_15 hW.2.1) dX12_art_142 ?_
                            refine q_bipush (v := (48 : Int32)) hM dX12_art_145 (by decide) ?_
                            refine q_iload_n hM dX12_art_147 (lv_at hl 1 rfl) ?_
                            refine q_imul hM dX12_art_148 (fun z9327 hz9327 => ?_)
                            first | have tz9327 := i_mulT hz9327 (kc_48 : (48 : Int32).toInt = 48) (rfl : a.toInt = a.toInt) (by omega) (by omega) | skip
                            refine q_iload_n hM dX12_art_149 (lv_at hl 3 rfl) ?_
                            refine q_iadd hM dX12_art_150 (fun z9328 hz9328 => ?_)
                            first | have tz9328 := i_addT hz9328 (rfl : z9327.toInt = z9327.toInt) (rfl : w133_3.toInt = w133_3.toInt) (by omega) (by omega) | skip
                            refine q_aload_n hM dX12_art_151 (lv_at hl 0 rfl) ?_
                            refine w_get (v := .ref (ad 137)) hM hW FG_X12_37 lb_129 (rf_129_16 hW.2.1) dX12_art_152 ?_
                            refine q_iload_n hM dX12_art_155 (lv_at hl 3 rfl) ?_
                            refine w_iald hM hW lb_137 (i_in (by omega) (by omega)) dX12_art_156 ?_
                            refine q_top (fun y9329 hy9329 => ?_)
                            have by9329 := hG.a hy9329 rA_137
                            refine w_iast hM hW lb_136 (by omega) (i_in (by omega) (by omega)) dX12_art_157 (fun g9330 H locs hW e1 e2 => ?_)
                            have f9331 : fld g9330 129 18 = .int x9324 := (e2.1 129 18 (by unfold Only; omega)).trans fx9324
                            have hG := hG.st e1 e2 rA_136 (by have := i_rng y9329; omega) (by have := i_rng y9329; omega)
                            refine q_iinc (lv9 := fun z9332 => [(3, .int z9332), (0, .ref (ad 129)), (1, .int a), (2, .int b)]) hM dX12_art_158 hl (kq := 3) rfl (by decide) (fun _ => rfl) (fun z9332 ls hz9332 hl => ?_)
                            first | have tz9332 := i_addT hz9332 (rfl : w133_3.toInt = w133_3.toInt) (kc_1 : (Int32.ofInt 1).toInt = 1) (by omega) (by omega) | skip
                            refine q_goto (tgt := 133) hM dX12_art_161 (by decide) ?_
                            exact ih133 z9332 _ _ _ _ (by omega) hG (by omega) (by omega) (lv_sub hl [1, 2, 3, 0] rfl) hW
                      have := kc_0
                      exact L133 _ (0 : Int32) _ _ _ _ (Nat.lt_succ_self _) hG (by omega) (by omega) (lv_sub hl [1, 2, 3, 0] rfl) hW
                    · refine q_aload_n hM dX12_art_109 (lv_at hl 0 rfl) ?_
                      refine w_get (v := .int v9302) hM hW FG_X12_179 lb_129 q9303 dX12_art_110 ?_
                      have bv9302 := hG.f q9303 rF_129_5 (by decide)
                      exact hE _ _ _ _ _ _ hW.1 ⟨_, rfl, hW.2.1, hG, hW.2.2⟩ dX12_art_113
              · refine q_aload_n hM dX12_art_72 (lv_at hl 0 rfl) ?_
                refine q_callV (As := []) (rest := []) hM hW.1 hR hC myX12_stepTold (kAW (v_5_8 (List.mem_of_getElem? (i := 15) rfl)) rfl) (rfl : vwCl[12]? = some (RX12, TX12, 86)) rfl lb_129.1 (shO hW.2.1 lb_129) (a_X12_stepTold _ _ cA ad g9 pp ee bb nn oo hW.2.1 hG c54_129_3 c54_129_4 c54_129_5 c54_129_18 c54_129_19 (by  omega) (by  omega) (by  omega) (by  omega) (TB_fr hT hW.2.2 (by omega)) (i54_5 (by omega))) ⟨by decide, by decide⟩ rfl rfl hl.1 (Nat.le_of_ble_eq_true rfl) dX12_art_73 (fun v g9348 H locs hp hW1 => ?_)
                obtain ⟨v9335, v9336, v9337, v9338, rfl, hs1, hG, hf1, q9339, q9340, q9341, q9342, e9343, e9344, e9345, e9346, e9347⟩ := hp
                have f9349 : fld g9348 129 4 = .int ee := (hf1.1 129 4 (by omega)).trans c54_129_4
                have hW : WS ad cA (fun i k => (i = 129 ∧ (k = 1 ∨ k = 3 ∨ k = 4 ∨ k = 5 ∨ k = 18 ∨ k = 19 ∨ k = 20)) ∨ (134 ≤ i ∧ i < 138) ∨ i = 139 ∨ i = 140 ∨ i = 141) g0 K g9348 H locs := ⟨hW1, hs1, hW.2.2.tr hf1 (fun i k h => h.elim (fun h => (Or.inl (by omega))) (fun h => h.elim (fun h => (Or.inr (Or.inl (by omega)))) (fun h => h.elim (fun h => (Or.inr (Or.inr (Or.inl h)))) (fun h => h.elim (fun h => (Or.inr (Or.inr (Or.inr (Or.inl h))))) (fun h => (Or.inr (Or.inr (Or.inr (Or.inr h)))))))))⟩
                refine q_goto (tgt := 54) hM dX12_art_76 (by decide) ?_
                exact ih54 ee v9335 v9336 v9337 v9338 _ _ _ _ (by omega) hG (by omega) (by omega) (by omega) (by omega) e9346 f9349 q9339 q9340 q9341 q9342 (lv_sub hl [0, 1, 2] rfl) hW
        have := kc_0
        have := kc_0
        exact L54 _ v9129 v9128 v9130 (0 : Int32) (0 : Int32) _ _ _ _ (Nat.lt_succ_self _) hG (by omega) (by omega) (by omega) (by omega) (fun _ j h => absurd h (by have := kc_0; omega)) f9151 f9150 f9152 f9153 f9154 (lv_sub hl [0, 1, 2] rfl) hW
      · refine q_iconst (v := ((-1) : Int32)) hM dX12_art_32 (by decide) ?_
        exact hE _ _ _ _ _ _ hW.1 ⟨_, rfl, hW.2.1, hG, hW.2.2⟩ dX12_art_33
