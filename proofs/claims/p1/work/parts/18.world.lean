set_option maxRecDepth 1000000 in
set_option maxHeartbeats 40000000 in
/-- the cells of a new class object and a new reference are the uniform world -/
theorem w_world {K : KT} {cA : Nat → ClassId} {H : Heap} {locs : List Loc} {m0 : Nat} {mq1 : Nat} {mq2 : Nat} {mq3 : Nat} {mq4 : Nat} {mq5 : Nat} {mq6 : Nat} {mq7 : Nat} {mq8 : Nat} {mq9 : Nat} {mq10 : Nat} {mq11 : Nat} {mq12 : Nat} {mq13 : Nat} {mq14 : Nat} {mq15 : Nat} {mq16 : Nat} {mq17 : Nat} {mq18 : Nat} {mq19 : Nat} {mq20 : Nat} {mq21 : Nat} {mq22 : Nat} {mq23 : Nat} {mq24 : Nat} {mq25 : Nat} {mq26 : Nat} {mq27 : Nat} {mq28 : Nat} {mq29 : Nat} {mq30 : Nat} {mq31 : Nat} {mq32 : Nat} {mq33 : Nat} {mq34 : Nat} {mq35 : Nat} {mq36 : Nat} {mq37 : Nat} {mq38 : Nat} {mq39 : Nat} {mq40 : Nat} {mq41 : Nat} {mq42 : Nat} {mq43 : Nat} {mq44 : Nat} {mq45 : Nat} {mq46 : Nat} {mq47 : Nat} {mq48 : Nat} {mq49 : Nat} {mq50 : Nat} {x0 : Nat} {xq1 : Nat} {xq2 : Nat} {xq3 : Nat} {xq4 : Nat} {xq5 : Nat} {xq6 : Nat} {xq7 : Nat} {xq8 : Nat} {xq9 : Nat} {xq10 : Nat} {xq11 : Nat} {xq12 : Nat} {xq13 : Nat} {xq14 : Nat} {xq15 : Nat} {xq16 : Nat} {xq17 : Nat} {xq18 : Nat} {xq19 : Nat} {xq20 : Nat} {xq21 : Nat} {xq22 : Nat} {xq23 : Nat} {xq24 : Nat} {xq25 : Nat} {xq26 : Nat} {xq27 : Nat} {xq28 : Nat} {xq29 : Nat} {xq30 : Nat} {xq31 : Nat} {xq32 : Nat} {xq33 : Nat} {xq34 : Nat} {xq35 : Nat} {xq36 : Nat} {xq37 : Nat} {xq38 : Nat} {xq39 : Nat} {xq40 : Nat} {xq41 : Nat} {xq42 : Nat} {xq43 : Nat} {xq44 : Nat} {xq45 : Nat} {xq46 : Nat} {xq47 : Nat} {xq48 : Nat} {xq49 : Nat} {xq50 : Nat} {xq51 : Nat} {xq52 : Nat} {xq53 : Nat} {xq54 : Nat} {xq55 : Nat} {xq56 : Nat} {xq57 : Nat} {xq58 : Nat} {xq59 : Nat} {xq60 : Nat} {xq61 : Nat} {xq62 : Nat} {xq63 : Nat} {xq64 : Nat} {xq65 : Nat} {xq66 : Nat} {xq67 : Nat} {xq68 : Nat} {xq69 : Nat} {xq70 : Nat} {xq71 : Nat} {xq72 : Nat} {xq73 : Nat} {xq74 : Nat} {xq75 : Nat} {xq76 : Nat} {xq77 : Nat} {xq78 : Nat} {xq79 : Nat} {xr1 : Nat → Nat} {xr2 : Nat → Nat} {xr3 : Nat → Nat} {xr4 : Nat → Nat} {xr5 : Nat → Nat} {xr6 : Nat → Nat} (hW : WL K [(x0, .inr (11, [.ref xq1, .ref xq3, .ref xq44, .ref xq66, .ref xq71, .ref xq78, .ref xq42, .ref xq43, .ref xq39, .ref xq25, .ref xq6, .ref xq10, .ref xq14, .ref xq18, .ref xq32, .int (0 : Int32)])), (xq1, .inr (10, [.ref xq2, .int (0 : Int32)])), (xq2, ia (cA 0) 260 (fun _ => 0)), (xq3, .inr (5, [.ref xq4, .ref xq5, .int (0 : Int32)])), (xq4, ia (cA 0) 12 (fun _ => 0)), (xq5, qa (cA 1) 12 (fun i => if i < 12 then some (xr1 i) else none)), ((xr1 0), ia (cA 0) 12 (fun _ => 0)), ((xr1 1), ia (cA 0) 12 (fun _ => 0)), ((xr1 2), ia (cA 0) 12 (fun _ => 0)), ((xr1 3), ia (cA 0) 12 (fun _ => 0)), ((xr1 4), ia (cA 0) 12 (fun _ => 0)), ((xr1 5), ia (cA 0) 12 (fun _ => 0)), ((xr1 6), ia (cA 0) 12 (fun _ => 0)), ((xr1 7), ia (cA 0) 12 (fun _ => 0)), ((xr1 8), ia (cA 0) 12 (fun _ => 0)), ((xr1 9), ia (cA 0) 12 (fun _ => 0)), ((xr1 10), ia (cA 0) 12 (fun _ => 0)), ((xr1 11), ia (cA 0) 12 (fun _ => 0)), (xq6, .inr (7, [.ref xq7, .ref xq8, .ref xq9, .int (0 : Int32), .int (0 : Int32), .int (0 : Int32), .int (0 : Int32), .int (1 : Int32)])), (xq7, ia (cA 0) 8 (fun _ => 0)), (xq8, ia (cA 0) 8 (fun _ => 0)), (xq9, qa (cA 1) 8 (fun i => if i < 8 then some (xr2 i) else none)), ((xr2 0), ia (cA 0) 12 (fun _ => 0)), ((xr2 1), ia (cA 0) 12 (fun _ => 0)), ((xr2 2), ia (cA 0) 12 (fun _ => 0)), ((xr2 3), ia (cA 0) 12 (fun _ => 0)), ((xr2 4), ia (cA 0) 12 (fun _ => 0)), ((xr2 5), ia (cA 0) 12 (fun _ => 0)), ((xr2 6), ia (cA 0) 12 (fun _ => 0)), ((xr2 7), ia (cA 0) 12 (fun _ => 0)), (xq10, .inr (7, [.ref xq11, .ref xq12, .ref xq13, .int (0 : Int32), .int (0 : Int32), .int (0 : Int32), .int (0 : Int32), .int (1 : Int32)])), (xq11, ia (cA 0) 8 (fun _ => 0)), (xq12, ia (cA 0) 8 (fun _ => 0)), (xq13, qa (cA 1) 8 (fun i => if i < 8 then some (xr3 i) else none)), ((xr3 0), ia (cA 0) 12 (fun _ => 0)), ((xr3 1), ia (cA 0) 12 (fun _ => 0)), ((xr3 2), ia (cA 0) 12 (fun _ => 0)), ((xr3 3), ia (cA 0) 12 (fun _ => 0)), ((xr3 4), ia (cA 0) 12 (fun _ => 0)), ((xr3 5), ia (cA 0) 12 (fun _ => 0)), ((xr3 6), ia (cA 0) 12 (fun _ => 0)), ((xr3 7), ia (cA 0) 12 (fun _ => 0)), (xq14, .inr (7, [.ref xq15, .ref xq16, .ref xq17, .int (0 : Int32), .int (0 : Int32), .int (0 : Int32), .int (0 : Int32), .int (1 : Int32)])), (xq15, ia (cA 0) 8 (fun _ => 0)), (xq16, ia (cA 0) 8 (fun _ => 0)), (xq17, qa (cA 1) 8 (fun i => if i < 8 then some (xr4 i) else none)), ((xr4 0), ia (cA 0) 12 (fun _ => 0)), ((xr4 1), ia (cA 0) 12 (fun _ => 0)), ((xr4 2), ia (cA 0) 12 (fun _ => 0)), ((xr4 3), ia (cA 0) 12 (fun _ => 0)), ((xr4 4), ia (cA 0) 12 (fun _ => 0)), ((xr4 5), ia (cA 0) 12 (fun _ => 0)), ((xr4 6), ia (cA 0) 12 (fun _ => 0)), ((xr4 7), ia (cA 0) 12 (fun _ => 0)), (xq18, .inr (3, [.ref xq19, .ref xq20, .ref xq21, .ref xq22, .ref xq23, .ref xq24, .int (0 : Int32), .int (0 : Int32)])), (xq19, ia (cA 0) 16 (fun _ => 0)), (xq20, ia (cA 0) 16 (fun _ => 0)), (xq21, ia (cA 0) 16 (fun _ => 0)), (xq22, ia (cA 0) 256 (fun _ => 0)), (xq23, ia (cA 0) 256 (fun _ => 0)), (xq24, ia (cA 0) 64 (fun _ => 0)), (xq25, .inr (3, [.ref xq26, .ref xq27, .ref xq28, .ref xq29, .ref xq30, .ref xq31, .int (0 : Int32), .int (0 : Int32)])), (xq26, ia (cA 0) 16 (fun _ => 0)), (xq27, ia (cA 0) 16 (fun _ => 0)), (xq28, ia (cA 0) 16 (fun _ => 0)), (xq29, ia (cA 0) 256 (fun _ => 0)), (xq30, ia (cA 0) 256 (fun _ => 0)), (xq31, ia (cA 0) 64 (fun _ => 0)), (xq32, .inr (3, [.ref xq33, .ref xq34, .ref xq35, .ref xq36, .ref xq37, .ref xq38, .int (0 : Int32), .int (0 : Int32)])), (xq33, ia (cA 0) 16 (fun _ => 0)), (xq34, ia (cA 0) 16 (fun _ => 0)), (xq35, ia (cA 0) 16 (fun _ => 0)), (xq36, ia (cA 0) 256 (fun _ => 0)), (xq37, ia (cA 0) 256 (fun _ => 0)), (xq38, ia (cA 0) 64 (fun _ => 0)), (xq39, .inr (0, [.ref xq40, .ref xq41, .int (0 : Int32)])), (xq40, ia (cA 0) 48 (fun _ => 0)), (xq41, ia (cA 0) 48 (fun _ => 0)), (xq42, .inr (1, [.ref xq2, .int (0 : Int32), .int (0 : Int32), .int (0 : Int32), .ref xq39])), (xq43, .inr (4, [.ref xq2, .int (0 : Int32), .int (0 : Int32), .int (0 : Int32), .ref xq32])), (xq44, .inr (2, [.ref xq3, .ref xq45, .ref xq64, .ref xq65, .int (0 : Int32), .int (0 : Int32), .int (0 : Int32), .int (0 : Int32), .int (0 : Int32), .ref xq18, .ref xq6])), (xq45, qa (cA 2) 6 (fun j => some ([xq46, xq49, xq52, xq55, xq58, xq61].getD j 0))), (xq46, .inr (0, [.ref xq47, .ref xq48, .int (0 : Int32)])), (xq47, ia (cA 0) 48 (fun _ => 0)), (xq48, ia (cA 0) 48 (fun _ => 0)), (xq49, .inr (0, [.ref xq50, .ref xq51, .int (0 : Int32)])), (xq50, ia (cA 0) 48 (fun _ => 0)), (xq51, ia (cA 0) 48 (fun _ => 0)), (xq52, .inr (0, [.ref xq53, .ref xq54, .int (0 : Int32)])), (xq53, ia (cA 0) 48 (fun _ => 0)), (xq54, ia (cA 0) 48 (fun _ => 0)), (xq55, .inr (0, [.ref xq56, .ref xq57, .int (0 : Int32)])), (xq56, ia (cA 0) 48 (fun _ => 0)), (xq57, ia (cA 0) 48 (fun _ => 0)), (xq58, .inr (0, [.ref xq59, .ref xq60, .int (0 : Int32)])), (xq59, ia (cA 0) 48 (fun _ => 0)), (xq60, ia (cA 0) 48 (fun _ => 0)), (xq61, .inr (0, [.ref xq62, .ref xq63, .int (0 : Int32)])), (xq62, ia (cA 0) 48 (fun _ => 0)), (xq63, ia (cA 0) 48 (fun _ => 0)), (xq64, ia (cA 0) 10 (fun _ => -1)), (xq65, ia (cA 0) 8 (fun _ => 0)), (xq66, .inr (9, [.ref xq67, .ref xq68, .ref xq69, .ref xq70, .int (0 : Int32)])), (xq67, qa (cA 1) 8 (fun i => if i < 8 then some (xr5 i) else none)), ((xr5 0), ia (cA 0) 8 (fun _ => 0)), ((xr5 1), ia (cA 0) 8 (fun _ => 0)), ((xr5 2), ia (cA 0) 8 (fun _ => 0)), ((xr5 3), ia (cA 0) 8 (fun _ => 0)), ((xr5 4), ia (cA 0) 8 (fun _ => 0)), ((xr5 5), ia (cA 0) 8 (fun _ => 0)), ((xr5 6), ia (cA 0) 8 (fun _ => 0)), ((xr5 7), ia (cA 0) 8 (fun _ => 0)), (xq68, qa (cA 1) 5 (fun i => if i < 5 then some (xr6 i) else none)), ((xr6 0), ia (cA 0) 6 (fun _ => 0)), ((xr6 1), ia (cA 0) 6 (fun _ => 0)), ((xr6 2), ia (cA 0) 6 (fun _ => 0)), ((xr6 3), ia (cA 0) 6 (fun _ => 0)), ((xr6 4), ia (cA 0) 6 (fun _ => 0)), (xq69, ia (cA 0) 6 (fun _ => 0)), (xq70, ia (cA 0) 6 (fun _ => 0)), (xq71, .inr (8, [.ref xq72, .ref xq73, .ref xq74, .ref xq75, .ref xq76, .ref xq77, .int (0 : Int32)])), (xq72, ia (cA 0) 5 (fun _ => 0)), (xq73, ja (cA 5) 341 (fun _ => 0)), (xq74, ja (cA 5) 341 (fun _ => 0)), (xq75, ia (cA 0) 341 (fun _ => 0)), (xq76, ia (cA 0) 341 (fun _ => 0)), (xq77, ia (cA 0) 341 (fun _ => 0)), (xq78, .inr (6, [.ref xq79, .int (0 : Int32), .int (0 : Int32), .int (1 : Int32)])), (xq79, ia (cA 0) 9 (fun _ => 0)), (m0, .inr (12, [.ref mq1, .int (0 : Int32), .int (1 : Int32), .int (0 : Int32), .int (0 : Int32), .int (0 : Int32), .int (0 : Int32), .int (0 : Int32), .int (0 : Int32), .int (0 : Int32), .ref mq2, .ref mq3, .ref mq4, .ref mq5, .ref mq6, .ref mq7, .ref mq8, .ref mq9, .int (0 : Int32), .int (0 : Int32), .int (0 : Int32), .ref mq10, .ref mq11, .ref mq12, .ref mq13, .ref mq14, .ref mq15, .ref mq16, .ref mq17, .ref mq18, .ref mq19, .int (0 : Int32), .int (0 : Int32), .ref mq20, .ref mq21, .ref mq22, .ref mq23, .ref mq24, .ref mq25, .int (0 : Int32), .int (0 : Int32), .ref mq26, .int (0 : Int32), .int (0 : Int32), .int (0 : Int32), .int (0 : Int32), .int (0 : Int32), .int (0 : Int32), .int (0 : Int32), .int (0 : Int32), .ref mq27, .ref mq28, .ref mq29, .ref mq30, .ref mq31, .ref mq32, .int (0 : Int32), .int (0 : Int32), .int (0 : Int32), .int (0 : Int32), .int (0 : Int32), .int (0 : Int32), .int (0 : Int32), .int (0 : Int32), .int (0 : Int32), .int (0 : Int32), .int (0 : Int32), .ref mq33, .ref mq34, .ref mq35, .ref mq36, .ref mq37, .ref mq38, .ref mq39, .ref mq40, .int (0 : Int32), .ref mq41, .ref mq42, .ref mq43, .ref mq44, .ref mq45, .ref mq46, .ref mq47, .ref mq48, .ref mq49, .ref mq50])), (mq1, ia (cA 3) 260 (fun _ => 0)), (mq2, ia (cA 4) 12 (fun _ => 0)), (mq3, ia (cA 0) 12 (fun _ => 0)), (mq4, ia (cA 0) 144 (fun _ => 0)), (mq5, ia (cA 4) 6 (fun _ => 0)), (mq6, ia (cA 0) 6 (fun _ => 0)), (mq7, ia (cA 0) 288 (fun _ => 0)), (mq8, ia (cA 0) 48 (fun _ => 0)), (mq9, ia (cA 0) 10 (fun _ => -1)), (mq10, ia (cA 0) 2 (fun _ => 0)), (mq11, ia (cA 0) 2 (fun _ => 0)), (mq12, ia (cA 0) 2 (fun _ => 0)), (mq13, ia (cA 0) 32 (fun _ => 0)), (mq14, ia (cA 0) 32 (fun _ => 0)), (mq15, ia (cA 0) 32 (fun _ => 0)), (mq16, ia (cA 0) 32 (fun _ => 0)), (mq17, ia (cA 0) 480 (fun _ => 0)), (mq18, ia (cA 0) 480 (fun _ => 0)), (mq19, ia (cA 0) 2 (fun _ => 0)), (mq20, ia (cA 0) 16 (fun _ => 0)), (mq21, ia (cA 0) 16 (fun _ => 0)), (mq22, ia (cA 0) 16 (fun _ => 0)), (mq23, ia (cA 0) 16 (fun _ => 0)), (mq24, ia (cA 0) 240 (fun _ => 0)), (mq25, ia (cA 0) 240 (fun _ => 0)), (mq26, ia (cA 0) 240 (fun _ => 0)), (mq27, ia (cA 0) 240 (fun _ => 0)), (mq28, ia (cA 4) 240 (fun _ => 0)), (mq29, ia (cA 4) 8 (fun _ => 0)), (mq30, ia (cA 0) 8 (fun _ => 0)), (mq31, ia (cA 0) 8 (fun _ => 0)), (mq32, ia (cA 0) 96 (fun _ => 0)), (mq33, ia (cA 4) 16 (fun _ => 0)), (mq34, ia (cA 0) 16 (fun _ => 0)), (mq35, ia (cA 0) 16 (fun _ => 0)), (mq36, ia (cA 0) 192 (fun _ => 0)), (mq37, ia (cA 0) 2 (fun _ => 0)), (mq38, ia (cA 0) 2 (fun _ => 0)), (mq39, ia (cA 0) 2 (fun _ => 0)), (mq40, ia (cA 0) 2 (fun _ => 0)), (mq41, ia (cA 0) 12 (fun _ => 0)), (mq42, ia (cA 0) 12 (fun _ => 0)), (mq43, ia (cA 0) 8 (fun _ => 0)), (mq44, ia (cA 0) 8 (fun _ => 0)), (mq45, ia (cA 0) 12 (fun _ => 0)), (mq46, ia (cA 0) 64 (fun _ => 0)), (mq47, ia (cA 4) 5 (fun _ => 0)), (mq48, ia (cA 0) 30 (fun _ => 0)), (mq49, ia (cA 0) 6 (fun _ => 0)), (mq50, ia (cA 0) 9 (fun _ => 0))] H locs) : ∃ ad : Nat → Nat, ad 0 = x0 ∧ ad 129 = m0 ∧ WB NN ad K (gF ad cA) H locs := by
  obtain ⟨ad, had⟩ : ∃ ad : Nat → Nat, ad = fun i => [x0, xq1, xq2, xq3, xq4, xq5, (xr1 0), (xr1 1), (xr1 2), (xr1 3), (xr1 4), (xr1 5), (xr1 6), (xr1 7), (xr1 8), (xr1 9), (xr1 10), (xr1 11), xq6, xq7, xq8, xq9, (xr2 0), (xr2 1), (xr2 2), (xr2 3), (xr2 4), (xr2 5), (xr2 6), (xr2 7), xq10, xq11, xq12, xq13, (xr3 0), (xr3 1), (xr3 2), (xr3 3), (xr3 4), (xr3 5), (xr3 6), (xr3 7), xq14, xq15, xq16, xq17, (xr4 0), (xr4 1), (xr4 2), (xr4 3), (xr4 4), (xr4 5), (xr4 6), (xr4 7), xq18, xq19, xq20, xq21, xq22, xq23, xq24, xq25, xq26, xq27, xq28, xq29, xq30, xq31, xq32, xq33, xq34, xq35, xq36, xq37, xq38, xq39, xq40, xq41, xq42, xq43, xq44, xq45, xq64, xq65, xq46, xq47, xq48, xq49, xq50, xq51, xq52, xq53, xq54, xq55, xq56, xq57, xq58, xq59, xq60, xq61, xq62, xq63, xq66, xq67, (xr5 0), (xr5 1), (xr5 2), (xr5 3), (xr5 4), (xr5 5), (xr5 6), (xr5 7), xq68, (xr6 0), (xr6 1), (xr6 2), (xr6 3), (xr6 4), xq69, xq70, xq71, xq72, xq73, xq74, xq75, xq76, xq77, xq78, xq79, m0, mq1, mq2, mq3, mq4, mq5, mq6, mq7, mq8, mq9, mq10, mq11, mq12, mq13, mq14, mq15, mq16, mq17, mq18, mq19, mq20, mq21, mq22, mq23, mq24, mq25, mq26, mq27, mq28, mq29, mq30, mq31, mq32, mq33, mq34, mq35, mq36, mq37, mq38, mq39, mq40, mq41, mq42, mq43, mq44, mq45, mq46, mq47, mq48, mq49, mq50].getD i 0 := ⟨_, rfl⟩
  have hW : WL K [(x0, .inr (11, [.ref xq1, .ref xq3, .ref xq44, .ref xq66, .ref xq71, .ref xq78, .ref xq42, .ref xq43, .ref xq39, .ref xq25, .ref xq6, .ref xq10, .ref xq14, .ref xq18, .ref xq32, .int (0 : Int32)])), (xq1, .inr (10, [.ref xq2, .int (0 : Int32)])), (xq2, ia (cA 0) 260 (fun _ => 0)), (xq3, .inr (5, [.ref xq4, .ref xq5, .int (0 : Int32)])), (xq4, ia (cA 0) 12 (fun _ => 0)), (xq5, qa (cA 1) 12 (fun i => if i < 12 then some (xr1 i) else none)), ((xr1 0), ia (cA 0) 12 (fun _ => 0)), ((xr1 1), ia (cA 0) 12 (fun _ => 0)), ((xr1 2), ia (cA 0) 12 (fun _ => 0)), ((xr1 3), ia (cA 0) 12 (fun _ => 0)), ((xr1 4), ia (cA 0) 12 (fun _ => 0)), ((xr1 5), ia (cA 0) 12 (fun _ => 0)), ((xr1 6), ia (cA 0) 12 (fun _ => 0)), ((xr1 7), ia (cA 0) 12 (fun _ => 0)), ((xr1 8), ia (cA 0) 12 (fun _ => 0)), ((xr1 9), ia (cA 0) 12 (fun _ => 0)), ((xr1 10), ia (cA 0) 12 (fun _ => 0)), ((xr1 11), ia (cA 0) 12 (fun _ => 0)), (xq6, .inr (7, [.ref xq7, .ref xq8, .ref xq9, .int (0 : Int32), .int (0 : Int32), .int (0 : Int32), .int (0 : Int32), .int (1 : Int32)])), (xq7, ia (cA 0) 8 (fun _ => 0)), (xq8, ia (cA 0) 8 (fun _ => 0)), (xq9, qa (cA 1) 8 (fun i => if i < 8 then some (xr2 i) else none)), ((xr2 0), ia (cA 0) 12 (fun _ => 0)), ((xr2 1), ia (cA 0) 12 (fun _ => 0)), ((xr2 2), ia (cA 0) 12 (fun _ => 0)), ((xr2 3), ia (cA 0) 12 (fun _ => 0)), ((xr2 4), ia (cA 0) 12 (fun _ => 0)), ((xr2 5), ia (cA 0) 12 (fun _ => 0)), ((xr2 6), ia (cA 0) 12 (fun _ => 0)), ((xr2 7), ia (cA 0) 12 (fun _ => 0)), (xq10, .inr (7, [.ref xq11, .ref xq12, .ref xq13, .int (0 : Int32), .int (0 : Int32), .int (0 : Int32), .int (0 : Int32), .int (1 : Int32)])), (xq11, ia (cA 0) 8 (fun _ => 0)), (xq12, ia (cA 0) 8 (fun _ => 0)), (xq13, qa (cA 1) 8 (fun i => if i < 8 then some (xr3 i) else none)), ((xr3 0), ia (cA 0) 12 (fun _ => 0)), ((xr3 1), ia (cA 0) 12 (fun _ => 0)), ((xr3 2), ia (cA 0) 12 (fun _ => 0)), ((xr3 3), ia (cA 0) 12 (fun _ => 0)), ((xr3 4), ia (cA 0) 12 (fun _ => 0)), ((xr3 5), ia (cA 0) 12 (fun _ => 0)), ((xr3 6), ia (cA 0) 12 (fun _ => 0)), ((xr3 7), ia (cA 0) 12 (fun _ => 0)), (xq14, .inr (7, [.ref xq15, .ref xq16, .ref xq17, .int (0 : Int32), .int (0 : Int32), .int (0 : Int32), .int (0 : Int32), .int (1 : Int32)])), (xq15, ia (cA 0) 8 (fun _ => 0)), (xq16, ia (cA 0) 8 (fun _ => 0)), (xq17, qa (cA 1) 8 (fun i => if i < 8 then some (xr4 i) else none)), ((xr4 0), ia (cA 0) 12 (fun _ => 0)), ((xr4 1), ia (cA 0) 12 (fun _ => 0)), ((xr4 2), ia (cA 0) 12 (fun _ => 0)), ((xr4 3), ia (cA 0) 12 (fun _ => 0)), ((xr4 4), ia (cA 0) 12 (fun _ => 0)), ((xr4 5), ia (cA 0) 12 (fun _ => 0)), ((xr4 6), ia (cA 0) 12 (fun _ => 0)), ((xr4 7), ia (cA 0) 12 (fun _ => 0)), (xq18, .inr (3, [.ref xq19, .ref xq20, .ref xq21, .ref xq22, .ref xq23, .ref xq24, .int (0 : Int32), .int (0 : Int32)])), (xq19, ia (cA 0) 16 (fun _ => 0)), (xq20, ia (cA 0) 16 (fun _ => 0)), (xq21, ia (cA 0) 16 (fun _ => 0)), (xq22, ia (cA 0) 256 (fun _ => 0)), (xq23, ia (cA 0) 256 (fun _ => 0)), (xq24, ia (cA 0) 64 (fun _ => 0)), (xq25, .inr (3, [.ref xq26, .ref xq27, .ref xq28, .ref xq29, .ref xq30, .ref xq31, .int (0 : Int32), .int (0 : Int32)])), (xq26, ia (cA 0) 16 (fun _ => 0)), (xq27, ia (cA 0) 16 (fun _ => 0)), (xq28, ia (cA 0) 16 (fun _ => 0)), (xq29, ia (cA 0) 256 (fun _ => 0)), (xq30, ia (cA 0) 256 (fun _ => 0)), (xq31, ia (cA 0) 64 (fun _ => 0)), (xq32, .inr (3, [.ref xq33, .ref xq34, .ref xq35, .ref xq36, .ref xq37, .ref xq38, .int (0 : Int32), .int (0 : Int32)])), (xq33, ia (cA 0) 16 (fun _ => 0)), (xq34, ia (cA 0) 16 (fun _ => 0)), (xq35, ia (cA 0) 16 (fun _ => 0)), (xq36, ia (cA 0) 256 (fun _ => 0)), (xq37, ia (cA 0) 256 (fun _ => 0)), (xq38, ia (cA 0) 64 (fun _ => 0)), (xq39, .inr (0, [.ref xq40, .ref xq41, .int (0 : Int32)])), (xq40, ia (cA 0) 48 (fun _ => 0)), (xq41, ia (cA 0) 48 (fun _ => 0)), (xq42, .inr (1, [.ref xq2, .int (0 : Int32), .int (0 : Int32), .int (0 : Int32), .ref xq39])), (xq43, .inr (4, [.ref xq2, .int (0 : Int32), .int (0 : Int32), .int (0 : Int32), .ref xq32])), (xq44, .inr (2, [.ref xq3, .ref xq45, .ref xq64, .ref xq65, .int (0 : Int32), .int (0 : Int32), .int (0 : Int32), .int (0 : Int32), .int (0 : Int32), .ref xq18, .ref xq6])), (xq45, qa (cA 2) 6 (fun j => some ([xq46, xq49, xq52, xq55, xq58, xq61].getD j 0))), (xq64, ia (cA 0) 10 (fun _ => -1)), (xq65, ia (cA 0) 8 (fun _ => 0)), (xq46, .inr (0, [.ref xq47, .ref xq48, .int (0 : Int32)])), (xq47, ia (cA 0) 48 (fun _ => 0)), (xq48, ia (cA 0) 48 (fun _ => 0)), (xq49, .inr (0, [.ref xq50, .ref xq51, .int (0 : Int32)])), (xq50, ia (cA 0) 48 (fun _ => 0)), (xq51, ia (cA 0) 48 (fun _ => 0)), (xq52, .inr (0, [.ref xq53, .ref xq54, .int (0 : Int32)])), (xq53, ia (cA 0) 48 (fun _ => 0)), (xq54, ia (cA 0) 48 (fun _ => 0)), (xq55, .inr (0, [.ref xq56, .ref xq57, .int (0 : Int32)])), (xq56, ia (cA 0) 48 (fun _ => 0)), (xq57, ia (cA 0) 48 (fun _ => 0)), (xq58, .inr (0, [.ref xq59, .ref xq60, .int (0 : Int32)])), (xq59, ia (cA 0) 48 (fun _ => 0)), (xq60, ia (cA 0) 48 (fun _ => 0)), (xq61, .inr (0, [.ref xq62, .ref xq63, .int (0 : Int32)])), (xq62, ia (cA 0) 48 (fun _ => 0)), (xq63, ia (cA 0) 48 (fun _ => 0)), (xq66, .inr (9, [.ref xq67, .ref xq68, .ref xq69, .ref xq70, .int (0 : Int32)])), (xq67, qa (cA 1) 8 (fun i => if i < 8 then some (xr5 i) else none)), ((xr5 0), ia (cA 0) 8 (fun _ => 0)), ((xr5 1), ia (cA 0) 8 (fun _ => 0)), ((xr5 2), ia (cA 0) 8 (fun _ => 0)), ((xr5 3), ia (cA 0) 8 (fun _ => 0)), ((xr5 4), ia (cA 0) 8 (fun _ => 0)), ((xr5 5), ia (cA 0) 8 (fun _ => 0)), ((xr5 6), ia (cA 0) 8 (fun _ => 0)), ((xr5 7), ia (cA 0) 8 (fun _ => 0)), (xq68, qa (cA 1) 5 (fun i => if i < 5 then some (xr6 i) else none)), ((xr6 0), ia (cA 0) 6 (fun _ => 0)), ((xr6 1), ia (cA 0) 6 (fun _ => 0)), ((xr6 2), ia (cA 0) 6 (fun _ => 0)), ((xr6 3), ia (cA 0) 6 (fun _ => 0)), ((xr6 4), ia (cA 0) 6 (fun _ => 0)), (xq69, ia (cA 0) 6 (fun _ => 0)), (xq70, ia (cA 0) 6 (fun _ => 0)), (xq71, .inr (8, [.ref xq72, .ref xq73, .ref xq74, .ref xq75, .ref xq76, .ref xq77, .int (0 : Int32)])), (xq72, ia (cA 0) 5 (fun _ => 0)), (xq73, ja (cA 5) 341 (fun _ => 0)), (xq74, ja (cA 5) 341 (fun _ => 0)), (xq75, ia (cA 0) 341 (fun _ => 0)), (xq76, ia (cA 0) 341 (fun _ => 0)), (xq77, ia (cA 0) 341 (fun _ => 0)), (xq78, .inr (6, [.ref xq79, .int (0 : Int32), .int (0 : Int32), .int (1 : Int32)])), (xq79, ia (cA 0) 9 (fun _ => 0)), (m0, .inr (12, [.ref mq1, .int (0 : Int32), .int (1 : Int32), .int (0 : Int32), .int (0 : Int32), .int (0 : Int32), .int (0 : Int32), .int (0 : Int32), .int (0 : Int32), .int (0 : Int32), .ref mq2, .ref mq3, .ref mq4, .ref mq5, .ref mq6, .ref mq7, .ref mq8, .ref mq9, .int (0 : Int32), .int (0 : Int32), .int (0 : Int32), .ref mq10, .ref mq11, .ref mq12, .ref mq13, .ref mq14, .ref mq15, .ref mq16, .ref mq17, .ref mq18, .ref mq19, .int (0 : Int32), .int (0 : Int32), .ref mq20, .ref mq21, .ref mq22, .ref mq23, .ref mq24, .ref mq25, .int (0 : Int32), .int (0 : Int32), .ref mq26, .int (0 : Int32), .int (0 : Int32), .int (0 : Int32), .int (0 : Int32), .int (0 : Int32), .int (0 : Int32), .int (0 : Int32), .int (0 : Int32), .ref mq27, .ref mq28, .ref mq29, .ref mq30, .ref mq31, .ref mq32, .int (0 : Int32), .int (0 : Int32), .int (0 : Int32), .int (0 : Int32), .int (0 : Int32), .int (0 : Int32), .int (0 : Int32), .int (0 : Int32), .int (0 : Int32), .int (0 : Int32), .int (0 : Int32), .ref mq33, .ref mq34, .ref mq35, .ref mq36, .ref mq37, .ref mq38, .ref mq39, .ref mq40, .int (0 : Int32), .ref mq41, .ref mq42, .ref mq43, .ref mq44, .ref mq45, .ref mq46, .ref mq47, .ref mq48, .ref mq49, .ref mq50])), (mq1, ia (cA 3) 260 (fun _ => 0)), (mq2, ia (cA 4) 12 (fun _ => 0)), (mq3, ia (cA 0) 12 (fun _ => 0)), (mq4, ia (cA 0) 144 (fun _ => 0)), (mq5, ia (cA 4) 6 (fun _ => 0)), (mq6, ia (cA 0) 6 (fun _ => 0)), (mq7, ia (cA 0) 288 (fun _ => 0)), (mq8, ia (cA 0) 48 (fun _ => 0)), (mq9, ia (cA 0) 10 (fun _ => -1)), (mq10, ia (cA 0) 2 (fun _ => 0)), (mq11, ia (cA 0) 2 (fun _ => 0)), (mq12, ia (cA 0) 2 (fun _ => 0)), (mq13, ia (cA 0) 32 (fun _ => 0)), (mq14, ia (cA 0) 32 (fun _ => 0)), (mq15, ia (cA 0) 32 (fun _ => 0)), (mq16, ia (cA 0) 32 (fun _ => 0)), (mq17, ia (cA 0) 480 (fun _ => 0)), (mq18, ia (cA 0) 480 (fun _ => 0)), (mq19, ia (cA 0) 2 (fun _ => 0)), (mq20, ia (cA 0) 16 (fun _ => 0)), (mq21, ia (cA 0) 16 (fun _ => 0)), (mq22, ia (cA 0) 16 (fun _ => 0)), (mq23, ia (cA 0) 16 (fun _ => 0)), (mq24, ia (cA 0) 240 (fun _ => 0)), (mq25, ia (cA 0) 240 (fun _ => 0)), (mq26, ia (cA 0) 240 (fun _ => 0)), (mq27, ia (cA 0) 240 (fun _ => 0)), (mq28, ia (cA 4) 240 (fun _ => 0)), (mq29, ia (cA 4) 8 (fun _ => 0)), (mq30, ia (cA 0) 8 (fun _ => 0)), (mq31, ia (cA 0) 8 (fun _ => 0)), (mq32, ia (cA 0) 96 (fun _ => 0)), (mq33, ia (cA 4) 16 (fun _ => 0)), (mq34, ia (cA 0) 16 (fun _ => 0)), (mq35, ia (cA 0) 16 (fun _ => 0)), (mq36, ia (cA 0) 192 (fun _ => 0)), (mq37, ia (cA 0) 2 (fun _ => 0)), (mq38, ia (cA 0) 2 (fun _ => 0)), (mq39, ia (cA 0) 2 (fun _ => 0)), (mq40, ia (cA 0) 2 (fun _ => 0)), (mq41, ia (cA 0) 12 (fun _ => 0)), (mq42, ia (cA 0) 12 (fun _ => 0)), (mq43, ia (cA 0) 8 (fun _ => 0)), (mq44, ia (cA 0) 8 (fun _ => 0)), (mq45, ia (cA 0) 12 (fun _ => 0)), (mq46, ia (cA 0) 64 (fun _ => 0)), (mq47, ia (cA 4) 5 (fun _ => 0)), (mq48, ia (cA 0) 30 (fun _ => 0)), (mq49, ia (cA 0) 6 (fun _ => 0)), (mq50, ia (cA 0) 9 (fun _ => 0))] H locs := l_perm hW [0, 1, 2, 3, 4, 5, 6, 7, 8, 9, 10, 11, 12, 13, 14, 15, 16, 17, 18, 19, 20, 21, 22, 23, 24, 25, 26, 27, 28, 29, 30, 31, 32, 33, 34, 35, 36, 37, 38, 39, 40, 41, 42, 43, 44, 45, 46, 47, 48, 49, 50, 51, 52, 53, 54, 55, 56, 57, 58, 59, 60, 61, 62, 63, 64, 65, 66, 67, 68, 69, 70, 71, 72, 73, 74, 75, 76, 77, 78, 79, 80, 81, 100, 101, 82, 83, 84, 85, 86, 87, 88, 89, 90, 91, 92, 93, 94, 95, 96, 97, 98, 99, 102, 103, 104, 105, 106, 107, 108, 109, 110, 111, 112, 113, 114, 115, 116, 117, 118, 119, 120, 121, 122, 123, 124, 125, 126, 127, 128, 129, 130, 131, 132, 133, 134, 135, 136, 137, 138, 139, 140, 141, 142, 143, 144, 145, 146, 147, 148, 149, 150, 151, 152, 153, 154, 155, 156, 157, 158, 159, 160, 161, 162, 163, 164, 165, 166, 167, 168, 169, 170, 171, 172, 173, 174, 175, 176, 177, 178, 179] rfl rfl (by decide +kernel)
  have hW := l_cgQ (q0 := 5) (fun j => if j < 12 then some (ad (6 + 1 * j)) else none) hW rfl (fun j hj => by
      rw [had]
      match j, hj with
      | 0, _ => rfl
      | 1, _ => rfl
      | 2, _ => rfl
      | 3, _ => rfl
      | 4, _ => rfl
      | 5, _ => rfl
      | 6, _ => rfl
      | 7, _ => rfl
      | 8, _ => rfl
      | 9, _ => rfl
      | 10, _ => rfl
      | 11, _ => rfl
      | n + 12, h => exact absurd h (by omega))
  have hW := l_cgQ (q0 := 21) (fun j => if j < 8 then some (ad (22 + 1 * j)) else none) hW rfl (fun j hj => by
      rw [had]
      match j, hj with
      | 0, _ => rfl
      | 1, _ => rfl
      | 2, _ => rfl
      | 3, _ => rfl
      | 4, _ => rfl
      | 5, _ => rfl
      | 6, _ => rfl
      | 7, _ => rfl
      | n + 8, h => exact absurd h (by omega))
  have hW := l_cgQ (q0 := 33) (fun j => if j < 8 then some (ad (34 + 1 * j)) else none) hW rfl (fun j hj => by
      rw [had]
      match j, hj with
      | 0, _ => rfl
      | 1, _ => rfl
      | 2, _ => rfl
      | 3, _ => rfl
      | 4, _ => rfl
      | 5, _ => rfl
      | 6, _ => rfl
      | 7, _ => rfl
      | n + 8, h => exact absurd h (by omega))
  have hW := l_cgQ (q0 := 45) (fun j => if j < 8 then some (ad (46 + 1 * j)) else none) hW rfl (fun j hj => by
      rw [had]
      match j, hj with
      | 0, _ => rfl
      | 1, _ => rfl
      | 2, _ => rfl
      | 3, _ => rfl
      | 4, _ => rfl
      | 5, _ => rfl
      | 6, _ => rfl
      | 7, _ => rfl
      | n + 8, h => exact absurd h (by omega))
  have hW := l_cgQ (q0 := 81) (fun j => if j < 6 then some (ad (84 + 3 * j)) else none) hW rfl (fun j hj => by
      rw [had]
      match j, hj with
      | 0, _ => rfl
      | 1, _ => rfl
      | 2, _ => rfl
      | 3, _ => rfl
      | 4, _ => rfl
      | 5, _ => rfl
      | n + 6, h => exact absurd h (by omega))
  have hW := l_cgQ (q0 := 103) (fun j => if j < 8 then some (ad (104 + 1 * j)) else none) hW rfl (fun j hj => by
      rw [had]
      match j, hj with
      | 0, _ => rfl
      | 1, _ => rfl
      | 2, _ => rfl
      | 3, _ => rfl
      | 4, _ => rfl
      | 5, _ => rfl
      | 6, _ => rfl
      | 7, _ => rfl
      | n + 8, h => exact absurd h (by omega))
  have hW := l_cgQ (q0 := 112) (fun j => if j < 5 then some (ad (113 + 1 * j)) else none) hW rfl (fun j hj => by
      rw [had]
      match j, hj with
      | 0, _ => rfl
      | 1, _ => rfl
      | 2, _ => rfl
      | 3, _ => rfl
      | 4, _ => rfl
      | n + 5, h => exact absurd h (by omega))
  have hW : WL K [(x0, .inr (11, [.ref xq1, .ref xq3, .ref xq44, .ref xq66, .ref xq71, .ref xq78, .ref xq42, .ref xq43, .ref xq39, .ref xq25, .ref xq6, .ref xq10, .ref xq14, .ref xq18, .ref xq32, .int (0 : Int32)])), (xq1, .inr (10, [.ref xq2, .int (0 : Int32)])), (xq2, ia (cA 0) 260 (fun _ => 0)), (xq3, .inr (5, [.ref xq4, .ref xq5, .int (0 : Int32)])), (xq4, ia (cA 0) 12 (fun _ => 0)), (xq5, qa (cA 1) 12 (fun j => if j < 12 then some (ad (6 + 1 * j)) else none)), ((xr1 0), ia (cA 0) 12 (fun _ => 0)), ((xr1 1), ia (cA 0) 12 (fun _ => 0)), ((xr1 2), ia (cA 0) 12 (fun _ => 0)), ((xr1 3), ia (cA 0) 12 (fun _ => 0)), ((xr1 4), ia (cA 0) 12 (fun _ => 0)), ((xr1 5), ia (cA 0) 12 (fun _ => 0)), ((xr1 6), ia (cA 0) 12 (fun _ => 0)), ((xr1 7), ia (cA 0) 12 (fun _ => 0)), ((xr1 8), ia (cA 0) 12 (fun _ => 0)), ((xr1 9), ia (cA 0) 12 (fun _ => 0)), ((xr1 10), ia (cA 0) 12 (fun _ => 0)), ((xr1 11), ia (cA 0) 12 (fun _ => 0)), (xq6, .inr (7, [.ref xq7, .ref xq8, .ref xq9, .int (0 : Int32), .int (0 : Int32), .int (0 : Int32), .int (0 : Int32), .int (1 : Int32)])), (xq7, ia (cA 0) 8 (fun _ => 0)), (xq8, ia (cA 0) 8 (fun _ => 0)), (xq9, qa (cA 1) 8 (fun j => if j < 8 then some (ad (22 + 1 * j)) else none)), ((xr2 0), ia (cA 0) 12 (fun _ => 0)), ((xr2 1), ia (cA 0) 12 (fun _ => 0)), ((xr2 2), ia (cA 0) 12 (fun _ => 0)), ((xr2 3), ia (cA 0) 12 (fun _ => 0)), ((xr2 4), ia (cA 0) 12 (fun _ => 0)), ((xr2 5), ia (cA 0) 12 (fun _ => 0)), ((xr2 6), ia (cA 0) 12 (fun _ => 0)), ((xr2 7), ia (cA 0) 12 (fun _ => 0)), (xq10, .inr (7, [.ref xq11, .ref xq12, .ref xq13, .int (0 : Int32), .int (0 : Int32), .int (0 : Int32), .int (0 : Int32), .int (1 : Int32)])), (xq11, ia (cA 0) 8 (fun _ => 0)), (xq12, ia (cA 0) 8 (fun _ => 0)), (xq13, qa (cA 1) 8 (fun j => if j < 8 then some (ad (34 + 1 * j)) else none)), ((xr3 0), ia (cA 0) 12 (fun _ => 0)), ((xr3 1), ia (cA 0) 12 (fun _ => 0)), ((xr3 2), ia (cA 0) 12 (fun _ => 0)), ((xr3 3), ia (cA 0) 12 (fun _ => 0)), ((xr3 4), ia (cA 0) 12 (fun _ => 0)), ((xr3 5), ia (cA 0) 12 (fun _ => 0)), ((xr3 6), ia (cA 0) 12 (fun _ => 0)), ((xr3 7), ia (cA 0) 12 (fun _ => 0)), (xq14, .inr (7, [.ref xq15, .ref xq16, .ref xq17, .int (0 : Int32), .int (0 : Int32), .int (0 : Int32), .int (0 : Int32), .int (1 : Int32)])), (xq15, ia (cA 0) 8 (fun _ => 0)), (xq16, ia (cA 0) 8 (fun _ => 0)), (xq17, qa (cA 1) 8 (fun j => if j < 8 then some (ad (46 + 1 * j)) else none)), ((xr4 0), ia (cA 0) 12 (fun _ => 0)), ((xr4 1), ia (cA 0) 12 (fun _ => 0)), ((xr4 2), ia (cA 0) 12 (fun _ => 0)), ((xr4 3), ia (cA 0) 12 (fun _ => 0)), ((xr4 4), ia (cA 0) 12 (fun _ => 0)), ((xr4 5), ia (cA 0) 12 (fun _ => 0)), ((xr4 6), ia (cA 0) 12 (fun _ => 0)), ((xr4 7), ia (cA 0) 12 (fun _ => 0)), (xq18, .inr (3, [.ref xq19, .ref xq20, .ref xq21, .ref xq22, .ref xq23, .ref xq24, .int (0 : Int32), .int (0 : Int32)])), (xq19, ia (cA 0) 16 (fun _ => 0)), (xq20, ia (cA 0) 16 (fun _ => 0)), (xq21, ia (cA 0) 16 (fun _ => 0)), (xq22, ia (cA 0) 256 (fun _ => 0)), (xq23, ia (cA 0) 256 (fun _ => 0)), (xq24, ia (cA 0) 64 (fun _ => 0)), (xq25, .inr (3, [.ref xq26, .ref xq27, .ref xq28, .ref xq29, .ref xq30, .ref xq31, .int (0 : Int32), .int (0 : Int32)])), (xq26, ia (cA 0) 16 (fun _ => 0)), (xq27, ia (cA 0) 16 (fun _ => 0)), (xq28, ia (cA 0) 16 (fun _ => 0)), (xq29, ia (cA 0) 256 (fun _ => 0)), (xq30, ia (cA 0) 256 (fun _ => 0)), (xq31, ia (cA 0) 64 (fun _ => 0)), (xq32, .inr (3, [.ref xq33, .ref xq34, .ref xq35, .ref xq36, .ref xq37, .ref xq38, .int (0 : Int32), .int (0 : Int32)])), (xq33, ia (cA 0) 16 (fun _ => 0)), (xq34, ia (cA 0) 16 (fun _ => 0)), (xq35, ia (cA 0) 16 (fun _ => 0)), (xq36, ia (cA 0) 256 (fun _ => 0)), (xq37, ia (cA 0) 256 (fun _ => 0)), (xq38, ia (cA 0) 64 (fun _ => 0)), (xq39, .inr (0, [.ref xq40, .ref xq41, .int (0 : Int32)])), (xq40, ia (cA 0) 48 (fun _ => 0)), (xq41, ia (cA 0) 48 (fun _ => 0)), (xq42, .inr (1, [.ref xq2, .int (0 : Int32), .int (0 : Int32), .int (0 : Int32), .ref xq39])), (xq43, .inr (4, [.ref xq2, .int (0 : Int32), .int (0 : Int32), .int (0 : Int32), .ref xq32])), (xq44, .inr (2, [.ref xq3, .ref xq45, .ref xq64, .ref xq65, .int (0 : Int32), .int (0 : Int32), .int (0 : Int32), .int (0 : Int32), .int (0 : Int32), .ref xq18, .ref xq6])), (xq45, qa (cA 2) 6 (fun j => if j < 6 then some (ad (84 + 3 * j)) else none)), (xq64, ia (cA 0) 10 (fun _ => -1)), (xq65, ia (cA 0) 8 (fun _ => 0)), (xq46, .inr (0, [.ref xq47, .ref xq48, .int (0 : Int32)])), (xq47, ia (cA 0) 48 (fun _ => 0)), (xq48, ia (cA 0) 48 (fun _ => 0)), (xq49, .inr (0, [.ref xq50, .ref xq51, .int (0 : Int32)])), (xq50, ia (cA 0) 48 (fun _ => 0)), (xq51, ia (cA 0) 48 (fun _ => 0)), (xq52, .inr (0, [.ref xq53, .ref xq54, .int (0 : Int32)])), (xq53, ia (cA 0) 48 (fun _ => 0)), (xq54, ia (cA 0) 48 (fun _ => 0)), (xq55, .inr (0, [.ref xq56, .ref xq57, .int (0 : Int32)])), (xq56, ia (cA 0) 48 (fun _ => 0)), (xq57, ia (cA 0) 48 (fun _ => 0)), (xq58, .inr (0, [.ref xq59, .ref xq60, .int (0 : Int32)])), (xq59, ia (cA 0) 48 (fun _ => 0)), (xq60, ia (cA 0) 48 (fun _ => 0)), (xq61, .inr (0, [.ref xq62, .ref xq63, .int (0 : Int32)])), (xq62, ia (cA 0) 48 (fun _ => 0)), (xq63, ia (cA 0) 48 (fun _ => 0)), (xq66, .inr (9, [.ref xq67, .ref xq68, .ref xq69, .ref xq70, .int (0 : Int32)])), (xq67, qa (cA 1) 8 (fun j => if j < 8 then some (ad (104 + 1 * j)) else none)), ((xr5 0), ia (cA 0) 8 (fun _ => 0)), ((xr5 1), ia (cA 0) 8 (fun _ => 0)), ((xr5 2), ia (cA 0) 8 (fun _ => 0)), ((xr5 3), ia (cA 0) 8 (fun _ => 0)), ((xr5 4), ia (cA 0) 8 (fun _ => 0)), ((xr5 5), ia (cA 0) 8 (fun _ => 0)), ((xr5 6), ia (cA 0) 8 (fun _ => 0)), ((xr5 7), ia (cA 0) 8 (fun _ => 0)), (xq68, qa (cA 1) 5 (fun j => if j < 5 then some (ad (113 + 1 * j)) else none)), ((xr6 0), ia (cA 0) 6 (fun _ => 0)), ((xr6 1), ia (cA 0) 6 (fun _ => 0)), ((xr6 2), ia (cA 0) 6 (fun _ => 0)), ((xr6 3), ia (cA 0) 6 (fun _ => 0)), ((xr6 4), ia (cA 0) 6 (fun _ => 0)), (xq69, ia (cA 0) 6 (fun _ => 0)), (xq70, ia (cA 0) 6 (fun _ => 0)), (xq71, .inr (8, [.ref xq72, .ref xq73, .ref xq74, .ref xq75, .ref xq76, .ref xq77, .int (0 : Int32)])), (xq72, ia (cA 0) 5 (fun _ => 0)), (xq73, ja (cA 5) 341 (fun _ => 0)), (xq74, ja (cA 5) 341 (fun _ => 0)), (xq75, ia (cA 0) 341 (fun _ => 0)), (xq76, ia (cA 0) 341 (fun _ => 0)), (xq77, ia (cA 0) 341 (fun _ => 0)), (xq78, .inr (6, [.ref xq79, .int (0 : Int32), .int (0 : Int32), .int (1 : Int32)])), (xq79, ia (cA 0) 9 (fun _ => 0)), (m0, .inr (12, [.ref mq1, .int (0 : Int32), .int (1 : Int32), .int (0 : Int32), .int (0 : Int32), .int (0 : Int32), .int (0 : Int32), .int (0 : Int32), .int (0 : Int32), .int (0 : Int32), .ref mq2, .ref mq3, .ref mq4, .ref mq5, .ref mq6, .ref mq7, .ref mq8, .ref mq9, .int (0 : Int32), .int (0 : Int32), .int (0 : Int32), .ref mq10, .ref mq11, .ref mq12, .ref mq13, .ref mq14, .ref mq15, .ref mq16, .ref mq17, .ref mq18, .ref mq19, .int (0 : Int32), .int (0 : Int32), .ref mq20, .ref mq21, .ref mq22, .ref mq23, .ref mq24, .ref mq25, .int (0 : Int32), .int (0 : Int32), .ref mq26, .int (0 : Int32), .int (0 : Int32), .int (0 : Int32), .int (0 : Int32), .int (0 : Int32), .int (0 : Int32), .int (0 : Int32), .int (0 : Int32), .ref mq27, .ref mq28, .ref mq29, .ref mq30, .ref mq31, .ref mq32, .int (0 : Int32), .int (0 : Int32), .int (0 : Int32), .int (0 : Int32), .int (0 : Int32), .int (0 : Int32), .int (0 : Int32), .int (0 : Int32), .int (0 : Int32), .int (0 : Int32), .int (0 : Int32), .ref mq33, .ref mq34, .ref mq35, .ref mq36, .ref mq37, .ref mq38, .ref mq39, .ref mq40, .int (0 : Int32), .ref mq41, .ref mq42, .ref mq43, .ref mq44, .ref mq45, .ref mq46, .ref mq47, .ref mq48, .ref mq49, .ref mq50])), (mq1, ia (cA 3) 260 (fun _ => 0)), (mq2, ia (cA 4) 12 (fun _ => 0)), (mq3, ia (cA 0) 12 (fun _ => 0)), (mq4, ia (cA 0) 144 (fun _ => 0)), (mq5, ia (cA 4) 6 (fun _ => 0)), (mq6, ia (cA 0) 6 (fun _ => 0)), (mq7, ia (cA 0) 288 (fun _ => 0)), (mq8, ia (cA 0) 48 (fun _ => 0)), (mq9, ia (cA 0) 10 (fun _ => -1)), (mq10, ia (cA 0) 2 (fun _ => 0)), (mq11, ia (cA 0) 2 (fun _ => 0)), (mq12, ia (cA 0) 2 (fun _ => 0)), (mq13, ia (cA 0) 32 (fun _ => 0)), (mq14, ia (cA 0) 32 (fun _ => 0)), (mq15, ia (cA 0) 32 (fun _ => 0)), (mq16, ia (cA 0) 32 (fun _ => 0)), (mq17, ia (cA 0) 480 (fun _ => 0)), (mq18, ia (cA 0) 480 (fun _ => 0)), (mq19, ia (cA 0) 2 (fun _ => 0)), (mq20, ia (cA 0) 16 (fun _ => 0)), (mq21, ia (cA 0) 16 (fun _ => 0)), (mq22, ia (cA 0) 16 (fun _ => 0)), (mq23, ia (cA 0) 16 (fun _ => 0)), (mq24, ia (cA 0) 240 (fun _ => 0)), (mq25, ia (cA 0) 240 (fun _ => 0)), (mq26, ia (cA 0) 240 (fun _ => 0)), (mq27, ia (cA 0) 240 (fun _ => 0)), (mq28, ia (cA 4) 240 (fun _ => 0)), (mq29, ia (cA 4) 8 (fun _ => 0)), (mq30, ia (cA 0) 8 (fun _ => 0)), (mq31, ia (cA 0) 8 (fun _ => 0)), (mq32, ia (cA 0) 96 (fun _ => 0)), (mq33, ia (cA 4) 16 (fun _ => 0)), (mq34, ia (cA 0) 16 (fun _ => 0)), (mq35, ia (cA 0) 16 (fun _ => 0)), (mq36, ia (cA 0) 192 (fun _ => 0)), (mq37, ia (cA 0) 2 (fun _ => 0)), (mq38, ia (cA 0) 2 (fun _ => 0)), (mq39, ia (cA 0) 2 (fun _ => 0)), (mq40, ia (cA 0) 2 (fun _ => 0)), (mq41, ia (cA 0) 12 (fun _ => 0)), (mq42, ia (cA 0) 12 (fun _ => 0)), (mq43, ia (cA 0) 8 (fun _ => 0)), (mq44, ia (cA 0) 8 (fun _ => 0)), (mq45, ia (cA 0) 12 (fun _ => 0)), (mq46, ia (cA 0) 64 (fun _ => 0)), (mq47, ia (cA 4) 5 (fun _ => 0)), (mq48, ia (cA 0) 30 (fun _ => 0)), (mq49, ia (cA 0) 6 (fun _ => 0)), (mq50, ia (cA 0) 9 (fun _ => 0))] H locs := hW
  have had0 : x0 = ad 0 := by rw [had]; rfl
  have had1 : xq1 = ad 1 := by rw [had]; rfl
  have had2 : xq2 = ad 2 := by rw [had]; rfl
  have had3 : xq3 = ad 3 := by rw [had]; rfl
  have had4 : xq4 = ad 4 := by rw [had]; rfl
  have had5 : xq5 = ad 5 := by rw [had]; rfl
  have had6 : (xr1 0) = ad 6 := by rw [had]; rfl
  have had7 : (xr1 1) = ad 7 := by rw [had]; rfl
  have had8 : (xr1 2) = ad 8 := by rw [had]; rfl
  have had9 : (xr1 3) = ad 9 := by rw [had]; rfl
  have had10 : (xr1 4) = ad 10 := by rw [had]; rfl
  have had11 : (xr1 5) = ad 11 := by rw [had]; rfl
  have had12 : (xr1 6) = ad 12 := by rw [had]; rfl
  have had13 : (xr1 7) = ad 13 := by rw [had]; rfl
  have had14 : (xr1 8) = ad 14 := by rw [had]; rfl
  have had15 : (xr1 9) = ad 15 := by rw [had]; rfl
  have had16 : (xr1 10) = ad 16 := by rw [had]; rfl
  have had17 : (xr1 11) = ad 17 := by rw [had]; rfl
  have had18 : xq6 = ad 18 := by rw [had]; rfl
  have had19 : xq7 = ad 19 := by rw [had]; rfl
  have had20 : xq8 = ad 20 := by rw [had]; rfl
  have had21 : xq9 = ad 21 := by rw [had]; rfl
  have had22 : (xr2 0) = ad 22 := by rw [had]; rfl
  have had23 : (xr2 1) = ad 23 := by rw [had]; rfl
  have had24 : (xr2 2) = ad 24 := by rw [had]; rfl
  have had25 : (xr2 3) = ad 25 := by rw [had]; rfl
  have had26 : (xr2 4) = ad 26 := by rw [had]; rfl
  have had27 : (xr2 5) = ad 27 := by rw [had]; rfl
  have had28 : (xr2 6) = ad 28 := by rw [had]; rfl
  have had29 : (xr2 7) = ad 29 := by rw [had]; rfl
  have had30 : xq10 = ad 30 := by rw [had]; rfl
  have had31 : xq11 = ad 31 := by rw [had]; rfl
  have had32 : xq12 = ad 32 := by rw [had]; rfl
  have had33 : xq13 = ad 33 := by rw [had]; rfl
  have had34 : (xr3 0) = ad 34 := by rw [had]; rfl
  have had35 : (xr3 1) = ad 35 := by rw [had]; rfl
  have had36 : (xr3 2) = ad 36 := by rw [had]; rfl
  have had37 : (xr3 3) = ad 37 := by rw [had]; rfl
  have had38 : (xr3 4) = ad 38 := by rw [had]; rfl
  have had39 : (xr3 5) = ad 39 := by rw [had]; rfl
  have had40 : (xr3 6) = ad 40 := by rw [had]; rfl
  have had41 : (xr3 7) = ad 41 := by rw [had]; rfl
  have had42 : xq14 = ad 42 := by rw [had]; rfl
  have had43 : xq15 = ad 43 := by rw [had]; rfl
  have had44 : xq16 = ad 44 := by rw [had]; rfl
  have had45 : xq17 = ad 45 := by rw [had]; rfl
  have had46 : (xr4 0) = ad 46 := by rw [had]; rfl
  have had47 : (xr4 1) = ad 47 := by rw [had]; rfl
  have had48 : (xr4 2) = ad 48 := by rw [had]; rfl
  have had49 : (xr4 3) = ad 49 := by rw [had]; rfl
  have had50 : (xr4 4) = ad 50 := by rw [had]; rfl
  have had51 : (xr4 5) = ad 51 := by rw [had]; rfl
  have had52 : (xr4 6) = ad 52 := by rw [had]; rfl
  have had53 : (xr4 7) = ad 53 := by rw [had]; rfl
  have had54 : xq18 = ad 54 := by rw [had]; rfl
  have had55 : xq19 = ad 55 := by rw [had]; rfl
  have had56 : xq20 = ad 56 := by rw [had]; rfl
  have had57 : xq21 = ad 57 := by rw [had]; rfl
  have had58 : xq22 = ad 58 := by rw [had]; rfl
  have had59 : xq23 = ad 59 := by rw [had]; rfl
  have had60 : xq24 = ad 60 := by rw [had]; rfl
  have had61 : xq25 = ad 61 := by rw [had]; rfl
  have had62 : xq26 = ad 62 := by rw [had]; rfl
  have had63 : xq27 = ad 63 := by rw [had]; rfl
  have had64 : xq28 = ad 64 := by rw [had]; rfl
  have had65 : xq29 = ad 65 := by rw [had]; rfl
  have had66 : xq30 = ad 66 := by rw [had]; rfl
  have had67 : xq31 = ad 67 := by rw [had]; rfl
  have had68 : xq32 = ad 68 := by rw [had]; rfl
  have had69 : xq33 = ad 69 := by rw [had]; rfl
  have had70 : xq34 = ad 70 := by rw [had]; rfl
  have had71 : xq35 = ad 71 := by rw [had]; rfl
  have had72 : xq36 = ad 72 := by rw [had]; rfl
  have had73 : xq37 = ad 73 := by rw [had]; rfl
  have had74 : xq38 = ad 74 := by rw [had]; rfl
  have had75 : xq39 = ad 75 := by rw [had]; rfl
  have had76 : xq40 = ad 76 := by rw [had]; rfl
  have had77 : xq41 = ad 77 := by rw [had]; rfl
  have had78 : xq42 = ad 78 := by rw [had]; rfl
  have had79 : xq43 = ad 79 := by rw [had]; rfl
  have had80 : xq44 = ad 80 := by rw [had]; rfl
  have had81 : xq45 = ad 81 := by rw [had]; rfl
  have had82 : xq64 = ad 82 := by rw [had]; rfl
  have had83 : xq65 = ad 83 := by rw [had]; rfl
  have had84 : xq46 = ad 84 := by rw [had]; rfl
  have had85 : xq47 = ad 85 := by rw [had]; rfl
  have had86 : xq48 = ad 86 := by rw [had]; rfl
  have had87 : xq49 = ad 87 := by rw [had]; rfl
  have had88 : xq50 = ad 88 := by rw [had]; rfl
  have had89 : xq51 = ad 89 := by rw [had]; rfl
  have had90 : xq52 = ad 90 := by rw [had]; rfl
  have had91 : xq53 = ad 91 := by rw [had]; rfl
  have had92 : xq54 = ad 92 := by rw [had]; rfl
  have had93 : xq55 = ad 93 := by rw [had]; rfl
  have had94 : xq56 = ad 94 := by rw [had]; rfl
  have had95 : xq57 = ad 95 := by rw [had]; rfl
  have had96 : xq58 = ad 96 := by rw [had]; rfl
  have had97 : xq59 = ad 97 := by rw [had]; rfl
  have had98 : xq60 = ad 98 := by rw [had]; rfl
  have had99 : xq61 = ad 99 := by rw [had]; rfl
  have had100 : xq62 = ad 100 := by rw [had]; rfl
  have had101 : xq63 = ad 101 := by rw [had]; rfl
  have had102 : xq66 = ad 102 := by rw [had]; rfl
  have had103 : xq67 = ad 103 := by rw [had]; rfl
  have had104 : (xr5 0) = ad 104 := by rw [had]; rfl
  have had105 : (xr5 1) = ad 105 := by rw [had]; rfl
  have had106 : (xr5 2) = ad 106 := by rw [had]; rfl
  have had107 : (xr5 3) = ad 107 := by rw [had]; rfl
  have had108 : (xr5 4) = ad 108 := by rw [had]; rfl
  have had109 : (xr5 5) = ad 109 := by rw [had]; rfl
  have had110 : (xr5 6) = ad 110 := by rw [had]; rfl
  have had111 : (xr5 7) = ad 111 := by rw [had]; rfl
  have had112 : xq68 = ad 112 := by rw [had]; rfl
  have had113 : (xr6 0) = ad 113 := by rw [had]; rfl
  have had114 : (xr6 1) = ad 114 := by rw [had]; rfl
  have had115 : (xr6 2) = ad 115 := by rw [had]; rfl
  have had116 : (xr6 3) = ad 116 := by rw [had]; rfl
  have had117 : (xr6 4) = ad 117 := by rw [had]; rfl
  have had118 : xq69 = ad 118 := by rw [had]; rfl
  have had119 : xq70 = ad 119 := by rw [had]; rfl
  have had120 : xq71 = ad 120 := by rw [had]; rfl
  have had121 : xq72 = ad 121 := by rw [had]; rfl
  have had122 : xq73 = ad 122 := by rw [had]; rfl
  have had123 : xq74 = ad 123 := by rw [had]; rfl
  have had124 : xq75 = ad 124 := by rw [had]; rfl
  have had125 : xq76 = ad 125 := by rw [had]; rfl
  have had126 : xq77 = ad 126 := by rw [had]; rfl
  have had127 : xq78 = ad 127 := by rw [had]; rfl
  have had128 : xq79 = ad 128 := by rw [had]; rfl
  have had129 : m0 = ad 129 := by rw [had]; rfl
  have had130 : mq1 = ad 130 := by rw [had]; rfl
  have had131 : mq2 = ad 131 := by rw [had]; rfl
  have had132 : mq3 = ad 132 := by rw [had]; rfl
  have had133 : mq4 = ad 133 := by rw [had]; rfl
  have had134 : mq5 = ad 134 := by rw [had]; rfl
  have had135 : mq6 = ad 135 := by rw [had]; rfl
  have had136 : mq7 = ad 136 := by rw [had]; rfl
  have had137 : mq8 = ad 137 := by rw [had]; rfl
  have had138 : mq9 = ad 138 := by rw [had]; rfl
  have had139 : mq10 = ad 139 := by rw [had]; rfl
  have had140 : mq11 = ad 140 := by rw [had]; rfl
  have had141 : mq12 = ad 141 := by rw [had]; rfl
  have had142 : mq13 = ad 142 := by rw [had]; rfl
  have had143 : mq14 = ad 143 := by rw [had]; rfl
  have had144 : mq15 = ad 144 := by rw [had]; rfl
  have had145 : mq16 = ad 145 := by rw [had]; rfl
  have had146 : mq17 = ad 146 := by rw [had]; rfl
  have had147 : mq18 = ad 147 := by rw [had]; rfl
  have had148 : mq19 = ad 148 := by rw [had]; rfl
  have had149 : mq20 = ad 149 := by rw [had]; rfl
  have had150 : mq21 = ad 150 := by rw [had]; rfl
  have had151 : mq22 = ad 151 := by rw [had]; rfl
  have had152 : mq23 = ad 152 := by rw [had]; rfl
  have had153 : mq24 = ad 153 := by rw [had]; rfl
  have had154 : mq25 = ad 154 := by rw [had]; rfl
  have had155 : mq26 = ad 155 := by rw [had]; rfl
  have had156 : mq27 = ad 156 := by rw [had]; rfl
  have had157 : mq28 = ad 157 := by rw [had]; rfl
  have had158 : mq29 = ad 158 := by rw [had]; rfl
  have had159 : mq30 = ad 159 := by rw [had]; rfl
  have had160 : mq31 = ad 160 := by rw [had]; rfl
  have had161 : mq32 = ad 161 := by rw [had]; rfl
  have had162 : mq33 = ad 162 := by rw [had]; rfl
  have had163 : mq34 = ad 163 := by rw [had]; rfl
  have had164 : mq35 = ad 164 := by rw [had]; rfl
  have had165 : mq36 = ad 165 := by rw [had]; rfl
  have had166 : mq37 = ad 166 := by rw [had]; rfl
  have had167 : mq38 = ad 167 := by rw [had]; rfl
  have had168 : mq39 = ad 168 := by rw [had]; rfl
  have had169 : mq40 = ad 169 := by rw [had]; rfl
  have had170 : mq41 = ad 170 := by rw [had]; rfl
  have had171 : mq42 = ad 171 := by rw [had]; rfl
  have had172 : mq43 = ad 172 := by rw [had]; rfl
  have had173 : mq44 = ad 173 := by rw [had]; rfl
  have had174 : mq45 = ad 174 := by rw [had]; rfl
  have had175 : mq46 = ad 175 := by rw [had]; rfl
  have had176 : mq47 = ad 176 := by rw [had]; rfl
  have had177 : mq48 = ad 177 := by rw [had]; rfl
  have had178 : mq49 = ad 178 := by rw [had]; rfl
  have had179 : mq50 = ad 179 := by rw [had]; rfl
  refine ⟨ad, had0.symm, had129.symm, ?_⟩
  show WL K (wd NN ad (gF ad cA)) H locs
  have e9 : wd NN ad (gF ad cA) = [(x0, .inr (11, [.ref xq1, .ref xq3, .ref xq44, .ref xq66, .ref xq71, .ref xq78, .ref xq42, .ref xq43, .ref xq39, .ref xq25, .ref xq6, .ref xq10, .ref xq14, .ref xq18, .ref xq32, .int (0 : Int32)])), (xq1, .inr (10, [.ref xq2, .int (0 : Int32)])), (xq2, ia (cA 0) 260 (fun _ => 0)), (xq3, .inr (5, [.ref xq4, .ref xq5, .int (0 : Int32)])), (xq4, ia (cA 0) 12 (fun _ => 0)), (xq5, qa (cA 1) 12 (fun j => if j < 12 then some (ad (6 + 1 * j)) else none)), ((xr1 0), ia (cA 0) 12 (fun _ => 0)), ((xr1 1), ia (cA 0) 12 (fun _ => 0)), ((xr1 2), ia (cA 0) 12 (fun _ => 0)), ((xr1 3), ia (cA 0) 12 (fun _ => 0)), ((xr1 4), ia (cA 0) 12 (fun _ => 0)), ((xr1 5), ia (cA 0) 12 (fun _ => 0)), ((xr1 6), ia (cA 0) 12 (fun _ => 0)), ((xr1 7), ia (cA 0) 12 (fun _ => 0)), ((xr1 8), ia (cA 0) 12 (fun _ => 0)), ((xr1 9), ia (cA 0) 12 (fun _ => 0)), ((xr1 10), ia (cA 0) 12 (fun _ => 0)), ((xr1 11), ia (cA 0) 12 (fun _ => 0)), (xq6, .inr (7, [.ref xq7, .ref xq8, .ref xq9, .int (0 : Int32), .int (0 : Int32), .int (0 : Int32), .int (0 : Int32), .int (1 : Int32)])), (xq7, ia (cA 0) 8 (fun _ => 0)), (xq8, ia (cA 0) 8 (fun _ => 0)), (xq9, qa (cA 1) 8 (fun j => if j < 8 then some (ad (22 + 1 * j)) else none)), ((xr2 0), ia (cA 0) 12 (fun _ => 0)), ((xr2 1), ia (cA 0) 12 (fun _ => 0)), ((xr2 2), ia (cA 0) 12 (fun _ => 0)), ((xr2 3), ia (cA 0) 12 (fun _ => 0)), ((xr2 4), ia (cA 0) 12 (fun _ => 0)), ((xr2 5), ia (cA 0) 12 (fun _ => 0)), ((xr2 6), ia (cA 0) 12 (fun _ => 0)), ((xr2 7), ia (cA 0) 12 (fun _ => 0)), (xq10, .inr (7, [.ref xq11, .ref xq12, .ref xq13, .int (0 : Int32), .int (0 : Int32), .int (0 : Int32), .int (0 : Int32), .int (1 : Int32)])), (xq11, ia (cA 0) 8 (fun _ => 0)), (xq12, ia (cA 0) 8 (fun _ => 0)), (xq13, qa (cA 1) 8 (fun j => if j < 8 then some (ad (34 + 1 * j)) else none)), ((xr3 0), ia (cA 0) 12 (fun _ => 0)), ((xr3 1), ia (cA 0) 12 (fun _ => 0)), ((xr3 2), ia (cA 0) 12 (fun _ => 0)), ((xr3 3), ia (cA 0) 12 (fun _ => 0)), ((xr3 4), ia (cA 0) 12 (fun _ => 0)), ((xr3 5), ia (cA 0) 12 (fun _ => 0)), ((xr3 6), ia (cA 0) 12 (fun _ => 0)), ((xr3 7), ia (cA 0) 12 (fun _ => 0)), (xq14, .inr (7, [.ref xq15, .ref xq16, .ref xq17, .int (0 : Int32), .int (0 : Int32), .int (0 : Int32), .int (0 : Int32), .int (1 : Int32)])), (xq15, ia (cA 0) 8 (fun _ => 0)), (xq16, ia (cA 0) 8 (fun _ => 0)), (xq17, qa (cA 1) 8 (fun j => if j < 8 then some (ad (46 + 1 * j)) else none)), ((xr4 0), ia (cA 0) 12 (fun _ => 0)), ((xr4 1), ia (cA 0) 12 (fun _ => 0)), ((xr4 2), ia (cA 0) 12 (fun _ => 0)), ((xr4 3), ia (cA 0) 12 (fun _ => 0)), ((xr4 4), ia (cA 0) 12 (fun _ => 0)), ((xr4 5), ia (cA 0) 12 (fun _ => 0)), ((xr4 6), ia (cA 0) 12 (fun _ => 0)), ((xr4 7), ia (cA 0) 12 (fun _ => 0)), (xq18, .inr (3, [.ref xq19, .ref xq20, .ref xq21, .ref xq22, .ref xq23, .ref xq24, .int (0 : Int32), .int (0 : Int32)])), (xq19, ia (cA 0) 16 (fun _ => 0)), (xq20, ia (cA 0) 16 (fun _ => 0)), (xq21, ia (cA 0) 16 (fun _ => 0)), (xq22, ia (cA 0) 256 (fun _ => 0)), (xq23, ia (cA 0) 256 (fun _ => 0)), (xq24, ia (cA 0) 64 (fun _ => 0)), (xq25, .inr (3, [.ref xq26, .ref xq27, .ref xq28, .ref xq29, .ref xq30, .ref xq31, .int (0 : Int32), .int (0 : Int32)])), (xq26, ia (cA 0) 16 (fun _ => 0)), (xq27, ia (cA 0) 16 (fun _ => 0)), (xq28, ia (cA 0) 16 (fun _ => 0)), (xq29, ia (cA 0) 256 (fun _ => 0)), (xq30, ia (cA 0) 256 (fun _ => 0)), (xq31, ia (cA 0) 64 (fun _ => 0)), (xq32, .inr (3, [.ref xq33, .ref xq34, .ref xq35, .ref xq36, .ref xq37, .ref xq38, .int (0 : Int32), .int (0 : Int32)])), (xq33, ia (cA 0) 16 (fun _ => 0)), (xq34, ia (cA 0) 16 (fun _ => 0)), (xq35, ia (cA 0) 16 (fun _ => 0)), (xq36, ia (cA 0) 256 (fun _ => 0)), (xq37, ia (cA 0) 256 (fun _ => 0)), (xq38, ia (cA 0) 64 (fun _ => 0)), (xq39, .inr (0, [.ref xq40, .ref xq41, .int (0 : Int32)])), (xq40, ia (cA 0) 48 (fun _ => 0)), (xq41, ia (cA 0) 48 (fun _ => 0)), (xq42, .inr (1, [.ref xq2, .int (0 : Int32), .int (0 : Int32), .int (0 : Int32), .ref xq39])), (xq43, .inr (4, [.ref xq2, .int (0 : Int32), .int (0 : Int32), .int (0 : Int32), .ref xq32])), (xq44, .inr (2, [.ref xq3, .ref xq45, .ref xq64, .ref xq65, .int (0 : Int32), .int (0 : Int32), .int (0 : Int32), .int (0 : Int32), .int (0 : Int32), .ref xq18, .ref xq6])), (xq45, qa (cA 2) 6 (fun j => if j < 6 then some (ad (84 + 3 * j)) else none)), (xq64, ia (cA 0) 10 (fun _ => -1)), (xq65, ia (cA 0) 8 (fun _ => 0)), (xq46, .inr (0, [.ref xq47, .ref xq48, .int (0 : Int32)])), (xq47, ia (cA 0) 48 (fun _ => 0)), (xq48, ia (cA 0) 48 (fun _ => 0)), (xq49, .inr (0, [.ref xq50, .ref xq51, .int (0 : Int32)])), (xq50, ia (cA 0) 48 (fun _ => 0)), (xq51, ia (cA 0) 48 (fun _ => 0)), (xq52, .inr (0, [.ref xq53, .ref xq54, .int (0 : Int32)])), (xq53, ia (cA 0) 48 (fun _ => 0)), (xq54, ia (cA 0) 48 (fun _ => 0)), (xq55, .inr (0, [.ref xq56, .ref xq57, .int (0 : Int32)])), (xq56, ia (cA 0) 48 (fun _ => 0)), (xq57, ia (cA 0) 48 (fun _ => 0)), (xq58, .inr (0, [.ref xq59, .ref xq60, .int (0 : Int32)])), (xq59, ia (cA 0) 48 (fun _ => 0)), (xq60, ia (cA 0) 48 (fun _ => 0)), (xq61, .inr (0, [.ref xq62, .ref xq63, .int (0 : Int32)])), (xq62, ia (cA 0) 48 (fun _ => 0)), (xq63, ia (cA 0) 48 (fun _ => 0)), (xq66, .inr (9, [.ref xq67, .ref xq68, .ref xq69, .ref xq70, .int (0 : Int32)])), (xq67, qa (cA 1) 8 (fun j => if j < 8 then some (ad (104 + 1 * j)) else none)), ((xr5 0), ia (cA 0) 8 (fun _ => 0)), ((xr5 1), ia (cA 0) 8 (fun _ => 0)), ((xr5 2), ia (cA 0) 8 (fun _ => 0)), ((xr5 3), ia (cA 0) 8 (fun _ => 0)), ((xr5 4), ia (cA 0) 8 (fun _ => 0)), ((xr5 5), ia (cA 0) 8 (fun _ => 0)), ((xr5 6), ia (cA 0) 8 (fun _ => 0)), ((xr5 7), ia (cA 0) 8 (fun _ => 0)), (xq68, qa (cA 1) 5 (fun j => if j < 5 then some (ad (113 + 1 * j)) else none)), ((xr6 0), ia (cA 0) 6 (fun _ => 0)), ((xr6 1), ia (cA 0) 6 (fun _ => 0)), ((xr6 2), ia (cA 0) 6 (fun _ => 0)), ((xr6 3), ia (cA 0) 6 (fun _ => 0)), ((xr6 4), ia (cA 0) 6 (fun _ => 0)), (xq69, ia (cA 0) 6 (fun _ => 0)), (xq70, ia (cA 0) 6 (fun _ => 0)), (xq71, .inr (8, [.ref xq72, .ref xq73, .ref xq74, .ref xq75, .ref xq76, .ref xq77, .int (0 : Int32)])), (xq72, ia (cA 0) 5 (fun _ => 0)), (xq73, ja (cA 5) 341 (fun _ => 0)), (xq74, ja (cA 5) 341 (fun _ => 0)), (xq75, ia (cA 0) 341 (fun _ => 0)), (xq76, ia (cA 0) 341 (fun _ => 0)), (xq77, ia (cA 0) 341 (fun _ => 0)), (xq78, .inr (6, [.ref xq79, .int (0 : Int32), .int (0 : Int32), .int (1 : Int32)])), (xq79, ia (cA 0) 9 (fun _ => 0)), (m0, .inr (12, [.ref mq1, .int (0 : Int32), .int (1 : Int32), .int (0 : Int32), .int (0 : Int32), .int (0 : Int32), .int (0 : Int32), .int (0 : Int32), .int (0 : Int32), .int (0 : Int32), .ref mq2, .ref mq3, .ref mq4, .ref mq5, .ref mq6, .ref mq7, .ref mq8, .ref mq9, .int (0 : Int32), .int (0 : Int32), .int (0 : Int32), .ref mq10, .ref mq11, .ref mq12, .ref mq13, .ref mq14, .ref mq15, .ref mq16, .ref mq17, .ref mq18, .ref mq19, .int (0 : Int32), .int (0 : Int32), .ref mq20, .ref mq21, .ref mq22, .ref mq23, .ref mq24, .ref mq25, .int (0 : Int32), .int (0 : Int32), .ref mq26, .int (0 : Int32), .int (0 : Int32), .int (0 : Int32), .int (0 : Int32), .int (0 : Int32), .int (0 : Int32), .int (0 : Int32), .int (0 : Int32), .ref mq27, .ref mq28, .ref mq29, .ref mq30, .ref mq31, .ref mq32, .int (0 : Int32), .int (0 : Int32), .int (0 : Int32), .int (0 : Int32), .int (0 : Int32), .int (0 : Int32), .int (0 : Int32), .int (0 : Int32), .int (0 : Int32), .int (0 : Int32), .int (0 : Int32), .ref mq33, .ref mq34, .ref mq35, .ref mq36, .ref mq37, .ref mq38, .ref mq39, .ref mq40, .int (0 : Int32), .ref mq41, .ref mq42, .ref mq43, .ref mq44, .ref mq45, .ref mq46, .ref mq47, .ref mq48, .ref mq49, .ref mq50])), (mq1, ia (cA 3) 260 (fun _ => 0)), (mq2, ia (cA 4) 12 (fun _ => 0)), (mq3, ia (cA 0) 12 (fun _ => 0)), (mq4, ia (cA 0) 144 (fun _ => 0)), (mq5, ia (cA 4) 6 (fun _ => 0)), (mq6, ia (cA 0) 6 (fun _ => 0)), (mq7, ia (cA 0) 288 (fun _ => 0)), (mq8, ia (cA 0) 48 (fun _ => 0)), (mq9, ia (cA 0) 10 (fun _ => -1)), (mq10, ia (cA 0) 2 (fun _ => 0)), (mq11, ia (cA 0) 2 (fun _ => 0)), (mq12, ia (cA 0) 2 (fun _ => 0)), (mq13, ia (cA 0) 32 (fun _ => 0)), (mq14, ia (cA 0) 32 (fun _ => 0)), (mq15, ia (cA 0) 32 (fun _ => 0)), (mq16, ia (cA 0) 32 (fun _ => 0)), (mq17, ia (cA 0) 480 (fun _ => 0)), (mq18, ia (cA 0) 480 (fun _ => 0)), (mq19, ia (cA 0) 2 (fun _ => 0)), (mq20, ia (cA 0) 16 (fun _ => 0)), (mq21, ia (cA 0) 16 (fun _ => 0)), (mq22, ia (cA 0) 16 (fun _ => 0)), (mq23, ia (cA 0) 16 (fun _ => 0)), (mq24, ia (cA 0) 240 (fun _ => 0)), (mq25, ia (cA 0) 240 (fun _ => 0)), (mq26, ia (cA 0) 240 (fun _ => 0)), (mq27, ia (cA 0) 240 (fun _ => 0)), (mq28, ia (cA 4) 240 (fun _ => 0)), (mq29, ia (cA 4) 8 (fun _ => 0)), (mq30, ia (cA 0) 8 (fun _ => 0)), (mq31, ia (cA 0) 8 (fun _ => 0)), (mq32, ia (cA 0) 96 (fun _ => 0)), (mq33, ia (cA 4) 16 (fun _ => 0)), (mq34, ia (cA 0) 16 (fun _ => 0)), (mq35, ia (cA 0) 16 (fun _ => 0)), (mq36, ia (cA 0) 192 (fun _ => 0)), (mq37, ia (cA 0) 2 (fun _ => 0)), (mq38, ia (cA 0) 2 (fun _ => 0)), (mq39, ia (cA 0) 2 (fun _ => 0)), (mq40, ia (cA 0) 2 (fun _ => 0)), (mq41, ia (cA 0) 12 (fun _ => 0)), (mq42, ia (cA 0) 12 (fun _ => 0)), (mq43, ia (cA 0) 8 (fun _ => 0)), (mq44, ia (cA 0) 8 (fun _ => 0)), (mq45, ia (cA 0) 12 (fun _ => 0)), (mq46, ia (cA 0) 64 (fun _ => 0)), (mq47, ia (cA 4) 5 (fun _ => 0)), (mq48, ia (cA 0) 30 (fun _ => 0)), (mq49, ia (cA 0) 6 (fun _ => 0)), (mq50, ia (cA 0) 9 (fun _ => 0))] := by
    rw [had0, had1, had2, had3, had4, had5, had6, had7, had8, had9, had10, had11, had12, had13, had14, had15, had16, had17, had18, had19, had20, had21, had22, had23, had24, had25, had26, had27, had28, had29, had30, had31, had32, had33, had34, had35, had36, had37, had38, had39, had40, had41, had42, had43, had44, had45, had46, had47, had48, had49, had50, had51, had52, had53, had54, had55, had56, had57, had58, had59, had60, had61, had62, had63, had64, had65, had66, had67, had68, had69, had70, had71, had72, had73, had74, had75, had76, had77, had78, had79, had80, had81, had82, had83, had84, had85, had86, had87, had88, had89, had90, had91, had92, had93, had94, had95, had96, had97, had98, had99, had100, had101, had102, had103, had104, had105, had106, had107, had108, had109, had110, had111, had112, had113, had114, had115, had116, had117, had118, had119, had120, had121, had122, had123, had124, had125, had126, had127, had128, had129, had130, had131, had132, had133, had134, had135, had136, had137, had138, had139, had140, had141, had142, had143, had144, had145, had146, had147, had148, had149, had150, had151, had152, had153, had154, had155, had156, had157, had158, had159, had160, had161, had162, had163, had164, had165, had166, had167, had168, had169, had170, had171, had172, had173, had174, had175, had176, had177, had178, had179]
    rfl
  rw [e9]; exact hW
