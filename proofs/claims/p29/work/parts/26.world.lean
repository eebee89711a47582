theorem cs9 {a a1 : Nat} {c c1 : va_E} {w w1 : va_W} (h1 : a = a1) (h2 : c = c1) (h3 : w = w1) : ((a, c) :: w) = ((a1, c1) :: w1) := by rw [h1, h2, h3]
set_option maxRecDepth 1000000 in
set_option maxHeartbeats 40000000 in
/-- the cells of a new class object and a new reference are the uniform world -/
theorem w_world {K : KT} {cA : Nat → ClassId} {H : Heap} {locs : List Loc} (kK kV : Nat → Nat) {m0 : Nat} {mq1 : Nat} {mq2 : Nat} {mq3 : Nat} {mq4 : Nat} {mq5 : Nat} {mq6 : Nat} {mq7 : Nat} {mq8 : Nat} {mq9 : Nat} {mq10 : Nat} {mq11 : Nat} {mq12 : Nat} {mq13 : Nat} {mq14 : Nat} {mq15 : Nat} {mq16 : Nat} {mq17 : Nat} {mq18 : Nat} {mq19 : Nat} {mq20 : Nat} {mq21 : Nat} {mq22 : Nat} {mq23 : Nat} {mq24 : Nat} {mq25 : Nat} {mq26 : Nat} {mq27 : Nat} {mq28 : Nat} {mq29 : Nat} {mq30 : Nat} {mq31 : Nat} {mq32 : Nat} {mq33 : Nat} {mq34 : Nat} {mq35 : Nat} {mq36 : Nat} {mq37 : Nat} {mq38 : Nat} {mq39 : Nat} {mq40 : Nat} {mq41 : Nat} {mq42 : Nat} {mq43 : Nat} {mq44 : Nat} {mq45 : Nat} {mq46 : Nat} {mq47 : Nat} {mq48 : Nat} {mq49 : Nat} {mq50 : Nat} {x0 : Nat} {xq1 : Nat} {xq2 : Nat} {xq3 : Nat} {xq4 : Nat} {xq5 : Nat} {xq6 : Nat} {xq7 : Nat} {xq8 : Nat} {xq9 : Nat} {xq10 : Nat} {xq11 : Nat} {xq12 : Nat} {xq13 : Nat} {xq14 : Nat} {xq15 : Nat} {xq16 : Nat} {xq17 : Nat} {xq18 : Nat} {xq19 : Nat} {xq20 : Nat} {xq21 : Nat} {xq22 : Nat} {xq23 : Nat} {xq24 : Nat} {xq25 : Nat} {xq26 : Nat} {xq27 : Nat} {xq28 : Nat} {xq29 : Nat} {xq30 : Nat} {xq31 : Nat} {xq32 : Nat} {xq33 : Nat} {xq34 : Nat} {xq35 : Nat} {xq36 : Nat} {xq37 : Nat} {xq38 : Nat} {xq39 : Nat} {xq40 : Nat} {xq41 : Nat} {xq42 : Nat} {xq43 : Nat} {xq44 : Nat} {xq45 : Nat} {xq46 : Nat} {xq47 : Nat} {xq48 : Nat} {xq49 : Nat} {xq50 : Nat} {xq51 : Nat} {xq52 : Nat} {xq53 : Nat} {xq54 : Nat} {xq55 : Nat} {xq56 : Nat} {xq57 : Nat} {xq58 : Nat} {xq59 : Nat} {xq60 : Nat} {xq61 : Nat} {xq62 : Nat} {xq63 : Nat} {xq64 : Nat} {xq65 : Nat} {xq66 : Nat} {xq67 : Nat} {xq68 : Nat} {xq69 : Nat} {xq70 : Nat} {xq71 : Nat} {xq72 : Nat} {xq73 : Nat} {xq74 : Nat} {xq75 : Nat} {xq76 : Nat} {xq77 : Nat} {xq78 : Nat} {xq79 : Nat} {xr1 : Nat → Nat} {xr2 : Nat → Nat} {xr3 : Nat → Nat} {xr4 : Nat → Nat} {xr5 : Nat → Nat} {xr6 : Nat → Nat} (hW : WL K [(x0, .inr (11, [.ref xq1, .ref xq3, .ref xq44, .ref xq66, .ref xq71, .ref xq78, .ref xq42, .ref xq43, .ref xq39, .ref xq25, .ref xq6, .ref xq10, .ref xq14, .ref xq18, .ref xq32, .int (0 : Int32)])), (xq1, .inr (10, [.ref xq2, .int (0 : Int32)])), (xq2, ia (cA 0) 260 (fun _ => 0)), (xq3, .inr (5, [.ref xq4, .ref xq5, .int (0 : Int32)])), (xq4, ia (cA 0) 12 (fun _ => 0)), (xq5, qa (cA 1) 12 (fun i => if i < 12 then some (xr1 i) else none)), ((xr1 0), ia (cA 0) 12 (fun _ => 0)), ((xr1 1), ia (cA 0) 12 (fun _ => 0)), ((xr1 2), ia (cA 0) 12 (fun _ => 0)), ((xr1 3), ia (cA 0) 12 (fun _ => 0)), ((xr1 4), ia (cA 0) 12 (fun _ => 0)), ((xr1 5), ia (cA 0) 12 (fun _ => 0)), ((xr1 6), ia (cA 0) 12 (fun _ => 0)), ((xr1 7), ia (cA 0) 12 (fun _ => 0)), ((xr1 8), ia (cA 0) 12 (fun _ => 0)), ((xr1 9), ia (cA 0) 12 (fun _ => 0)), ((xr1 10), ia (cA 0) 12 (fun _ => 0)), ((xr1 11), ia (cA 0) 12 (fun _ => 0)), (xq6, .inr (7, [.ref xq7, .ref xq8, .ref xq9, .int (0 : Int32), .int (0 : Int32), .int (0 : Int32), .int (0 : Int32), .int (1 : Int32)])), (xq7, ia (cA 0) 8 (fun _ => 0)), (xq8, ia (cA 0) 8 (fun _ => 0)), (xq9, qa (cA 1) 8 (fun i => if i < 8 then some (xr2 i) else none)), ((xr2 0), ia (cA 0) 12 (fun _ => 0)), ((xr2 1), ia (cA 0) 12 (fun _ => 0)), ((xr2 2), ia (cA 0) 12 (fun _ => 0)), ((xr2 3), ia (cA 0) 12 (fun _ => 0)), ((xr2 4), ia (cA 0) 12 (fun _ => 0)), ((xr2 5), ia (cA 0) 12 (fun _ => 0)), ((xr2 6), ia (cA 0) 12 (fun _ => 0)), ((xr2 7), ia (cA 0) 12 (fun _ => 0)), (xq10, .inr (7, [.ref xq11, .ref xq12, .ref xq13, .int (0 : Int32), .int (0 : Int32), .int (0 : Int32), .int (0 : Int32), .int (1 : Int32)])), (xq11, ia (cA 0) 8 (fun _ => 0)), (xq12, ia (cA 0) 8 (fun _ => 0)), (xq13, qa (cA 1) 8 (fun i => if i < 8 then some (xr3 i) else none)), ((xr3 0), ia (cA 0) 12 (fun _ => 0)), ((xr3 1), ia (cA 0) 12 (fun _ => 0)), ((xr3 2), ia (cA 0) 12 (fun _ => 0)), ((xr3 3), ia (cA 0) 12 (fun _ => 0)), ((xr3 4), ia (cA 0) 12 (fun _ => 0)), ((xr3 5), ia (cA 0) 12 (fun _ => 0)), ((xr3 6), ia (cA 0) 12 (fun _ => 0)), ((xr3 7), ia (cA 0) 12 (fun _ => 0)), (xq14, .inr (7, [.ref xq15, .ref xq16, .ref xq17, .int (0 : Int32), .int (0 : Int32), .int (0 : Int32), .int (0 : Int32), .int (1 : Int32)])), (xq15, ia (cA 0) 8 (fun _ => 0)), (xq16, ia (cA 0) 8 (fun _ => 0)), (xq17, qa (cA 1) 8 (fun i => if i < 8 then some (xr4 i) else none)), ((xr4 0), ia (cA 0) 12 (fun _ => 0)), ((xr4 1), ia (cA 0) 12 (fun _ => 0)), ((xr4 2), ia (cA 0) 12 (fun _ => 0)), ((xr4 3), ia (cA 0) 12 (fun _ => 0)), ((xr4 4), ia (cA 0) 12 (fun _ => 0)), ((xr4 5), ia (cA 0) 12 (fun _ => 0)), ((xr4 6), ia (cA 0) 12 (fun _ => 0)), ((xr4 7), ia (cA 0) 12 (fun _ => 0)), (xq18, .inr (3, [.ref xq19, .ref xq20, .ref xq21, .ref xq22, .ref xq23, .ref xq24, .int (0 : Int32), .int (0 : Int32)])), (xq19, ia (cA 0) 16 (fun _ => 0)), (xq20, ia (cA 0) 16 (fun _ => 0)), (xq21, ia (cA 0) 16 (fun _ => 0)), (xq22, ia (cA 0) 256 (fun _ => 0)), (xq23, ia (cA 0) 256 (fun _ => 0)), (xq24, ia (cA 0) 64 (fun _ => 0)), (xq25, .inr (3, [.ref xq26, .ref xq27, .ref xq28, .ref xq29, .ref xq30, .ref xq31, .int (0 : Int32), .int (0 : Int32)])), (xq26, ia (cA 0) 16 (fun _ => 0)), (xq27, ia (cA 0) 16 (fun _ => 0)), (xq28, ia (cA 0) 16 (fun _ => 0)), (xq29, ia (cA 0) 256 (fun _ => 0)), (xq30, ia (cA 0) 256 (fun _ => 0)), (xq31, ia (cA 0) 64 (fun _ => 0)), (xq32, .inr (3, [.ref xq33, .ref xq34, .ref xq35, .ref xq36, .ref xq37, .ref xq38, .int (0 : Int32), .int (0 : Int32)])), (xq33, ia (cA 0) 16 (fun _ => 0)), (xq34, ia (cA 0) 16 (fun _ => 0)), (xq35, ia (cA 0) 16 (fun _ => 0)), (xq36, ia (cA 0) 256 (fun _ => 0)), (xq37, ia (cA 0) 256 (fun _ => 0)), (xq38, ia (cA 0) 64 (fun _ => 0)), (xq39, .inr (0, [.ref xq40, .ref xq41, .int (0 : Int32)])), (xq40, ia (cA 0) 48 (fun _ => 0)), (xq41, ia (cA 0) 48 (fun _ => 0)), (xq42, .inr (1, [.ref xq2, .int (0 : Int32), .int (0 : Int32), .int (0 : Int32), .ref xq39])), (xq43, .inr (4, [.ref xq2, .int (0 : Int32), .int (0 : Int32), .int (0 : Int32), .ref xq32])), (xq44, .inr (2, [.ref xq3, .ref xq45, .ref xq64, .ref xq65, .int (0 : Int32), .int (0 : Int32), .int (0 : Int32), .int (0 : Int32), .int (0 : Int32), .ref xq18, .ref xq6])), (xq45, qa (cA 2) 6 (fun j => some ([xq46, xq49, xq52, xq55, xq58, xq61].getD j 0))), (xq46, .inr (0, [.ref xq47, .ref xq48, .int (0 : Int32)])), (xq47, ia (cA 0) 48 (fun _ => 0)), (xq48, ia (cA 0) 48 (fun _ => 0)), (xq49, .inr (0, [.ref xq50, .ref xq51, .int (0 : Int32)])), (xq50, ia (cA 0) 48 (fun _ => 0)), (xq51, ia (cA 0) 48 (fun _ => 0)), (xq52, .inr (0, [.ref xq53, .ref xq54, .int (0 : Int32)])), (xq53, ia (cA 0) 48 (fun _ => 0)), (xq54, ia (cA 0) 48 (fun _ => 0)), (xq55, .inr (0, [.ref xq56, .ref xq57, .int (0 : Int32)])), (xq56, ia (cA 0) 48 (fun _ => 0)), (xq57, ia (cA 0) 48 (fun _ => 0)), (xq58, .inr (0, [.ref xq59, .ref xq60, .int (0 : Int32)])), (xq59, ia (cA 0) 48 (fun _ => 0)), (xq60, ia (cA 0) 48 (fun _ => 0)), (xq61, .inr (0, [.ref xq62, .ref xq63, .int (0 : Int32)])), (xq62, ia (cA 0) 48 (fun _ => 0)), (xq63, ia (cA 0) 48 (fun _ => 0)), (xq64, ia (cA 0) 10 (fun _ => -1)), (xq65, ia (cA 0) 8 (fun _ => 0)), (xq66, .inr (9, [.ref xq67, .ref xq68, .ref xq69, .ref xq70, .int (0 : Int32)])), (xq67, qa (cA 1) 8 (fun i => if i < 8 then some (xr5 i) else none)), ((xr5 0), ia (cA 0) 8 (fun _ => 0)), ((xr5 1), ia (cA 0) 8 (fun _ => 0)), ((xr5 2), ia (cA 0) 8 (fun _ => 0)), ((xr5 3), ia (cA 0) 8 (fun _ => 0)), ((xr5 4), ia (cA 0) 8 (fun _ => 0)), ((xr5 5), ia (cA 0) 8 (fun _ => 0)), ((xr5 6), ia (cA 0) 8 (fun _ => 0)), ((xr5 7), ia (cA 0) 8 (fun _ => 0)), (xq68, qa (cA 1) 5 (fun i => if i < 5 then some (xr6 i) else none)), ((xr6 0), ia (cA 0) 6 (fun _ => 0)), ((xr6 1), ia (cA 0) 6 (fun _ => 0)), ((xr6 2), ia (cA 0) 6 (fun _ => 0)), ((xr6 3), ia (cA 0) 6 (fun _ => 0)), ((xr6 4), ia (cA 0) 6 (fun _ => 0)), (xq69, ia (cA 0) 6 (fun _ => 0)), (xq70, ia (cA 0) 6 (fun _ => 0)), (xq71, .inr (8, [.ref xq72, .ref xq73, .ref xq74, .ref xq75, .ref xq76, .ref xq77, .int (0 : Int32)])), (xq72, ia (cA 0) 5 (fun _ => 0)), (xq73, ja (cA 5) 341 (fun _ => 0)), (xq74, ja (cA 5) 341 (fun _ => 0)), (xq75, ia (cA 0) 341 (fun _ => 0)), (xq76, ia (cA 0) 341 (fun _ => 0)), (xq77, ia (cA 0) 341 (fun _ => 0)), (xq78, .inr (6, [.ref xq79, .int (0 : Int32), .int (0 : Int32), .int (1 : Int32)])), (xq79, ia (cA 0) 9 (fun _ => 0)), (m0, .inr (12, [.ref mq1, .int (0 : Int32), .int (1 : Int32), .int (0 : Int32), .int (0 : Int32), .int (0 : Int32), .int (0 : Int32), .int (0 : Int32), .int (0 : Int32), .int (0 : Int32), .ref mq2, .ref mq3, .ref mq4, .ref mq5, .ref mq6, .ref mq7, .ref mq8, .ref mq9, .int (0 : Int32), .int (0 : Int32), .int (0 : Int32), .ref mq10, .ref mq11, .ref mq12, .ref mq13, .ref mq14, .ref mq15, .ref mq16, .ref mq17, .ref mq18, .ref mq19, .int (0 : Int32), .int (0 : Int32), .ref mq20, .ref mq21, .ref mq22, .ref mq23, .ref mq24, .ref mq25, .int (0 : Int32), .int (0 : Int32), .ref mq26, .int (0 : Int32), .int (0 : Int32), .int (0 : Int32), .int (0 : Int32), .int (0 : Int32), .int (0 : Int32), .int (0 : Int32), .int (0 : Int32), .ref mq27, .ref mq28, .ref mq29, .ref mq30, .ref mq31, .ref mq32, .int (0 : Int32), .int (0 : Int32), .int (0 : Int32), .int (0 : Int32), .int (0 : Int32), .int (0 : Int32), .int (0 : Int32), .int (0 : Int32), .int (0 : Int32), .int (0 : Int32), .int (0 : Int32), .ref mq33, .ref mq34, .ref mq35, .ref mq36, .ref mq37, .ref mq38, .ref mq39, .ref mq40, .int (0 : Int32), .ref mq41, .ref mq42, .ref mq43, .ref mq44, .ref mq45, .ref mq46, .ref mq47, .ref mq48, .ref mq49, .ref mq50])), (mq1, ia (cA 3) 260 (fun _ => 0)), (mq2, ia (cA 4) 12 (fun _ => 0)), (mq3, ia (cA 0) 12 (fun _ => 0)), (mq4, ia (cA 0) 144 (fun _ => 0)), (mq5, ia (cA 4) 6 (fun _ => 0)), (mq6, ia (cA 0) 6 (fun _ => 0)), (mq7, ia (cA 0) 288 (fun _ => 0)), (mq8, ia (cA 0) 48 (fun _ => 0)), (mq9, ia (cA 0) 10 (fun _ => -1)), (mq10, ia (cA 0) 2 (fun _ => 0)), (mq11, ia (cA 0) 2 (fun _ => 0)), (mq12, ia (cA 0) 2 (fun _ => 0)), (mq13, ia (cA 0) 32 (fun _ => 0)), (mq14, ia (cA 0) 32 (fun _ => 0)), (mq15, ia (cA 0) 32 (fun _ => 0)), (mq16, ia (cA 0) 32 (fun _ => 0)), (mq17, ia (cA 0) 480 (fun _ => 0)), (mq18, ia (cA 0) 480 (fun _ => 0)), (mq19, ia (cA 0) 2 (fun _ => 0)), (mq20, ia (cA 0) 16 (fun _ => 0)), (mq21, ia (cA 0) 16 (fun _ => 0)), (mq22, ia (cA 0) 16 (fun _ => 0)), (mq23, ia (cA 0) 16 (fun _ => 0)), (mq24, ia (cA 0) 240 (fun _ => 0)), (mq25, ia (cA 0) 240 (fun _ => 0)), (mq26, ia (cA 0) 240 (fun _ => 0)), (mq27, ia (cA 0) 240 (fun _ => 0)), (mq28, ia (cA 4) 240 (fun _ => 0)), (mq29, ia (cA 4) 8 (fun _ => 0)), (mq30, ia (cA 0) 8 (fun _ => 0)), (mq31, ia (cA 0) 8 (fun _ => 0)), (mq32, ia (cA 0) 96 (fun _ => 0)), (mq33, ia (cA 4) 16 (fun _ => 0)), (mq34, ia (cA 0) 16 (fun _ => 0)), (mq35, ia (cA 0) 16 (fun _ => 0)), (mq36, ia (cA 0) 192 (fun _ => 0)), (mq37, ia (cA 0) 2 (fun _ => 0)), (mq38, ia (cA 0) 2 (fun _ => 0)), (mq39, ia (cA 0) 2 (fun _ => 0)), (mq40, ia (cA 0) 2 (fun _ => 0)), (mq41, ia (cA 0) 12 (fun _ => 0)), (mq42, ia (cA 0) 12 (fun _ => 0)), (mq43, ia (cA 0) 8 (fun _ => 0)), (mq44, ia (cA 0) 8 (fun _ => 0)), (mq45, ia (cA 0) 12 (fun _ => 0)), (mq46, ia (cA 0) 64 (fun _ => 0)), (mq47, ia (cA 4) 5 (fun _ => 0)), (mq48, ia (cA 0) 30 (fun _ => 0)), (mq49, ia (cA 0) 6 (fun _ => 0)), (mq50, ia (cA 0) 9 (fun _ => 0))] H locs) : ∃ ad : Nat → Nat, ad 0 = x0 ∧ ad 129 = m0 ∧ (∀ i, i < 2 → ad (400 + i) = kK i ∧ ad (410 + i) = kV i) ∧ WL K (wd NN ad (gF ad cA)) H locs := by
  obtain ⟨ad, had⟩ : ∃ ad : Nat → Nat, ad = fun i => [x0, xq1, xq2, xq3, xq4, xq5, (xr1 0), (xr1 1), (xr1 2), (xr1 3), (xr1 4), (xr1 5), (xr1 6), (xr1 7), (xr1 8), (xr1 9), (xr1 10), (xr1 11), xq6, xq7, xq8, xq9, (xr2 0), (xr2 1), (xr2 2), (xr2 3), (xr2 4), (xr2 5), (xr2 6), (xr2 7), xq10, xq11, xq12, xq13, (xr3 0), (xr3 1), (xr3 2), (xr3 3), (xr3 4), (xr3 5), (xr3 6), (xr3 7), xq14, xq15, xq16, xq17, (xr4 0), (xr4 1), (xr4 2), (xr4 3), (xr4 4), (xr4 5), (xr4 6), (xr4 7), xq18, xq19, xq20, xq21, xq22, xq23, xq24, xq25, xq26, xq27, xq28, xq29, xq30, xq31, xq32, xq33, xq34, xq35, xq36, xq37, xq38, xq39, xq40, xq41, xq42, xq43, xq44, xq45, xq64, xq65, xq46, xq47, xq48, xq49, xq50, xq51, xq52, xq53, xq54, xq55, xq56, xq57, xq58, xq59, xq60, xq61, xq62, xq63, xq66, xq67, (xr5 0), (xr5 1), (xr5 2), (xr5 3), (xr5 4), (xr5 5), (xr5 6), (xr5 7), xq68, (xr6 0), (xr6 1), (xr6 2), (xr6 3), (xr6 4), xq69, xq70, xq71, xq72, xq73, xq74, xq75, xq76, xq77, xq78, xq79, m0, mq1, mq2, mq3, mq4, mq5, mq6, mq7, mq8, mq9, mq10, mq11, mq12, mq13, mq14, mq15, mq16, mq17, mq18, mq19, mq20, mq21, mq22, mq23, mq24, mq25, mq26, mq27, mq28, mq29, mq30, mq31, mq32, mq33, mq34, mq35, mq36, mq37, mq38, mq39, mq40, mq41, mq42, mq43, mq44, mq45, mq46, mq47, mq48, mq49, mq50].getD i (if i < 405 then kK (i - 400) else kV (i - 410)) := ⟨_, rfl⟩
  have hW : WL K [(x0, .inr (11, [.ref xq1, .ref xq3, .ref xq44, .ref xq66, .ref xq71, .ref xq78, .ref xq42, .ref xq43, .ref xq39, .ref xq25, .ref xq6, .ref xq10, .ref xq14, .ref xq18, .ref xq32, .int (0 : Int32)])), (xq1, .inr (10, [.ref xq2, .int (0 : Int32)])), (xq2, ia (cA 0) 260 (fun _ => 0)), (xq3, .inr (5, [.ref xq4, .ref xq5, .int (0 : Int32)])), (xq4, ia (cA 0) 12 (fun _ => 0)), (xq5, qa (cA 1) 12 (fun i => if i < 12 then some (xr1 i) else none)), ((xr1 0), ia (cA 0) 12 (fun _ => 0)), ((xr1 1), ia (cA 0) 12 (fun _ => 0)), ((xr1 2), ia (cA 0) 12 (fun _ => 0)), ((xr1 3), ia (cA 0) 12 (fun _ => 0)), ((xr1 4), ia (cA 0) 12 (fun _ => 0)), ((xr1 5), ia (cA 0) 12 (fun _ => 0)), ((xr1 6), ia (cA 0) 12 (fun _ => 0)), ((xr1 7), ia (cA 0) 12 (fun _ => 0)), ((xr1 8), ia (cA 0) 12 (fun _ => 0)), ((xr1 9), ia (cA 0) 12 (fun _ => 0)), ((xr1 10), ia (cA 0) 12 (fun _ => 0)), ((xr1 11), ia (cA 0) 12 (fun _ => 0)), (xq6, .inr (7, [.ref xq7, .ref xq8, .ref xq9, .int (0 : Int32), .int (0 : Int32), .int (0 : Int32), .int (0 : Int32), .int (1 : Int32)])), (xq7, ia (cA 0) 8 (fun _ => 0)), (xq8, ia (cA 0) 8 (fun _ => 0)), (xq9, qa (cA 1) 8 (fun i => if i < 8 then some (xr2 i) else none)), ((xr2 0), ia (cA 0) 12 (fun _ => 0)), ((xr2 1), ia (cA 0) 12 (fun _ => 0)), ((xr2 2), ia (cA 0) 12 (fun _ => 0)), ((xr2 3), ia (cA 0) 12 (fun _ => 0)), ((xr2 4), ia (cA 0) 12 (fun _ => 0)), ((xr2 5), ia (cA 0) 12 (fun _ => 0)), ((xr2 6), ia (cA 0) 12 (fun _ => 0)), ((xr2 7), ia (cA 0) 12 (fun _ => 0)), (xq10, .inr (7, [.ref xq11, .ref xq12, .ref xq13, .int (0 : Int32), .int (0 : Int32), .int (0 : Int32), .int (0 : Int32), .int (1 : Int32)])), (xq11, ia (cA 0) 8 (fun _ => 0)), (xq12, ia (cA 0) 8 (fun _ => 0)), (xq13, qa (cA 1) 8 (fun i => if i < 8 then some (xr3 i) else none)), ((xr3 0), ia (cA 0) 12 (fun _ => 0)), ((xr3 1), ia (cA 0) 12 (fun _ => 0)), ((xr3 2), ia (cA 0) 12 (fun _ => 0)), ((xr3 3), ia (cA 0) 12 (fun _ => 0)), ((xr3 4), ia (cA 0) 12 (fun _ => 0)), ((xr3 5), ia (cA 0) 12 (fun _ => 0)), ((xr3 6), ia (cA 0) 12 (fun _ => 0)), ((xr3 7), ia (cA 0) 12 (fun _ => 0)), (xq14, .inr (7, [.ref xq15, .ref xq16, .ref xq17, .int (0 : Int32), .int (0 : Int32), .int (0 : Int32), .int (0 : Int32), .int (1 : Int32)])), (xq15, ia (cA 0) 8 (fun _ => 0)), (xq16, ia (cA 0) 8 (fun _ => 0)), (xq17, qa (cA 1) 8 (fun i => if i < 8 then some (xr4 i) else none)), ((xr4 0), ia (cA 0) 12 (fun _ => 0)), ((xr4 1), ia (cA 0) 12 (fun _ => 0)), ((xr4 2), ia (cA 0) 12 (fun _ => 0)), ((xr4 3), ia (cA 0) 12 (fun _ => 0)), ((xr4 4), ia (cA 0) 12 (fun _ => 0)), ((xr4 5), ia (cA 0) 12 (fun _ => 0)), ((xr4 6), ia (cA 0) 12 (fun _ => 0)), ((xr4 7), ia (cA 0) 12 (fun _ => 0)), (xq18, .inr (3, [.ref xq19, .ref xq20, .ref xq21, .ref xq22, .ref xq23, .ref xq24, .int (0 : Int32), .int (0 : Int32)])), (xq19, ia (cA 0) 16 (fun _ => 0)), (xq20, ia (cA 0) 16 (fun _ => 0)), (xq21, ia (cA 0) 16 (fun _ => 0)), (xq22, ia (cA 0) 256 (fun _ => 0)), (xq23, ia (cA 0) 256 (fun _ => 0)), (xq24, ia (cA 0) 64 (fun _ => 0)), (xq25, .inr (3, [.ref xq26, .ref xq27, .ref xq28, .ref xq29, .ref xq30, .ref xq31, .int (0 : Int32), .int (0 : Int32)])), (xq26, ia (cA 0) 16 (fun _ => 0)), (xq27, ia (cA 0) 16 (fun _ => 0)), (xq28, ia (cA 0) 16 (fun _ => 0)), (xq29, ia (cA 0) 256 (fun _ => 0)), (xq30, ia (cA 0) 256 (fun _ => 0)), (xq31, ia (cA 0) 64 (fun _ => 0)), (xq32, .inr (3, [.ref xq33, .ref xq34, .ref xq35, .ref xq36, .ref xq37, .ref xq38, .int (0 : Int32), .int (0 : Int32)])), (xq33, ia (cA 0) 16 (fun _ => 0)), (xq34, ia (cA 0) 16 (fun _ => 0)), (xq35, ia (cA 0) 16 (fun _ => 0)), (xq36, ia (cA 0) 256 (fun _ => 0)), (xq37, ia (cA 0) 256 (fun _ => 0)), (xq38, ia (cA 0) 64 (fun _ => 0)), (xq39, .inr (0, [.ref xq40, .ref xq41, .int (0 : Int32)])), (xq40, ia (cA 0) 48 (fun _ => 0)), (xq41, ia (cA 0) 48 (fun _ => 0)), (xq42, .inr (1, [.ref xq2, .int (0 : Int32), .int (0 : Int32), .int (0 : Int32), .ref xq39])), (xq43, .inr (4, [.ref xq2, .int (0 : Int32), .int (0 : Int32), .int (0 : Int32), .ref xq32])), (xq44, .inr (2, [.ref xq3, .ref xq45, .ref xq64, .ref xq65, .int (0 : Int32), .int (0 : Int32), .int (0 : Int32), .int (0 : Int32), .int (0 : Int32), .ref xq18, .ref xq6])), (xq45, qa (cA 2) 6 (fun j => some ([xq46, xq49, xq52, xq55, xq58, xq61].getD j 0))), (xq64, ia (cA 0) 10 (fun _ => -1)), (xq65, ia (cA 0) 8 (fun _ => 0)), (xq46, .inr (0, [.ref xq47, .ref xq48, .int (0 : Int32)])), (xq47, ia (cA 0) 48 (fun _ => 0)), (xq48, ia (cA 0) 48 (fun _ => 0)), (xq49, .inr (0, [.ref xq50, .ref xq51, .int (0 : Int32)])), (xq50, ia (cA 0) 48 (fun _ => 0)), (xq51, ia (cA 0) 48 (fun _ => 0)), (xq52, .inr (0, [.ref xq53, .ref xq54, .int (0 : Int32)])), (xq53, ia (cA 0) 48 (fun _ => 0)), (xq54, ia (cA 0) 48 (fun _ => 0)), (xq55, .inr (0, [.ref xq56, .ref xq57, .int (0 : Int32)])), (xq56, ia (cA 0) 48 (fun _ => 0)), (xq57, ia (cA 0) 48 (fun _ => 0)), (xq58, .inr (0, [.ref xq59, .ref xq60, .int (0 : Int32)])), (xq59, ia (cA 0) 48 (fun _ => 0)), (xq60, ia (cA 0) 48 (fun _ => 0)), (xq61, .inr (0, [.ref xq62, .ref xq63, .int (0 : Int32)])), (xq62, ia (cA 0) 48 (fun _ => 0)), (xq63, ia (cA 0) 48 (fun _ => 0)), (xq66, .inr (9, [.ref xq67, .ref xq68, .ref xq69, .ref xq70, .int (0 : Int32)])), (xq67, qa (cA 1) 8 (fun i => if i < 8 then some (xr5 i) else none)), ((xr5 0), ia (cA 0) 8 (fun _ => 0)), ((xr5 1), ia (cA 0) 8 (fun _ => 0)), ((xr5 2), ia (cA 0) 8 (fun _ => 0)), ((xr5 3), ia (cA 0) 8 (fun _ => 0)), ((xr5 4), ia (cA 0) 8 (fun _ => 0)), ((xr5 5), ia (cA 0) 8 (fun _ => 0)), ((xr5 6), ia (cA 0) 8 (fun _ => 0)), ((xr5 7), ia (cA 0) 8 (fun _ => 0)), (xq68, qa (cA 1) 5 (fun i => if i < 5 then some (xr6 i) else none)), ((xr6 0), ia (cA 0) 6 (fun _ => 0)), ((xr6 1), ia (cA 0) 6 (fun _ => 0)), ((xr6 2), ia (cA 0) 6 (fun _ => 0)), ((xr6 3), ia (cA 0) 6 (fun _ => 0)), ((xr6 4), ia (cA 0) 6 (fun _ => 0)), (xq69, ia (cA 0) 6 (fun _ => 0)), (xq70, ia (cA 0) 6 (fun _ => 0)), (xq71, .inr (8, [.ref xq72, .ref xq73, .ref xq74, .ref xq75, .ref xq76, .ref xq77, .int (0 : Int32)])), (xq72, ia (cA 0) 5 (fun _ => 0)), (xq73, ja (cA 5) 341 (fun _ => 0)), (xq74, ja (cA 5) 341 (fun _ => 0)), (xq75, ia (cA 0) 341 (fun _ => 0)), (xq76, ia (cA 0) 341 (fun _ => 0)), (xq77, ia (cA 0) 341 (fun _ => 0)), (xq78, .inr (6, [.ref xq79, .int (0 : Int32), .int (0 : Int32), .int (1 : Int32)])), (xq79, ia (cA 0) 9 (fun _ => 0)), (m0, .inr (12, [.ref mq1, .int (0 : Int32), .int (1 : Int32), .int (0 : Int32), .int (0 : Int32), .int (0 : Int32), .int (0 : Int32), .int (0 : Int32), .int (0 : Int32), .int (0 : Int32), .ref mq2, .ref mq3, .ref mq4, .ref mq5, .ref mq6, .ref mq7, .ref mq8, .ref mq9, .int (0 : Int32), .int (0 : Int32), .int (0 : Int32), .ref mq10, .ref mq11, .ref mq12, .ref mq13, .ref mq14, .ref mq15, .ref mq16, .ref mq17, .ref mq18, .ref mq19, .int (0 : Int32), .int (0 : Int32), .ref mq20, .ref mq21, .ref mq22, .ref mq23, .ref mq24, .ref mq25, .int (0 : Int32), .int (0 : Int32), .ref mq26, .int (0 : Int32), .int (0 : Int32), .int (0 : Int32), .int (0 : Int32), .int (0 : Int32), .int (0 : Int32), .int (0 : Int32), .int (0 : Int32), .ref mq27, .ref mq28, .ref mq29, .ref mq30, .ref mq31, .ref mq32, .int (0 : Int32), .int (0 : Int32), .int (0 : Int32), .int (0 : Int32), .int (0 : Int32), .int (0 : Int32), .int (0 : Int32), .int (0 : Int32), .int (0 : Int32), .int (0 : Int32), .int (0 : Int32), .ref mq33, .ref mq34, .ref mq35, .ref mq36, .ref mq37, .ref mq38, .ref mq39, .ref mq40, .int (0 : Int32), .ref mq41, .ref mq42, .ref mq43, .ref mq44, .ref mq45, .ref mq46, .ref mq47, .ref mq48, .ref mq49, .ref mq50])), (mq1, ia (cA 3) 260 (fun _ => 0)), (mq2, ia (cA 4) 12 (fun _ => 0)), (mq3, ia (cA 0) 12 (fun _ => 0)), (mq4, ia (cA 0) 144 (fun _ => 0)), (mq5, ia (cA 4) 6 (fun _ => 0)), (mq6, ia (cA 0) 6 (fun _ => 0)), (mq7, ia (cA 0) 288 (fun _ => 0)), (mq8, ia (cA 0) 48 (fun _ => 0)), (mq9, ia (cA 0) 10 (fun _ => -1)), (mq10, ia (cA 0) 2 (fun _ => 0)), (mq11, ia (cA 0) 2 (fun _ => 0)), (mq12, ia (cA 0) 2 (fun _ => 0)), (mq13, ia (cA 0) 32 (fun _ => 0)), (mq14, ia (cA 0) 32 (fun _ => 0)), (mq15, ia (cA 0) 32 (fun _ => 0)), (mq16, ia (cA 0) 32 (fun _ => 0)), (mq17, ia (cA 0) 480 (fun _ => 0)), (mq18, ia (cA 0) 480 (fun _ => 0)), (mq19, ia (cA 0) 2 (fun _ => 0)), (mq20, ia (cA 0) 16 (fun _ => 0)), (mq21, ia (cA 0) 16 (fun _ => 0)), (mq22, ia (cA 0) 16 (fun _ => 0)), (mq23, ia (cA 0) 16 (fun _ => 0)), (mq24, ia (cA 0) 240 (fun _ => 0)), (mq25, ia (cA 0) 240 (fun _ => 0)), (mq26, ia (cA 0) 240 (fun _ => 0)), (mq27, ia (cA 0) 240 (fun _ => 0)), (mq28, ia (cA 4) 240 (fun _ => 0)), (mq29, ia (cA 4) 8 (fun _ => 0)), (mq30, ia (cA 0) 8 (fun _ => 0)), (mq31, ia (cA 0) 8 (fun _ => 0)), (mq32, ia (cA 0) 96 (fun _ => 0)), (mq33, ia (cA 4) 16 (fun _ => 0)), (mq34, ia (cA 0) 16 (fun _ => 0)), (mq35, ia (cA 0) 16 (fun _ => 0)), (mq36, ia (cA 0) 192 (fun _ => 0)), (mq37, ia (cA 0) 2 (fun _ => 0)), (mq38, ia (cA 0) 2 (fun _ => 0)), (mq39, ia (cA 0) 2 (fun _ => 0)), (mq40, ia (cA 0) 2 (fun _ => 0)), (mq41, ia (cA 0) 12 (fun _ => 0)), (mq42, ia (cA 0) 12 (fun _ => 0)), (mq43, ia (cA 0) 8 (fun _ => 0)), (mq44, ia (cA 0) 8 (fun _ => 0)), (mq45, ia (cA 0) 12 (fun _ => 0)), (mq46, ia (cA 0) 64 (fun _ => 0)), (mq47, ia (cA 4) 5 (fun _ => 0)), (mq48, ia (cA 0) 30 (fun _ => 0)), (mq49, ia (cA 0) 6 (fun _ => 0)), (mq50, ia (cA 0) 9 (fun _ => 0))] H locs := l_perm hW [0, 1, 2, 3, 4, 5, 6, 7, 8, 9, 10, 11, 12, 13, 14, 15, 16, 17, 18, 19, 20, 21, 22, 23, 24, 25, 26, 27, 28, 29, 30, 31, 32, 33, 34, 35, 36, 37, 38, 39, 40, 41, 42, 43, 44, 45, 46, 47, 48, 49, 50, 51, 52, 53, 54, 55, 56, 57, 58, 59, 60, 61, 62, 63, 64, 65, 66, 67, 68, 69, 70, 71, 72, 73, 74, 75, 76, 77, 78, 79, 80, 81, 100, 101, 82, 83, 84, 85, 86, 87, 88, 89, 90, 91, 92, 93, 94, 95, 96, 97, 98, 99, 102, 103, 104, 105, 106, 107, 108, 109, 110, 111, 112, 113, 114, 115, 116, 117, 118, 119, 120, 121, 122, 123, 124, 125, 126, 127, 128, 129, 130, 131, 132, 133, 134, 135, 136, 137, 138, 139, 140, 141, 142, 143, 144, 145, 146, 147, 148, 149, 150, 151, 152, 153, 154, 155, 156, 157, 158, 159, 160, 161, 162, 163, 164, 165, 166, 167, 168, 169, 170, 171, 172, 173, 174, 175, 176, 177, 178, 179] rfl rfl (by decide +kernel)
  have hW := l_cgQ (q0 := 5) (fun j => if j < 12 then some (ad (6 + 1 * j)) else none) hW rfl (fun j hj => by
      rw [had]
      match j, hj with
      | 0, _ => rfl
      | 1, _ => rfl
      | 2, _ => rfl
      | 3, _ => rfl
      | 4, _ => rfl
      | 5, _ => rfl
      | 6, _ => rfl
      | 7, _ => rfl
      | 8, _ => rfl
      | 9, _ => rfl
      | 10, _ => rfl
      | 11, _ => rfl
      | n + 12, h => exact absurd h (by omega))
  have hW := l_cgQ (q0 := 21) (fun j => if j < 8 then some (ad (22 + 1 * j)) else none) hW rfl (fun j hj => by
      rw [had]
      match j, hj with
      | 0, _ => rfl
      | 1, _ => rfl
      | 2, _ => rfl
      | 3, _ => rfl
      | 4, _ => rfl
      | 5, _ => rfl
      | 6, _ => rfl
      | 7, _ => rfl
      | n + 8, h => exact absurd h (by omega))
  have hW := l_cgQ (q0 := 33) (fun j => if j < 8 then some (ad (34 + 1 * j)) else none) hW rfl (fun j hj => by
      rw [had]
      match j, hj with
      | 0, _ => rfl
      | 1, _ => rfl
      | 2, _ => rfl
      | 3, _ => rfl
      | 4, _ => rfl
      | 5, _ => rfl
      | 6, _ => rfl
      | 7, _ => rfl
      | n + 8, h => exact absurd h (by omega))
  have hW := l_cgQ (q0 := 45) (fun j => if j < 8 then some (ad (46 + 1 * j)) else none) hW rfl (fun j hj => by
      rw [had]
      match j, hj with
      | 0, _ => rfl
      | 1, _ => rfl
      | 2, _ => rfl
      | 3, _ => rfl
      | 4, _ => rfl
      | 5, _ => rfl
      | 6, _ => rfl
      | 7, _ => rfl
      | n + 8, h => exact absurd h (by omega))
  have hW := l_cgQ (q0 := 81) (fun j => if j < 6 then some (ad (84 + 3 * j)) else none) hW rfl (fun j hj => by
      rw [had]
      match j, hj with
      | 0, _ => rfl
      | 1, _ => rfl
      | 2, _ => rfl
      | 3, _ => rfl
      | 4, _ => rfl
      | 5, _ => rfl
      | n + 6, h => exact absurd h (by omega))
  have hW := l_cgQ (q0 := 103) (fun j => if j < 8 then some (ad (104 + 1 * j)) else none) hW rfl (fun j hj => by
      rw [had]
      match j, hj with
      | 0, _ => rfl
      | 1, _ => rfl
      | 2, _ => rfl
      | 3, _ => rfl
      | 4, _ => rfl
      | 5, _ => rfl
      | 6, _ => rfl
      | 7, _ => rfl
      | n + 8, h => exact absurd h (by omega))
  have hW := l_cgQ (q0 := 112) (fun j => if j < 5 then some (ad (113 + 1 * j)) else none) hW rfl (fun j hj => by
      rw [had]
      match j, hj with
      | 0, _ => rfl
      | 1, _ => rfl
      | 2, _ => rfl
      | 3, _ => rfl
      | 4, _ => rfl
      | n + 5, h => exact absurd h (by omega))
  have hW : WL K [(x0, .inr (11, [.ref xq1, .ref xq3, .ref xq44, .ref xq66, .ref xq71, .ref xq78, .ref xq42, .ref xq43, .ref xq39, .ref xq25, .ref xq6, .ref xq10, .ref xq14, .ref xq18, .ref xq32, .int (0 : Int32)])), (xq1, .inr (10, [.ref xq2, .int (0 : Int32)])), (xq2, ia (cA 0) 260 (fun _ => 0)), (xq3, .inr (5, [.ref xq4, .ref xq5, .int (0 : Int32)])), (xq4, ia (cA 0) 12 (fun _ => 0)), (xq5, qa (cA 1) 12 (fun j => if j < 12 then some (ad (6 + 1 * j)) else none)), ((xr1 0), ia (cA 0) 12 (fun _ => 0)), ((xr1 1), ia (cA 0) 12 (fun _ => 0)), ((xr1 2), ia (cA 0) 12 (fun _ => 0)), ((xr1 3), ia (cA 0) 12 (fun _ => 0)), ((xr1 4), ia (cA 0) 12 (fun _ => 0)), ((xr1 5), ia (cA 0) 12 (fun _ => 0)), ((xr1 6), ia (cA 0) 12 (fun _ => 0)), ((xr1 7), ia (cA 0) 12 (fun _ => 0)), ((xr1 8), ia (cA 0) 12 (fun _ => 0)), ((xr1 9), ia (cA 0) 12 (fun _ => 0)), ((xr1 10), ia (cA 0) 12 (fun _ => 0)), ((xr1 11), ia (cA 0) 12 (fun _ => 0)), (xq6, .inr (7, [.ref xq7, .ref xq8, .ref xq9, .int (0 : Int32), .int (0 : Int32), .int (0 : Int32), .int (0 : Int32), .int (1 : Int32)])), (xq7, ia (cA 0) 8 (fun _ => 0)), (xq8, ia (cA 0) 8 (fun _ => 0)), (xq9, qa (cA 1) 8 (fun j => if j < 8 then some (ad (22 + 1 * j)) else none)), ((xr2 0), ia (cA 0) 12 (fun _ => 0)), ((xr2 1), ia (cA 0) 12 (fun _ => 0)), ((xr2 2), ia (cA 0) 12 (fun _ => 0)), ((xr2 3), ia (cA 0) 12 (fun _ => 0)), ((xr2 4), ia (cA 0) 12 (fun _ => 0)), ((xr2 5), ia (cA 0) 12 (fun _ => 0)), ((xr2 6), ia (cA 0) 12 (fun _ => 0)), ((xr2 7), ia (cA 0) 12 (fun _ => 0)), (xq10, .inr (7, [.ref xq11, .ref xq12, .ref xq13, .int (0 : Int32), .int (0 : Int32), .int (0 : Int32), .int (0 : Int32), .int (1 : Int32)])), (xq11, ia (cA 0) 8 (fun _ => 0)), (xq12, ia (cA 0) 8 (fun _ => 0)), (xq13, qa (cA 1) 8 (fun j => if j < 8 then some (ad (34 + 1 * j)) else none)), ((xr3 0), ia (cA 0) 12 (fun _ => 0)), ((xr3 1), ia (cA 0) 12 (fun _ => 0)), ((xr3 2), ia (cA 0) 12 (fun _ => 0)), ((xr3 3), ia (cA 0) 12 (fun _ => 0)), ((xr3 4), ia (cA 0) 12 (fun _ => 0)), ((xr3 5), ia (cA 0) 12 (fun _ => 0)), ((xr3 6), ia (cA 0) 12 (fun _ => 0)), ((xr3 7), ia (cA 0) 12 (fun _ => 0)), (xq14, .inr (7, [.ref xq15, .ref xq16, .ref xq17, .int (0 : Int32), .int (0 : Int32), .int (0 : Int32), .int (0 : Int32), .int (1 : Int32)])), (xq15, ia (cA 0) 8 (fun _ => 0)), (xq16, ia (cA 0) 8 (fun _ => 0)), (xq17, qa (cA 1) 8 (fun j => if j < 8 then some (ad (46 + 1 * j)) else none)), ((xr4 0), ia (cA 0) 12 (fun _ => 0)), ((xr4 1), ia (cA 0) 12 (fun _ => 0)), ((xr4 2), ia (cA 0) 12 (fun _ => 0)), ((xr4 3), ia (cA 0) 12 (fun _ => 0)), ((xr4 4), ia (cA 0) 12 (fun _ => 0)), ((xr4 5), ia (cA 0) 12 (fun _ => 0)), ((xr4 6), ia (cA 0) 12 (fun _ => 0)), ((xr4 7), ia (cA 0) 12 (fun _ => 0)), (xq18, .inr (3, [.ref xq19, .ref xq20, .ref xq21, .ref xq22, .ref xq23, .ref xq24, .int (0 : Int32), .int (0 : Int32)])), (xq19, ia (cA 0) 16 (fun _ => 0)), (xq20, ia (cA 0) 16 (fun _ => 0)), (xq21, ia (cA 0) 16 (fun _ => 0)), (xq22, ia (cA 0) 256 (fun _ => 0)), (xq23, ia (cA 0) 256 (fun _ => 0)), (xq24, ia (cA 0) 64 (fun _ => 0)), (xq25, .inr (3, [.ref xq26, .ref xq27, .ref xq28, .ref xq29, .ref xq30, .ref xq31, .int (0 : Int32), .int (0 : Int32)])), (xq26, ia (cA 0) 16 (fun _ => 0)), (xq27, ia (cA 0) 16 (fun _ => 0)), (xq28, ia (cA 0) 16 (fun _ => 0)), (xq29, ia (cA 0) 256 (fun _ => 0)), (xq30, ia (cA 0) 256 (fun _ => 0)), (xq31, ia (cA 0) 64 (fun _ => 0)), (xq32, .inr (3, [.ref xq33, .ref xq34, .ref xq35, .ref xq36, .ref xq37, .ref xq38, .int (0 : Int32), .int (0 : Int32)])), (xq33, ia (cA 0) 16 (fun _ => 0)), (xq34, ia (cA 0) 16 (fun _ => 0)), (xq35, ia (cA 0) 16 (fun _ => 0)), (xq36, ia (cA 0) 256 (fun _ => 0)), (xq37, ia (cA 0) 256 (fun _ => 0)), (xq38, ia (cA 0) 64 (fun _ => 0)), (xq39, .inr (0, [.ref xq40, .ref xq41, .int (0 : Int32)])), (xq40, ia (cA 0) 48 (fun _ => 0)), (xq41, ia (cA 0) 48 (fun _ => 0)), (xq42, .inr (1, [.ref xq2, .int (0 : Int32), .int (0 : Int32), .int (0 : Int32), .ref xq39])), (xq43, .inr (4, [.ref xq2, .int (0 : Int32), .int (0 : Int32), .int (0 : Int32), .ref xq32])), (xq44, .inr (2, [.ref xq3, .ref xq45, .ref xq64, .ref xq65, .int (0 : Int32), .int (0 : Int32), .int (0 : Int32), .int (0 : Int32), .int (0 : Int32), .ref xq18, .ref xq6])), (xq45, qa (cA 2) 6 (fun j => if j < 6 then some (ad (84 + 3 * j)) else none)), (xq64, ia (cA 0) 10 (fun _ => -1)), (xq65, ia (cA 0) 8 (fun _ => 0)), (xq46, .inr (0, [.ref xq47, .ref xq48, .int (0 : Int32)])), (xq47, ia (cA 0) 48 (fun _ => 0)), (xq48, ia (cA 0) 48 (fun _ => 0)), (xq49, .inr (0, [.ref xq50, .ref xq51, .int (0 : Int32)])), (xq50, ia (cA 0) 48 (fun _ => 0)), (xq51, ia (cA 0) 48 (fun _ => 0)), (xq52, .inr (0, [.ref xq53, .ref xq54, .int (0 : Int32)])), (xq53, ia (cA 0) 48 (fun _ => 0)), (xq54, ia (cA 0) 48 (fun _ => 0)), (xq55, .inr (0, [.ref xq56, .ref xq57, .int (0 : Int32)])), (xq56, ia (cA 0) 48 (fun _ => 0)), (xq57, ia (cA 0) 48 (fun _ => 0)), (xq58, .inr (0, [.ref xq59, .ref xq60, .int (0 : Int32)])), (xq59, ia (cA 0) 48 (fun _ => 0)), (xq60, ia (cA 0) 48 (fun _ => 0)), (xq61, .inr (0, [.ref xq62, .ref xq63, .int (0 : Int32)])), (xq62, ia (cA 0) 48 (fun _ => 0)), (xq63, ia (cA 0) 48 (fun _ => 0)), (xq66, .inr (9, [.ref xq67, .ref xq68, .ref xq69, .ref xq70, .int (0 : Int32)])), (xq67, qa (cA 1) 8 (fun j => if j < 8 then some (ad (104 + 1 * j)) else none)), ((xr5 0), ia (cA 0) 8 (fun _ => 0)), ((xr5 1), ia (cA 0) 8 (fun _ => 0)), ((xr5 2), ia (cA 0) 8 (fun _ => 0)), ((xr5 3), ia (cA 0) 8 (fun _ => 0)), ((xr5 4), ia (cA 0) 8 (fun _ => 0)), ((xr5 5), ia (cA 0) 8 (fun _ => 0)), ((xr5 6), ia (cA 0) 8 (fun _ => 0)), ((xr5 7), ia (cA 0) 8 (fun _ => 0)), (xq68, qa (cA 1) 5 (fun j => if j < 5 then some (ad (113 + 1 * j)) else none)), ((xr6 0), ia (cA 0) 6 (fun _ => 0)), ((xr6 1), ia (cA 0) 6 (fun _ => 0)), ((xr6 2), ia (cA 0) 6 (fun _ => 0)), ((xr6 3), ia (cA 0) 6 (fun _ => 0)), ((xr6 4), ia (cA 0) 6 (fun _ => 0)), (xq69, ia (cA 0) 6 (fun _ => 0)), (xq70, ia (cA 0) 6 (fun _ => 0)), (xq71, .inr (8, [.ref xq72, .ref xq73, .ref xq74, .ref xq75, .ref xq76, .ref xq77, .int (0 : Int32)])), (xq72, ia (cA 0) 5 (fun _ => 0)), (xq73, ja (cA 5) 341 (fun _ => 0)), (xq74, ja (cA 5) 341 (fun _ => 0)), (xq75, ia (cA 0) 341 (fun _ => 0)), (xq76, ia (cA 0) 341 (fun _ => 0)), (xq77, ia (cA 0) 341 (fun _ => 0)), (xq78, .inr (6, [.ref xq79, .int (0 : Int32), .int (0 : Int32), .int (1 : Int32)])), (xq79, ia (cA 0) 9 (fun _ => 0)), (m0, .inr (12, [.ref mq1, .int (0 : Int32), .int (1 : Int32), .int (0 : Int32), .int (0 : Int32), .int (0 : Int32), .int (0 : Int32), .int (0 : Int32), .int (0 : Int32), .int (0 : Int32), .ref mq2, .ref mq3, .ref mq4, .ref mq5, .ref mq6, .ref mq7, .ref mq8, .ref mq9, .int (0 : Int32), .int (0 : Int32), .int (0 : Int32), .ref mq10, .ref mq11, .ref mq12, .ref mq13, .ref mq14, .ref mq15, .ref mq16, .ref mq17, .ref mq18, .ref mq19, .int (0 : Int32), .int (0 : Int32), .ref mq20, .ref mq21, .ref mq22, .ref mq23, .ref mq24, .ref mq25, .int (0 : Int32), .int (0 : Int32), .ref mq26, .int (0 : Int32), .int (0 : Int32), .int (0 : Int32), .int (0 : Int32), .int (0 : Int32), .int (0 : Int32), .int (0 : Int32), .int (0 : Int32), .ref mq27, .ref mq28, .ref mq29, .ref mq30, .ref mq31, .ref mq32, .int (0 : Int32), .int (0 : Int32), .int (0 : Int32), .int (0 : Int32), .int (0 : Int32), .int (0 : Int32), .int (0 : Int32), .int (0 : Int32), .int (0 : Int32), .int (0 : Int32), .int (0 : Int32), .ref mq33, .ref mq34, .ref mq35, .ref mq36, .ref mq37, .ref mq38, .ref mq39, .ref mq40, .int (0 : Int32), .ref mq41, .ref mq42, .ref mq43, .ref mq44, .ref mq45, .ref mq46, .ref mq47, .ref mq48, .ref mq49, .ref mq50])), (mq1, ia (cA 3) 260 (fun _ => 0)), (mq2, ia (cA 4) 12 (fun _ => 0)), (mq3, ia (cA 0) 12 (fun _ => 0)), (mq4, ia (cA 0) 144 (fun _ => 0)), (mq5, ia (cA 4) 6 (fun _ => 0)), (mq6, ia (cA 0) 6 (fun _ => 0)), (mq7, ia (cA 0) 288 (fun _ => 0)), (mq8, ia (cA 0) 48 (fun _ => 0)), (mq9, ia (cA 0) 10 (fun _ => -1)), (mq10, ia (cA 0) 2 (fun _ => 0)), (mq11, ia (cA 0) 2 (fun _ => 0)), (mq12, ia (cA 0) 2 (fun _ => 0)), (mq13, ia (cA 0) 32 (fun _ => 0)), (mq14, ia (cA 0) 32 (fun _ => 0)), (mq15, ia (cA 0) 32 (fun _ => 0)), (mq16, ia (cA 0) 32 (fun _ => 0)), (mq17, ia (cA 0) 480 (fun _ => 0)), (mq18, ia (cA 0) 480 (fun _ => 0)), (mq19, ia (cA 0) 2 (fun _ => 0)), (mq20, ia (cA 0) 16 (fun _ => 0)), (mq21, ia (cA 0) 16 (fun _ => 0)), (mq22, ia (cA 0) 16 (fun _ => 0)), (mq23, ia (cA 0) 16 (fun _ => 0)), (mq24, ia (cA 0) 240 (fun _ => 0)), (mq25, ia (cA 0) 240 (fun _ => 0)), (mq26, ia (cA 0) 240 (fun _ => 0)), (mq27, ia (cA 0) 240 (fun _ => 0)), (mq28, ia (cA 4) 240 (fun _ => 0)), (mq29, ia (cA 4) 8 (fun _ => 0)), (mq30, ia (cA 0) 8 (fun _ => 0)), (mq31, ia (cA 0) 8 (fun _ => 0)), (mq32, ia (cA 0) 96 (fun _ => 0)), (mq33, ia (cA 4) 16 (fun _ => 0)), (mq34, ia (cA 0) 16 (fun _ => 0)), (mq35, ia (cA 0) 16 (fun _ => 0)), (mq36, ia (cA 0) 192 (fun _ => 0)), (mq37, ia (cA 0) 2 (fun _ => 0)), (mq38, ia (cA 0) 2 (fun _ => 0)), (mq39, ia (cA 0) 2 (fun _ => 0)), (mq40, ia (cA 0) 2 (fun _ => 0)), (mq41, ia (cA 0) 12 (fun _ => 0)), (mq42, ia (cA 0) 12 (fun _ => 0)), (mq43, ia (cA 0) 8 (fun _ => 0)), (mq44, ia (cA 0) 8 (fun _ => 0)), (mq45, ia (cA 0) 12 (fun _ => 0)), (mq46, ia (cA 0) 64 (fun _ => 0)), (mq47, ia (cA 4) 5 (fun _ => 0)), (mq48, ia (cA 0) 30 (fun _ => 0)), (mq49, ia (cA 0) 6 (fun _ => 0)), (mq50, ia (cA 0) 9 (fun _ => 0))] H locs := hW
  have had0 : x0 = ad 0 := by rw [had]; rfl
  have had1 : xq1 = ad 1 := by rw [had]; rfl
  have had2 : xq2 = ad 2 := by rw [had]; rfl
  have had3 : xq3 = ad 3 := by rw [had]; rfl
  have had4 : xq4 = ad 4 := by rw [had]; rfl
  have had5 : xq5 = ad 5 := by rw [had]; rfl
  have had6 : (xr1 0) = ad 6 := by rw [had]; rfl
  have had7 : (xr1 1) = ad 7 := by rw [had]; rfl
  have had8 : (xr1 2) = ad 8 := by rw [had]; rfl
  have had9 : (xr1 3) = ad 9 := by rw [had]; rfl
  have had10 : (xr1 4) = ad 10 := by rw [had]; rfl
  have had11 : (xr1 5) = ad 11 := by rw [had]; rfl
  have had12 : (xr1 6) = ad 12 := by rw [had]; rfl
  have had13 : (xr1 7) = ad 13 := by rw [had]; rfl
  have had14 : (xr1 8) = ad 14 := by rw [had]; rfl
  have had15 : (xr1 9) = ad 15 := by rw [had]; rfl
  have had16 : (xr1 10) = ad 16 := by rw [had]; rfl
  have had17 : (xr1 11) = ad 17 := by rw [had]; rfl
  have had18 : xq6 = ad 18 := by rw [had]; rfl
  have had19 : xq7 = ad 19 := by rw [had]; rfl
  have had20 : xq8 = ad 20 := by rw [had]; rfl
  have had21 : xq9 = ad 21 := by rw [had]; rfl
  have had22 : (xr2 0) = ad 22 := by rw [had]; rfl
  have had23 : (xr2 1) = ad 23 := by rw [had]; rfl
  have had24 : (xr2 2) = ad 24 := by rw [had]; rfl
  have had25 : (xr2 3) = ad 25 := by rw [had]; rfl
  have had26 : (xr2 4) = ad 26 := by rw [had]; rfl
  have had27 : (xr2 5) = ad 27 := by rw [had]; rfl
  have had28 : (xr2 6) = ad 28 := by rw [had]; rfl
  have had29 : (xr2 7) = ad 29 := by rw [had]; rfl
  have had30 : xq10 = ad 30 := by rw [had]; rfl
  have had31 : xq11 = ad 31 := by rw [had]; rfl
  have had32 : xq12 = ad 32 := by rw [had]; rfl
  have had33 : xq13 = ad 33 := by rw [had]; rfl
  have had34 : (xr3 0) = ad 34 := by rw [had]; rfl
  have had35 : (xr3 1) = ad 35 := by rw [had]; rfl
  have had36 : (xr3 2) = ad 36 := by rw [had]; rfl
  have had37 : (xr3 3) = ad 37 := by rw [had]; rfl
  have had38 : (xr3 4) = ad 38 := by rw [had]; rfl
  have had39 : (xr3 5) = ad 39 := by rw [had]; rfl
  have had40 : (xr3 6) = ad 40 := by rw [had]; rfl
  have had41 : (xr3 7) = ad 41 := by rw [had]; rfl
  have had42 : xq14 = ad 42 := by rw [had]; rfl
  have had43 : xq15 = ad 43 := by rw [had]; rfl
  have had44 : xq16 = ad 44 := by rw [had]; rfl
  have had45 : xq17 = ad 45 := by rw [had]; rfl
  have had46 : (xr4 0) = ad 46 := by rw [had]; rfl
  have had47 : (xr4 1) = ad 47 := by rw [had]; rfl
  have had48 : (xr4 2) = ad 48 := by rw [had]; rfl
  have had49 : (xr4 3) = ad 49 := by rw [had]; rfl
  have had50 : (xr4 4) = ad 50 := by rw [had]; rfl
  have had51 : (xr4 5) = ad 51 := by rw [had]; rfl
  have had52 : (xr4 6) = ad 52 := by rw [had]; rfl
  have had53 : (xr4 7) = ad 53 := by rw [had]; rfl
  have had54 : xq18 = ad 54 := by rw [had]; rfl
  have had55 : xq19 = ad 55 := by rw [had]; rfl
  have had56 : xq20 = ad 56 := by rw [had]; rfl
  have had57 : xq21 = ad 57 := by rw [had]; rfl
  have had58 : xq22 = ad 58 := by rw [had]; rfl
  have had59 : xq23 = ad 59 := by rw [had]; rfl
  have had60 : xq24 = ad 60 := by rw [had]; rfl
  have had61 : xq25 = ad 61 := by rw [had]; rfl
  have had62 : xq26 = ad 62 := by rw [had]; rfl
  have had63 : xq27 = ad 63 := by rw [had]; rfl
  have had64 : xq28 = ad 64 := by rw [had]; rfl
  have had65 : xq29 = ad 65 := by rw [had]; rfl
  have had66 : xq30 = ad 66 := by rw [had]; rfl
  have had67 : xq31 = ad 67 := by rw [had]; rfl
  have had68 : xq32 = ad 68 := by rw [had]; rfl
  have had69 : xq33 = ad 69 := by rw [had]; rfl
  have had70 : xq34 = ad 70 := by rw [had]; rfl
  have had71 : xq35 = ad 71 := by rw [had]; rfl
  have had72 : xq36 = ad 72 := by rw [had]; rfl
  have had73 : xq37 = ad 73 := by rw [had]; rfl
  have had74 : xq38 = ad 74 := by rw [had]; rfl
  have had75 : xq39 = ad 75 := by rw [had]; rfl
  have had76 : xq40 = ad 76 := by rw [had]; rfl
  have had77 : xq41 = ad 77 := by rw [had]; rfl
  have had78 : xq42 = ad 78 := by rw [had]; rfl
  have had79 : xq43 = ad 79 := by rw [had]; rfl
  have had80 : xq44 = ad 80 := by rw [had]; rfl
  have had81 : xq45 = ad 81 := by rw [had]; rfl
  have had82 : xq64 = ad 82 := by rw [had]; rfl
  have had83 : xq65 = ad 83 := by rw [had]; rfl
  have had84 : xq46 = ad 84 := by rw [had]; rfl
  have had85 : xq47 = ad 85 := by rw [had]; rfl
  have had86 : xq48 = ad 86 := by rw [had]; rfl
  have had87 : xq49 = ad 87 := by rw [had]; rfl
  have had88 : xq50 = ad 88 := by rw [had]; rfl
  have had89 : xq51 = ad 89 := by rw [had]; rfl
  have had90 : xq52 = ad 90 := by rw [had]; rfl
  have had91 : xq53 = ad 91 := by rw [had]; rfl
  have had92 : xq54 = ad 92 := by rw [had]; rfl
  have had93 : xq55 = ad 93 := by rw [had]; rfl
  have had94 : xq56 = ad 94 := by rw [had]; rfl
  have had95 : xq57 = ad 95 := by rw [had]; rfl
  have had96 : xq58 = ad 96 := by rw [had]; rfl
  have had97 : xq59 = ad 97 := by rw [had]; rfl
  have had98 : xq60 = ad 98 := by rw [had]; rfl
  have had99 : xq61 = ad 99 := by rw [had]; rfl
  have had100 : xq62 = ad 100 := by rw [had]; rfl
  have had101 : xq63 = ad 101 := by rw [had]; rfl
  have had102 : xq66 = ad 102 := by rw [had]; rfl
  have had103 : xq67 = ad 103 := by rw [had]; rfl
  have had104 : (xr5 0) = ad 104 := by rw [had]; rfl
  have had105 : (xr5 1) = ad 105 := by rw [had]; rfl
  have had106 : (xr5 2) = ad 106 := by rw [had]; rfl
  have had107 : (xr5 3) = ad 107 := by rw [had]; rfl
  have had108 : (xr5 4) = ad 108 := by rw [had]; rfl
  have had109 : (xr5 5) = ad 109 := by rw [had]; rfl
  have had110 : (xr5 6) = ad 110 := by rw [had]; rfl
  have had111 : (xr5 7) = ad 111 := by rw [had]; rfl
  have had112 : xq68 = ad 112 := by rw [had]; rfl
  have had113 : (xr6 0) = ad 113 := by rw [had]; rfl
  have had114 : (xr6 1) = ad 114 := by rw [had]; rfl
  have had115 : (xr6 2) = ad 115 := by rw [had]; rfl
  have had116 : (xr6 3) = ad 116 := by rw [had]; rfl
  have had117 : (xr6 4) = ad 117 := by rw [had]; rfl
  have had118 : xq69 = ad 118 := by rw [had]; rfl
  have had119 : xq70 = ad 119 := by rw [had]; rfl
  have had120 : xq71 = ad 120 := by rw [had]; rfl
  have had121 : xq72 = ad 121 := by rw [had]; rfl
  have had122 : xq73 = ad 122 := by rw [had]; rfl
  have had123 : xq74 = ad 123 := by rw [had]; rfl
  have had124 : xq75 = ad 124 := by rw [had]; rfl
  have had125 : xq76 = ad 125 := by rw [had]; rfl
  have had126 : xq77 = ad 126 := by rw [had]; rfl
  have had127 : xq78 = ad 127 := by rw [had]; rfl
  have had128 : xq79 = ad 128 := by rw [had]; rfl
  have had129 : m0 = ad 129 := by rw [had]; rfl
  have had130 : mq1 = ad 130 := by rw [had]; rfl
  have had131 : mq2 = ad 131 := by rw [had]; rfl
  have had132 : mq3 = ad 132 := by rw [had]; rfl
  have had133 : mq4 = ad 133 := by rw [had]; rfl
  have had134 : mq5 = ad 134 := by rw [had]; rfl
  have had135 : mq6 = ad 135 := by rw [had]; rfl
  have had136 : mq7 = ad 136 := by rw [had]; rfl
  have had137 : mq8 = ad 137 := by rw [had]; rfl
  have had138 : mq9 = ad 138 := by rw [had]; rfl
  have had139 : mq10 = ad 139 := by rw [had]; rfl
  have had140 : mq11 = ad 140 := by rw [had]; rfl
  have had141 : mq12 = ad 141 := by rw [had]; rfl
  have had142 : mq13 = ad 142 := by rw [had]; rfl
  have had143 : mq14 = ad 143 := by rw [had]; rfl
  have had144 : mq15 = ad 144 := by rw [had]; rfl
  have had145 : mq16 = ad 145 := by rw [had]; rfl
  have had146 : mq17 = ad 146 := by rw [had]; rfl
  have had147 : mq18 = ad 147 := by rw [had]; rfl
  have had148 : mq19 = ad 148 := by rw [had]; rfl
  have had149 : mq20 = ad 149 := by rw [had]; rfl
  have had150 : mq21 = ad 150 := by rw [had]; rfl
  have had151 : mq22 = ad 151 := by rw [had]; rfl
  have had152 : mq23 = ad 152 := by rw [had]; rfl
  have had153 : mq24 = ad 153 := by rw [had]; rfl
  have had154 : mq25 = ad 154 := by rw [had]; rfl
  have had155 : mq26 = ad 155 := by rw [had]; rfl
  have had156 : mq27 = ad 156 := by rw [had]; rfl
  have had157 : mq28 = ad 157 := by rw [had]; rfl
  have had158 : mq29 = ad 158 := by rw [had]; rfl
  have had159 : mq30 = ad 159 := by rw [had]; rfl
  have had160 : mq31 = ad 160 := by rw [had]; rfl
  have had161 : mq32 = ad 161 := by rw [had]; rfl
  have had162 : mq33 = ad 162 := by rw [had]; rfl
  have had163 : mq34 = ad 163 := by rw [had]; rfl
  have had164 : mq35 = ad 164 := by rw [had]; rfl
  have had165 : mq36 = ad 165 := by rw [had]; rfl
  have had166 : mq37 = ad 166 := by rw [had]; rfl
  have had167 : mq38 = ad 167 := by rw [had]; rfl
  have had168 : mq39 = ad 168 := by rw [had]; rfl
  have had169 : mq40 = ad 169 := by rw [had]; rfl
  have had170 : mq41 = ad 170 := by rw [had]; rfl
  have had171 : mq42 = ad 171 := by rw [had]; rfl
  have had172 : mq43 = ad 172 := by rw [had]; rfl
  have had173 : mq44 = ad 173 := by rw [had]; rfl
  have had174 : mq45 = ad 174 := by rw [had]; rfl
  have had175 : mq46 = ad 175 := by rw [had]; rfl
  have had176 : mq47 = ad 176 := by rw [had]; rfl
  have had177 : mq48 = ad 177 := by rw [had]; rfl
  have had178 : mq49 = ad 178 := by rw [had]; rfl
  have had179 : mq50 = ad 179 := by rw [had]; rfl
  refine ⟨ad, had0.symm, had129.symm, fun i hi => ?_, ?_⟩
  · rcases (show i = 0 ∨ i = 1 by omega) with rfl | rfl <;> (rw [had]; exact ⟨rfl, rfl⟩)
  show WL K (wd NN ad (gF ad cA)) H locs
  have e8 : wd NN ad (gF ad cA) = [(ad 0, gF ad cA 0), (ad 1, gF ad cA 1), (ad 2, gF ad cA 2), (ad 3, gF ad cA 3), (ad 4, gF ad cA 4), (ad 5, gF ad cA 5), (ad 6, gF ad cA 6), (ad 7, gF ad cA 7), (ad 8, gF ad cA 8), (ad 9, gF ad cA 9), (ad 10, gF ad cA 10), (ad 11, gF ad cA 11), (ad 12, gF ad cA 12), (ad 13, gF ad cA 13), (ad 14, gF ad cA 14), (ad 15, gF ad cA 15), (ad 16, gF ad cA 16), (ad 17, gF ad cA 17), (ad 18, gF ad cA 18), (ad 19, gF ad cA 19), (ad 20, gF ad cA 20), (ad 21, gF ad cA 21), (ad 22, gF ad cA 22), (ad 23, gF ad cA 23), (ad 24, gF ad cA 24), (ad 25, gF ad cA 25), (ad 26, gF ad cA 26), (ad 27, gF ad cA 27), (ad 28, gF ad cA 28), (ad 29, gF ad cA 29), (ad 30, gF ad cA 30), (ad 31, gF ad cA 31), (ad 32, gF ad cA 32), (ad 33, gF ad cA 33), (ad 34, gF ad cA 34), (ad 35, gF ad cA 35), (ad 36, gF ad cA 36), (ad 37, gF ad cA 37), (ad 38, gF ad cA 38), (ad 39, gF ad cA 39), (ad 40, gF ad cA 40), (ad 41, gF ad cA 41), (ad 42, gF ad cA 42), (ad 43, gF ad cA 43), (ad 44, gF ad cA 44), (ad 45, gF ad cA 45), (ad 46, gF ad cA 46), (ad 47, gF ad cA 47), (ad 48, gF ad cA 48), (ad 49, gF ad cA 49), (ad 50, gF ad cA 50), (ad 51, gF ad cA 51), (ad 52, gF ad cA 52), (ad 53, gF ad cA 53), (ad 54, gF ad cA 54), (ad 55, gF ad cA 55), (ad 56, gF ad cA 56), (ad 57, gF ad cA 57), (ad 58, gF ad cA 58), (ad 59, gF ad cA 59), (ad 60, gF ad cA 60), (ad 61, gF ad cA 61), (ad 62, gF ad cA 62), (ad 63, gF ad cA 63), (ad 64, gF ad cA 64), (ad 65, gF ad cA 65), (ad 66, gF ad cA 66), (ad 67, gF ad cA 67), (ad 68, gF ad cA 68), (ad 69, gF ad cA 69), (ad 70, gF ad cA 70), (ad 71, gF ad cA 71), (ad 72, gF ad cA 72), (ad 73, gF ad cA 73), (ad 74, gF ad cA 74), (ad 75, gF ad cA 75), (ad 76, gF ad cA 76), (ad 77, gF ad cA 77), (ad 78, gF ad cA 78), (ad 79, gF ad cA 79), (ad 80, gF ad cA 80), (ad 81, gF ad cA 81), (ad 82, gF ad cA 82), (ad 83, gF ad cA 83), (ad 84, gF ad cA 84), (ad 85, gF ad cA 85), (ad 86, gF ad cA 86), (ad 87, gF ad cA 87), (ad 88, gF ad cA 88), (ad 89, gF ad cA 89), (ad 90, gF ad cA 90), (ad 91, gF ad cA 91), (ad 92, gF ad cA 92), (ad 93, gF ad cA 93), (ad 94, gF ad cA 94), (ad 95, gF ad cA 95), (ad 96, gF ad cA 96), (ad 97, gF ad cA 97), (ad 98, gF ad cA 98), (ad 99, gF ad cA 99), (ad 100, gF ad cA 100), (ad 101, gF ad cA 101), (ad 102, gF ad cA 102), (ad 103, gF ad cA 103), (ad 104, gF ad cA 104), (ad 105, gF ad cA 105), (ad 106, gF ad cA 106), (ad 107, gF ad cA 107), (ad 108, gF ad cA 108), (ad 109, gF ad cA 109), (ad 110, gF ad cA 110), (ad 111, gF ad cA 111), (ad 112, gF ad cA 112), (ad 113, gF ad cA 113), (ad 114, gF ad cA 114), (ad 115, gF ad cA 115), (ad 116, gF ad cA 116), (ad 117, gF ad cA 117), (ad 118, gF ad cA 118), (ad 119, gF ad cA 119), (ad 120, gF ad cA 120), (ad 121, gF ad cA 121), (ad 122, gF ad cA 122), (ad 123, gF ad cA 123), (ad 124, gF ad cA 124), (ad 125, gF ad cA 125), (ad 126, gF ad cA 126), (ad 127, gF ad cA 127), (ad 128, gF ad cA 128), (ad 129, gF ad cA 129), (ad 130, gF ad cA 130), (ad 131, gF ad cA 131), (ad 132, gF ad cA 132), (ad 133, gF ad cA 133), (ad 134, gF ad cA 134), (ad 135, gF ad cA 135), (ad 136, gF ad cA 136), (ad 137, gF ad cA 137), (ad 138, gF ad cA 138), (ad 139, gF ad cA 139), (ad 140, gF ad cA 140), (ad 141, gF ad cA 141), (ad 142, gF ad cA 142), (ad 143, gF ad cA 143), (ad 144, gF ad cA 144), (ad 145, gF ad cA 145), (ad 146, gF ad cA 146), (ad 147, gF ad cA 147), (ad 148, gF ad cA 148), (ad 149, gF ad cA 149), (ad 150, gF ad cA 150), (ad 151, gF ad cA 151), (ad 152, gF ad cA 152), (ad 153, gF ad cA 153), (ad 154, gF ad cA 154), (ad 155, gF ad cA 155), (ad 156, gF ad cA 156), (ad 157, gF ad cA 157), (ad 158, gF ad cA 158), (ad 159, gF ad cA 159), (ad 160, gF ad cA 160), (ad 161, gF ad cA 161), (ad 162, gF ad cA 162), (ad 163, gF ad cA 163), (ad 164, gF ad cA 164), (ad 165, gF ad cA 165), (ad 166, gF ad cA 166), (ad 167, gF ad cA 167), (ad 168, gF ad cA 168), (ad 169, gF ad cA 169), (ad 170, gF ad cA 170), (ad 171, gF ad cA 171), (ad 172, gF ad cA 172), (ad 173, gF ad cA 173), (ad 174, gF ad cA 174), (ad 175, gF ad cA 175), (ad 176, gF ad cA 176), (ad 177, gF ad cA 177), (ad 178, gF ad cA 178), (ad 179, gF ad cA 179)] := rfl
  have u179 : gF ad cA 179 = ia (cA 0) 9 (fun _ => 0) := rfl
  have u178 : gF ad cA 178 = ia (cA 0) 6 (fun _ => 0) := rfl
  have u177 : gF ad cA 177 = ia (cA 0) 30 (fun _ => 0) := rfl
  have u176 : gF ad cA 176 = ia (cA 4) 5 (fun _ => 0) := rfl
  have u175 : gF ad cA 175 = ia (cA 0) 64 (fun _ => 0) := rfl
  have u174 : gF ad cA 174 = ia (cA 0) 12 (fun _ => 0) := rfl
  have u173 : gF ad cA 173 = ia (cA 0) 8 (fun _ => 0) := rfl
  have u172 : gF ad cA 172 = ia (cA 0) 8 (fun _ => 0) := rfl
  have u171 : gF ad cA 171 = ia (cA 0) 12 (fun _ => 0) := rfl
  have u170 : gF ad cA 170 = ia (cA 0) 12 (fun _ => 0) := rfl
  have u169 : gF ad cA 169 = ia (cA 0) 2 (fun _ => 0) := rfl
  have u168 : gF ad cA 168 = ia (cA 0) 2 (fun _ => 0) := rfl
  have u167 : gF ad cA 167 = ia (cA 0) 2 (fun _ => 0) := rfl
  have u166 : gF ad cA 166 = ia (cA 0) 2 (fun _ => 0) := rfl
  have u165 : gF ad cA 165 = ia (cA 0) 192 (fun _ => 0) := rfl
  have u164 : gF ad cA 164 = ia (cA 0) 16 (fun _ => 0) := rfl
  have u163 : gF ad cA 163 = ia (cA 0) 16 (fun _ => 0) := rfl
  have u162 : gF ad cA 162 = ia (cA 4) 16 (fun _ => 0) := rfl
  have u161 : gF ad cA 161 = ia (cA 0) 96 (fun _ => 0) := rfl
  have u160 : gF ad cA 160 = ia (cA 0) 8 (fun _ => 0) := rfl
  have u159 : gF ad cA 159 = ia (cA 0) 8 (fun _ => 0) := rfl
  have u158 : gF ad cA 158 = ia (cA 4) 8 (fun _ => 0) := rfl
  have u157 : gF ad cA 157 = ia (cA 4) 240 (fun _ => 0) := rfl
  have u156 : gF ad cA 156 = ia (cA 0) 240 (fun _ => 0) := rfl
  have u155 : gF ad cA 155 = ia (cA 0) 240 (fun _ => 0) := rfl
  have u154 : gF ad cA 154 = ia (cA 0) 240 (fun _ => 0) := rfl
  have u153 : gF ad cA 153 = ia (cA 0) 240 (fun _ => 0) := rfl
  have u152 : gF ad cA 152 = ia (cA 0) 16 (fun _ => 0) := rfl
  have u151 : gF ad cA 151 = ia (cA 0) 16 (fun _ => 0) := rfl
  have u150 : gF ad cA 150 = ia (cA 0) 16 (fun _ => 0) := rfl
  have u149 : gF ad cA 149 = ia (cA 0) 16 (fun _ => 0) := rfl
  have u148 : gF ad cA 148 = ia (cA 0) 2 (fun _ => 0) := rfl
  have u147 : gF ad cA 147 = ia (cA 0) 480 (fun _ => 0) := rfl
  have u146 : gF ad cA 146 = ia (cA 0) 480 (fun _ => 0) := rfl
  have u145 : gF ad cA 145 = ia (cA 0) 32 (fun _ => 0) := rfl
  have u144 : gF ad cA 144 = ia (cA 0) 32 (fun _ => 0) := rfl
  have u143 : gF ad cA 143 = ia (cA 0) 32 (fun _ => 0) := rfl
  have u142 : gF ad cA 142 = ia (cA 0) 32 (fun _ => 0) := rfl
  have u141 : gF ad cA 141 = ia (cA 0) 2 (fun _ => 0) := rfl
  have u140 : gF ad cA 140 = ia (cA 0) 2 (fun _ => 0) := rfl
  have u139 : gF ad cA 139 = ia (cA 0) 2 (fun _ => 0) := rfl
  have u138 : gF ad cA 138 = ia (cA 0) 10 (fun _ => -1) := rfl
  have u137 : gF ad cA 137 = ia (cA 0) 48 (fun _ => 0) := rfl
  have u136 : gF ad cA 136 = ia (cA 0) 288 (fun _ => 0) := rfl
  have u135 : gF ad cA 135 = ia (cA 0) 6 (fun _ => 0) := rfl
  have u134 : gF ad cA 134 = ia (cA 4) 6 (fun _ => 0) := rfl
  have u133 : gF ad cA 133 = ia (cA 0) 144 (fun _ => 0) := rfl
  have u132 : gF ad cA 132 = ia (cA 0) 12 (fun _ => 0) := rfl
  have u131 : gF ad cA 131 = ia (cA 4) 12 (fun _ => 0) := rfl
  have u130 : gF ad cA 130 = ia (cA 3) 260 (fun _ => 0) := rfl
  have u129 : gF ad cA 129 = .inr (12, [.ref mq1, .int (0 : Int32), .int (1 : Int32), .int (0 : Int32), .int (0 : Int32), .int (0 : Int32), .int (0 : Int32), .int (0 : Int32), .int (0 : Int32), .int (0 : Int32), .ref mq2, .ref mq3, .ref mq4, .ref mq5, .ref mq6, .ref mq7, .ref mq8, .ref mq9, .int (0 : Int32), .int (0 : Int32), .int (0 : Int32), .ref mq10, .ref mq11, .ref mq12, .ref mq13, .ref mq14, .ref mq15, .ref mq16, .ref mq17, .ref mq18, .ref mq19, .int (0 : Int32), .int (0 : Int32), .ref mq20, .ref mq21, .ref mq22, .ref mq23, .ref mq24, .ref mq25, .int (0 : Int32), .int (0 : Int32), .ref mq26, .int (0 : Int32), .int (0 : Int32), .int (0 : Int32), .int (0 : Int32), .int (0 : Int32), .int (0 : Int32), .int (0 : Int32), .int (0 : Int32), .ref mq27, .ref mq28, .ref mq29, .ref mq30, .ref mq31, .ref mq32, .int (0 : Int32), .int (0 : Int32), .int (0 : Int32), .int (0 : Int32), .int (0 : Int32), .int (0 : Int32), .int (0 : Int32), .int (0 : Int32), .int (0 : Int32), .int (0 : Int32), .int (0 : Int32), .ref mq33, .ref mq34, .ref mq35, .ref mq36, .ref mq37, .ref mq38, .ref mq39, .ref mq40, .int (0 : Int32), .ref mq41, .ref mq42, .ref mq43, .ref mq44, .ref mq45, .ref mq46, .ref mq47, .ref mq48, .ref mq49, .ref mq50]) := (by rw [had130, had131, had132, had133, had134, had135, had136, had137, had138, had139, had140, had141, had142, had143, had144, had145, had146, had147, had148, had149, had150, had151, had152, had153, had154, had155, had156, had157, had158, had159, had160, had161, had162, had163, had164, had165, had166, had167, had168, had169, had170, had171, had172, had173, had174, had175, had176, had177, had178, had179]; rfl)
  have u128 : gF ad cA 128 = ia (cA 0) 9 (fun _ => 0) := rfl
  have u127 : gF ad cA 127 = .inr (6, [.ref xq79, .int (0 : Int32), .int (0 : Int32), .int (1 : Int32)]) := (by rw [had128]; rfl)
  have u126 : gF ad cA 126 = ia (cA 0) 341 (fun _ => 0) := rfl
  have u125 : gF ad cA 125 = ia (cA 0) 341 (fun _ => 0) := rfl
  have u124 : gF ad cA 124 = ia (cA 0) 341 (fun _ => 0) := rfl
  have u123 : gF ad cA 123 = ja (cA 5) 341 (fun _ => 0) := rfl
  have u122 : gF ad cA 122 = ja (cA 5) 341 (fun _ => 0) := rfl
  have u121 : gF ad cA 121 = ia (cA 0) 5 (fun _ => 0) := rfl
  have u120 : gF ad cA 120 = .inr (8, [.ref xq72, .ref xq73, .ref xq74, .ref xq75, .ref xq76, .ref xq77, .int (0 : Int32)]) := (by rw [had121, had122, had123, had124, had125, had126]; rfl)
  have u119 : gF ad cA 119 = ia (cA 0) 6 (fun _ => 0) := rfl
  have u118 : gF ad cA 118 = ia (cA 0) 6 (fun _ => 0) := rfl
  have u117 : gF ad cA 117 = ia (cA 0) 6 (fun _ => 0) := rfl
  have u116 : gF ad cA 116 = ia (cA 0) 6 (fun _ => 0) := rfl
  have u115 : gF ad cA 115 = ia (cA 0) 6 (fun _ => 0) := rfl
  have u114 : gF ad cA 114 = ia (cA 0) 6 (fun _ => 0) := rfl
  have u113 : gF ad cA 113 = ia (cA 0) 6 (fun _ => 0) := rfl
  have u112 : gF ad cA 112 = qa (cA 1) 5 (fun j => if j < 5 then some (ad (113 + 1 * j)) else none) := rfl
  have u111 : gF ad cA 111 = ia (cA 0) 8 (fun _ => 0) := rfl
  have u110 : gF ad cA 110 = ia (cA 0) 8 (fun _ => 0) := rfl
  have u109 : gF ad cA 109 = ia (cA 0) 8 (fun _ => 0) := rfl
  have u108 : gF ad cA 108 = ia (cA 0) 8 (fun _ => 0) := rfl
  have u107 : gF ad cA 107 = ia (cA 0) 8 (fun _ => 0) := rfl
  have u106 : gF ad cA 106 = ia (cA 0) 8 (fun _ => 0) := rfl
  have u105 : gF ad cA 105 = ia (cA 0) 8 (fun _ => 0) := rfl
  have u104 : gF ad cA 104 = ia (cA 0) 8 (fun _ => 0) := rfl
  have u103 : gF ad cA 103 = qa (cA 1) 8 (fun j => if j < 8 then some (ad (104 + 1 * j)) else none) := rfl
  have u102 : gF ad cA 102 = .inr (9, [.ref xq67, .ref xq68, .ref xq69, .ref xq70, .int (0 : Int32)]) := (by rw [had103, had112, had118, had119]; rfl)
  have u101 : gF ad cA 101 = ia (cA 0) 48 (fun _ => 0) := rfl
  have u100 : gF ad cA 100 = ia (cA 0) 48 (fun _ => 0) := rfl
  have u99 : gF ad cA 99 = .inr (0, [.ref xq62, .ref xq63, .int (0 : Int32)]) := (by rw [had100, had101]; rfl)
  have u98 : gF ad cA 98 = ia (cA 0) 48 (fun _ => 0) := rfl
  have u97 : gF ad cA 97 = ia (cA 0) 48 (fun _ => 0) := rfl
  have u96 : gF ad cA 96 = .inr (0, [.ref xq59, .ref xq60, .int (0 : Int32)]) := (by rw [had97, had98]; rfl)
  have u95 : gF ad cA 95 = ia (cA 0) 48 (fun _ => 0) := rfl
  have u94 : gF ad cA 94 = ia (cA 0) 48 (fun _ => 0) := rfl
  have u93 : gF ad cA 93 = .inr (0, [.ref xq56, .ref xq57, .int (0 : Int32)]) := (by rw [had94, had95]; rfl)
  have u92 : gF ad cA 92 = ia (cA 0) 48 (fun _ => 0) := rfl
  have u91 : gF ad cA 91 = ia (cA 0) 48 (fun _ => 0) := rfl
  have u90 : gF ad cA 90 = .inr (0, [.ref xq53, .ref xq54, .int (0 : Int32)]) := (by rw [had91, had92]; rfl)
  have u89 : gF ad cA 89 = ia (cA 0) 48 (fun _ => 0) := rfl
  have u88 : gF ad cA 88 = ia (cA 0) 48 (fun _ => 0) := rfl
  have u87 : gF ad cA 87 = .inr (0, [.ref xq50, .ref xq51, .int (0 : Int32)]) := (by rw [had88, had89]; rfl)
  have u86 : gF ad cA 86 = ia (cA 0) 48 (fun _ => 0) := rfl
  have u85 : gF ad cA 85 = ia (cA 0) 48 (fun _ => 0) := rfl
  have u84 : gF ad cA 84 = .inr (0, [.ref xq47, .ref xq48, .int (0 : Int32)]) := (by rw [had85, had86]; rfl)
  have u83 : gF ad cA 83 = ia (cA 0) 8 (fun _ => 0) := rfl
  have u82 : gF ad cA 82 = ia (cA 0) 10 (fun _ => -1) := rfl
  have u81 : gF ad cA 81 = qa (cA 2) 6 (fun j => if j < 6 then some (ad (84 + 3 * j)) else none) := rfl
  have u80 : gF ad cA 80 = .inr (2, [.ref xq3, .ref xq45, .ref xq64, .ref xq65, .int (0 : Int32), .int (0 : Int32), .int (0 : Int32), .int (0 : Int32), .int (0 : Int32), .ref xq18, .ref xq6]) := (by rw [had3, had81, had82, had83, had54, had18]; rfl)
  have u79 : gF ad cA 79 = .inr (4, [.ref xq2, .int (0 : Int32), .int (0 : Int32), .int (0 : Int32), .ref xq32]) := (by rw [had2, had68]; rfl)
  have u78 : gF ad cA 78 = .inr (1, [.ref xq2, .int (0 : Int32), .int (0 : Int32), .int (0 : Int32), .ref xq39]) := (by rw [had2, had75]; rfl)
  have u77 : gF ad cA 77 = ia (cA 0) 48 (fun _ => 0) := rfl
  have u76 : gF ad cA 76 = ia (cA 0) 48 (fun _ => 0) := rfl
  have u75 : gF ad cA 75 = .inr (0, [.ref xq40, .ref xq41, .int (0 : Int32)]) := (by rw [had76, had77]; rfl)
  have u74 : gF ad cA 74 = ia (cA 0) 64 (fun _ => 0) := rfl
  have u73 : gF ad cA 73 = ia (cA 0) 256 (fun _ => 0) := rfl
  have u72 : gF ad cA 72 = ia (cA 0) 256 (fun _ => 0) := rfl
  have u71 : gF ad cA 71 = ia (cA 0) 16 (fun _ => 0) := rfl
  have u70 : gF ad cA 70 = ia (cA 0) 16 (fun _ => 0) := rfl
  have u69 : gF ad cA 69 = ia (cA 0) 16 (fun _ => 0) := rfl
  have u68 : gF ad cA 68 = .inr (3, [.ref xq33, .ref xq34, .ref xq35, .ref xq36, .ref xq37, .ref xq38, .int (0 : Int32), .int (0 : Int32)]) := (by rw [had69, had70, had71, had72, had73, had74]; rfl)
  have u67 : gF ad cA 67 = ia (cA 0) 64 (fun _ => 0) := rfl
  have u66 : gF ad cA 66 = ia (cA 0) 256 (fun _ => 0) := rfl
  have u65 : gF ad cA 65 = ia (cA 0) 256 (fun _ => 0) := rfl
  have u64 : gF ad cA 64 = ia (cA 0) 16 (fun _ => 0) := rfl
  have u63 : gF ad cA 63 = ia (cA 0) 16 (fun _ => 0) := rfl
  have u62 : gF ad cA 62 = ia (cA 0) 16 (fun _ => 0) := rfl
  have u61 : gF ad cA 61 = .inr (3, [.ref xq26, .ref xq27, .ref xq28, .ref xq29, .ref xq30, .ref xq31, .int (0 : Int32), .int (0 : Int32)]) := (by rw [had62, had63, had64, had65, had66, had67]; rfl)
  have u60 : gF ad cA 60 = ia (cA 0) 64 (fun _ => 0) := rfl
  have u59 : gF ad cA 59 = ia (cA 0) 256 (fun _ => 0) := rfl
  have u58 : gF ad cA 58 = ia (cA 0) 256 (fun _ => 0) := rfl
  have u57 : gF ad cA 57 = ia (cA 0) 16 (fun _ => 0) := rfl
  have u56 : gF ad cA 56 = ia (cA 0) 16 (fun _ => 0) := rfl
  have u55 : gF ad cA 55 = ia (cA 0) 16 (fun _ => 0) := rfl
  have u54 : gF ad cA 54 = .inr (3, [.ref xq19, .ref xq20, .ref xq21, .ref xq22, .ref xq23, .ref xq24, .int (0 : Int32), .int (0 : Int32)]) := (by rw [had55, had56, had57, had58, had59, had60]; rfl)
  have u53 : gF ad cA 53 = ia (cA 0) 12 (fun _ => 0) := rfl
  have u52 : gF ad cA 52 = ia (cA 0) 12 (fun _ => 0) := rfl
  have u51 : gF ad cA 51 = ia (cA 0) 12 (fun _ => 0) := rfl
  have u50 : gF ad cA 50 = ia (cA 0) 12 (fun _ => 0) := rfl
  have u49 : gF ad cA 49 = ia (cA 0) 12 (fun _ => 0) := rfl
  have u48 : gF ad cA 48 = ia (cA 0) 12 (fun _ => 0) := rfl
  have u47 : gF ad cA 47 = ia (cA 0) 12 (fun _ => 0) := rfl
  have u46 : gF ad cA 46 = ia (cA 0) 12 (fun _ => 0) := rfl
  have u45 : gF ad cA 45 = qa (cA 1) 8 (fun j => if j < 8 then some (ad (46 + 1 * j)) else none) := rfl
  have u44 : gF ad cA 44 = ia (cA 0) 8 (fun _ => 0) := rfl
  have u43 : gF ad cA 43 = ia (cA 0) 8 (fun _ => 0) := rfl
  have u42 : gF ad cA 42 = .inr (7, [.ref xq15, .ref xq16, .ref xq17, .int (0 : Int32), .int (0 : Int32), .int (0 : Int32), .int (0 : Int32), .int (1 : Int32)]) := (by rw [had43, had44, had45]; rfl)
  have u41 : gF ad cA 41 = ia (cA 0) 12 (fun _ => 0) := rfl
  have u40 : gF ad cA 40 = ia (cA 0) 12 (fun _ => 0) := rfl
  have u39 : gF ad cA 39 = ia (cA 0) 12 (fun _ => 0) := rfl
  have u38 : gF ad cA 38 = ia (cA 0) 12 (fun _ => 0) := rfl
  have u37 : gF ad cA 37 = ia (cA 0) 12 (fun _ => 0) := rfl
  have u36 : gF ad cA 36 = ia (cA 0) 12 (fun _ => 0) := rfl
  have u35 : gF ad cA 35 = ia (cA 0) 12 (fun _ => 0) := rfl
  have u34 : gF ad cA 34 = ia (cA 0) 12 (fun _ => 0) := rfl
  have u33 : gF ad cA 33 = qa (cA 1) 8 (fun j => if j < 8 then some (ad (34 + 1 * j)) else none) := rfl
  have u32 : gF ad cA 32 = ia (cA 0) 8 (fun _ => 0) := rfl
  have u31 : gF ad cA 31 = ia (cA 0) 8 (fun _ => 0) := rfl
  have u30 : gF ad cA 30 = .inr (7, [.ref xq11, .ref xq12, .ref xq13, .int (0 : Int32), .int (0 : Int32), .int (0 : Int32), .int (0 : Int32), .int (1 : Int32)]) := (by rw [had31, had32, had33]; rfl)
  have u29 : gF ad cA 29 = ia (cA 0) 12 (fun _ => 0) := rfl
  have u28 : gF ad cA 28 = ia (cA 0) 12 (fun _ => 0) := rfl
  have u27 : gF ad cA 27 = ia (cA 0) 12 (fun _ => 0) := rfl
  have u26 : gF ad cA 26 = ia (cA 0) 12 (fun _ => 0) := rfl
  have u25 : gF ad cA 25 = ia (cA 0) 12 (fun _ => 0) := rfl
  have u24 : gF ad cA 24 = ia (cA 0) 12 (fun _ => 0) := rfl
  have u23 : gF ad cA 23 = ia (cA 0) 12 (fun _ => 0) := rfl
  have u22 : gF ad cA 22 = ia (cA 0) 12 (fun _ => 0) := rfl
  have u21 : gF ad cA 21 = qa (cA 1) 8 (fun j => if j < 8 then some (ad (22 + 1 * j)) else none) := rfl
  have u20 : gF ad cA 20 = ia (cA 0) 8 (fun _ => 0) := rfl
  have u19 : gF ad cA 19 = ia (cA 0) 8 (fun _ => 0) := rfl
  have u18 : gF ad cA 18 = .inr (7, [.ref xq7, .ref xq8, .ref xq9, .int (0 : Int32), .int (0 : Int32), .int (0 : Int32), .int (0 : Int32), .int (1 : Int32)]) := (by rw [had19, had20, had21]; rfl)
  have u17 : gF ad cA 17 = ia (cA 0) 12 (fun _ => 0) := rfl
  have u16 : gF ad cA 16 = ia (cA 0) 12 (fun _ => 0) := rfl
  have u15 : gF ad cA 15 = ia (cA 0) 12 (fun _ => 0) := rfl
  have u14 : gF ad cA 14 = ia (cA 0) 12 (fun _ => 0) := rfl
  have u13 : gF ad cA 13 = ia (cA 0) 12 (fun _ => 0) := rfl
  have u12 : gF ad cA 12 = ia (cA 0) 12 (fun _ => 0) := rfl
  have u11 : gF ad cA 11 = ia (cA 0) 12 (fun _ => 0) := rfl
  have u10 : gF ad cA 10 = ia (cA 0) 12 (fun _ => 0) := rfl
  have u9 : gF ad cA 9 = ia (cA 0) 12 (fun _ => 0) := rfl
  have u8 : gF ad cA 8 = ia (cA 0) 12 (fun _ => 0) := rfl
  have u7 : gF ad cA 7 = ia (cA 0) 12 (fun _ => 0) := rfl
  have u6 : gF ad cA 6 = ia (cA 0) 12 (fun _ => 0) := rfl
  have u5 : gF ad cA 5 = qa (cA 1) 12 (fun j => if j < 12 then some (ad (6 + 1 * j)) else none) := rfl
  have u4 : gF ad cA 4 = ia (cA 0) 12 (fun _ => 0) := rfl
  have u3 : gF ad cA 3 = .inr (5, [.ref xq4, .ref xq5, .int (0 : Int32)]) := (by rw [had4, had5]; rfl)
  have u2 : gF ad cA 2 = ia (cA 0) 260 (fun _ => 0) := rfl
  have u1 : gF ad cA 1 = .inr (10, [.ref xq2, .int (0 : Int32)]) := (by rw [had2]; rfl)
  have u0 : gF ad cA 0 = .inr (11, [.ref xq1, .ref xq3, .ref xq44, .ref xq66, .ref xq71, .ref xq78, .ref xq42, .ref xq43, .ref xq39, .ref xq25, .ref xq6, .ref xq10, .ref xq14, .ref xq18, .ref xq32, .int (0 : Int32)]) := (by rw [had1, had3, had80, had102, had120, had127, had78, had79, had75, had61, had18, had30, had42, had54, had68]; rfl)
  have e9 : [(ad 0, gF ad cA 0), (ad 1, gF ad cA 1), (ad 2, gF ad cA 2), (ad 3, gF ad cA 3), (ad 4, gF ad cA 4), (ad 5, gF ad cA 5), (ad 6, gF ad cA 6), (ad 7, gF ad cA 7), (ad 8, gF ad cA 8), (ad 9, gF ad cA 9), (ad 10, gF ad cA 10), (ad 11, gF ad cA 11), (ad 12, gF ad cA 12), (ad 13, gF ad cA 13), (ad 14, gF ad cA 14), (ad 15, gF ad cA 15), (ad 16, gF ad cA 16), (ad 17, gF ad cA 17), (ad 18, gF ad cA 18), (ad 19, gF ad cA 19), (ad 20, gF ad cA 20), (ad 21, gF ad cA 21), (ad 22, gF ad cA 22), (ad 23, gF ad cA 23), (ad 24, gF ad cA 24), (ad 25, gF ad cA 25), (ad 26, gF ad cA 26), (ad 27, gF ad cA 27), (ad 28, gF ad cA 28), (ad 29, gF ad cA 29), (ad 30, gF ad cA 30), (ad 31, gF ad cA 31), (ad 32, gF ad cA 32), (ad 33, gF ad cA 33), (ad 34, gF ad cA 34), (ad 35, gF ad cA 35), (ad 36, gF ad cA 36), (ad 37, gF ad cA 37), (ad 38, gF ad cA 38), (ad 39, gF ad cA 39), (ad 40, gF ad cA 40), (ad 41, gF ad cA 41), (ad 42, gF ad cA 42), (ad 43, gF ad cA 43), (ad 44, gF ad cA 44), (ad 45, gF ad cA 45), (ad 46, gF ad cA 46), (ad 47, gF ad cA 47), (ad 48, gF ad cA 48), (ad 49, gF ad cA 49), (ad 50, gF ad cA 50), (ad 51, gF ad cA 51), (ad 52, gF ad cA 52), (ad 53, gF ad cA 53), (ad 54, gF ad cA 54), (ad 55, gF ad cA 55), (ad 56, gF ad cA 56), (ad 57, gF ad cA 57), (ad 58, gF ad cA 58), (ad 59, gF ad cA 59), (ad 60, gF ad cA 60), (ad 61, gF ad cA 61), (ad 62, gF ad cA 62), (ad 63, gF ad cA 63), (ad 64, gF ad cA 64), (ad 65, gF ad cA 65), (ad 66, gF ad cA 66), (ad 67, gF ad cA 67), (ad 68, gF ad cA 68), (ad 69, gF ad cA 69), (ad 70, gF ad cA 70), (ad 71, gF ad cA 71), (ad 72, gF ad cA 72), (ad 73, gF ad cA 73), (ad 74, gF ad cA 74), (ad 75, gF ad cA 75), (ad 76, gF ad cA 76), (ad 77, gF ad cA 77), (ad 78, gF ad cA 78), (ad 79, gF ad cA 79), (ad 80, gF ad cA 80), (ad 81, gF ad cA 81), (ad 82, gF ad cA 82), (ad 83, gF ad cA 83), (ad 84, gF ad cA 84), (ad 85, gF ad cA 85), (ad 86, gF ad cA 86), (ad 87, gF ad cA 87), (ad 88, gF ad cA 88), (ad 89, gF ad cA 89), (ad 90, gF ad cA 90), (ad 91, gF ad cA 91), (ad 92, gF ad cA 92), (ad 93, gF ad cA 93), (ad 94, gF ad cA 94), (ad 95, gF ad cA 95), (ad 96, gF ad cA 96), (ad 97, gF ad cA 97), (ad 98, gF ad cA 98), (ad 99, gF ad cA 99), (ad 100, gF ad cA 100), (ad 101, gF ad cA 101), (ad 102, gF ad cA 102), (ad 103, gF ad cA 103), (ad 104, gF ad cA 104), (ad 105, gF ad cA 105), (ad 106, gF ad cA 106), (ad 107, gF ad cA 107), (ad 108, gF ad cA 108), (ad 109, gF ad cA 109), (ad 110, gF ad cA 110), (ad 111, gF ad cA 111), (ad 112, gF ad cA 112), (ad 113, gF ad cA 113), (ad 114, gF ad cA 114), (ad 115, gF ad cA 115), (ad 116, gF ad cA 116), (ad 117, gF ad cA 117), (ad 118, gF ad cA 118), (ad 119, gF ad cA 119), (ad 120, gF ad cA 120), (ad 121, gF ad cA 121), (ad 122, gF ad cA 122), (ad 123, gF ad cA 123), (ad 124, gF ad cA 124), (ad 125, gF ad cA 125), (ad 126, gF ad cA 126), (ad 127, gF ad cA 127), (ad 128, gF ad cA 128), (ad 129, gF ad cA 129), (ad 130, gF ad cA 130), (ad 131, gF ad cA 131), (ad 132, gF ad cA 132), (ad 133, gF ad cA 133), (ad 134, gF ad cA 134), (ad 135, gF ad cA 135), (ad 136, gF ad cA 136), (ad 137, gF ad cA 137), (ad 138, gF ad cA 138), (ad 139, gF ad cA 139), (ad 140, gF ad cA 140), (ad 141, gF ad cA 141), (ad 142, gF ad cA 142), (ad 143, gF ad cA 143), (ad 144, gF ad cA 144), (ad 145, gF ad cA 145), (ad 146, gF ad cA 146), (ad 147, gF ad cA 147), (ad 148, gF ad cA 148), (ad 149, gF ad cA 149), (ad 150, gF ad cA 150), (ad 151, gF ad cA 151), (ad 152, gF ad cA 152), (ad 153, gF ad cA 153), (ad 154, gF ad cA 154), (ad 155, gF ad cA 155), (ad 156, gF ad cA 156), (ad 157, gF ad cA 157), (ad 158, gF ad cA 158), (ad 159, gF ad cA 159), (ad 160, gF ad cA 160), (ad 161, gF ad cA 161), (ad 162, gF ad cA 162), (ad 163, gF ad cA 163), (ad 164, gF ad cA 164), (ad 165, gF ad cA 165), (ad 166, gF ad cA 166), (ad 167, gF ad cA 167), (ad 168, gF ad cA 168), (ad 169, gF ad cA 169), (ad 170, gF ad cA 170), (ad 171, gF ad cA 171), (ad 172, gF ad cA 172), (ad 173, gF ad cA 173), (ad 174, gF ad cA 174), (ad 175, gF ad cA 175), (ad 176, gF ad cA 176), (ad 177, gF ad cA 177), (ad 178, gF ad cA 178), (ad 179, gF ad cA 179)] = [(x0, .inr (11, [.ref xq1, .ref xq3, .ref xq44, .ref xq66, .ref xq71, .ref xq78, .ref xq42, .ref xq43, .ref xq39, .ref xq25, .ref xq6, .ref xq10, .ref xq14, .ref xq18, .ref xq32, .int (0 : Int32)])), (xq1, .inr (10, [.ref xq2, .int (0 : Int32)])), (xq2, ia (cA 0) 260 (fun _ => 0)), (xq3, .inr (5, [.ref xq4, .ref xq5, .int (0 : Int32)])), (xq4, ia (cA 0) 12 (fun _ => 0)), (xq5, qa (cA 1) 12 (fun j => if j < 12 then some (ad (6 + 1 * j)) else none)), ((xr1 0), ia (cA 0) 12 (fun _ => 0)), ((xr1 1), ia (cA 0) 12 (fun _ => 0)), ((xr1 2), ia (cA 0) 12 (fun _ => 0)), ((xr1 3), ia (cA 0) 12 (fun _ => 0)), ((xr1 4), ia (cA 0) 12 (fun _ => 0)), ((xr1 5), ia (cA 0) 12 (fun _ => 0)), ((xr1 6), ia (cA 0) 12 (fun _ => 0)), ((xr1 7), ia (cA 0) 12 (fun _ => 0)), ((xr1 8), ia (cA 0) 12 (fun _ => 0)), ((xr1 9), ia (cA 0) 12 (fun _ => 0)), ((xr1 10), ia (cA 0) 12 (fun _ => 0)), ((xr1 11), ia (cA 0) 12 (fun _ => 0)), (xq6, .inr (7, [.ref xq7, .ref xq8, .ref xq9, .int (0 : Int32), .int (0 : Int32), .int (0 : Int32), .int (0 : Int32), .int (1 : Int32)])), (xq7, ia (cA 0) 8 (fun _ => 0)), (xq8, ia (cA 0) 8 (fun _ => 0)), (xq9, qa (cA 1) 8 (fun j => if j < 8 then some (ad (22 + 1 * j)) else none)), ((xr2 0), ia (cA 0) 12 (fun _ => 0)), ((xr2 1), ia (cA 0) 12 (fun _ => 0)), ((xr2 2), ia (cA 0) 12 (fun _ => 0)), ((xr2 3), ia (cA 0) 12 (fun _ => 0)), ((xr2 4), ia (cA 0) 12 (fun _ => 0)), ((xr2 5), ia (cA 0) 12 (fun _ => 0)), ((xr2 6), ia (cA 0) 12 (fun _ => 0)), ((xr2 7), ia (cA 0) 12 (fun _ => 0)), (xq10, .inr (7, [.ref xq11, .ref xq12, .ref xq13, .int (0 : Int32), .int (0 : Int32), .int (0 : Int32), .int (0 : Int32), .int (1 : Int32)])), (xq11, ia (cA 0) 8 (fun _ => 0)), (xq12, ia (cA 0) 8 (fun _ => 0)), (xq13, qa (cA 1) 8 (fun j => if j < 8 then some (ad (34 + 1 * j)) else none)), ((xr3 0), ia (cA 0) 12 (fun _ => 0)), ((xr3 1), ia (cA 0) 12 (fun _ => 0)), ((xr3 2), ia (cA 0) 12 (fun _ => 0)), ((xr3 3), ia (cA 0) 12 (fun _ => 0)), ((xr3 4), ia (cA 0) 12 (fun _ => 0)), ((xr3 5), ia (cA 0) 12 (fun _ => 0)), ((xr3 6), ia (cA 0) 12 (fun _ => 0)), ((xr3 7), ia (cA 0) 12 (fun _ => 0)), (xq14, .inr (7, [.ref xq15, .ref xq16, .ref xq17, .int (0 : Int32), .int (0 : Int32), .int (0 : Int32), .int (0 : Int32), .int (1 : Int32)])), (xq15, ia (cA 0) 8 (fun _ => 0)), (xq16, ia (cA 0) 8 (fun _ => 0)), (xq17, qa (cA 1) 8 (fun j => if j < 8 then some (ad (46 + 1 * j)) else none)), ((xr4 0), ia (cA 0) 12 (fun _ => 0)), ((xr4 1), ia (cA 0) 12 (fun _ => 0)), ((xr4 2), ia (cA 0) 12 (fun _ => 0)), ((xr4 3), ia (cA 0) 12 (fun _ => 0)), ((xr4 4), ia (cA 0) 12 (fun _ => 0)), ((xr4 5), ia (cA 0) 12 (fun _ => 0)), ((xr4 6), ia (cA 0) 12 (fun _ => 0)), ((xr4 7), ia (cA 0) 12 (fun _ => 0)), (xq18, .inr (3, [.ref xq19, .ref xq20, .ref xq21, .ref xq22, .ref xq23, .ref xq24, .int (0 : Int32), .int (0 : Int32)])), (xq19, ia (cA 0) 16 (fun _ => 0)), (xq20, ia (cA 0) 16 (fun _ => 0)), (xq21, ia (cA 0) 16 (fun _ => 0)), (xq22, ia (cA 0) 256 (fun _ => 0)), (xq23, ia (cA 0) 256 (fun _ => 0)), (xq24, ia (cA 0) 64 (fun _ => 0)), (xq25, .inr (3, [.ref xq26, .ref xq27, .ref xq28, .ref xq29, .ref xq30, .ref xq31, .int (0 : Int32), .int (0 : Int32)])), (xq26, ia (cA 0) 16 (fun _ => 0)), (xq27, ia (cA 0) 16 (fun _ => 0)), (xq28, ia (cA 0) 16 (fun _ => 0)), (xq29, ia (cA 0) 256 (fun _ => 0)), (xq30, ia (cA 0) 256 (fun _ => 0)), (xq31, ia (cA 0) 64 (fun _ => 0)), (xq32, .inr (3, [.ref xq33, .ref xq34, .ref xq35, .ref xq36, .ref xq37, .ref xq38, .int (0 : Int32), .int (0 : Int32)])), (xq33, ia (cA 0) 16 (fun _ => 0)), (xq34, ia (cA 0) 16 (fun _ => 0)), (xq35, ia (cA 0) 16 (fun _ => 0)), (xq36, ia (cA 0) 256 (fun _ => 0)), (xq37, ia (cA 0) 256 (fun _ => 0)), (xq38, ia (cA 0) 64 (fun _ => 0)), (xq39, .inr (0, [.ref xq40, .ref xq41, .int (0 : Int32)])), (xq40, ia (cA 0) 48 (fun _ => 0)), (xq41, ia (cA 0) 48 (fun _ => 0)), (xq42, .inr (1, [.ref xq2, .int (0 : Int32), .int (0 : Int32), .int (0 : Int32), .ref xq39])), (xq43, .inr (4, [.ref xq2, .int (0 : Int32), .int (0 : Int32), .int (0 : Int32), .ref xq32])), (xq44, .inr (2, [.ref xq3, .ref xq45, .ref xq64, .ref xq65, .int (0 : Int32), .int (0 : Int32), .int (0 : Int32), .int (0 : Int32), .int (0 : Int32), .ref xq18, .ref xq6])), (xq45, qa (cA 2) 6 (fun j => if j < 6 then some (ad (84 + 3 * j)) else none)), (xq64, ia (cA 0) 10 (fun _ => -1)), (xq65, ia (cA 0) 8 (fun _ => 0)), (xq46, .inr (0, [.ref xq47, .ref xq48, .int (0 : Int32)])), (xq47, ia (cA 0) 48 (fun _ => 0)), (xq48, ia (cA 0) 48 (fun _ => 0)), (xq49, .inr (0, [.ref xq50, .ref xq51, .int (0 : Int32)])), (xq50, ia (cA 0) 48 (fun _ => 0)), (xq51, ia (cA 0) 48 (fun _ => 0)), (xq52, .inr (0, [.ref xq53, .ref xq54, .int (0 : Int32)])), (xq53, ia (cA 0) 48 (fun _ => 0)), (xq54, ia (cA 0) 48 (fun _ => 0)), (xq55, .inr (0, [.ref xq56, .ref xq57, .int (0 : Int32)])), (xq56, ia (cA 0) 48 (fun _ => 0)), (xq57, ia (cA 0) 48 (fun _ => 0)), (xq58, .inr (0, [.ref xq59, .ref xq60, .int (0 : Int32)])), (xq59, ia (cA 0) 48 (fun _ => 0)), (xq60, ia (cA 0) 48 (fun _ => 0)), (xq61, .inr (0, [.ref xq62, .ref xq63, .int (0 : Int32)])), (xq62, ia (cA 0) 48 (fun _ => 0)), (xq63, ia (cA 0) 48 (fun _ => 0)), (xq66, .inr (9, [.ref xq67, .ref xq68, .ref xq69, .ref xq70, .int (0 : Int32)])), (xq67, qa (cA 1) 8 (fun j => if j < 8 then some (ad (104 + 1 * j)) else none)), ((xr5 0), ia (cA 0) 8 (fun _ => 0)), ((xr5 1), ia (cA 0) 8 (fun _ => 0)), ((xr5 2), ia (cA 0) 8 (fun _ => 0)), ((xr5 3), ia (cA 0) 8 (fun _ => 0)), ((xr5 4), ia (cA 0) 8 (fun _ => 0)), ((xr5 5), ia (cA 0) 8 (fun _ => 0)), ((xr5 6), ia (cA 0) 8 (fun _ => 0)), ((xr5 7), ia (cA 0) 8 (fun _ => 0)), (xq68, qa (cA 1) 5 (fun j => if j < 5 then some (ad (113 + 1 * j)) else none)), ((xr6 0), ia (cA 0) 6 (fun _ => 0)), ((xr6 1), ia (cA 0) 6 (fun _ => 0)), ((xr6 2), ia (cA 0) 6 (fun _ => 0)), ((xr6 3), ia (cA 0) 6 (fun _ => 0)), ((xr6 4), ia (cA 0) 6 (fun _ => 0)), (xq69, ia (cA 0) 6 (fun _ => 0)), (xq70, ia (cA 0) 6 (fun _ => 0)), (xq71, .inr (8, [.ref xq72, .ref xq73, .ref xq74, .ref xq75, .ref xq76, .ref xq77, .int (0 : Int32)])), (xq72, ia (cA 0) 5 (fun _ => 0)), (xq73, ja (cA 5) 341 (fun _ => 0)), (xq74, ja (cA 5) 341 (fun _ => 0)), (xq75, ia (cA 0) 341 (fun _ => 0)), (xq76, ia (cA 0) 341 (fun _ => 0)), (xq77, ia (cA 0) 341 (fun _ => 0)), (xq78, .inr (6, [.ref xq79, .int (0 : Int32), .int (0 : Int32), .int (1 : Int32)])), (xq79, ia (cA 0) 9 (fun _ => 0)), (m0, .inr (12, [.ref mq1, .int (0 : Int32), .int (1 : Int32), .int (0 : Int32), .int (0 : Int32), .int (0 : Int32), .int (0 : Int32), .int (0 : Int32), .int (0 : Int32), .int (0 : Int32), .ref mq2, .ref mq3, .ref mq4, .ref mq5, .ref mq6, .ref mq7, .ref mq8, .ref mq9, .int (0 : Int32), .int (0 : Int32), .int (0 : Int32), .ref mq10, .ref mq11, .ref mq12, .ref mq13, .ref mq14, .ref mq15, .ref mq16, .ref mq17, .ref mq18, .ref mq19, .int (0 : Int32), .int (0 : Int32), .ref mq20, .ref mq21, .ref mq22, .ref mq23, .ref mq24, .ref mq25, .int (0 : Int32), .int (0 : Int32), .ref mq26, .int (0 : Int32), .int (0 : Int32), .int (0 : Int32), .int (0 : Int32), .int (0 : Int32), .int (0 : Int32), .int (0 : Int32), .int (0 : Int32), .ref mq27, .ref mq28, .ref mq29, .ref mq30, .ref mq31, .ref mq32, .int (0 : Int32), .int (0 : Int32), .int (0 : Int32), .int (0 : Int32), .int (0 : Int32), .int (0 : Int32), .int (0 : Int32), .int (0 : Int32), .int (0 : Int32), .int (0 : Int32), .int (0 : Int32), .ref mq33, .ref mq34, .ref mq35, .ref mq36, .ref mq37, .ref mq38, .ref mq39, .ref mq40, .int (0 : Int32), .ref mq41, .ref mq42, .ref mq43, .ref mq44, .ref mq45, .ref mq46, .ref mq47, .ref mq48, .ref mq49, .ref mq50])), (mq1, ia (cA 3) 260 (fun _ => 0)), (mq2, ia (cA 4) 12 (fun _ => 0)), (mq3, ia (cA 0) 12 (fun _ => 0)), (mq4, ia (cA 0) 144 (fun _ => 0)), (mq5, ia (cA 4) 6 (fun _ => 0)), (mq6, ia (cA 0) 6 (fun _ => 0)), (mq7, ia (cA 0) 288 (fun _ => 0)), (mq8, ia (cA 0) 48 (fun _ => 0)), (mq9, ia (cA 0) 10 (fun _ => -1)), (mq10, ia (cA 0) 2 (fun _ => 0)), (mq11, ia (cA 0) 2 (fun _ => 0)), (mq12, ia (cA 0) 2 (fun _ => 0)), (mq13, ia (cA 0) 32 (fun _ => 0)), (mq14, ia (cA 0) 32 (fun _ => 0)), (mq15, ia (cA 0) 32 (fun _ => 0)), (mq16, ia (cA 0) 32 (fun _ => 0)), (mq17, ia (cA 0) 480 (fun _ => 0)), (mq18, ia (cA 0) 480 (fun _ => 0)), (mq19, ia (cA 0) 2 (fun _ => 0)), (mq20, ia (cA 0) 16 (fun _ => 0)), (mq21, ia (cA 0) 16 (fun _ => 0)), (mq22, ia (cA 0) 16 (fun _ => 0)), (mq23, ia (cA 0) 16 (fun _ => 0)), (mq24, ia (cA 0) 240 (fun _ => 0)), (mq25, ia (cA 0) 240 (fun _ => 0)), (mq26, ia (cA 0) 240 (fun _ => 0)), (mq27, ia (cA 0) 240 (fun _ => 0)), (mq28, ia (cA 4) 240 (fun _ => 0)), (mq29, ia (cA 4) 8 (fun _ => 0)), (mq30, ia (cA 0) 8 (fun _ => 0)), (mq31, ia (cA 0) 8 (fun _ => 0)), (mq32, ia (cA 0) 96 (fun _ => 0)), (mq33, ia (cA 4) 16 (fun _ => 0)), (mq34, ia (cA 0) 16 (fun _ => 0)), (mq35, ia (cA 0) 16 (fun _ => 0)), (mq36, ia (cA 0) 192 (fun _ => 0)), (mq37, ia (cA 0) 2 (fun _ => 0)), (mq38, ia (cA 0) 2 (fun _ => 0)), (mq39, ia (cA 0) 2 (fun _ => 0)), (mq40, ia (cA 0) 2 (fun _ => 0)), (mq41, ia (cA 0) 12 (fun _ => 0)), (mq42, ia (cA 0) 12 (fun _ => 0)), (mq43, ia (cA 0) 8 (fun _ => 0)), (mq44, ia (cA 0) 8 (fun _ => 0)), (mq45, ia (cA 0) 12 (fun _ => 0)), (mq46, ia (cA 0) 64 (fun _ => 0)), (mq47, ia (cA 4) 5 (fun _ => 0)), (mq48, ia (cA 0) 30 (fun _ => 0)), (mq49, ia (cA 0) 6 (fun _ => 0)), (mq50, ia (cA 0) 9 (fun _ => 0))] := (cs9 had0.symm u0 (cs9 had1.symm u1 (cs9 had2.symm u2 (cs9 had3.symm u3 (cs9 had4.symm u4 (cs9 had5.symm u5 (cs9 had6.symm u6 (cs9 had7.symm u7 (cs9 had8.symm u8 (cs9 had9.symm u9 (cs9 had10.symm u10 (cs9 had11.symm u11 (cs9 had12.symm u12 (cs9 had13.symm u13 (cs9 had14.symm u14 (cs9 had15.symm u15 (cs9 had16.symm u16 (cs9 had17.symm u17 (cs9 had18.symm u18 (cs9 had19.symm u19 (cs9 had20.symm u20 (cs9 had21.symm u21 (cs9 had22.symm u22 (cs9 had23.symm u23 (cs9 had24.symm u24 (cs9 had25.symm u25 (cs9 had26.symm u26 (cs9 had27.symm u27 (cs9 had28.symm u28 (cs9 had29.symm u29 (cs9 had30.symm u30 (cs9 had31.symm u31 (cs9 had32.symm u32 (cs9 had33.symm u33 (cs9 had34.symm u34 (cs9 had35.symm u35 (cs9 had36.symm u36 (cs9 had37.symm u37 (cs9 had38.symm u38 (cs9 had39.symm u39 (cs9 had40.symm u40 (cs9 had41.symm u41 (cs9 had42.symm u42 (cs9 had43.symm u43 (cs9 had44.symm u44 (cs9 had45.symm u45 (cs9 had46.symm u46 (cs9 had47.symm u47 (cs9 had48.symm u48 (cs9 had49.symm u49 (cs9 had50.symm u50 (cs9 had51.symm u51 (cs9 had52.symm u52 (cs9 had53.symm u53 (cs9 had54.symm u54 (cs9 had55.symm u55 (cs9 had56.symm u56 (cs9 had57.symm u57 (cs9 had58.symm u58 (cs9 had59.symm u59 (cs9 had60.symm u60 (cs9 had61.symm u61 (cs9 had62.symm u62 (cs9 had63.symm u63 (cs9 had64.symm u64 (cs9 had65.symm u65 (cs9 had66.symm u66 (cs9 had67.symm u67 (cs9 had68.symm u68 (cs9 had69.symm u69 (cs9 had70.symm u70 (cs9 had71.symm u71 (cs9 had72.symm u72 (cs9 had73.symm u73 (cs9 had74.symm u74 (cs9 had75.symm u75 (cs9 had76.symm u76 (cs9 had77.symm u77 (cs9 had78.symm u78 (cs9 had79.symm u79 (cs9 had80.symm u80 (cs9 had81.symm u81 (cs9 had82.symm u82 (cs9 had83.symm u83 (cs9 had84.symm u84 (cs9 had85.symm u85 (cs9 had86.symm u86 (cs9 had87.symm u87 (cs9 had88.symm u88 (cs9 had89.symm u89 (cs9 had90.symm u90 (cs9 had91.symm u91 (cs9 had92.symm u92 (cs9 had93.symm u93 (cs9 had94.symm u94 (cs9 had95.symm u95 (cs9 had96.symm u96 (cs9 had97.symm u97 (cs9 had98.symm u98 (cs9 had99.symm u99 (cs9 had100.symm u100 (cs9 had101.symm u101 (cs9 had102.symm u102 (cs9 had103.symm u103 (cs9 had104.symm u104 (cs9 had105.symm u105 (cs9 had106.symm u106 (cs9 had107.symm u107 (cs9 had108.symm u108 (cs9 had109.symm u109 (cs9 had110.symm u110 (cs9 had111.symm u111 (cs9 had112.symm u112 (cs9 had113.symm u113 (cs9 had114.symm u114 (cs9 had115.symm u115 (cs9 had116.symm u116 (cs9 had117.symm u117 (cs9 had118.symm u118 (cs9 had119.symm u119 (cs9 had120.symm u120 (cs9 had121.symm u121 (cs9 had122.symm u122 (cs9 had123.symm u123 (cs9 had124.symm u124 (cs9 had125.symm u125 (cs9 had126.symm u126 (cs9 had127.symm u127 (cs9 had128.symm u128 (cs9 had129.symm u129 (cs9 had130.symm u130 (cs9 had131.symm u131 (cs9 had132.symm u132 (cs9 had133.symm u133 (cs9 had134.symm u134 (cs9 had135.symm u135 (cs9 had136.symm u136 (cs9 had137.symm u137 (cs9 had138.symm u138 (cs9 had139.symm u139 (cs9 had140.symm u140 (cs9 had141.symm u141 (cs9 had142.symm u142 (cs9 had143.symm u143 (cs9 had144.symm u144 (cs9 had145.symm u145 (cs9 had146.symm u146 (cs9 had147.symm u147 (cs9 had148.symm u148 (cs9 had149.symm u149 (cs9 had150.symm u150 (cs9 had151.symm u151 (cs9 had152.symm u152 (cs9 had153.symm u153 (cs9 had154.symm u154 (cs9 had155.symm u155 (cs9 had156.symm u156 (cs9 had157.symm u157 (cs9 had158.symm u158 (cs9 had159.symm u159 (cs9 had160.symm u160 (cs9 had161.symm u161 (cs9 had162.symm u162 (cs9 had163.symm u163 (cs9 had164.symm u164 (cs9 had165.symm u165 (cs9 had166.symm u166 (cs9 had167.symm u167 (cs9 had168.symm u168 (cs9 had169.symm u169 (cs9 had170.symm u170 (cs9 had171.symm u171 (cs9 had172.symm u172 (cs9 had173.symm u173 (cs9 had174.symm u174 (cs9 had175.symm u175 (cs9 had176.symm u176 (cs9 had177.symm u177 (cs9 had178.symm u178 (cs9 had179.symm u179 rfl))))))))))))))))))))))))))))))))))))))))))))))))))))))))))))))))))))))))))))))))))))))))))))))))))))))))))))))))))))))))))))))))))))))))))))))))))))))))))))))))))))))))))))))))))))
  exact (congrArg (fun w => WL K w H locs) (e8.trans e9)).mpr hW
