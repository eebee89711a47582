section EN
variable {K : KT} {cA : Nat → ClassId} {cc : ByteArray} {nL : Nat} {own : String} {k n : Nat} {H : Heap} {locs : List Loc} {pc : Nat} {ls : Array Slot} {rest : List Value} {ad : Nat → Nat} {g : Nat → va_E} {N : Nat}
def EndsZ (N : Nat) (ad : Nat → Nat) (K : KT) (cc : ByteArray) (ty : FieldType) (P : Option Value → (Nat → va_E) → Prop) : Prop :=
  (∀ g H locs pc ls v, WB N ad K g H locs → narrow ty (.int v) = .int v → P (some (.int v)) g → decode cc pc = .ok (.ireturn, 1) → XX K 0 0 H locs pc ls [.int v])
theorem q_enterZ {l : Launch} {D : va_G} {y : MethodName} {maxL : Nat} {ty : FieldType} {rm : Nat × Nat} {av : List Value} {P : Option Value → (Nat → va_E) → Prop} (hy : plainName y.cls = true) (hav : (lg_sl av).length ≤ maxL)
    (body : ∀ (K : KT) (H : Heap) (locs : List Loc) (ls : Array Slot), Lof K = l → Dof K = D → MB K cA cc maxL y.cls → WB N ad K g H locs → HasRoom K rm.1 rm.2 → Cells K 0 0 → EndsZ N ad K cc ty P → lv_has ls maxL (lv_args 0 av) → XX K 0 0 H locs 0 ls []) : CT l N ad cA D y cc maxL (some ty) rm av g P :=
  q_enter (En := fun K => EndsZ N ad K cc ty P) hy hav (fun p l e R s m args below meth c D hx hb hr hlk g H locs pc ls v hW hn hp hd => W.zret (v := v) (ty := ty) hx hb hr hn (fun t ht hWm => ⟨⟨some (.int v), g, rfl, hp, by rw [ht]; exact hW.1⟩, hW.2.2.1.F ht⟩) hW.2.2.1.2.2 hd hlk) body
theorem q_enterA {l : Launch} {D : va_G} {y : MethodName} {maxL : Nat} {ty : FieldType} {rm : Nat × Nat} {av : List Value} {P : Option Value → (Nat → va_E) → Prop} (hy : plainName y.cls = true) (hav : (lg_sl av).length ≤ maxL)
    (body : ∀ (K : KT) (H : Heap) (locs : List Loc) (ls : Array Slot), Lof K = l → Dof K = D → MB K cA cc maxL y.cls → WB N ad K g H locs → HasRoom K rm.1 rm.2 → Cells K 0 0 → EndsA N ad K cc P → lv_has ls maxL (lv_args 0 av) → XX K 0 0 H locs 0 ls []) : CT l N ad cA D y cc maxL (some (.array ty)) rm av g P :=
  q_enter (En := fun K => EndsA N ad K cc P) hy hav (fun p l e R s m args below meth c D hx hb hr hlk g H locs pc ls v hW hp hd => W.aret (v := .ref v) hx hb hr (Or.inr ⟨ty, rfl⟩) (Or.inr ⟨v, rfl⟩) (fun t ht hWm => ⟨⟨some (.ref v), g, rfl, hp, by rw [ht]; exact hW.1⟩, hW.2.2.1.F ht⟩) hW.2.2.1.2.2 hd hlk) body
theorem q_enterJ {l : Launch} {D : va_G} {y : MethodName} {maxL : Nat} {rm : Nat × Nat} {av : List Value} {P : Option Value → (Nat → va_E) → Prop} (hy : plainName y.cls = true) (hav : (lg_sl av).length ≤ maxL)
    (body : ∀ (K : KT) (H : Heap) (locs : List Loc) (ls : Array Slot), Lof K = l → Dof K = D → MB K cA cc maxL y.cls → WB N ad K g H locs → HasRoom K rm.1 rm.2 → Cells K 0 0 → EndsJ N ad K cc P → lv_has ls maxL (lv_args 0 av) → XX K 0 0 H locs 0 ls []) : CT l N ad cA D y cc maxL (some .long) rm av g P :=
  q_enter (En := fun K => EndsJ N ad K cc P) hy hav (fun p l e R s m args below meth c D hx hb hr hlk g H locs pc ls v hW hp hd => W.lret (v := v) hx hb hr (fun t ht hWm => ⟨⟨some (.long v), g, rfl, hp, by rw [ht]; exact hW.1⟩, hW.2.2.1.F ht⟩) hW.2.2.1.2.2 hd hlk) body
/-- a number on the stack gets a name -/
theorem q_top {x : Int32} (kk : ∀ y : Int32, y = x → XX K k n H locs pc ls (.int y :: rest)) : XX K k n H locs pc ls (.int x :: rest) := kk x rfl
end EN
theorem nz_0 : narrow .boolean (.int 0) = .int 0 := rfl
theorem nz_1 : narrow .boolean (.int 1) = .int 1 := rfl
theorem nz_or {r : Int32} (h : r.toInt = 0 ∨ r.toInt = 1) : narrow .boolean (.int r) = .int r := by
  rcases h with h | h
  · rw [show r = 0 from Int32.toInt_inj.mp h]; rfl
  · rw [show r = 1 from Int32.toInt_inj.mp h]; rfl
/-- a pure method: an int, nothing changed -/
def PU (g : Nat → va_E) (Φ : Int32 → Prop) : Option Value → (Nat → va_E) → Prop := fun v g' => ∃ r : Int32, v = some (.int r) ∧ Φ r ∧ g = g'
theorem kc_m1000 : ((-1000) : Int32).toInt = (-1000) := by decide +kernel
theorem kc_m30 : ((-30) : Int32).toInt = (-30) := by decide +kernel
theorem kc_m29 : ((-29) : Int32).toInt = (-29) := by decide +kernel
theorem kc_m28 : ((-28) : Int32).toInt = (-28) := by decide +kernel
theorem kc_m27 : ((-27) : Int32).toInt = (-27) := by decide +kernel
theorem kc_m26 : ((-26) : Int32).toInt = (-26) := by decide +kernel
theorem kc_m25 : ((-25) : Int32).toInt = (-25) := by decide +kernel
theorem kc_m24 : ((-24) : Int32).toInt = (-24) := by decide +kernel
theorem kc_m23 : ((-23) : Int32).toInt = (-23) := by decide +kernel
theorem kc_m22 : ((-22) : Int32).toInt = (-22) := by decide +kernel
theorem kc_m21 : ((-21) : Int32).toInt = (-21) := by decide +kernel
theorem kc_m20 : ((-20) : Int32).toInt = (-20) := by decide +kernel
theorem kc_m19 : ((-19) : Int32).toInt = (-19) := by decide +kernel
theorem kc_m18 : ((-18) : Int32).toInt = (-18) := by decide +kernel
theorem kc_m17 : ((-17) : Int32).toInt = (-17) := by decide +kernel
theorem kc_m16 : ((-16) : Int32).toInt = (-16) := by decide +kernel
theorem kc_m15 : ((-15) : Int32).toInt = (-15) := by decide +kernel
theorem kc_m14 : ((-14) : Int32).toInt = (-14) := by decide +kernel
theorem kc_m13 : ((-13) : Int32).toInt = (-13) := by decide +kernel
theorem kc_m12 : ((-12) : Int32).toInt = (-12) := by decide +kernel
theorem kc_m11 : ((-11) : Int32).toInt = (-11) := by decide +kernel
theorem kc_m10 : ((-10) : Int32).toInt = (-10) := by decide +kernel
theorem kc_m9 : ((-9) : Int32).toInt = (-9) := by decide +kernel
theorem kc_m8 : ((-8) : Int32).toInt = (-8) := by decide +kernel
theorem kc_m7 : ((-7) : Int32).toInt = (-7) := by decide +kernel
theorem kc_m6 : ((-6) : Int32).toInt = (-6) := by decide +kernel
theorem kc_m5 : ((-5) : Int32).toInt = (-5) := by decide +kernel
theorem kc_m4 : ((-4) : Int32).toInt = (-4) := by decide +kernel
theorem kc_m3 : ((-3) : Int32).toInt = (-3) := by decide +kernel
theorem kc_m2 : ((-2) : Int32).toInt = (-2) := by decide +kernel
theorem kc_m1 : ((-1) : Int32).toInt = (-1) := by decide +kernel
theorem kc_0 : (0 : Int32).toInt = 0 := by decide +kernel
theorem kc_1 : (1 : Int32).toInt = 1 := by decide +kernel
theorem kc_2 : (2 : Int32).toInt = 2 := by decide +kernel
theorem kc_3 : (3 : Int32).toInt = 3 := by decide +kernel
theorem kc_4 : (4 : Int32).toInt = 4 := by decide +kernel
theorem kc_5 : (5 : Int32).toInt = 5 := by decide +kernel
theorem kc_6 : (6 : Int32).toInt = 6 := by decide +kernel
theorem kc_7 : (7 : Int32).toInt = 7 := by decide +kernel
theorem kc_8 : (8 : Int32).toInt = 8 := by decide +kernel
theorem kc_9 : (9 : Int32).toInt = 9 := by decide +kernel
theorem kc_10 : (10 : Int32).toInt = 10 := by decide +kernel
theorem kc_11 : (11 : Int32).toInt = 11 := by decide +kernel
theorem kc_12 : (12 : Int32).toInt = 12 := by decide +kernel
theorem kc_13 : (13 : Int32).toInt = 13 := by decide +kernel
theorem kc_14 : (14 : Int32).toInt = 14 := by decide +kernel
theorem kc_15 : (15 : Int32).toInt = 15 := by decide +kernel
theorem kc_16 : (16 : Int32).toInt = 16 := by decide +kernel
theorem kc_17 : (17 : Int32).toInt = 17 := by decide +kernel
theorem kc_18 : (18 : Int32).toInt = 18 := by decide +kernel
theorem kc_19 : (19 : Int32).toInt = 19 := by decide +kernel
theorem kc_20 : (20 : Int32).toInt = 20 := by decide +kernel
theorem kc_21 : (21 : Int32).toInt = 21 := by decide +kernel
theorem kc_22 : (22 : Int32).toInt = 22 := by decide +kernel
theorem kc_23 : (23 : Int32).toInt = 23 := by decide +kernel
theorem kc_24 : (24 : Int32).toInt = 24 := by decide +kernel
theorem kc_25 : (25 : Int32).toInt = 25 := by decide +kernel
theorem kc_26 : (26 : Int32).toInt = 26 := by decide +kernel
theorem kc_27 : (27 : Int32).toInt = 27 := by decide +kernel
theorem kc_28 : (28 : Int32).toInt = 28 := by decide +kernel
theorem kc_29 : (29 : Int32).toInt = 29 := by decide +kernel
theorem kc_30 : (30 : Int32).toInt = 30 := by decide +kernel
theorem kc_31 : (31 : Int32).toInt = 31 := by decide +kernel
theorem kc_32 : (32 : Int32).toInt = 32 := by decide +kernel
theorem kc_33 : (33 : Int32).toInt = 33 := by decide +kernel
theorem kc_34 : (34 : Int32).toInt = 34 := by decide +kernel
theorem kc_35 : (35 : Int32).toInt = 35 := by decide +kernel
theorem kc_36 : (36 : Int32).toInt = 36 := by decide +kernel
theorem kc_37 : (37 : Int32).toInt = 37 := by decide +kernel
theorem kc_38 : (38 : Int32).toInt = 38 := by decide +kernel
theorem kc_39 : (39 : Int32).toInt = 39 := by decide +kernel
theorem kc_40 : (40 : Int32).toInt = 40 := by decide +kernel
theorem kc_41 : (41 : Int32).toInt = 41 := by decide +kernel
theorem kc_42 : (42 : Int32).toInt = 42 := by decide +kernel
theorem kc_43 : (43 : Int32).toInt = 43 := by decide +kernel
theorem kc_44 : (44 : Int32).toInt = 44 := by decide +kernel
theorem kc_45 : (45 : Int32).toInt = 45 := by decide +kernel
theorem kc_46 : (46 : Int32).toInt = 46 := by decide +kernel
theorem kc_47 : (47 : Int32).toInt = 47 := by decide +kernel
theorem kc_48 : (48 : Int32).toInt = 48 := by decide +kernel
theorem kc_49 : (49 : Int32).toInt = 49 := by decide +kernel
theorem kc_50 : (50 : Int32).toInt = 50 := by decide +kernel
theorem kc_51 : (51 : Int32).toInt = 51 := by decide +kernel
theorem kc_52 : (52 : Int32).toInt = 52 := by decide +kernel
theorem kc_53 : (53 : Int32).toInt = 53 := by decide +kernel
theorem kc_54 : (54 : Int32).toInt = 54 := by decide +kernel
theorem kc_55 : (55 : Int32).toInt = 55 := by decide +kernel
theorem kc_56 : (56 : Int32).toInt = 56 := by decide +kernel
theorem kc_57 : (57 : Int32).toInt = 57 := by decide +kernel
theorem kc_58 : (58 : Int32).toInt = 58 := by decide +kernel
theorem kc_59 : (59 : Int32).toInt = 59 := by decide +kernel
theorem kc_60 : (60 : Int32).toInt = 60 := by decide +kernel
theorem kc_61 : (61 : Int32).toInt = 61 := by decide +kernel
theorem kc_62 : (62 : Int32).toInt = 62 := by decide +kernel
theorem kc_63 : (63 : Int32).toInt = 63 := by decide +kernel
theorem kc_64 : (64 : Int32).toInt = 64 := by decide +kernel
theorem kc_65 : (65 : Int32).toInt = 65 := by decide +kernel
theorem kc_66 : (66 : Int32).toInt = 66 := by decide +kernel
theorem kc_67 : (67 : Int32).toInt = 67 := by decide +kernel
theorem kc_68 : (68 : Int32).toInt = 68 := by decide +kernel
theorem kc_69 : (69 : Int32).toInt = 69 := by decide +kernel
theorem kc_70 : (70 : Int32).toInt = 70 := by decide +kernel
theorem kc_71 : (71 : Int32).toInt = 71 := by decide +kernel
theorem kc_72 : (72 : Int32).toInt = 72 := by decide +kernel
theorem kc_73 : (73 : Int32).toInt = 73 := by decide +kernel
theorem kc_74 : (74 : Int32).toInt = 74 := by decide +kernel
theorem kc_75 : (75 : Int32).toInt = 75 := by decide +kernel
theorem kc_76 : (76 : Int32).toInt = 76 := by decide +kernel
theorem kc_77 : (77 : Int32).toInt = 77 := by decide +kernel
theorem kc_78 : (78 : Int32).toInt = 78 := by decide +kernel
theorem kc_79 : (79 : Int32).toInt = 79 := by decide +kernel
theorem kc_80 : (80 : Int32).toInt = 80 := by decide +kernel
theorem kc_81 : (81 : Int32).toInt = 81 := by decide +kernel
theorem kc_82 : (82 : Int32).toInt = 82 := by decide +kernel
theorem kc_83 : (83 : Int32).toInt = 83 := by decide +kernel
theorem kc_84 : (84 : Int32).toInt = 84 := by decide +kernel
theorem kc_85 : (85 : Int32).toInt = 85 := by decide +kernel
theorem kc_86 : (86 : Int32).toInt = 86 := by decide +kernel
theorem kc_87 : (87 : Int32).toInt = 87 := by decide +kernel
theorem kc_88 : (88 : Int32).toInt = 88 := by decide +kernel
theorem kc_89 : (89 : Int32).toInt = 89 := by decide +kernel
theorem kc_90 : (90 : Int32).toInt = 90 := by decide +kernel
theorem kc_91 : (91 : Int32).toInt = 91 := by decide +kernel
theorem kc_92 : (92 : Int32).toInt = 92 := by decide +kernel
theorem kc_93 : (93 : Int32).toInt = 93 := by decide +kernel
theorem kc_94 : (94 : Int32).toInt = 94 := by decide +kernel
theorem kc_95 : (95 : Int32).toInt = 95 := by decide +kernel
theorem kc_96 : (96 : Int32).toInt = 96 := by decide +kernel
theorem kc_97 : (97 : Int32).toInt = 97 := by decide +kernel
theorem kc_98 : (98 : Int32).toInt = 98 := by decide +kernel
theorem kc_99 : (99 : Int32).toInt = 99 := by decide +kernel
theorem kc_100 : (100 : Int32).toInt = 100 := by decide +kernel
theorem kc_101 : (101 : Int32).toInt = 101 := by decide +kernel
theorem kc_102 : (102 : Int32).toInt = 102 := by decide +kernel
theorem kc_103 : (103 : Int32).toInt = 103 := by decide +kernel
theorem kc_104 : (104 : Int32).toInt = 104 := by decide +kernel
theorem kc_105 : (105 : Int32).toInt = 105 := by decide +kernel
theorem kc_106 : (106 : Int32).toInt = 106 := by decide +kernel
theorem kc_107 : (107 : Int32).toInt = 107 := by decide +kernel
theorem kc_108 : (108 : Int32).toInt = 108 := by decide +kernel
theorem kc_109 : (109 : Int32).toInt = 109 := by decide +kernel
theorem kc_110 : (110 : Int32).toInt = 110 := by decide +kernel
theorem kc_111 : (111 : Int32).toInt = 111 := by decide +kernel
theorem kc_112 : (112 : Int32).toInt = 112 := by decide +kernel
theorem kc_113 : (113 : Int32).toInt = 113 := by decide +kernel
theorem kc_114 : (114 : Int32).toInt = 114 := by decide +kernel
theorem kc_115 : (115 : Int32).toInt = 115 := by decide +kernel
theorem kc_116 : (116 : Int32).toInt = 116 := by decide +kernel
theorem kc_117 : (117 : Int32).toInt = 117 := by decide +kernel
theorem kc_118 : (118 : Int32).toInt = 118 := by decide +kernel
theorem kc_119 : (119 : Int32).toInt = 119 := by decide +kernel
theorem kc_120 : (120 : Int32).toInt = 120 := by decide +kernel
theorem kc_121 : (121 : Int32).toInt = 121 := by decide +kernel
theorem kc_122 : (122 : Int32).toInt = 122 := by decide +kernel
theorem kc_123 : (123 : Int32).toInt = 123 := by decide +kernel
theorem kc_124 : (124 : Int32).toInt = 124 := by decide +kernel
theorem kc_125 : (125 : Int32).toInt = 125 := by decide +kernel
theorem kc_126 : (126 : Int32).toInt = 126 := by decide +kernel
theorem kc_127 : (127 : Int32).toInt = 127 := by decide +kernel
theorem kc_128 : (128 : Int32).toInt = 128 := by decide +kernel
theorem kc_129 : (129 : Int32).toInt = 129 := by decide +kernel
theorem kc_144 : (144 : Int32).toInt = 144 := by decide +kernel
theorem kc_192 : (192 : Int32).toInt = 192 := by decide +kernel
theorem kc_200 : (200 : Int32).toInt = 200 := by decide +kernel
theorem kc_240 : (240 : Int32).toInt = 240 := by decide +kernel
theorem kc_255 : (255 : Int32).toInt = 255 := by decide +kernel
theorem kc_256 : (256 : Int32).toInt = 256 := by decide +kernel
theorem kc_260 : (260 : Int32).toInt = 260 := by decide +kernel
theorem kc_288 : (288 : Int32).toInt = 288 := by decide +kernel
theorem kc_341 : (341 : Int32).toInt = 341 := by decide +kernel
theorem kc_480 : (480 : Int32).toInt = 480 := by decide +kernel
theorem kc_999 : (999 : Int32).toInt = 999 := by decide +kernel
theorem kc_1000 : (1000 : Int32).toInt = 1000 := by decide +kernel
theorem kc_4095 : (4095 : Int32).toInt = 4095 := by decide +kernel
theorem kc_4096 : (4096 : Int32).toInt = 4096 := by decide +kernel
theorem kc_9999 : (9999 : Int32).toInt = 9999 := by decide +kernel
theorem kc_13849 : (13849 : Int32).toInt = 13849 := by decide +kernel
theorem kc_25173 : (25173 : Int32).toInt = 25173 := by decide +kernel
theorem kc_65535 : (65535 : Int32).toInt = 65535 := by decide +kernel
theorem kc_65536 : (65536 : Int32).toInt = 65536 := by decide +kernel
theorem kc_100000 : (100000 : Int32).toInt = 100000 := by decide +kernel
theorem kc_252645135 : (252645135 : Int32).toInt = 252645135 := by decide +kernel
theorem kc_858993459 : (858993459 : Int32).toInt = 858993459 := by decide +kernel
theorem kc_1000000000 : (1000000000 : Int32).toInt = 1000000000 := by decide +kernel
theorem kc_1431655765 : (1431655765 : Int32).toInt = 1431655765 := by decide +kernel
theorem i_and (x y : Int32) : (x &&& y).toBitVec = x.toBitVec &&& y.toBitVec := rfl
/-- bit i of a number -/
def tb (x : Int32) (i : Nat) : Bool := x.toBitVec.getLsbD i
theorem tb_0 (i : Nat) : tb 0 i = false := by simp [tb]
