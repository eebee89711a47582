/-- the cells of a new class object and a new reference, by their labels -/
def gF_0 (ad : Nat → Nat) : Nat → Value := fun k => match k with
  | 0 => .ref (ad 1)
  | 1 => .ref (ad 3)
  | 2 => .ref (ad 80)
  | 3 => .ref (ad 102)
  | 4 => .ref (ad 120)
  | 5 => .ref (ad 127)
  | 6 => .ref (ad 78)
  | 7 => .ref (ad 79)
  | 8 => .ref (ad 75)
  | 9 => .ref (ad 61)
  | 10 => .ref (ad 18)
  | 11 => .ref (ad 30)
  | 12 => .ref (ad 42)
  | 13 => .ref (ad 54)
  | 14 => .ref (ad 68)
  | 15 => .int 0
  | _ => .null
def gF_1 (ad : Nat → Nat) : Nat → Value := fun k => match k with
  | 0 => .ref (ad 2)
  | 1 => .int 0
  | _ => .null
def gF_3 (ad : Nat → Nat) : Nat → Value := fun k => match k with
  | 0 => .ref (ad 4)
  | 1 => .ref (ad 5)
  | 2 => .int 0
  | _ => .null
def gF_18 (ad : Nat → Nat) : Nat → Value := fun k => match k with
  | 0 => .ref (ad 19)
  | 1 => .ref (ad 20)
  | 2 => .ref (ad 21)
  | 3 => .int 0
  | 4 => .int 0
  | 5 => .int 0
  | 6 => .int 0
  | 7 => .int 1
  | _ => .null
def gF_30 (ad : Nat → Nat) : Nat → Value := fun k => match k with
  | 0 => .ref (ad 31)
  | 1 => .ref (ad 32)
  | 2 => .ref (ad 33)
  | 3 => .int 0
  | 4 => .int 0
  | 5 => .int 0
  | 6 => .int 0
  | 7 => .int 1
  | _ => .null
def gF_42 (ad : Nat → Nat) : Nat → Value := fun k => match k with
  | 0 => .ref (ad 43)
  | 1 => .ref (ad 44)
  | 2 => .ref (ad 45)
  | 3 => .int 0
  | 4 => .int 0
  | 5 => .int 0
  | 6 => .int 0
  | 7 => .int 1
  | _ => .null
def gF_54 (ad : Nat → Nat) : Nat → Value := fun k => match k with
  | 0 => .ref (ad 55)
  | 1 => .ref (ad 56)
  | 2 => .ref (ad 57)
  | 3 => .ref (ad 58)
  | 4 => .ref (ad 59)
  | 5 => .ref (ad 60)
  | 6 => .int 0
  | 7 => .int 0
  | _ => .null
def gF_61 (ad : Nat → Nat) : Nat → Value := fun k => match k with
  | 0 => .ref (ad 62)
  | 1 => .ref (ad 63)
  | 2 => .ref (ad 64)
  | 3 => .ref (ad 65)
  | 4 => .ref (ad 66)
  | 5 => .ref (ad 67)
  | 6 => .int 0
  | 7 => .int 0
  | _ => .null
def gF_68 (ad : Nat → Nat) : Nat → Value := fun k => match k with
  | 0 => .ref (ad 69)
  | 1 => .ref (ad 70)
  | 2 => .ref (ad 71)
  | 3 => .ref (ad 72)
  | 4 => .ref (ad 73)
  | 5 => .ref (ad 74)
  | 6 => .int 0
  | 7 => .int 0
  | _ => .null
def gF_75 (ad : Nat → Nat) : Nat → Value := fun k => match k with
  | 0 => .ref (ad 76)
  | 1 => .ref (ad 77)
  | 2 => .int 0
  | _ => .null
def gF_78 (ad : Nat → Nat) : Nat → Value := fun k => match k with
  | 0 => .ref (ad 2)
  | 1 => .int 0
  | 2 => .int 0
  | 3 => .int 0
  | 4 => .ref (ad 75)
  | _ => .null
def gF_79 (ad : Nat → Nat) : Nat → Value := fun k => match k with
  | 0 => .ref (ad 2)
  | 1 => .int 0
  | 2 => .int 0
  | 3 => .int 0
  | 4 => .ref (ad 68)
  | _ => .null
def gF_80 (ad : Nat → Nat) : Nat → Value := fun k => match k with
  | 0 => .ref (ad 3)
  | 1 => .ref (ad 81)
  | 2 => .ref (ad 82)
  | 3 => .ref (ad 83)
  | 4 => .int 0
  | 5 => .int 0
  | 6 => .int 0
  | 7 => .int 0
  | 8 => .int 0
  | 9 => .ref (ad 54)
  | 10 => .ref (ad 18)
  | _ => .null
def gF_84 (ad : Nat → Nat) : Nat → Value := fun k => match k with
  | 0 => .ref (ad 85)
  | 1 => .ref (ad 86)
  | 2 => .int 0
  | _ => .null
def gF_87 (ad : Nat → Nat) : Nat → Value := fun k => match k with
  | 0 => .ref (ad 88)
  | 1 => .ref (ad 89)
  | 2 => .int 0
  | _ => .null
def gF_90 (ad : Nat → Nat) : Nat → Value := fun k => match k with
  | 0 => .ref (ad 91)
  | 1 => .ref (ad 92)
  | 2 => .int 0
  | _ => .null
def gF_93 (ad : Nat → Nat) : Nat → Value := fun k => match k with
  | 0 => .ref (ad 94)
  | 1 => .ref (ad 95)
  | 2 => .int 0
  | _ => .null
def gF_96 (ad : Nat → Nat) : Nat → Value := fun k => match k with
  | 0 => .ref (ad 97)
  | 1 => .ref (ad 98)
  | 2 => .int 0
  | _ => .null
def gF_99 (ad : Nat → Nat) : Nat → Value := fun k => match k with
  | 0 => .ref (ad 100)
  | 1 => .ref (ad 101)
  | 2 => .int 0
  | _ => .null
def gF_102 (ad : Nat → Nat) : Nat → Value := fun k => match k with
  | 0 => .ref (ad 103)
  | 1 => .ref (ad 112)
  | 2 => .ref (ad 118)
  | 3 => .ref (ad 119)
  | 4 => .int 0
  | _ => .null
def gF_120 (ad : Nat → Nat) : Nat → Value := fun k => match k with
  | 0 => .ref (ad 121)
  | 1 => .ref (ad 122)
  | 2 => .ref (ad 123)
  | 3 => .ref (ad 124)
  | 4 => .ref (ad 125)
  | 5 => .ref (ad 126)
  | 6 => .int 0
  | _ => .null
def gF_127 (ad : Nat → Nat) : Nat → Value := fun k => match k with
  | 0 => .ref (ad 128)
  | 1 => .int 0
  | 2 => .int 0
  | 3 => .int 1
  | _ => .null
def gF_129 (ad : Nat → Nat) : Nat → Value := fun k => match k with
  | 0 => .ref (ad 130)
  | 1 => .int 0
  | 2 => .int 1
  | 3 => .int 0
  | 4 => .int 0
  | 5 => .int 0
  | 6 => .int 0
  | 7 => .int 0
  | 8 => .int 0
  | 9 => .int 0
  | 10 => .ref (ad 131)
  | 11 => .ref (ad 132)
  | 12 => .ref (ad 133)
  | 13 => .ref (ad 134)
  | 14 => .ref (ad 135)
  | 15 => .ref (ad 136)
  | 16 => .ref (ad 137)
  | 17 => .ref (ad 138)
  | 18 => .int 0
  | 19 => .int 0
  | 20 => .int 0
  | 21 => .ref (ad 139)
  | 22 => .ref (ad 140)
  | 23 => .ref (ad 141)
  | 24 => .ref (ad 142)
  | 25 => .ref (ad 143)
  | 26 => .ref (ad 144)
  | 27 => .ref (ad 145)
  | 28 => .ref (ad 146)
  | 29 => .ref (ad 147)
  | 30 => .ref (ad 148)
  | 31 => .int 0
  | 32 => .int 0
  | 33 => .ref (ad 149)
  | 34 => .ref (ad 150)
  | 35 => .ref (ad 151)
  | 36 => .ref (ad 152)
  | 37 => .ref (ad 153)
  | 38 => .ref (ad 154)
  | 39 => .int 0
  | 40 => .int 0
  | 41 => .ref (ad 155)
  | 42 => .int 0
  | 43 => .int 0
  | 44 => .int 0
  | 45 => .int 0
  | 46 => .int 0
  | 47 => .int 0
  | 48 => .int 0
  | 49 => .int 0
  | 50 => .ref (ad 156)
  | 51 => .ref (ad 157)
  | 52 => .ref (ad 158)
  | 53 => .ref (ad 159)
  | 54 => .ref (ad 160)
  | 55 => .ref (ad 161)
  | 56 => .int 0
  | 57 => .int 0
  | 58 => .int 0
  | 59 => .int 0
  | 60 => .int 0
  | 61 => .int 0
  | 62 => .int 0
  | 63 => .int 0
  | 64 => .int 0
  | 65 => .int 0
  | 66 => .int 0
  | 67 => .ref (ad 162)
  | 68 => .ref (ad 163)
  | 69 => .ref (ad 164)
  | 70 => .ref (ad 165)
  | 71 => .ref (ad 166)
  | 72 => .ref (ad 167)
  | 73 => .ref (ad 168)
  | 74 => .ref (ad 169)
  | 75 => .int 0
  | 76 => .ref (ad 170)
  | 77 => .ref (ad 171)
  | 78 => .ref (ad 172)
  | 79 => .ref (ad 173)
  | 80 => .ref (ad 174)
  | 81 => .ref (ad 175)
  | 82 => .ref (ad 176)
  | 83 => .ref (ad 177)
  | 84 => .ref (ad 178)
  | 85 => .ref (ad 179)
  | _ => .null
def gFl (ad : Nat → Nat) (cA : Nat → ClassId) : List va_E := [ob 11 16 (gF_0 ad),
  ob 10 2 (gF_1 ad),
  ia (cA 0) 260 (fun _ => 0),
  ob 5 3 (gF_3 ad),
  ia (cA 0) 12 (fun _ => 0),
  qa (cA 1) 12 (fun j => if j < 12 then some (ad (6 + 1 * j)) else none),
  ia (cA 0) 12 (fun _ => 0),
  ia (cA 0) 12 (fun _ => 0),
  ia (cA 0) 12 (fun _ => 0),
  ia (cA 0) 12 (fun _ => 0),
  ia (cA 0) 12 (fun _ => 0),
  ia (cA 0) 12 (fun _ => 0),
  ia (cA 0) 12 (fun _ => 0),
  ia (cA 0) 12 (fun _ => 0),
  ia (cA 0) 12 (fun _ => 0),
  ia (cA 0) 12 (fun _ => 0),
  ia (cA 0) 12 (fun _ => 0),
  ia (cA 0) 12 (fun _ => 0),
  ob 7 8 (gF_18 ad),
  ia (cA 0) 8 (fun _ => 0),
  ia (cA 0) 8 (fun _ => 0),
  qa (cA 1) 8 (fun j => if j < 8 then some (ad (22 + 1 * j)) else none),
  ia (cA 0) 12 (fun _ => 0),
  ia (cA 0) 12 (fun _ => 0),
  ia (cA 0) 12 (fun _ => 0),
  ia (cA 0) 12 (fun _ => 0),
  ia (cA 0) 12 (fun _ => 0),
  ia (cA 0) 12 (fun _ => 0),
  ia (cA 0) 12 (fun _ => 0),
  ia (cA 0) 12 (fun _ => 0),
  ob 7 8 (gF_30 ad),
  ia (cA 0) 8 (fun _ => 0),
  ia (cA 0) 8 (fun _ => 0),
  qa (cA 1) 8 (fun j => if j < 8 then some (ad (34 + 1 * j)) else none),
  ia (cA 0) 12 (fun _ => 0),
  ia (cA 0) 12 (fun _ => 0),
  ia (cA 0) 12 (fun _ => 0),
  ia (cA 0) 12 (fun _ => 0),
  ia (cA 0) 12 (fun _ => 0),
  ia (cA 0) 12 (fun _ => 0),
  ia (cA 0) 12 (fun _ => 0),
  ia (cA 0) 12 (fun _ => 0),
  ob 7 8 (gF_42 ad),
  ia (cA 0) 8 (fun _ => 0),
  ia (cA 0) 8 (fun _ => 0),
  qa (cA 1) 8 (fun j => if j < 8 then some (ad (46 + 1 * j)) else none),
  ia (cA 0) 12 (fun _ => 0),
  ia (cA 0) 12 (fun _ => 0),
  ia (cA 0) 12 (fun _ => 0),
  ia (cA 0) 12 (fun _ => 0),
  ia (cA 0) 12 (fun _ => 0),
  ia (cA 0) 12 (fun _ => 0),
  ia (cA 0) 12 (fun _ => 0),
  ia (cA 0) 12 (fun _ => 0),
  ob 3 8 (gF_54 ad),
  ia (cA 0) 16 (fun _ => 0),
  ia (cA 0) 16 (fun _ => 0),
  ia (cA 0) 16 (fun _ => 0),
  ia (cA 0) 256 (fun _ => 0),
  ia (cA 0) 256 (fun _ => 0),
  ia (cA 0) 64 (fun _ => 0),
  ob 3 8 (gF_61 ad),
  ia (cA 0) 16 (fun _ => 0),
  ia (cA 0) 16 (fun _ => 0),
  ia (cA 0) 16 (fun _ => 0),
  ia (cA 0) 256 (fun _ => 0),
  ia (cA 0) 256 (fun _ => 0),
  ia (cA 0) 64 (fun _ => 0),
  ob 3 8 (gF_68 ad),
  ia (cA 0) 16 (fun _ => 0),
  ia (cA 0) 16 (fun _ => 0),
  ia (cA 0) 16 (fun _ => 0),
  ia (cA 0) 256 (fun _ => 0),
  ia (cA 0) 256 (fun _ => 0),
  ia (cA 0) 64 (fun _ => 0),
  ob 0 3 (gF_75 ad),
  ia (cA 0) 48 (fun _ => 0),
  ia (cA 0) 48 (fun _ => 0),
  ob 1 5 (gF_78 ad),
  ob 4 5 (gF_79 ad),
  ob 2 11 (gF_80 ad),
  qa (cA 2) 6 (fun j => if j < 6 then some (ad (84 + 3 * j)) else none),
  ia (cA 0) 10 (fun _ => (-1)),
  ia (cA 0) 8 (fun _ => 0),
  ob 0 3 (gF_84 ad),
  ia (cA 0) 48 (fun _ => 0),
  ia (cA 0) 48 (fun _ => 0),
  ob 0 3 (gF_87 ad),
  ia (cA 0) 48 (fun _ => 0),
  ia (cA 0) 48 (fun _ => 0),
  ob 0 3 (gF_90 ad),
  ia (cA 0) 48 (fun _ => 0),
  ia (cA 0) 48 (fun _ => 0),
  ob 0 3 (gF_93 ad),
  ia (cA 0) 48 (fun _ => 0),
  ia (cA 0) 48 (fun _ => 0),
  ob 0 3 (gF_96 ad),
  ia (cA 0) 48 (fun _ => 0),
  ia (cA 0) 48 (fun _ => 0),
  ob 0 3 (gF_99 ad),
  ia (cA 0) 48 (fun _ => 0),
  ia (cA 0) 48 (fun _ => 0),
  ob 9 5 (gF_102 ad),
  qa (cA 1) 8 (fun j => if j < 8 then some (ad (104 + 1 * j)) else none),
  ia (cA 0) 8 (fun _ => 0),
  ia (cA 0) 8 (fun _ => 0),
  ia (cA 0) 8 (fun _ => 0),
  ia (cA 0) 8 (fun _ => 0),
  ia (cA 0) 8 (fun _ => 0),
  ia (cA 0) 8 (fun _ => 0),
  ia (cA 0) 8 (fun _ => 0),
  ia (cA 0) 8 (fun _ => 0),
  qa (cA 1) 5 (fun j => if j < 5 then some (ad (113 + 1 * j)) else none),
  ia (cA 0) 6 (fun _ => 0),
  ia (cA 0) 6 (fun _ => 0),
  ia (cA 0) 6 (fun _ => 0),
  ia (cA 0) 6 (fun _ => 0),
  ia (cA 0) 6 (fun _ => 0),
  ia (cA 0) 6 (fun _ => 0),
  ia (cA 0) 6 (fun _ => 0),
  ob 8 7 (gF_120 ad),
  ia (cA 0) 5 (fun _ => 0),
  ja (cA 5) 341 (fun _ => 0),
  ja (cA 5) 341 (fun _ => 0),
  ia (cA 0) 341 (fun _ => 0),
  ia (cA 0) 341 (fun _ => 0),
  ia (cA 0) 341 (fun _ => 0),
  ob 6 4 (gF_127 ad),
  ia (cA 0) 9 (fun _ => 0),
  ob 12 86 (gF_129 ad),
  ia (cA 3) 260 (fun _ => 0),
  ia (cA 4) 12 (fun _ => 0),
  ia (cA 0) 12 (fun _ => 0),
  ia (cA 0) 144 (fun _ => 0),
  ia (cA 4) 6 (fun _ => 0),
  ia (cA 0) 6 (fun _ => 0),
  ia (cA 0) 288 (fun _ => 0),
  ia (cA 0) 48 (fun _ => 0),
  ia (cA 0) 10 (fun _ => (-1)),
  ia (cA 0) 2 (fun _ => 0),
  ia (cA 0) 2 (fun _ => 0),
  ia (cA 0) 2 (fun _ => 0),
  ia (cA 0) 32 (fun _ => 0),
  ia (cA 0) 32 (fun _ => 0),
  ia (cA 0) 32 (fun _ => 0),
  ia (cA 0) 32 (fun _ => 0),
  ia (cA 0) 480 (fun _ => 0),
  ia (cA 0) 480 (fun _ => 0),
  ia (cA 0) 2 (fun _ => 0),
  ia (cA 0) 16 (fun _ => 0),
  ia (cA 0) 16 (fun _ => 0),
  ia (cA 0) 16 (fun _ => 0),
  ia (cA 0) 16 (fun _ => 0),
  ia (cA 0) 240 (fun _ => 0),
  ia (cA 0) 240 (fun _ => 0),
  ia (cA 0) 240 (fun _ => 0),
  ia (cA 0) 240 (fun _ => 0),
  ia (cA 4) 240 (fun _ => 0),
  ia (cA 4) 8 (fun _ => 0),
  ia (cA 0) 8 (fun _ => 0),
  ia (cA 0) 8 (fun _ => 0),
  ia (cA 0) 96 (fun _ => 0),
  ia (cA 4) 16 (fun _ => 0),
  ia (cA 0) 16 (fun _ => 0),
  ia (cA 0) 16 (fun _ => 0),
  ia (cA 0) 192 (fun _ => 0),
  ia (cA 0) 2 (fun _ => 0),
  ia (cA 0) 2 (fun _ => 0),
  ia (cA 0) 2 (fun _ => 0),
  ia (cA 0) 2 (fun _ => 0),
  ia (cA 0) 12 (fun _ => 0),
  ia (cA 0) 12 (fun _ => 0),
  ia (cA 0) 8 (fun _ => 0),
  ia (cA 0) 8 (fun _ => 0),
  ia (cA 0) 12 (fun _ => 0),
  ia (cA 0) 64 (fun _ => 0),
  ia (cA 4) 5 (fun _ => 0),
  ia (cA 0) 30 (fun _ => 0),
  ia (cA 0) 6 (fun _ => 0),
  ia (cA 0) 9 (fun _ => 0)]
def gF (ad : Nat → Nat) (cA : Nat → ClassId) (i : Nat) : va_E := (gFl ad cA).getD i (.inr (0, []))
theorem zf {ad : Nat → Nat} {cA : Nat → ClassId} {g : Nat → va_E} {i k : Nat} {v : Value} (hF : ∀ j, j < NN → g j = gF ad cA j) (hi : i < NN) (e : fld (gF ad cA) i k = v) : fld g i k = v := (fld_eq (hF i hi) k).trans e
theorem za {ad : Nat → Nat} {cA : Nat → ClassId} {g : Nat → va_E} {i : Nat} {f : Nat → Int32} (hF : ∀ j, j < NN → g j = gF ad cA j) (hi : i < NN) (e : arI (gF ad cA) i = f) : arI g i = f := (arI_eq (hF i hi)).trans e
theorem zq {ad : Nat → Nat} {cA : Nat → ClassId} {g : Nat → va_E} {i : Nat} {f : Nat → Option Nat} (hF : ∀ j, j < NN → g j = gF ad cA j) (hi : i < NN) (e : arQ (gF ad cA) i = f) : arQ g i = f := (arQ_eq (hF i hi)).trans e

theorem gFi_0 (ad : Nat → Nat) : ∀ k ∈ iFs 11, ∃ x : Int32, gF_0 ad k = .int x := by
  show ∀ k ∈ [15], ∃ x : Int32, gF_0 ad k = .int x
  exact List.forall_mem_cons.mpr ⟨⟨_, rfl⟩, fun _ h => absurd h List.not_mem_nil⟩
theorem gFi_1 (ad : Nat → Nat) : ∀ k ∈ iFs 10, ∃ x : Int32, gF_1 ad k = .int x := by
  show ∀ k ∈ [1], ∃ x : Int32, gF_1 ad k = .int x
  exact List.forall_mem_cons.mpr ⟨⟨_, rfl⟩, fun _ h => absurd h List.not_mem_nil⟩
theorem gFi_3 (ad : Nat → Nat) : ∀ k ∈ iFs 5, ∃ x : Int32, gF_3 ad k = .int x := by
  show ∀ k ∈ [2], ∃ x : Int32, gF_3 ad k = .int x
  exact List.forall_mem_cons.mpr ⟨⟨_, rfl⟩, fun _ h => absurd h List.not_mem_nil⟩
theorem gFi_18 (ad : Nat → Nat) : ∀ k ∈ iFs 7, ∃ x : Int32, gF_18 ad k = .int x := by
  show ∀ k ∈ [3, 4, 5, 6, 7], ∃ x : Int32, gF_18 ad k = .int x
  exact List.forall_mem_cons.mpr ⟨⟨_, rfl⟩, List.forall_mem_cons.mpr ⟨⟨_, rfl⟩, List.forall_mem_cons.mpr ⟨⟨_, rfl⟩, List.forall_mem_cons.mpr ⟨⟨_, rfl⟩, List.forall_mem_cons.mpr ⟨⟨_, rfl⟩, fun _ h => absurd h List.not_mem_nil⟩⟩⟩⟩⟩
theorem gFi_30 (ad : Nat → Nat) : ∀ k ∈ iFs 7, ∃ x : Int32, gF_30 ad k = .int x := by
  show ∀ k ∈ [3, 4, 5, 6, 7], ∃ x : Int32, gF_30 ad k = .int x
  exact List.forall_mem_cons.mpr ⟨⟨_, rfl⟩, List.forall_mem_cons.mpr ⟨⟨_, rfl⟩, List.forall_mem_cons.mpr ⟨⟨_, rfl⟩, List.forall_mem_cons.mpr ⟨⟨_, rfl⟩, List.forall_mem_cons.mpr ⟨⟨_, rfl⟩, fun _ h => absurd h List.not_mem_nil⟩⟩⟩⟩⟩
theorem gFi_42 (ad : Nat → Nat) : ∀ k ∈ iFs 7, ∃ x : Int32, gF_42 ad k = .int x := by
  show ∀ k ∈ [3, 4, 5, 6, 7], ∃ x : Int32, gF_42 ad k = .int x
  exact List.forall_mem_cons.mpr ⟨⟨_, rfl⟩, List.forall_mem_cons.mpr ⟨⟨_, rfl⟩, List.forall_mem_cons.mpr ⟨⟨_, rfl⟩, List.forall_mem_cons.mpr ⟨⟨_, rfl⟩, List.forall_mem_cons.mpr ⟨⟨_, rfl⟩, fun _ h => absurd h List.not_mem_nil⟩⟩⟩⟩⟩
theorem gFi_54 (ad : Nat → Nat) : ∀ k ∈ iFs 3, ∃ x : Int32, gF_54 ad k = .int x := by
  show ∀ k ∈ [6, 7], ∃ x : Int32, gF_54 ad k = .int x
  exact List.forall_mem_cons.mpr ⟨⟨_, rfl⟩, List.forall_mem_cons.mpr ⟨⟨_, rfl⟩, fun _ h => absurd h List.not_mem_nil⟩⟩
theorem gFi_61 (ad : Nat → Nat) : ∀ k ∈ iFs 3, ∃ x : Int32, gF_61 ad k = .int x := by
  show ∀ k ∈ [6, 7], ∃ x : Int32, gF_61 ad k = .int x
  exact List.forall_mem_cons.mpr ⟨⟨_, rfl⟩, List.forall_mem_cons.mpr ⟨⟨_, rfl⟩, fun _ h => absurd h List.not_mem_nil⟩⟩
theorem gFi_68 (ad : Nat → Nat) : ∀ k ∈ iFs 3, ∃ x : Int32, gF_68 ad k = .int x := by
  show ∀ k ∈ [6, 7], ∃ x : Int32, gF_68 ad k = .int x
  exact List.forall_mem_cons.mpr ⟨⟨_, rfl⟩, List.forall_mem_cons.mpr ⟨⟨_, rfl⟩, fun _ h => absurd h List.not_mem_nil⟩⟩
theorem gFi_75 (ad : Nat → Nat) : ∀ k ∈ iFs 0, ∃ x : Int32, gF_75 ad k = .int x := by
  show ∀ k ∈ [2], ∃ x : Int32, gF_75 ad k = .int x
  exact List.forall_mem_cons.mpr ⟨⟨_, rfl⟩, fun _ h => absurd h List.not_mem_nil⟩
theorem gFi_78 (ad : Nat → Nat) : ∀ k ∈ iFs 1, ∃ x : Int32, gF_78 ad k = .int x := by
  show ∀ k ∈ [1, 2, 3], ∃ x : Int32, gF_78 ad k = .int x
  exact List.forall_mem_cons.mpr ⟨⟨_, rfl⟩, List.forall_mem_cons.mpr ⟨⟨_, rfl⟩, List.forall_mem_cons.mpr ⟨⟨_, rfl⟩, fun _ h => absurd h List.not_mem_nil⟩⟩⟩
theorem gFi_79 (ad : Nat → Nat) : ∀ k ∈ iFs 4, ∃ x : Int32, gF_79 ad k = .int x := by
  show ∀ k ∈ [1, 2, 3], ∃ x : Int32, gF_79 ad k = .int x
  exact List.forall_mem_cons.mpr ⟨⟨_, rfl⟩, List.forall_mem_cons.mpr ⟨⟨_, rfl⟩, List.forall_mem_cons.mpr ⟨⟨_, rfl⟩, fun _ h => absurd h List.not_mem_nil⟩⟩⟩
theorem gFi_80 (ad : Nat → Nat) : ∀ k ∈ iFs 2, ∃ x : Int32, gF_80 ad k = .int x := by
  show ∀ k ∈ [4, 5, 6, 7, 8], ∃ x : Int32, gF_80 ad k = .int x
  exact List.forall_mem_cons.mpr ⟨⟨_, rfl⟩, List.forall_mem_cons.mpr ⟨⟨_, rfl⟩, List.forall_mem_cons.mpr ⟨⟨_, rfl⟩, List.forall_mem_cons.mpr ⟨⟨_, rfl⟩, List.forall_mem_cons.mpr ⟨⟨_, rfl⟩, fun _ h => absurd h List.not_mem_nil⟩⟩⟩⟩⟩
theorem gFi_84 (ad : Nat → Nat) : ∀ k ∈ iFs 0, ∃ x : Int32, gF_84 ad k = .int x := by
  show ∀ k ∈ [2], ∃ x : Int32, gF_84 ad k = .int x
  exact List.forall_mem_cons.mpr ⟨⟨_, rfl⟩, fun _ h => absurd h List.not_mem_nil⟩
theorem gFi_87 (ad : Nat → Nat) : ∀ k ∈ iFs 0, ∃ x : Int32, gF_87 ad k = .int x := by
  show ∀ k ∈ [2], ∃ x : Int32, gF_87 ad k = .int x
  exact List.forall_mem_cons.mpr ⟨⟨_, rfl⟩, fun _ h => absurd h List.not_mem_nil⟩
theorem gFi_90 (ad : Nat → Nat) : ∀ k ∈ iFs 0, ∃ x : Int32, gF_90 ad k = .int x := by
  show ∀ k ∈ [2], ∃ x : Int32, gF_90 ad k = .int x
  exact List.forall_mem_cons.mpr ⟨⟨_, rfl⟩, fun _ h => absurd h List.not_mem_nil⟩
theorem gFi_93 (ad : Nat → Nat) : ∀ k ∈ iFs 0, ∃ x : Int32, gF_93 ad k = .int x := by
  show ∀ k ∈ [2], ∃ x : Int32, gF_93 ad k = .int x
  exact List.forall_mem_cons.mpr ⟨⟨_, rfl⟩, fun _ h => absurd h List.not_mem_nil⟩
theorem gFi_96 (ad : Nat → Nat) : ∀ k ∈ iFs 0, ∃ x : Int32, gF_96 ad k = .int x := by
  show ∀ k ∈ [2], ∃ x : Int32, gF_96 ad k = .int x
  exact List.forall_mem_cons.mpr ⟨⟨_, rfl⟩, fun _ h => absurd h List.not_mem_nil⟩
theorem gFi_99 (ad : Nat → Nat) : ∀ k ∈ iFs 0, ∃ x : Int32, gF_99 ad k = .int x := by
  show ∀ k ∈ [2], ∃ x : Int32, gF_99 ad k = .int x
  exact List.forall_mem_cons.mpr ⟨⟨_, rfl⟩, fun _ h => absurd h List.not_mem_nil⟩
theorem gFi_102 (ad : Nat → Nat) : ∀ k ∈ iFs 9, ∃ x : Int32, gF_102 ad k = .int x := by
  show ∀ k ∈ [4], ∃ x : Int32, gF_102 ad k = .int x
  exact List.forall_mem_cons.mpr ⟨⟨_, rfl⟩, fun _ h => absurd h List.not_mem_nil⟩
theorem gFi_120 (ad : Nat → Nat) : ∀ k ∈ iFs 8, ∃ x : Int32, gF_120 ad k = .int x := by
  show ∀ k ∈ [6], ∃ x : Int32, gF_120 ad k = .int x
  exact List.forall_mem_cons.mpr ⟨⟨_, rfl⟩, fun _ h => absurd h List.not_mem_nil⟩
theorem gFi_127 (ad : Nat → Nat) : ∀ k ∈ iFs 6, ∃ x : Int32, gF_127 ad k = .int x := by
  show ∀ k ∈ [1, 2, 3], ∃ x : Int32, gF_127 ad k = .int x
  exact List.forall_mem_cons.mpr ⟨⟨_, rfl⟩, List.forall_mem_cons.mpr ⟨⟨_, rfl⟩, List.forall_mem_cons.mpr ⟨⟨_, rfl⟩, fun _ h => absurd h List.not_mem_nil⟩⟩⟩
theorem gFi_129 (ad : Nat → Nat) : ∀ k ∈ iFs 12, ∃ x : Int32, gF_129 ad k = .int x := by
  show ∀ k ∈ [1, 2, 3, 4, 5, 6, 7, 8, 9, 18, 19, 20, 31, 32, 39, 40, 42, 43, 44, 45, 46, 47, 48, 49, 56, 57, 58, 59, 60, 61, 62, 63, 64, 65, 66, 75], ∃ x : Int32, gF_129 ad k = .int x
  exact List.forall_mem_cons.mpr ⟨⟨_, rfl⟩, List.forall_mem_cons.mpr ⟨⟨_, rfl⟩, List.forall_mem_cons.mpr ⟨⟨_, rfl⟩, List.forall_mem_cons.mpr ⟨⟨_, rfl⟩, List.forall_mem_cons.mpr ⟨⟨_, rfl⟩, List.forall_mem_cons.mpr ⟨⟨_, rfl⟩, List.forall_mem_cons.mpr ⟨⟨_, rfl⟩, List.forall_mem_cons.mpr ⟨⟨_, rfl⟩, List.forall_mem_cons.mpr ⟨⟨_, rfl⟩, List.forall_mem_cons.mpr ⟨⟨_, rfl⟩, List.forall_mem_cons.mpr ⟨⟨_, rfl⟩, List.forall_mem_cons.mpr ⟨⟨_, rfl⟩, List.forall_mem_cons.mpr ⟨⟨_, rfl⟩, List.forall_mem_cons.mpr ⟨⟨_, rfl⟩, List.forall_mem_cons.mpr ⟨⟨_, rfl⟩, List.forall_mem_cons.mpr ⟨⟨_, rfl⟩, List.forall_mem_cons.mpr ⟨⟨_, rfl⟩, List.forall_mem_cons.mpr ⟨⟨_, rfl⟩, List.forall_mem_cons.mpr ⟨⟨_, rfl⟩, List.forall_mem_cons.mpr ⟨⟨_, rfl⟩, List.forall_mem_cons.mpr ⟨⟨_, rfl⟩, List.forall_mem_cons.mpr ⟨⟨_, rfl⟩, List.forall_mem_cons.mpr ⟨⟨_, rfl⟩, List.forall_mem_cons.mpr ⟨⟨_, rfl⟩, List.forall_mem_cons.mpr ⟨⟨_, rfl⟩, List.forall_mem_cons.mpr ⟨⟨_, rfl⟩, List.forall_mem_cons.mpr ⟨⟨_, rfl⟩, List.forall_mem_cons.mpr ⟨⟨_, rfl⟩, List.forall_mem_cons.mpr ⟨⟨_, rfl⟩, List.forall_mem_cons.mpr ⟨⟨_, rfl⟩, List.forall_mem_cons.mpr ⟨⟨_, rfl⟩, List.forall_mem_cons.mpr ⟨⟨_, rfl⟩, List.forall_mem_cons.mpr ⟨⟨_, rfl⟩, List.forall_mem_cons.mpr ⟨⟨_, rfl⟩, List.forall_mem_cons.mpr ⟨⟨_, rfl⟩, List.forall_mem_cons.mpr ⟨⟨_, rfl⟩, fun _ h => absurd h List.not_mem_nil⟩⟩⟩⟩⟩⟩⟩⟩⟩⟩⟩⟩⟩⟩⟩⟩⟩⟩⟩⟩⟩⟩⟩⟩⟩⟩⟩⟩⟩⟩⟩⟩⟩⟩⟩⟩
theorem gF_shp0 (ad : Nat → Nat) (cA : Nat → ClassId) : Shp0 cA (gF ad cA) := by
  intro i hi
  unfold NN at hi
  match i, hi with
  | 0, _ => exact ⟨_, rfl, gFi_0 ad⟩
  | 1, _ => exact ⟨_, rfl, gFi_1 ad⟩
  | 2, _ => exact ⟨_, rfl⟩
  | 3, _ => exact ⟨_, rfl, gFi_3 ad⟩
  | 4, _ => exact ⟨_, rfl⟩
  | 5, _ => exact ⟨_, rfl⟩
  | 6, _ => exact ⟨_, rfl⟩
  | 7, _ => exact ⟨_, rfl⟩
  | 8, _ => exact ⟨_, rfl⟩
  | 9, _ => exact ⟨_, rfl⟩
  | 10, _ => exact ⟨_, rfl⟩
  | 11, _ => exact ⟨_, rfl⟩
  | 12, _ => exact ⟨_, rfl⟩
  | 13, _ => exact ⟨_, rfl⟩
  | 14, _ => exact ⟨_, rfl⟩
  | 15, _ => exact ⟨_, rfl⟩
  | 16, _ => exact ⟨_, rfl⟩
  | 17, _ => exact ⟨_, rfl⟩
  | 18, _ => exact ⟨_, rfl, gFi_18 ad⟩
  | 19, _ => exact ⟨_, rfl⟩
  | 20, _ => exact ⟨_, rfl⟩
  | 21, _ => exact ⟨_, rfl⟩
  | 22, _ => exact ⟨_, rfl⟩
  | 23, _ => exact ⟨_, rfl⟩
  | 24, _ => exact ⟨_, rfl⟩
  | 25, _ => exact ⟨_, rfl⟩
  | 26, _ => exact ⟨_, rfl⟩
  | 27, _ => exact ⟨_, rfl⟩
  | 28, _ => exact ⟨_, rfl⟩
  | 29, _ => exact ⟨_, rfl⟩
  | 30, _ => exact ⟨_, rfl, gFi_30 ad⟩
  | 31, _ => exact ⟨_, rfl⟩
  | 32, _ => exact ⟨_, rfl⟩
  | 33, _ => exact ⟨_, rfl⟩
  | 34, _ => exact ⟨_, rfl⟩
  | 35, _ => exact ⟨_, rfl⟩
  | 36, _ => exact ⟨_, rfl⟩
  | 37, _ => exact ⟨_, rfl⟩
  | 38, _ => exact ⟨_, rfl⟩
  | 39, _ => exact ⟨_, rfl⟩
  | 40, _ => exact ⟨_, rfl⟩
  | 41, _ => exact ⟨_, rfl⟩
  | 42, _ => exact ⟨_, rfl, gFi_42 ad⟩
  | 43, _ => exact ⟨_, rfl⟩
  | 44, _ => exact ⟨_, rfl⟩
  | 45, _ => exact ⟨_, rfl⟩
  | 46, _ => exact ⟨_, rfl⟩
  | 47, _ => exact ⟨_, rfl⟩
  | 48, _ => exact ⟨_, rfl⟩
  | 49, _ => exact ⟨_, rfl⟩
  | 50, _ => exact ⟨_, rfl⟩
  | 51, _ => exact ⟨_, rfl⟩
  | 52, _ => exact ⟨_, rfl⟩
  | 53, _ => exact ⟨_, rfl⟩
  | 54, _ => exact ⟨_, rfl, gFi_54 ad⟩
  | 55, _ => exact ⟨_, rfl⟩
  | 56, _ => exact ⟨_, rfl⟩
  | 57, _ => exact ⟨_, rfl⟩
  | 58, _ => exact ⟨_, rfl⟩
  | 59, _ => exact ⟨_, rfl⟩
  | 60, _ => exact ⟨_, rfl⟩
  | 61, _ => exact ⟨_, rfl, gFi_61 ad⟩
  | 62, _ => exact ⟨_, rfl⟩
  | 63, _ => exact ⟨_, rfl⟩
  | 64, _ => exact ⟨_, rfl⟩
  | 65, _ => exact ⟨_, rfl⟩
  | 66, _ => exact ⟨_, rfl⟩
  | 67, _ => exact ⟨_, rfl⟩
  | 68, _ => exact ⟨_, rfl, gFi_68 ad⟩
  | 69, _ => exact ⟨_, rfl⟩
  | 70, _ => exact ⟨_, rfl⟩
  | 71, _ => exact ⟨_, rfl⟩
  | 72, _ => exact ⟨_, rfl⟩
  | 73, _ => exact ⟨_, rfl⟩
  | 74, _ => exact ⟨_, rfl⟩
  | 75, _ => exact ⟨_, rfl, gFi_75 ad⟩
  | 76, _ => exact ⟨_, rfl⟩
  | 77, _ => exact ⟨_, rfl⟩
  | 78, _ => exact ⟨_, rfl, gFi_78 ad⟩
  | 79, _ => exact ⟨_, rfl, gFi_79 ad⟩
  | 80, _ => exact ⟨_, rfl, gFi_80 ad⟩
  | 81, _ => exact ⟨_, rfl⟩
  | 82, _ => exact ⟨_, rfl⟩
  | 83, _ => exact ⟨_, rfl⟩
  | 84, _ => exact ⟨_, rfl, gFi_84 ad⟩
  | 85, _ => exact ⟨_, rfl⟩
  | 86, _ => exact ⟨_, rfl⟩
  | 87, _ => exact ⟨_, rfl, gFi_87 ad⟩
  | 88, _ => exact ⟨_, rfl⟩
  | 89, _ => exact ⟨_, rfl⟩
  | 90, _ => exact ⟨_, rfl, gFi_90 ad⟩
  | 91, _ => exact ⟨_, rfl⟩
  | 92, _ => exact ⟨_, rfl⟩
  | 93, _ => exact ⟨_, rfl, gFi_93 ad⟩
  | 94, _ => exact ⟨_, rfl⟩
  | 95, _ => exact ⟨_, rfl⟩
  | 96, _ => exact ⟨_, rfl, gFi_96 ad⟩
  | 97, _ => exact ⟨_, rfl⟩
  | 98, _ => exact ⟨_, rfl⟩
  | 99, _ => exact ⟨_, rfl, gFi_99 ad⟩
  | 100, _ => exact ⟨_, rfl⟩
  | 101, _ => exact ⟨_, rfl⟩
  | 102, _ => exact ⟨_, rfl, gFi_102 ad⟩
  | 103, _ => exact ⟨_, rfl⟩
  | 104, _ => exact ⟨_, rfl⟩
  | 105, _ => exact ⟨_, rfl⟩
  | 106, _ => exact ⟨_, rfl⟩
  | 107, _ => exact ⟨_, rfl⟩
  | 108, _ => exact ⟨_, rfl⟩
  | 109, _ => exact ⟨_, rfl⟩
  | 110, _ => exact ⟨_, rfl⟩
  | 111, _ => exact ⟨_, rfl⟩
  | 112, _ => exact ⟨_, rfl⟩
  | 113, _ => exact ⟨_, rfl⟩
  | 114, _ => exact ⟨_, rfl⟩
  | 115, _ => exact ⟨_, rfl⟩
  | 116, _ => exact ⟨_, rfl⟩
  | 117, _ => exact ⟨_, rfl⟩
  | 118, _ => exact ⟨_, rfl⟩
  | 119, _ => exact ⟨_, rfl⟩
  | 120, _ => exact ⟨_, rfl, gFi_120 ad⟩
  | 121, _ => exact ⟨_, rfl⟩
  | 122, _ => exact ⟨_, rfl⟩
  | 123, _ => exact ⟨_, rfl⟩
  | 124, _ => exact ⟨_, rfl⟩
  | 125, _ => exact ⟨_, rfl⟩
  | 126, _ => exact ⟨_, rfl⟩
  | 127, _ => exact ⟨_, rfl, gFi_127 ad⟩
  | 128, _ => exact ⟨_, rfl⟩
  | 129, _ => exact ⟨_, rfl, gFi_129 ad⟩
  | 130, _ => exact ⟨_, rfl⟩
  | 131, _ => exact ⟨_, rfl⟩
  | 132, _ => exact ⟨_, rfl⟩
  | 133, _ => exact ⟨_, rfl⟩
  | 134, _ => exact ⟨_, rfl⟩
  | 135, _ => exact ⟨_, rfl⟩
  | 136, _ => exact ⟨_, rfl⟩
  | 137, _ => exact ⟨_, rfl⟩
  | 138, _ => exact ⟨_, rfl⟩
  | 139, _ => exact ⟨_, rfl⟩
  | 140, _ => exact ⟨_, rfl⟩
  | 141, _ => exact ⟨_, rfl⟩
  | 142, _ => exact ⟨_, rfl⟩
  | 143, _ => exact ⟨_, rfl⟩
  | 144, _ => exact ⟨_, rfl⟩
  | 145, _ => exact ⟨_, rfl⟩
  | 146, _ => exact ⟨_, rfl⟩
  | 147, _ => exact ⟨_, rfl⟩
  | 148, _ => exact ⟨_, rfl⟩
  | 149, _ => exact ⟨_, rfl⟩
  | 150, _ => exact ⟨_, rfl⟩
  | 151, _ => exact ⟨_, rfl⟩
  | 152, _ => exact ⟨_, rfl⟩
  | 153, _ => exact ⟨_, rfl⟩
  | 154, _ => exact ⟨_, rfl⟩
  | 155, _ => exact ⟨_, rfl⟩
  | 156, _ => exact ⟨_, rfl⟩
  | 157, _ => exact ⟨_, rfl⟩
  | 158, _ => exact ⟨_, rfl⟩
  | 159, _ => exact ⟨_, rfl⟩
  | 160, _ => exact ⟨_, rfl⟩
  | 161, _ => exact ⟨_, rfl⟩
  | 162, _ => exact ⟨_, rfl⟩
  | 163, _ => exact ⟨_, rfl⟩
  | 164, _ => exact ⟨_, rfl⟩
  | 165, _ => exact ⟨_, rfl⟩
  | 166, _ => exact ⟨_, rfl⟩
  | 167, _ => exact ⟨_, rfl⟩
  | 168, _ => exact ⟨_, rfl⟩
  | 169, _ => exact ⟨_, rfl⟩
  | 170, _ => exact ⟨_, rfl⟩
  | 171, _ => exact ⟨_, rfl⟩
  | 172, _ => exact ⟨_, rfl⟩
  | 173, _ => exact ⟨_, rfl⟩
  | 174, _ => exact ⟨_, rfl⟩
  | 175, _ => exact ⟨_, rfl⟩
  | 176, _ => exact ⟨_, rfl⟩
  | 177, _ => exact ⟨_, rfl⟩
  | 178, _ => exact ⟨_, rfl⟩
  | 179, _ => exact ⟨_, rfl⟩
  | n + 180, h => exact absurd h (by omega)
set_option maxRecDepth 100000 in
theorem gF_rf (ad : Nat → Nat) (cA : Nat → ClassId) : ∀ q ∈ rfL, fld (gF ad cA) q.1 q.2.1 = .ref (ad q.2.2) := by
  show ∀ q ∈ [(0, 0, 1), (0, 1, 3), (0, 2, 80), (0, 3, 102), (0, 4, 120), (0, 5, 127), (0, 6, 78), (0, 7, 79), (0, 8, 75), (0, 9, 61), (0, 10, 18), (0, 11, 30), (0, 12, 42), (1, 0, 2), (3, 0, 4), (3, 1, 5), (18, 0, 19), (18, 1, 20), (18, 2, 21), (30, 0, 31), (30, 1, 32), (30, 2, 33), (42, 0, 43), (42, 1, 44), (42, 2, 45), (54, 0, 55), (54, 1, 56), (54, 2, 57), (54, 3, 58), (54, 4, 59), (54, 5, 60), (61, 0, 62), (61, 1, 63), (61, 2, 64), (61, 3, 65), (61, 4, 66), (61, 5, 67), (68, 0, 69), (68, 1, 70), (68, 2, 71), (68, 3, 72), (68, 4, 73), (68, 5, 74), (75, 0, 76), (75, 1, 77), (78, 0, 2), (79, 0, 2), (80, 0, 3), (80, 1, 81), (80, 2, 82), (80, 3, 83), (84, 0, 85), (84, 1, 86), (87, 0, 88), (87, 1, 89), (90, 0, 91), (90, 1, 92), (93, 0, 94), (93, 1, 95), (96, 0, 97), (96, 1, 98), (99, 0, 100), (99, 1, 101), (102, 0, 103), (102, 1, 112), (102, 2, 118), (102, 3, 119), (120, 0, 121), (120, 1, 122), (120, 2, 123), (120, 3, 124), (120, 4, 125), (120, 5, 126), (127, 0, 128), (129, 0, 130), (129, 10, 131), (129, 11, 132), (129, 12, 133), (129, 13, 134), (129, 14, 135), (129, 15, 136), (129, 16, 137), (129, 17, 138), (129, 21, 139), (129, 22, 140), (129, 23, 141), (129, 24, 142), (129, 25, 143), (129, 26, 144), (129, 27, 145), (129, 28, 146), (129, 29, 147), (129, 30, 148), (129, 33, 149), (129, 34, 150), (129, 35, 151), (129, 36, 152), (129, 37, 153), (129, 38, 154), (129, 41, 155), (129, 50, 156), (129, 51, 157), (129, 52, 158), (129, 53, 159), (129, 54, 160), (129, 55, 161), (129, 67, 162), (129, 68, 163), (129, 69, 164), (129, 70, 165), (129, 71, 166), (129, 72, 167), (129, 73, 168), (129, 74, 169), (129, 76, 170), (129, 77, 171), (129, 78, 172), (129, 79, 173), (129, 80, 174), (129, 81, 175), (129, 82, 176), (129, 83, 177), (129, 84, 178), (129, 85, 179)], fld (gF ad cA) q.1 q.2.1 = .ref (ad q.2.2)
  exact List.forall_mem_cons.mpr ⟨rfl, List.forall_mem_cons.mpr ⟨rfl, List.forall_mem_cons.mpr ⟨rfl, List.forall_mem_cons.mpr ⟨rfl, List.forall_mem_cons.mpr ⟨rfl, List.forall_mem_cons.mpr ⟨rfl, List.forall_mem_cons.mpr ⟨rfl, List.forall_mem_cons.mpr ⟨rfl, List.forall_mem_cons.mpr ⟨rfl, List.forall_mem_cons.mpr ⟨rfl, List.forall_mem_cons.mpr ⟨rfl, List.forall_mem_cons.mpr ⟨rfl, List.forall_mem_cons.mpr ⟨rfl, List.forall_mem_cons.mpr ⟨rfl, List.forall_mem_cons.mpr ⟨rfl, List.forall_mem_cons.mpr ⟨rfl, List.forall_mem_cons.mpr ⟨rfl, List.forall_mem_cons.mpr ⟨rfl, List.forall_mem_cons.mpr ⟨rfl, List.forall_mem_cons.mpr ⟨rfl, List.forall_mem_cons.mpr ⟨rfl, List.forall_mem_cons.mpr ⟨rfl, List.forall_mem_cons.mpr ⟨rfl, List.forall_mem_cons.mpr ⟨rfl, List.forall_mem_cons.mpr ⟨rfl, List.forall_mem_cons.mpr ⟨rfl, List.forall_mem_cons.mpr ⟨rfl, List.forall_mem_cons.mpr ⟨rfl, List.forall_mem_cons.mpr ⟨rfl, List.forall_mem_cons.mpr ⟨rfl, List.forall_mem_cons.mpr ⟨rfl, List.forall_mem_cons.mpr ⟨rfl, List.forall_mem_cons.mpr ⟨rfl, List.forall_mem_cons.mpr ⟨rfl, List.forall_mem_cons.mpr ⟨rfl, List.forall_mem_cons.mpr ⟨rfl, List.forall_mem_cons.mpr ⟨rfl, List.forall_mem_cons.mpr ⟨rfl, List.forall_mem_cons.mpr ⟨rfl, List.forall_mem_cons.mpr ⟨rfl, List.forall_mem_cons.mpr ⟨rfl, List.forall_mem_cons.mpr ⟨rfl, List.forall_mem_cons.mpr ⟨rfl, List.forall_mem_cons.mpr ⟨rfl, List.forall_mem_cons.mpr ⟨rfl, List.forall_mem_cons.mpr ⟨rfl, List.forall_mem_cons.mpr ⟨rfl, List.forall_mem_cons.mpr ⟨rfl, List.forall_mem_cons.mpr ⟨rfl, List.forall_mem_cons.mpr ⟨rfl, List.forall_mem_cons.mpr ⟨rfl, List.forall_mem_cons.mpr ⟨rfl, List.forall_mem_cons.mpr ⟨rfl, List.forall_mem_cons.mpr ⟨rfl, List.forall_mem_cons.mpr ⟨rfl, List.forall_mem_cons.mpr ⟨rfl, List.forall_mem_cons.mpr ⟨rfl, List.forall_mem_cons.mpr ⟨rfl, List.forall_mem_cons.mpr ⟨rfl, List.forall_mem_cons.mpr ⟨rfl, List.forall_mem_cons.mpr ⟨rfl, List.forall_mem_cons.mpr ⟨rfl, List.forall_mem_cons.mpr ⟨rfl, List.forall_mem_cons.mpr ⟨rfl, List.forall_mem_cons.mpr ⟨rfl, List.forall_mem_cons.mpr ⟨rfl, List.forall_mem_cons.mpr ⟨rfl, List.forall_mem_cons.mpr ⟨rfl, List.forall_mem_cons.mpr ⟨rfl, List.forall_mem_cons.mpr ⟨rfl, List.forall_mem_cons.mpr ⟨rfl, List.forall_mem_cons.mpr ⟨rfl, List.forall_mem_cons.mpr ⟨rfl, List.forall_mem_cons.mpr ⟨rfl, List.forall_mem_cons.mpr ⟨rfl, List.forall_mem_cons.mpr ⟨rfl, List.forall_mem_cons.mpr ⟨rfl, List.forall_mem_cons.mpr ⟨rfl, List.forall_mem_cons.mpr ⟨rfl, List.forall_mem_cons.mpr ⟨rfl, List.forall_mem_cons.mpr ⟨rfl, List.forall_mem_cons.mpr ⟨rfl, List.forall_mem_cons.mpr ⟨rfl, List.forall_mem_cons.mpr ⟨rfl, List.forall_mem_cons.mpr ⟨rfl, List.forall_mem_cons.mpr ⟨rfl, List.forall_mem_cons.mpr ⟨rfl, List.forall_mem_cons.mpr ⟨rfl, List.forall_mem_cons.mpr ⟨rfl, List.forall_mem_cons.mpr ⟨rfl, List.forall_mem_cons.mpr ⟨rfl, List.forall_mem_cons.mpr ⟨rfl, List.forall_mem_cons.mpr ⟨rfl, List.forall_mem_cons.mpr ⟨rfl, List.forall_mem_cons.mpr ⟨rfl, List.forall_mem_cons.mpr ⟨rfl, List.forall_mem_cons.mpr ⟨rfl, List.forall_mem_cons.mpr ⟨rfl, List.forall_mem_cons.mpr ⟨rfl, List.forall_mem_cons.mpr ⟨rfl, List.forall_mem_cons.mpr ⟨rfl, List.forall_mem_cons.mpr ⟨rfl, List.forall_mem_cons.mpr ⟨rfl, List.forall_mem_cons.mpr ⟨rfl, List.forall_mem_cons.mpr ⟨rfl, List.forall_mem_cons.mpr ⟨rfl, List.forall_mem_cons.mpr ⟨rfl, List.forall_mem_cons.mpr ⟨rfl, List.forall_mem_cons.mpr ⟨rfl, List.forall_mem_cons.mpr ⟨rfl, List.forall_mem_cons.mpr ⟨rfl, List.forall_mem_cons.mpr ⟨rfl, List.forall_mem_cons.mpr ⟨rfl, List.forall_mem_cons.mpr ⟨rfl, List.forall_mem_cons.mpr ⟨rfl, List.forall_mem_cons.mpr ⟨rfl, List.forall_mem_cons.mpr ⟨rfl, List.forall_mem_cons.mpr ⟨rfl, List.forall_mem_cons.mpr ⟨rfl, List.forall_mem_cons.mpr ⟨rfl, List.forall_mem_cons.mpr ⟨rfl, List.forall_mem_cons.mpr ⟨rfl, List.forall_mem_cons.mpr ⟨rfl, List.forall_mem_cons.mpr ⟨rfl, fun _ h => absurd h List.not_mem_nil⟩⟩⟩⟩⟩⟩⟩⟩⟩⟩⟩⟩⟩⟩⟩⟩⟩⟩⟩⟩⟩⟩⟩⟩⟩⟩⟩⟩⟩⟩⟩⟩⟩⟩⟩⟩⟩⟩⟩⟩⟩⟩⟩⟩⟩⟩⟩⟩⟩⟩⟩⟩⟩⟩⟩⟩⟩⟩⟩⟩⟩⟩⟩⟩⟩⟩⟩⟩⟩⟩⟩⟩⟩⟩⟩⟩⟩⟩⟩⟩⟩⟩⟩⟩⟩⟩⟩⟩⟩⟩⟩⟩⟩⟩⟩⟩⟩⟩⟩⟩⟩⟩⟩⟩⟩⟩⟩⟩⟩⟩⟩⟩⟩⟩⟩⟩⟩⟩⟩⟩⟩⟩⟩⟩
theorem gF_shp (ad : Nat → Nat) (cA : Nat → ClassId) : Shp ad cA (gF ad cA) := by
  refine ⟨gF_shp0 ad cA, gF_rf ad cA, ?_⟩
  show ∀ q ∈ [(5, 12, 6, 1), (21, 8, 22, 1), (33, 8, 34, 1), (45, 8, 46, 1), (81, 6, 84, 3), (103, 8, 104, 1), (112, 5, 113, 1)], arQ (gF ad cA) q.1 = fun j => if j < q.2.1 then some (ad (q.2.2.1 + q.2.2.2 * j)) else none
  exact List.forall_mem_cons.mpr ⟨rfl, List.forall_mem_cons.mpr ⟨rfl, List.forall_mem_cons.mpr ⟨rfl, List.forall_mem_cons.mpr ⟨rfl, List.forall_mem_cons.mpr ⟨rfl, List.forall_mem_cons.mpr ⟨rfl, List.forall_mem_cons.mpr ⟨rfl, fun _ h => absurd h List.not_mem_nil⟩⟩⟩⟩⟩⟩⟩
