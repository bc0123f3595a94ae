/-! what a first byte tells (numbers), and what both classes compute, in one place -/
def kd (b : Nat) : Nat := if b < 128 then 4 else if b < 144 then 11 else if b < 160 then 10 else if b < 192 then 8 else if 223 < b then 5 else ([1, 0, 2, 3, 9, 9, 9, 12, 12, 12, 6, 7, 4, 4, 4, 4, 5, 5, 5, 5, 12, 12, 12, 12, 12, 8, 8, 8, 10, 10, 11, 11] : List Nat).getD (b - 192) 0
def wd (b : Nat) : Nat := if b < 192 then 0 else if 223 < b then 0 else ([0, 0, 0, 0, 1, 2, 4, 1, 2, 4, 4, 8, 1, 2, 4, 8, 1, 2, 4, 8, 0, 0, 0, 0, 0, 1, 2, 4, 2, 4, 2, 4] : List Nat).getD (b - 192) 0
def hd (b : Nat) : Nat := 1 + wd b + (if kd b = 12 then 1 else 0)
/-- the number of a first byte that has none behind it -/
def ow (b : Nat) : Int64 := if b < 128 then (nI b).toInt64 else if b < 144 then (nI b - 128).toInt64 else if b < 160 then (nI b - 144).toInt64 else if b < 192 then (nI b - 160).toInt64 else if 223 < b then (nI b - 256).toInt64 else if 211 < b ∧ b < 217 then (1 : Int64) <<< ((nI b - 212).toInt64 &&& 63) else 0
/-- the number in k bytes from a on -/
def rd (B : Nat → Nat) (a : Nat) : Nat → Int64
  | 0 => 0
  | k + 1 => (rd B a k <<< ((8 : Int32).toInt64 &&& 63)) ||| (nI (B (a + k))).toInt64
def sg (x : Int64) (w : Nat) : Int64 := (x <<< ((64 - 8 * nI w).toInt64 &&& 63)) >>> ((64 - 8 * nI w).toInt64 &&& 63)
/-- the number of the head at a -/
def nv (B : Nat → Nat) (a : Nat) : Int64 := if wd (B a) = 0 then ow (B a) else if kd (B a) = 5 then sg (rd B (a + 1) (wd (B a))) (wd (B a)) else rd B (a + 1) (wd (B a))
def hp (k : Nat) : Bool := k == 8 || k == 9 || k == 12
/-- the payload's length -/
def pl (B : Nat → Nat) (a : Nat) : Int32 := if hp (kd (B a)) = true then (nv B a).toInt32 else 0
def ch (B : Nat → Nat) (a : Nat) : Int64 := if kd (B a) = 10 then nv B a else if kd (B a) = 11 then 2 * nv B a else 0
def bY (f : Nat → Int32) (j : Nat) : Nat := (f j).toBitVec.toNat % 256
theorem bY_and (f : Nat → Int32) (j : Nat) : f j &&& 255 = nI (bY f j) := pk_and (f j) 8 (by decide)
theorem bY_lt (f : Nat → Int32) (j : Nat) : bY f j < 256 := Nat.mod_lt _ (by decide)
theorem kd_le : ∀ b, b < 256 → kd b ≤ 12 := by decide +kernel
theorem wd_le : ∀ b, b < 256 → wd b ≤ 8 := by decide +kernel
theorem hd_le : ∀ b, b < 256 → 1 ≤ hd b ∧ hd b ≤ 9 ∧ wd b < hd b := by decide +kernel
/-! the class's own forms of these -/
def sK (x : Int32) : Int32 := if 128 ≤ x then (if 144 ≤ x then (if 160 ≤ x then (if 192 ≤ x then (if x ≤ 223 then rK (x - 192).toNatClampNeg else 5) else 8) else 10) else 11) else 4
theorem sK_kd : ∀ b, b < 256 → sK (nI b) = nI (kd b) := by decide +kernel
theorem row_in : ∀ b, b < 256 → (192 : Int32) ≤ nI b → nI b ≤ 223 → ¬ ((nI b - 192) < 0 ∨ 32 ≤ (nI b - 192).toNatClampNeg) := by decide +kernel
def sW (x : Int32) : Int32 := if x < 192 then 0 else if x ≤ 223 then rW (x - 192).toNatClampNeg else 0
theorem sW_wd : ∀ b, b < 256 → sW (nI b) = nI (wd b) := by decide +kernel
def tW (b : Nat) : Nat := if kd b = 12 then 1 else 0
def sI (b : Nat) : Int64 := if kd b = 4 then (nI b).toInt64 else if kd b = 5 then (nI b - 256).toInt64 else if kd b = 11 then (nI b - 128).toInt64 else if kd b = 10 then (nI b - 144).toInt64 else if kd b = 8 then (nI b - 160).toInt64 else if kd b = 12 then (1 : Int64) <<< ((nI b - 212).toInt64 &&& 63) else 0
theorem sI_ow : ∀ b, b < 256 → wd b = 0 → sI b = ow b := by decide +kernel
theorem nI_e12 : ∀ k, k ≤ 12 → ∀ j, j ≤ 12 → (nI k = nI j ↔ k = j) := by decide +kernel
theorem row_in2 : ∀ b, b < 256 → ¬ nI b < (192 : Int32) → nI b ≤ 223 → ¬ ((nI b - 192) < 0 ∨ 32 ≤ (nI b - 192).toNatClampNeg) := by decide +kernel
