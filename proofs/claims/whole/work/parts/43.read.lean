/-! words in the reference: a number of base 27 -/
def jL (z : Int) : Int64 := Int64.ofInt z
theorem jL_toInt {a : Int} (h : 0 ≤ a ∧ a < 9000000000000000000) : (jL a).toInt = a := Int64.toInt_ofInt_of_le (by omega) (by omega)
theorem jL_le {a b : Int} (h : 0 ≤ a ∧ a < 9000000000000000000) (h' : 0 ≤ b ∧ b < 9000000000000000000) : (jL a ≤ jL b) ↔ a ≤ b := by
  rw [Int64.le_iff_toInt_le, jL_toInt h, jL_toInt h']
theorem jL_eq {a b : Int} (h : 0 ≤ a ∧ a < 9000000000000000000) (h' : 0 ≤ b ∧ b < 9000000000000000000) : (jL a = jL b) ↔ a = b := by
  rw [← Int64.toInt_inj, jL_toInt h, jL_toInt h']
theorem jL_of {z : Int} (h : 0 ≤ z ∧ z < 1000) : (iI z).toInt64 = jL z := by
  rw [← Int64.toInt_inj, Int32.toInt_toInt64, iI_toInt (by omega) (by omega), jL_toInt (by omega)]
theorem jL_step (v z : Int) : jL v * 27 + jL z - 96 = jL (v * 27 + z - 96) := by
  show Int64.ofInt v * Int64.ofInt 27 + Int64.ofInt z - Int64.ofInt 96 = _
  rw [← Int64.ofInt_mul, ← Int64.ofInt_add, ← Int64.ofInt_sub]
  rfl
/-- the hash of the letters from k on -/
def wh (c : Nat → Int) (n k : Nat) : Nat → Int
  | 0 => 0
  | i + 1 => if wh c n k i ≤ 100000000 then wh c n k i * 27 + chr c n (k + i) - 96 else wh c n k i
