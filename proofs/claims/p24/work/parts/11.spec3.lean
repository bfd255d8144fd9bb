/-! ===== the class's numbers, as its code counts them ===== -/
theorem mn_eq (x y : Int32) : (if y < x then y else x) = if x ≤ y then x else y := by
  by_cases h : y < x
  · rw [if_pos h, if_neg (Int32.not_le.mpr h)]
  · rw [if_neg h, if_pos (Int32.not_lt.mp h)]
def cTest (x : Int32) : Int32 := if x = 0 then 0 else if 2 < x then 2 else 1
def cMiss (nd : Nat → Int32) (gv : Nat → Nat → Int32) (ln : Nat) (pool : Int32) : Nat → Int32
  | 0 => nd ln
  | j + 1 => if pool &&& ((1 : Int32) <<< (nI j &&& 31)) = 0 then cMiss nd gv ln pool j else cMiss nd gv ln pool j - gv j ln
termination_by k => k
abbrev cAll (nd : Nat → Int32) (gv : Nat → Nat → Int32) (pool : Int32) : Prop := ∀ j, j < 9 → cMiss nd gv j pool 12 ≤ 0
def cMost (nd : Nat → Int32) (gv : Nat → Nat → Int32) (test pool : Int32) : Nat → Int32
  | 0 => 0
  | j + 1 => if cTest (nI j) = test then (if cMost nd gv test pool j < cMiss nd gv j pool 12 then cMiss nd gv j pool 12 else cMost nd gv test pool j) else cMost nd gv test pool j
termination_by k => k
def cWorth (g : Nat → Int32) (x w : Int32) : Int32 := if 0 < 1200 + g 4 * (if 0 < w - g 0 then w - g 0 else 0) then 1200 * x / (1200 + g 4 * (if 0 < w - g 0 then w - g 0 else 0)) else 0
def iu (x s : Int32) : Int32 := (x.toUInt32 >>> (s.toUInt32 &&& Int32.toUInt32 31)).toInt32
def bc1 (x : Int32) : Int32 := x - (iu x 1 &&& 1431655765)
def bc2 (x : Int32) : Int32 := (x &&& 858993459) + (iu x 2 &&& 858993459)
def bc3 (x : Int32) : Int32 := (x + iu x 4) &&& 252645135
def bc4 (x : Int32) : Int32 := x + iu x 8
def bc5 (x : Int32) : Int32 := x + iu x 16
def cBits (x : Int32) : Int32 := bc5 (bc4 (bc3 (bc2 (bc1 x)))) &&& 63
abbrev cLess (x y : Int32) : Prop := y = -1 ∨ cBits x - cBits y < 0 ∨ (cBits x - cBits y = 0 ∧ ¬ y ≤ x)
