/-- the class's world, what is its own left open -/
def RC (D : va_G) (cs : Nat → ClassId) (A : Nat → Prop) (z0 o : Nat) (g : Nat → Int32) (L B : Nat → Nat → Int32) (n b : Nat) (H : Heap) : Prop :=
  ∃ (ad : Nat → Nat) (y1 y2 : Int32) (N1 N2 : Nat) (nd : Nat → Int32) (gv : Nat → Nat → Int32), ad 0 = o ∧ (n ≤ N1 ∧ N1 < 1000) ∧ (b ≤ N2 ∧ N2 < 1000) ∧ wP D A (lvC n b) ad (ctC cs ad z0 g L B n b y1 y2 N1 N2 nd gv) H
abbrev cSwap (nd : Nat → Int32) (gv : Nat → Nat → Int32) (now thn : Int32) : Prop := ∀ j, j < 3 → ¬ (cMost nd gv (nI j) now 9 = 0 ∧ 0 < cMost nd gv (nI j) thn 9)
def cFound (nd : Nat → Int32) (gv : Nat → Nat → Int32) (L : Nat → Nat → Int32) (n : Nat) : Nat → Int32
  | 0 => -1
  | j + 1 => if nI j &&& (mPool L 0 n ^^^ (-1)) = 0 then (if cLess (nI j) (cFound nd gv L n j) then (if cAll nd gv (mPool L 1 n ||| nI j) then nI j else cFound nd gv L n j) else cFound nd gv L n j) else cFound nd gv L n j
