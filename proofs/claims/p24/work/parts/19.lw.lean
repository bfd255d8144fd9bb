/-- the search for the least set -/
def cLWl (f : Nat → Int32 → Int32 → Int32) (o : Int32) (next : Nat) (ch : Int32) : Nat → Int32 → Int32
  | 0, best => best
  | k + 1, best => if o &&& ((1 : Int32) <<< (nI (next + k) &&& 31)) = 0 then cLWl f o next ch k best else f (next + k + 1) (ch ||| ((1 : Int32) <<< (nI (next + k) &&& 31))) (cLWl f o next ch k best)
def cLW (nd : Nat → Int32) (gv : Nat → Nat → Int32) (pool o : Int32) : Nat → Nat → Int32 → Int32 → Int32
  | 0, _, _, best => best
  | d + 1, next, ch, best => if cLess ch best then (if cAll nd gv (pool ||| ch) then ch else cLWl (cLW nd gv pool o d) o next ch (12 - next) best) else best
termination_by d => d
