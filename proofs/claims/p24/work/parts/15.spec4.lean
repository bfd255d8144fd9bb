/-! ===== the sheet, as the class fills it; a bond that is due ===== -/
def rowU (f g : Nat → Int32) (c d : Int32) : Nat → Nat → Int32
  | 0 => upd (upd (upd f 0 (100 * c)) 1 c) 2 (cWorth g c d)
  | k + 1 => upd (rowU f g c d k) (2 + (k + 1)) (if g 0 + nI (k + 1) < d then 0 else c)
def ndS (f g : Nat → Int32) (be : Int32) : Nat → Nat → Int32
  | 0 => upd (upd (upd f 0 ((-100) * be)) 1 (-be)) 2 (-be)
  | k + 1 => upd (ndS f g be k) (2 + (k + 1)) (-g 1)
def ndB0 (f g : Nat → Int32) (a : Int32) : Nat → Int32 := upd f 0 (f 0 + a * (100 + g 3))
def ndB1 (f g : Nat → Int32) (a : Int32) : Nat → Int32 := upd (ndB0 f g a) 1 (ndB0 f g a 1 + a)
def ndB (f g : Nat → Int32) (a d : Int32) : Nat → Nat → Int32
  | 0 => upd (ndB1 f g a) 2 (ndB1 f g a 2 + cWorth g a d)
  | k + 1 => if g 0 + nI (k + 1) < d then ndB f g a d k else upd (ndB f g a d k) (2 + (k + 1)) (ndB f g a d k (2 + (k + 1)) + a)
def gvS (gv : Nat → Nat → Int32) (g : Nat → Int32) (L : Nat → Nat → Int32) : Nat → Nat → Nat → Int32
  | 0 => gv
  | j + 1 => va_up (gvS gv g L j) j (rowU (gvS gv g L j j) g (mCount g L j) (L 3 j) 6)
def ndF (nd g : Nat → Int32) (B : Nat → Nat → Int32) : Nat → Nat → Int32
  | 0 => nd
  | j + 1 => if B 2 j = 0 then ndB (ndF nd g B j) g (B 0 j) (B 1 j) 6 else ndF nd g B j
def fsN (nd g : Nat → Int32) (B : Nat → Nat → Int32) (b : Nat) : Nat → Int32 := ndF (ndS nd g (mBeside g B b) 6) g B b
theorem updL_up (gv : Nat → Nat → Int32) (i : Nat) (f : Nat → Int32) (j : Nat) (v : Int32) : updL (va_up gv i f) i j v = va_up gv i (upd f j v) := by
  funext a
  unfold updL va_up
  by_cases h : a = i
  · subst h; simp
  · simp [h]
theorem upd_id (g : Nat → Int32) (k : Nat) : upd g k (g k) = g := by
  funext j
  unfold upd
  split
  · next h => rw [h]
  · rfl
def stl (m c : Int32) (B : Nat → Nat → Int32) (j : Nat) : Int32 × (Nat → Nat → Int32) := if c < B 0 j then (if B 3 j = 0 then (c, updL (updL B 3 j 1) 1 j (m + 12)) else (c, updL B 2 j 3)) else (c - B 0 j, updL B 2 j 2)
theorem bdS_stl (m c : Int32) (B : Nat → Nat → Int32) (j : Nat) (h2 : B 2 j = 0) (h1 : ¬ m < B 1 j) : bdS m c B (j + 1) = stl m (bdS m c B j).1 (bdS m c B j).2 j := by
  have e0 := bdS_ge m c B (i := j) 0 j (Nat.le_refl _)
  have e3 := bdS_ge m c B (i := j) 3 j (Nat.le_refl _)
  simp only [bdS, stl, h2, h1, e0, e3, reduceIte]
