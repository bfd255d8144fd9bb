/-! ===== what each call answers and leaves, as the reference's code has it ===== -/
def sel {α : Type} (k : Int32) (x y : α) : α := if k = 0 then x else y
theorem sel_0 {α : Type} (x y : α) : sel 0 x y = x := rfl
theorem sel_1 {α : Type} (x y : α) : sel 1 x y = y := rfl
theorem sel_2 {α : Type} (x y : α) : sel 2 x y = y := rfl
theorem sel_3 {α : Type} (x y : α) : sel 3 x y = y := rfl
def updL (L : Nat → Nat → Int32) (k i : Nat) (v : Int32) : Nat → Nat → Int32 := va_up L k (upd (L k) i v)
theorem updL_same {L : Nat → Nat → Int32} {k i : Nat} {v : Int32} (h : L k i = v) : updL L k i v = L := by
  subst h
  funext a b
  unfold updL va_up upd
  by_cases ha : a = k
  · subst ha
    by_cases hb : b = i
    · subst hb; simp
    · simp [hb]
  · simp [ha]
theorem updL_at (L : Nat → Nat → Int32) (k i : Nat) (v : Int32) : updL L k i v k i = v := by simp [updL, va_up, upd]
theorem updL_ni (L : Nat → Nat → Int32) (k i : Nat) (v : Int32) {k' i' : Nat} (h : i' ≠ i) : updL L k i v k' i' = L k' i' := by
  unfold updL va_up upd
  by_cases ha : k' = k
  · subst ha; simp [h]
  · simp [ha]
theorem updL_nk (L : Nat → Nat → Int32) (k i : Nat) (v : Int32) {k' i' : Nat} (h : k' ≠ k) : updL L k i v k' i' = L k' i' := by simp [updL, va_up, h]
abbrev okLoan (g : Nat → Int32) (p0 p1 p2 p3 : Int32) : Prop := wi p0 1 10000 ∧ wi p1 0 20000 ∧ wi p2 1 5 ∧ ¬ p3 ≤ g 0 ∧ ¬ 600 < p3
def kAddLoan (g : Nat → Int32) (n : Nat) (p0 p1 p2 p3 : Int32) : Int32 := if okLoan g p0 p1 p2 p3 then (if 12 ≤ nI n then 2 else 0) else 1
def addL (L : Nat → Nat → Int32) (n : Nat) (p0 p1 p2 p3 : Int32) : Nat → Nat → Int32 := updL (updL (updL (updL L 0 n p0) 1 n p1) 2 n p2) 3 n p3
def ixN (p : Int32) : Nat := p.toNatClampNeg
theorem ixN_nI {j : Nat} (h : j < 1000) : ixN (nI j) = j := nI_clamp (by omega)
theorem wi_nI {x : Int32} {lo hi : Nat} (hlo : 0 < lo) (hl : lo < 1000) (hh : hi < 1000) (h : wi x (nI lo) (nI hi)) : ∃ k, lo ≤ k ∧ k ≤ hi ∧ x = nI k := by
  have h0 : ¬ x < 0 := fun q => h.1 (Int32.lt_trans q (show nI 0 < nI lo from nI_lt hlo (by omega)))
  obtain ⟨j, hj, rfl⟩ := nI_of h0
  refine ⟨j, ?_, ?_, rfl⟩
  · exact Nat.le_of_not_lt fun q => h.1 ((nI_ltI (by omega) (by omega)).mpr q)
  · exact Nat.le_of_not_lt fun q => h.2 ((nI_ltI (by omega) (by omega)).mpr q)
def kSt (L : Nat → Nat → Int32) (n : Nat) (k : Int32) (p : Int32) : Int32 := if isIx n p then (if L 5 (ixN p) = k then 0 else 2) else 1
def kSwap (L : Nat → Nat → Int32) (n : Nat) (p q : Int32) : Int32 := if isIx n p ∧ isIx n q then (if L 5 (ixN p) = 1 ∧ L 5 (ixN q) = 0 then 0 else 2) else 1
def outOf (L : Nat → Nat → Int32) (n : Nat) (p : Int32) : Int32 := mPool L 1 n &&& (((1 : Int32) <<< (p &&& 31)) ^^^ (-1))
def thenOf (L : Nat → Nat → Int32) (n : Nat) (p q : Int32) : Int32 := (mPool L 1 n &&& (((1 : Int32) <<< (p &&& 31)) ^^^ (-1))) ||| ((1 : Int32) <<< (q &&& 31))
def mCan (g : Nat → Int32) (L B : Nat → Nat → Int32) (n b : Nat) (now thn : Int32) : Nat → Int32
  | 0 => 1
  | j + 1 => if mCan g L B n b now thn j = 0 then 0 else if 0 < mLack g L B n b (nI j) now then 1 else if mLack g L B n b (nI j) thn = 0 then 1 else 0
termination_by k => k
theorem mCan_01 (g : Nat → Int32) (L B : Nat → Nat → Int32) (n b : Nat) (now thn : Int32) : ∀ j, mCan g L B n b now thn j = 0 ∨ mCan g L B n b now thn j = 1
  | 0 => by simp [mCan]
  | j + 1 => by
    unfold mCan
    repeat' split
    all_goals simp
abbrev canSwap (g : Nat → Int32) (L B : Nat → Nat → Int32) (n b : Nat) (p q : Int32) : Prop := mCan g L B n b (mPool L 1 n) (thenOf L n p q) 3 = 1
def kArr (L : Nat → Nat → Int32) (n : Nat) (p q : Int32) : Int32 := if isIx n p then (if wi q 0 60 then (if L 5 (ixN p) = 2 then 3 else 0) else 2) else 1
def kWorth (n : Nat) (p q : Int32) : Int32 := if isIx n p then (if wi q 0 20000 then 0 else 2) else 1
def kIx (n : Nat) (p : Int32) : Int32 := if isIx n p then 0 else 1
abbrev okBond (g : Nat → Int32) (p0 p1 : Int32) : Prop := wi p0 1 50000 ∧ ¬ p1 ≤ g 0 ∧ ¬ 600 < p1
def kAddBond (g : Nat → Int32) (b : Nat) (p0 p1 : Int32) : Int32 := if okBond g p0 p1 then (if 5 ≤ nI b then 2 else 0) else 1
def addB (B : Nat → Nat → Int32) (b : Nat) (p0 p1 : Int32) : Nat → Nat → Int32 := updL (updL B 0 b p0) 1 b p1
def kTake (g : Nat → Int32) (p : Int32) : Int32 := if wi p 1 100000 then (if g 1 < p then 2 else 0) else 1
def kRules (p q r : Int32) : Int32 := if wi p 1 5 ∧ wi q 0 50 ∧ wi r 0 20 then 0 else 1
def rulesG (g : Nat → Int32) (p q r : Int32) : Nat → Int32 := upd (upd (upd g 2 p) 3 q) 4 r
def kIn (lo hi p : Int32) : Int32 := if wi p lo hi then 0 else 1
/-- how a month passes: the loans, then the bonds -/
abbrev lvP (L : Nat → Nat → Int32) (m : Int32) (i : Nat) : Prop := L 5 i = 1 ∧ ¬ m < L 3 i ∧ L 4 i = 0
def lvCash (L : Nat → Nat → Int32) (m c : Int32) : Nat → Int32
  | 0 => c
  | j + 1 => if lvP L m j then lvCash L m c j + L 0 j else lvCash L m c j
def lvL (L : Nat → Nat → Int32) (m : Int32) : Nat → Nat → Nat → Int32
  | 0 => L
  | j + 1 => if lvP L m j then updL (lvL L m j) 5 j 2 else lvL L m j
theorem lvL_k (L : Nat → Nat → Int32) (m : Int32) {k : Nat} (hk : k ≠ 5) (i : Nat) : ∀ j, lvL L m j k i = L k i
  | 0 => rfl
  | j + 1 => by
    unfold lvL
    split
    · rw [updL_nk _ _ _ _ hk]; exact lvL_k L m hk i j
    · exact lvL_k L m hk i j
theorem lvL_ge (L : Nat → Nat → Int32) (m : Int32) {i : Nat} : ∀ j, j ≤ i → lvL L m j 5 i = L 5 i
  | 0, _ => rfl
  | j + 1, h => by
    unfold lvL
    split
    · rw [updL_ni _ _ _ _ (by omega)]; exact lvL_ge L m j (by omega)
    · exact lvL_ge L m j (by omega)
/-- the bonds: cash and bonds -/
def bdS (m c : Int32) (B : Nat → Nat → Int32) : Nat → Int32 × (Nat → Nat → Int32)
  | 0 => (c, B)
  | j + 1 => if B 2 j = 0 then (if m < B 1 j then bdS m c B j else if (bdS m c B j).1 < B 0 j then (if B 3 j = 0 then ((bdS m c B j).1, updL (updL (bdS m c B j).2 3 j 1) 1 j (m + 12)) else ((bdS m c B j).1, updL (bdS m c B j).2 2 j 3)) else ((bdS m c B j).1 - B 0 j, updL (bdS m c B j).2 2 j 2)) else bdS m c B j
theorem bdS_ge (m c : Int32) (B : Nat → Nat → Int32) {i : Nat} (k : Nat) : ∀ j, j ≤ i → (bdS m c B j).2 k i = B k i
  | 0, _ => rfl
  | j + 1, h => by
    have ih := bdS_ge m c B (i := i) k j (by omega)
    unfold bdS
    repeat' split
    all_goals (try dsimp only)
    all_goals first | exact ih | (rw [updL_ni _ _ _ _ (by omega)]; exact ih) | (rw [updL_ni _ _ _ _ (by omega), updL_ni _ _ _ _ (by omega)]; exact ih)
theorem bdS_0 (m c : Int32) (B : Nat → Nat → Int32) (i : Nat) : ∀ j, (bdS m c B j).2 0 i = B 0 i
  | 0 => rfl
  | j + 1 => by
    have ih := bdS_0 m c B i j
    unfold bdS
    repeat' split
    all_goals (try dsimp only)
    all_goals first | exact ih | (rw [updL_nk _ _ _ _ (by omega)]; exact ih) | (rw [updL_nk _ _ _ _ (by omega), updL_nk _ _ _ _ (by omega)]; exact ih)
abbrev G3 : Type := (Nat → Int32) × (Nat → Nat → Int32) × (Nat → Nat → Int32)
def lvOne (n b : Nat) (x : G3) : G3 :=
  (upd (upd x.1 0 (x.1 0 + 1)) 1 (bdS (x.1 0 + 1) (lvCash x.2.1 (x.1 0 + 1) (x.1 1) n) x.2.2 b).1, lvL x.2.1 (x.1 0 + 1) n, (bdS (x.1 0 + 1) (lvCash x.2.1 (x.1 0 + 1) (x.1 1) n) x.2.2 b).2)
def lvMany (n b : Nat) (x : G3) : Nat → G3
  | 0 => x
  | j + 1 => lvOne n b (lvMany n b x j)
/-- the least set: by all -/
def mFound (g : Nat → Int32) (L B : Nat → Nat → Int32) (n b : Nat) : Nat → Int32
  | 0 => -1
  | j + 1 => if nI j &&& (mPool L 0 n ^^^ (-1)) = 0 then (if mFound g L B n b j < 0 then (if mSafe g L B n b (mPool L 1 n ||| nI j) then nI j else mFound g L B n b j) else if mSize (mFound g L B n b j) 12 ≤ mSize (nI j) 12 then mFound g L B n b j else if mSafe g L B n b (mPool L 1 n ||| nI j) then nI j else mFound g L B n b j) else mFound g L B n b j
theorem upd_upd (f : Nat → Int32) (k : Nat) (v w : Int32) : upd (upd f k v) k w = upd f k w := by
  funext j
  unfold upd
  split <;> rfl
theorem shl_one {n : Nat} (h : n ≤ 12) : (1 : Int32) <<< (nI n &&& 31) = nI (2 ^ n) := by
  have : ∀ k, k < 13 → (1 : Int32) <<< (nI k &&& 31) = nI (2 ^ k) := by decide +kernel
  exact this n (by omega)
