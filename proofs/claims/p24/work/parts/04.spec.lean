/-! ===== the reference's numbers, as its code counts them ===== -/
/-- a number of the state: g 0 month, 1 cash, 2 greatest rank, 3 cover, 4 stress; loans L: 0 amount, 1 worth, 2 rank, 3 due, 4 arrears, 5 state; bonds B: 0 amount, 1 due, 2 state, 3 put off -/
abbrev lvM : Nat → Prop := fun r => r < 11
abbrev ctM (cs : Nat → ClassId) (ad : Nat → Nat) (g : Nat → Int32) (L B : Nat → Nat → Int32) (n b : Nat) (t : Int32) : Nat → va_E := fun r => match r with
  | 0 => .inr (5, [.int (g 0), .int (g 1), .int (g 2), .int (g 3), .int (g 4), .ref (ad 1), .ref (ad 2), .ref (ad 3), .ref (ad 4), .ref (ad 5), .ref (ad 6), .int (nI n), .ref (ad 7), .ref (ad 8), .ref (ad 9), .ref (ad 10), .int (nI b), .int t])
  | 1 => .inl (cs 0, 12, .inl (L 0))
  | 2 => .inl (cs 0, 12, .inl (L 1))
  | 3 => .inl (cs 0, 12, .inl (L 2))
  | 4 => .inl (cs 0, 12, .inl (L 3))
  | 5 => .inl (cs 0, 12, .inl (L 4))
  | 6 => .inl (cs 0, 12, .inl (L 5))
  | 7 => .inl (cs 0, 5, .inl (B 0))
  | 8 => .inl (cs 0, 5, .inl (B 1))
  | 9 => .inl (cs 0, 5, .inl (B 2))
  | 10 => .inl (cs 1, 5, .inl (B 3))
  | _ => .inl (cs 0, 0, .inl (fun _ => 0))
theorem lt11 {r : Nat} (h : r < 11) : r = 0 ∨ r = 1 ∨ r = 2 ∨ r = 3 ∨ r = 4 ∨ r = 5 ∨ r = 6 ∨ r = 7 ∨ r = 8 ∨ r = 9 ∨ r = 10 := by omega
def pM (D : va_G) (cs : Nat → ClassId) (A : Nat → Prop) (ad : Nat → Nat) (g : Nat → Int32) (L B : Nat → Nat → Int32) (n b : Nat) (t : Int32) (U : State) : Prop := va_K D vwCl (vT cs) U ∧ wP D A lvM ad (ctM cs ad g L B n b t) U.heap
theorem pM_fb {D : va_G} {cs : Nat → ClassId} {A : Nat → Prop} {ad : Nat → Nat} {g : Nat → Int32} {L B : Nat → Nat → Int32} {n b : Nat} {t : Int32} {av : List Value} : FrameBlind (va_Pc av (pM D cs A ad g L B n b t)) := fun a U g mk q => ⟨q.1, va_K.moved (u := U) (U := U.calling g mk a) (Vm.Alike.refl U.vm) q.2.1, q.2.2⟩
theorem pT_fb {av : List Value} : FrameBlind (va_Pc av (fun _ => True)) := fun _ _ _ _ q => ⟨q.1, trivial⟩
theorem pM_of {D : va_G} {cs : Nat → ClassId} {A : Nat → Prop} {ad : Nat → Nat} {g : Nat → Int32} {L B : Nat → Nat → Int32} {n b : Nat} {t : Int32} {s U : State} {H : Heap} (hK : va_K D vwCl (vT cs) s) (hvm : s.vm.Alike U.vm) (hU : U.heap = H) (hW : wP D A lvM ad (ctM cs ad g L B n b t) H) : pM D cs A ad g L B n b t U := ⟨hK.moved hvm, by rw [hU]; exact hW⟩
def mThr (x y z : Int32) : Int32 := if x = 0 then 1 else if y = 0 then 2 else if z = 0 then 3 else 0
def mCount (g : Nat → Int32) (L : Nat → Nat → Int32) (i : Nat) : Int32 := if 3 ≤ L 4 i then 0 else if L 2 i ≤ g 2 then (if L 0 i ≤ L 1 i * 80 / 100 then L 0 i else L 1 i * 80 / 100) else 0
def mPool (L : Nat → Nat → Int32) (k : Int32) : Nat → Int32
  | 0 => 0
  | j + 1 => mPool L k j ||| (if L 5 j = k then 1 <<< (nI j &&& 31) else 0)
def mOwed (B : Nat → Nat → Int32) : Nat → Int32
  | 0 => 0
  | j + 1 => mOwed B j + (if B 2 j = 0 then B 0 j else 0)
def mBeside (g : Nat → Int32) (B : Nat → Nat → Int32) (b : Nat) : Int32 := if g 1 ≤ mOwed B b * 15 / 100 then g 1 else mOwed B b * 15 / 100
def mMonths (g : Nat → Int32) (w : Int32) : Int32 := if w ≤ g 0 then 0 else w - g 0
def mValued (g : Nat → Int32) (x w r : Int32) : Int32 := 1200 * x / (1200 + r * mMonths g w)
def mIn (set : Int32) (j : Nat) : Prop := (set >>> (nI j &&& 31)) &&& 1 = 1
def mFace (g : Nat → Int32) (L B : Nat → Nat → Int32) (b : Nat) (set : Int32) : Nat → Int64
  | 0 => (mBeside g B b).toInt64
  | j + 1 => mFace g L B b set j + (if (set >>> (nI j &&& 31)) &&& 1 = 1 then (mCount g L j).toInt64 else 0)
def mPos (x : Int64) : Int64 := if 0 ≤ x then x else 0
def mLackF (g : Nat → Int32) (L B : Nat → Nat → Int32) (n b : Nat) (set : Int32) : Int64 := mPos ((mOwed B b).toInt64 * (100 + g 3).toInt64 - 100 * mFace g L B b set n)
def mWorthB (g : Nat → Int32) (B : Nat → Nat → Int32) (b : Nat) (r : Int32) : Nat → Int64
  | 0 => (-mBeside g B b).toInt64
  | j + 1 => mWorthB g B b r j + (if B 2 j = 0 then (mValued g (B 0 j) (B 1 j) r).toInt64 else 0)
def mWorthL (g : Nat → Int32) (L B : Nat → Nat → Int32) (b : Nat) (set r : Int32) : Nat → Int64
  | 0 => mWorthB g B b r b
  | j + 1 => mWorthL g L B b set r j - (if (set >>> (nI j &&& 31)) &&& 1 = 1 then (mValued g (mCount g L j) (L 3 j) r).toInt64 else 0)
def mLackW (g : Nat → Int32) (L B : Nat → Nat → Int32) (n b : Nat) (set r : Int32) : Int64 := mPos (mWorthL g L B b set r n)
def mMoneyB (g : Nat → Int32) (B : Nat → Nat → Int32) (k : Int32) : Nat → Int64
  | 0 => (-g 1).toInt64
  | j + 1 => mMoneyB g B k j + (if B 2 j = 0 then (if g 0 + k < B 1 j then 0 else (B 0 j).toInt64) else 0)
def mMoneyL (g : Nat → Int32) (L B : Nat → Nat → Int32) (b : Nat) (set k : Int32) : Nat → Int64
  | 0 => mMoneyB g B k b
  | j + 1 => mMoneyL g L B b set k j - (if (set >>> (nI j &&& 31)) &&& 1 = 1 then (if g 0 + k < L 3 j then 0 else (mCount g L j).toInt64) else 0)
def mLackM (g : Nat → Int32) (L B : Nat → Nat → Int32) (n b : Nat) (set : Int32) : Nat → Int64
  | 0 => 0
  | k + 1 => if mMoneyL g L B b set (nI (k + 1)) n ≤ mLackM g L B n b set k then mLackM g L B n b set k else mMoneyL g L B b set (nI (k + 1)) n
termination_by k => k
def mLack (g : Nat → Int32) (L B : Nat → Nat → Int32) (n b : Nat) (test set : Int32) : Int64 :=
  if test = 0 then mLackF g L B n b set else if test = 2 then mLackM g L B n b set 6 else if mLackW g L B n b set 0 ≤ mLackW g L B n b set (g 4) then mLackW g L B n b set (g 4) else mLackW g L B n b set 0
abbrev mSafe (g : Nat → Int32) (L B : Nat → Nat → Int32) (n b : Nat) (set : Int32) : Prop := mLack g L B n b 0 set = 0 ∧ mLack g L B n b 1 set = 0 ∧ mLack g L B n b 2 set = 0
/-- no division by 0 -/
def dvOK (g : Nat → Int32) (L B : Nat → Nat → Int32) (n b : Nat) (r : Int32) : Prop := (∀ i, i < n → ¬ 1200 + r * mMonths g (L 3 i) = 0) ∧ ∀ i, i < b → ¬ 1200 + r * mMonths g (B 1 i) = 0
theorem lg0_le (x y : Int64) : (lg_cmp x y ≤ 0) ↔ x ≤ y := by
  unfold lg_cmp
  simp only [gt_iff_lt, Int64.lt_iff_toInt_lt, Int64.le_iff_toInt_le, ← Int64.toInt_inj]
  repeat' split
  all_goals first | (simp; omega) | omega | (simp; done)
theorem lg0_gt (x y : Int64) : (0 < lg_cmp x y) ↔ y < x := by
  unfold lg_cmp
  simp only [gt_iff_lt, Int64.lt_iff_toInt_lt, ← Int64.toInt_inj]
  repeat' split
  all_goals first | (simp; omega) | omega | (simp; done)
theorem lg0_eq (x y : Int64) : (lg_cmp x y = 0) ↔ x = y := by
  unfold lg_cmp
  simp only [gt_iff_lt, Int64.lt_iff_toInt_lt, ← Int64.toInt_inj]
  repeat' split
  all_goals first | (simp; omega) | omega | (simp; done)
def mSize (set : Int32) : Nat → Int32
  | 0 => 0
  | j + 1 => mSize set j + (set >>> (nI j &&& 31) &&& 1)
termination_by k => k
abbrev wi (x a b : Int32) : Prop := ¬ x < a ∧ ¬ b < x
abbrev isIx (n : Nat) (p : Int32) : Prop := ¬ p < 0 ∧ ¬ nI n ≤ p
theorem isIx_nI {n j : Nat} (hj : j < n) (hn : n < 1000) : isIx n (nI j) := ⟨nI_pos (by omega), nI_ge hj (by omega)⟩
theorem isIx_cases (n : Nat) (hn : n < 1000) (p : Int32) : ¬ isIx n p ∨ ∃ j, j < n ∧ p = nI j := by
  rcases pk_ix p (n := n) (by omega) with h | h | h
  · exact Or.inl (fun q => q.1 h)
  · exact Or.inl (fun q => q.2 h)
  · exact Or.inr h
