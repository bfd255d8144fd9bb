theorem wB_1 (g : Nat → Int32) (a d : Int32) : wB g a d 1 = a := rfl
theorem wB_2 (g : Nat → Int32) (a d : Int32) : wB g a d 2 = cWorth g a d := rfl
theorem wL_1 (g : Nat → Int32) (a d : Int32) : wL g a d 1 = a := rfl
theorem wL_2 (g : Nat → Int32) (a d : Int32) : wL g a d 2 = cWorth g a d := rfl
section LCK2
variable {g : Nat → Int32} {L B : Nat → Nat → Int32} {n b : Nat}
/-- the line of a rate: 1 at none, 2 at the stress -/
theorem mWorthB_int (h : Bd g L B n b) {r : Int32} {ln : Nat} (hln : (r = 0 ∧ ln = 1) ∨ (r = g 4 ∧ ln = 2)) : ∀ k, k ≤ b → (mWorthB g B b r k).toInt = (nB g (mBeside g B b) ln).toInt + sm (fun j => (bN g B ln j).toInt) k
  | 0, _ => by
    have hb := mBeside_b h
    show (-mBeside g B b).toInt64.toInt = _ + 0
    rw [Int32.toInt_toInt64, Int.add_zero]
    rcases hln with ⟨-, rfl⟩ | ⟨-, rfl⟩ <;> rfl
  | k + 1, hk => by
    have ih := mWorthB_int h hln k (by omega)
    have hb := nB_b h ln
    have hs := sm_b (f := fun j => (bN g B ln j).toInt) (M := 7500000) (by decide) k (fun j hj => bN_b h ln (show j < b by omega))
    have hc := bN_b h ln (show k < b by omega)
    have b5 := h.2.1
    obtain ⟨q0, q1⟩ := h.2.2.2.2.2.2.2 k (by omega)
    have e : (if B 2 k = 0 then (mValued g (B 0 k) (B 1 k) r).toInt64 else 0).toInt = (bN g B ln k).toInt := by
      show _ = (if B 2 k = 0 then wB g (B 0 k) (B 1 k) ln else 0).toInt
      by_cases q : B 2 k = 0
      · rw [if_pos q, if_pos q, Int32.toInt_toInt64]
        rcases hln with ⟨rfl, rfl⟩ | ⟨rfl, rfl⟩
        · rw [mValued_0 q0, wB_1]
        · rw [← cWorth_eq h q1, wB_2]
      · rw [if_neg q, if_neg q]; rfl
    unfold mWorthB
    show _ = _ + (sm (fun j => (bN g B ln j).toInt) k + (bN g B ln k).toInt)
    rw [i64a (by rw [ih, e]; omega) (by rw [ih, e]; omega), ih, e]
    omega
theorem mWorthL_int (h : Bd g L B n b) (set : Int32) {r : Int32} {ln : Nat} (hln : (r = 0 ∧ ln = 1) ∨ (r = g 4 ∧ ln = 2)) : ∀ k, k ≤ n → (mWorthL g L B b set r k).toInt = (nB g (mBeside g B b) ln).toInt + sm (fun j => (bN g B ln j).toInt) b - sm (fun j => (lN9 g L set ln j).toInt) k
  | 0, _ => by
    show (mWorthB g B b r b).toInt = _ - 0
    rw [mWorthB_int h hln b (Nat.le_refl _), Int.sub_zero]
  | k + 1, hk => by
    have ih := mWorthL_int h set hln k (by omega)
    have hb := nB_b h ln
    have hBs := smB_b h ln
    have hs := sm_b (f := fun j => (lN9 g L set ln j).toInt) (M := 1000000) (by decide) k (fun j hj => lN_b h set ln (show j < n by omega))
    have hc := lN_b h set ln (show k < n by omega)
    have n12 := h.1
    obtain ⟨-, -, q1⟩ := h.2.2.2.2.2.2.1 k (by omega)
    have q0 := mCount_b h (show k < n by omega)
    have e : (if (set >>> (nI k &&& 31)) &&& 1 = 1 then (mValued g (mCount g L k) (L 3 k) r).toInt64 else 0).toInt = (lN9 g L set ln k).toInt := by
      show _ = (if hB set k = true then wL g (mCount g L k) (L 3 k) ln else 0).toInt
      by_cases q : hB set k = true
      · rw [if_pos ((hB_m set (by omega)).mpr q), if_pos q, Int32.toInt_toInt64]
        rcases hln with ⟨rfl, rfl⟩ | ⟨rfl, rfl⟩
        · rw [mValued_0 (by omega), wL_1]
        · rw [← cWorth_eq h q1, wL_2]
      · rw [if_neg (fun z => q ((hB_m set (by omega)).mp z)), if_neg q]; rfl
    unfold mWorthL
    show _ = _ - (sm (fun j => (lN9 g L set ln j).toInt) k + (lN9 g L set ln k).toInt)
    rw [i64s (by rw [ih, e]; omega) (by rw [ih, e]; omega), ih, e]
    omega
theorem mLackW_int (h : Bd g L B n b) (set : Int32) {r : Int32} {ln : Nat} (hln : (r = 0 ∧ ln = 1) ∨ (r = g 4 ∧ ln = 2)) : (mLackW g L B n b set r).toInt = max 0 (TT g L B n b set ln) := by
  unfold mLackW
  rw [mPos_int, mWorthL_int h set hln n (Nat.le_refl _)]
  rfl
theorem mMoneyB_int (h : Bd g L B n b) {i : Nat} : ∀ k, k ≤ b → (mMoneyB g B (nI (i + 1)) k).toInt = (nB g (mBeside g B b) (2 + (i + 1))).toInt + sm (fun j => (bN g B (2 + (i + 1)) j).toInt) k
  | 0, _ => by
    show (-g 1).toInt64.toInt = _ + 0
    rw [Int32.toInt_toInt64, Int.add_zero, nB, if_neg (by omega), if_neg (by omega)]
  | k + 1, hk => by
    have ih := mMoneyB_int h (i := i) k (by omega)
    have hb := nB_b h (2 + (i + 1))
    have hs := sm_b (f := fun j => (bN g B (2 + (i + 1)) j).toInt) (M := 7500000) (by decide) k (fun j hj => bN_b h (2 + (i + 1)) (show j < b by omega))
    have hc := bN_b h (2 + (i + 1)) (show k < b by omega)
    have b5 := h.2.1
    have e : (if B 2 k = 0 then (if g 0 + nI (i + 1) < B 1 k then 0 else (B 0 k).toInt64) else 0).toInt = (bN g B (2 + (i + 1)) k).toInt := by
      show _ = (if B 2 k = 0 then wB g (B 0 k) (B 1 k) (2 + (i + 1)) else 0).toInt
      rw [wB, if_neg (show ¬ 2 + (i + 1) = 0 by omega), if_neg (show ¬ 2 + (i + 1) = 1 by omega), if_neg (show ¬ 2 + (i + 1) = 2 by omega), Nat.add_sub_cancel_left]
      by_cases q : B 2 k = 0
      · rw [if_pos q, if_pos q]
        by_cases q2 : g 0 + nI (i + 1) < B 1 k
        · rw [if_pos q2, if_pos q2]; rfl
        · rw [if_neg q2, if_neg q2, Int32.toInt_toInt64]
      · rw [if_neg q, if_neg q]; rfl
    unfold mMoneyB
    show _ = _ + (sm (fun j => (bN g B (2 + (i + 1)) j).toInt) k + (bN g B (2 + (i + 1)) k).toInt)
    rw [i64a (by rw [ih, e]; omega) (by rw [ih, e]; omega), ih, e]
    omega
theorem mMoneyL_int (h : Bd g L B n b) (set : Int32) {i : Nat} : ∀ k, k ≤ n → (mMoneyL g L B b set (nI (i + 1)) k).toInt = (nB g (mBeside g B b) (2 + (i + 1))).toInt + sm (fun j => (bN g B (2 + (i + 1)) j).toInt) b - sm (fun j => (lN9 g L set (2 + (i + 1)) j).toInt) k
  | 0, _ => by
    show (mMoneyB g B (nI (i + 1)) b).toInt = _ - 0
    rw [mMoneyB_int h b (Nat.le_refl _), Int.sub_zero]
  | k + 1, hk => by
    have ih := mMoneyL_int h set (i := i) k (by omega)
    have hb := nB_b h (2 + (i + 1))
    have hBs := smB_b h (2 + (i + 1))
    have hs := sm_b (f := fun j => (lN9 g L set (2 + (i + 1)) j).toInt) (M := 1000000) (by decide) k (fun j hj => lN_b h set (2 + (i + 1)) (show j < n by omega))
    have hc := lN_b h set (2 + (i + 1)) (show k < n by omega)
    have n12 := h.1
    have e : (if (set >>> (nI k &&& 31)) &&& 1 = 1 then (if g 0 + nI (i + 1) < L 3 k then 0 else (mCount g L k).toInt64) else 0).toInt = (lN9 g L set (2 + (i + 1)) k).toInt := by
      show _ = (if hB set k = true then wL g (mCount g L k) (L 3 k) (2 + (i + 1)) else 0).toInt
      rw [wL, if_neg (show ¬ 2 + (i + 1) = 0 by omega), if_neg (show ¬ 2 + (i + 1) = 1 by omega), if_neg (show ¬ 2 + (i + 1) = 2 by omega), Nat.add_sub_cancel_left]
      by_cases q : hB set k = true
      · rw [if_pos ((hB_m set (by omega)).mpr q), if_pos q]
        by_cases q2 : g 0 + nI (i + 1) < L 3 k
        · rw [if_pos q2, if_pos q2]; rfl
        · rw [if_neg q2, if_neg q2, Int32.toInt_toInt64]
      · rw [if_neg (fun z => q ((hB_m set (by omega)).mp z)), if_neg q]; rfl
    unfold mMoneyL
    show _ = _ - (sm (fun j => (lN9 g L set (2 + (i + 1)) j).toInt) k + (lN9 g L set (2 + (i + 1)) k).toInt)
    rw [i64s (by rw [ih, e]; omega) (by rw [ih, e]; omega), ih, e]
    omega
/-- the greatest of some lines, and 0 -/
def mxT (g : Nat → Int32) (L B : Nat → Nat → Int32) (n b : Nat) (set : Int32) : Nat → Int
  | 0 => 0
  | i + 1 => max (mxT g L B n b set i) (TT g L B n b set (2 + (i + 1)))
theorem mLackM_int (h : Bd g L B n b) (set : Int32) : ∀ k, (mLackM g L B n b set k).toInt = mxT g L B n b set k
  | 0 => by rw [mLackM]; rfl
  | k + 1 => by
    have ih := mLackM_int h set k
    have e : (mMoneyL g L B b set (nI (k + 1)) n).toInt = TT g L B n b set (2 + (k + 1)) := mMoneyL_int h set n (Nat.le_refl _)
    rw [mLackM]
    show _ = max (mxT g L B n b set k) (TT g L B n b set (2 + (k + 1)))
    split
    · next q => rw [Int64.le_iff_toInt_le, ih, e] at q; rw [ih]; omega
    · next q => rw [Int64.le_iff_toInt_le, ih, e] at q; rw [e]; omega
/-- what lacks at a test, out of the nine lines -/
def mxL (g : Nat → Int32) (L B : Nat → Nat → Int32) (n b : Nat) (set : Int32) (t : Nat) : Int :=
  if t = 0 then max 0 (TT g L B n b set 0) else if t = 2 then mxT g L B n b set 6 else max (max 0 (TT g L B n b set 1)) (max 0 (TT g L B n b set 2))
theorem mxL_0 (set : Int32) : mxL g L B n b set 0 = max 0 (TT g L B n b set 0) := if_pos rfl
theorem mxL_1 (set : Int32) : mxL g L B n b set 1 = max (max 0 (TT g L B n b set 1)) (max 0 (TT g L B n b set 2)) := by
  unfold mxL
  rw [if_neg (by decide), if_neg (by decide)]
theorem mxL_2' (set : Int32) : mxL g L B n b set 2 = mxT g L B n b set 6 := by
  unfold mxL
  rw [if_neg (by decide), if_pos rfl]
theorem mx6 (T : Nat → Int) (F : Nat → Int) (h0 : F 0 = 0) (h : ∀ i, F (i + 1) = max (F i) (T (2 + (i + 1)))) : F 6 = max (max (max (max (max (max 0 (T 3)) (T 4)) (T 5)) (T 6)) (T 7)) (T 8) := by
  have h1 : F 1 = max (F 0) (T 3) := h 0
  have h2 : F 2 = max (F 1) (T 4) := h 1
  have h3 : F 3 = max (F 2) (T 5) := h 2
  have h4 : F 4 = max (F 3) (T 6) := h 3
  have h5 : F 5 = max (F 4) (T 7) := h 4
  have h6 : F 6 = max (F 5) (T 8) := h 5
  rw [h6, h5, h4, h3, h2, h1, h0]
theorem mxL_2 (set : Int32) : mxL g L B n b set 2 = max (max (max (max (max (max 0 (TT g L B n b set 3)) (TT g L B n b set 4)) (TT g L B n b set 5)) (TT g L B n b set 6)) (TT g L B n b set 7)) (TT g L B n b set 8) := by
  rw [mxL_2']
  exact mx6 (TT g L B n b set) (mxT g L B n b set) rfl (fun _ => rfl)
theorem mLack_0 (set : Int32) : mLack g L B n b (nI 0) set = mLackF g L B n b set := by
  unfold mLack
  exact if_pos (show nI 0 = 0 from nI_0)
theorem mLack_1 (set : Int32) : mLack g L B n b (nI 1) set = if mLackW g L B n b set 0 ≤ mLackW g L B n b set (g 4) then mLackW g L B n b set (g 4) else mLackW g L B n b set 0 := by
  unfold mLack
  rw [if_neg (show ¬ nI 1 = 0 by decide), if_neg (show ¬ nI 1 = 2 by decide)]
theorem mLack_2 (set : Int32) : mLack g L B n b (nI 2) set = mLackM g L B n b set 6 := by
  unfold mLack
  rw [if_neg (show ¬ nI 2 = 0 by decide), if_pos (show nI 2 = 2 by decide)]
theorem mLack_int (h : Bd g L B n b) (set : Int32) {t : Nat} (ht : t < 3) : (mLack g L B n b (nI t) set).toInt = mxL g L B n b set t := by
  have e1 := mLackW_int h set (r := 0) (ln := 1) (Or.inl ⟨rfl, rfl⟩)
  have e2 := mLackW_int h set (r := g 4) (ln := 2) (Or.inr ⟨rfl, rfl⟩)
  rcases (show t = 0 ∨ t = 1 ∨ t = 2 by omega) with rfl | rfl | rfl
  · rw [mLack_0, mxL_0]
    exact mLackF_int h set
  · rw [mLack_1, mxL_1]
    split
    · next q => rw [Int64.le_iff_toInt_le, e1, e2] at q; rw [e2]; omega
    · next q => rw [Int64.le_iff_toInt_le, e1, e2] at q; rw [e1]; omega
  · rw [mLack_2, mxL_2']
    exact mLackM_int h set 6
theorem cMost_step (h : Bd g L B n b) (nd : Nat → Int32) (gv : Nat → Nat → Int32) {set : Int32} (hs : okS n set) (t : Int32) {k : Nat} (hk : k < 9) : (cMost (fsN nd g B b) (gvS gv g L n) t set (k + 1)).toInt = if cTest (nI k) = t then max (cMost (fsN nd g B b) (gvS gv g L n) t set k).toInt (TT g L B n b set k) else (cMost (fsN nd g B b) (gvS gv g L n) t set k).toInt := by
  have e := cM_int h nd gv hs hk
  rw [cMost]
  split
  · split
    · next q => rw [ltI, e] at q; rw [e]; omega
    · next q => rw [ltI, e] at q; omega
  · rfl
theorem nine (F T : Nat → Int) (t : Nat) (ht : t < 3) (f0 : F 0 = 0) (st : ∀ k, k < 9 → F (k + 1) = if cTest (nI k) = nI t then max (F k) (T k) else F k) : F 9 = if t = 0 then max 0 (T 0) else if t = 1 then max (max 0 (T 1)) (max 0 (T 2)) else max (max (max (max (max (max 0 (T 3)) (T 4)) (T 5)) (T 6)) (T 7)) (T 8) := by
  have s1 : F 1 = if cTest (nI 0) = nI t then max (F 0) (T 0) else F 0 := st 0 (by decide)
  have s2 : F 2 = if cTest (nI 1) = nI t then max (F 1) (T 1) else F 1 := st 1 (by decide)
  have s3 : F 3 = if cTest (nI 2) = nI t then max (F 2) (T 2) else F 2 := st 2 (by decide)
  have s4 : F 4 = if cTest (nI 3) = nI t then max (F 3) (T 3) else F 3 := st 3 (by decide)
  have s5 : F 5 = if cTest (nI 4) = nI t then max (F 4) (T 4) else F 4 := st 4 (by decide)
  have s6 : F 6 = if cTest (nI 5) = nI t then max (F 5) (T 5) else F 5 := st 5 (by decide)
  have s7 : F 7 = if cTest (nI 6) = nI t then max (F 6) (T 6) else F 6 := st 6 (by decide)
  have s8 : F 8 = if cTest (nI 7) = nI t then max (F 7) (T 7) else F 7 := st 7 (by decide)
  have s9 : F 9 = if cTest (nI 8) = nI t then max (F 8) (T 8) else F 8 := st 8 (by decide)
  rcases (show t = 0 ∨ t = 1 ∨ t = 2 by omega) with rfl | rfl | rfl
  · rw [if_pos (by decide)] at s1
    rw [if_neg (by decide)] at s2 s3 s4 s5 s6 s7 s8 s9
    rw [if_pos rfl]
    omega
  · rw [if_neg (by decide)] at s1
    rw [if_pos (by decide)] at s2 s3
    rw [if_neg (by decide)] at s4 s5 s6 s7 s8 s9
    rw [if_neg (by decide), if_pos rfl]
    omega
  · rw [if_neg (by decide)] at s1 s2 s3
    rw [if_pos (by decide)] at s4 s5 s6 s7 s8 s9
    rw [if_neg (by decide), if_neg (by decide)]
    omega
theorem cMost_int (h : Bd g L B n b) (nd : Nat → Int32) (gv : Nat → Nat → Int32) {set : Int32} (hs : okS n set) {t : Nat} (ht : t < 3) : (cMost (fsN nd g B b) (gvS gv g L n) (nI t) set 9).toInt = mxL g L B n b set t := by
  have s0 : (cMost (fsN nd g B b) (gvS gv g L n) (nI t) set 0).toInt = 0 := by rw [cMost]; rfl
  have e := nine (fun k => (cMost (fsN nd g B b) (gvS gv g L n) (nI t) set k).toInt) (TT g L B n b set) t ht s0 (fun k hk => cMost_step h nd gv hs (nI t) hk)
  have e : (cMost (fsN nd g B b) (gvS gv g L n) (nI t) set 9).toInt = _ := e
  rw [e]
  rcases (show t = 0 ∨ t = 1 ∨ t = 2 by omega) with rfl | rfl | rfl
  · rw [if_pos rfl, mxL_0]
  · rw [if_neg (by decide), if_pos rfl, mxL_1]
  · rw [if_neg (by decide), if_neg (by decide), mxL_2]
theorem cMost_eq (h : Bd g L B n b) (nd : Nat → Int32) (gv : Nat → Nat → Int32) {set : Int32} (hs : okS n set) {t : Nat} (ht : t < 3) : (cMost (fsN nd g B b) (gvS gv g L n) (nI t) set 9).toInt64 = mLack g L B n b (nI t) set := by
  apply Int64.toInt_inj.mp
  rw [Int32.toInt_toInt64, cMost_int h nd gv hs ht, mLack_int h set ht]
theorem cAll_eq (h : Bd g L B n b) (nd : Nat → Int32) (gv : Nat → Nat → Int32) {set : Int32} (hs : okS n set) : cAll (fsN nd g B b) (gvS gv g L n) set ↔ mSafe g L B n b set := by
  have z : ∀ t, t < 3 → (mLack g L B n b (nI t) set = 0 ↔ mxL g L B n b set t = 0) := fun t ht => by
    rw [← mLack_int h set ht]
    exact ⟨fun q => by rw [q]; rfl, fun q => Int64.toInt_inj.mp (by rw [q]; rfl)⟩
  have z0 := z 0 (by decide)
  have z1 := z 1 (by decide)
  have z2 := z 2 (by decide)
  have l0 := mxL_0 (g := g) (L := L) (B := B) (n := n) (b := b) set
  have l1 := mxL_1 (g := g) (L := L) (B := B) (n := n) (b := b) set
  have l2 := mxL_2 (g := g) (L := L) (B := B) (n := n) (b := b) set
  have c : ∀ j, j < 9 → (cMiss (fsN nd g B b) (gvS gv g L n) j set 12 ≤ 0 ↔ TT g L B n b set j ≤ 0) := fun j hj => by rw [leI, cM_int h nd gv hs hj, t0]
  constructor
  · intro q
    have q' := fun j hj => (c j hj).mp (q j hj)
    have a0 := q' 0 (by decide)
    have a1 := q' 1 (by decide)
    have a2 := q' 2 (by decide)
    have a3 := q' 3 (by decide)
    have a4 := q' 4 (by decide)
    have a5 := q' 5 (by decide)
    have a6 := q' 6 (by decide)
    have a7 := q' 7 (by decide)
    have a8 := q' 8 (by decide)
    exact ⟨z0.mpr (by omega), z1.mpr (by omega), z2.mpr (by omega)⟩
  · rintro ⟨q0, q1, q2⟩ j hj
    have p0 := z0.mp q0
    have p1 := z1.mp q1
    have p2 := z2.mp q2
    rw [c j hj]
    rcases (show j = 0 ∨ j = 1 ∨ j = 2 ∨ j = 3 ∨ j = 4 ∨ j = 5 ∨ j = 6 ∨ j = 7 ∨ j = 8 by omega) with rfl | rfl | rfl | rfl | rfl | rfl | rfl | rfl | rfl <;> omega
theorem mxL_nn (g : Nat → Int32) (L B : Nat → Nat → Int32) (n b : Nat) (set : Int32) {t : Nat} (ht : t < 3) : 0 ≤ mxL g L B n b set t := by
  have l0 := mxL_0 (g := g) (L := L) (B := B) (n := n) (b := b) set
  have l1 := mxL_1 (g := g) (L := L) (B := B) (n := n) (b := b) set
  have l2 := mxL_2 (g := g) (L := L) (B := B) (n := n) (b := b) set
  rcases (show t = 0 ∨ t = 1 ∨ t = 2 by omega) with rfl | rfl | rfl <;> omega
theorem mCan_all (g : Nat → Int32) (L B : Nat → Nat → Int32) (n b : Nat) (now thn : Int32) : ∀ k, mCan g L B n b now thn k = 1 ↔ ∀ j, j < k → (0 < mLack g L B n b (nI j) now ∨ mLack g L B n b (nI j) thn = 0)
  | 0 => by rw [mCan]; exact ⟨fun _ j hj => absurd hj (Nat.not_lt_zero _), fun _ => rfl⟩
  | k + 1 => by
    have ih := mCan_all g L B n b now thn k
    rw [mCan]
    by_cases q : mCan g L B n b now thn k = 0
    · rw [if_pos q]
      constructor
      · intro z; exact absurd z (by decide)
      · intro z
        have := ih.mpr (fun j hj => z j (by omega))
        rw [q] at this
        exact absurd this (by decide)
    · rw [if_neg q]
      have q1 : mCan g L B n b now thn k = 1 := (mCan_01 g L B n b now thn k).resolve_left q
      have ih1 := ih.mp q1
      constructor
      · intro z j hj
        by_cases e : j = k
        · subst e
          by_cases a : 0 < mLack g L B n b (nI j) now
          · exact Or.inl a
          · rw [if_neg a] at z
            by_cases a2 : mLack g L B n b (nI j) thn = 0
            · exact Or.inr a2
            · rw [if_neg a2] at z; exact absurd z (by decide)
        · exact ih1 j (by omega)
      · intro z
        rcases z k (by omega) with a | a
        · rw [if_pos a]
        · by_cases a1 : 0 < mLack g L B n b (nI k) now
          · rw [if_pos a1]
          · rw [if_neg a1, if_pos a]
theorem cSwap_eq (h : Bd g L B n b) (nd : Nat → Int32) (gv : Nat → Nat → Int32) {now thn : Int32} (h1 : okS n now) (h2 : okS n thn) : cSwap (fsN nd g B b) (gvS gv g L n) now thn ↔ mCan g L B n b now thn 3 = 1 := by
  rw [mCan_all]
  have key : ∀ j, j < 3 → (¬ (cMost (fsN nd g B b) (gvS gv g L n) (nI j) now 9 = 0 ∧ 0 < cMost (fsN nd g B b) (gvS gv g L n) (nI j) thn 9) ↔ (0 < mLack g L B n b (nI j) now ∨ mLack g L B n b (nI j) thn = 0)) := fun j hj => by
    have a1 := cMost_int h nd gv h1 hj
    have a2 := cMost_int h nd gv h2 hj
    have b1 := mLack_int h now hj
    have b2 := mLack_int h thn hj
    have n1 := mxL_nn g L B n b now hj
    have n2 := mxL_nn g L B n b thn hj
    have e0 : (0 : Int64).toInt = 0 := rfl
    rw [← Int32.toInt_inj, ltI, a1, a2, t0, Int64.lt_iff_toInt_lt, ← Int64.toInt_inj, b1, b2, e0]
    omega
  exact ⟨fun q j hj => (key j hj).mp (q j hj), fun q j hj => (key j hj).mpr (q j hj)⟩
end LCK2
