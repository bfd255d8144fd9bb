/-! ===== pure: what lacks, as a plain number ===== -/
def TT (g : Nat → Int32) (L B : Nat → Nat → Int32) (n b : Nat) (set : Int32) (ln : Nat) : Int := (nB g (mBeside g B b) ln).toInt + sm (fun j => (bN g B ln j).toInt) b - sm (fun j => (lN9 g L set ln j).toInt) n
section LCK
variable {g : Nat → Int32} {L B : Nat → Nat → Int32} {n b : Nat}
theorem mOwed_su (B : Nat → Nat → Int32) : ∀ b, mOwed B b = su (fun j => if B 2 j = 0 then B 0 j else 0) b
  | 0 => rfl
  | b + 1 => by show mOwed B b + _ = _; rw [mOwed_su B b]; rfl
theorem bO_b (h : Bd g L B n b) {j : Nat} (hj : j < b) : 0 ≤ ((fun j => if B 2 j = 0 then B 0 j else 0) j).toInt ∧ ((fun j => if B 2 j = 0 then B 0 j else 0) j).toInt ≤ 50000 := by
  have hB := (h.2.2.2.2.2.2.2 j hj).1
  dsimp only
  split
  · exact hB
  · rw [t0]; omega
theorem mOwed_int (h : Bd g L B n b) : (mOwed B b).toInt = sm (fun j => ((fun j => if B 2 j = 0 then B 0 j else 0) j).toInt) b ∧ 0 ≤ (mOwed B b).toInt ∧ (mOwed B b).toInt ≤ 250000 := by
  have h5 := h.2.1
  have e : (mOwed B b).toInt = sm (fun j => ((fun j => if B 2 j = 0 then B 0 j else 0) j).toInt) b := by
    rw [mOwed_su]
    exact su_int (M := 50000) (by decide) b (fun j hj => bO_b h hj) (by omega)
  have h2 := sm_b (M := 50000) (by decide) b (fun j hj => bO_b h hj)
  rw [← e] at h2
  exact ⟨e, h2.1, by omega⟩
theorem mBeside_b (h : Bd g L B n b) : 0 ≤ (mBeside g B b).toInt ∧ (mBeside g B b).toInt ≤ 37500 := by
  obtain ⟨-, h1, h2⟩ := mOwed_int h
  have hc := h.2.2.2.1
  have e1 : (mOwed B b * 15).toInt = (mOwed B b).toInt * 15 := i32m (by rw [t15]; omega) (by rw [t15]; omega)
  have e2 : (mOwed B b * 15 / 100).toInt = (mOwed B b).toInt * 15 / 100 := by rw [i32d (by rw [e1]; omega) (by rw [t100]; omega), e1, t100]
  unfold mBeside
  split
  · next h3 => rw [leI, e2] at h3; omega
  · rw [e2]; omega
theorem wB_b (h : Bd g L B n b) {j : Nat} (hj : j < b) (ln : Nat) : 0 ≤ (wB g (B 0 j) (B 1 j) ln).toInt ∧ (wB g (B 0 j) (B 1 j) ln).toInt ≤ 7500000 := by
  obtain ⟨h0, h1⟩ := h.2.2.2.2.2.2.2 j hj
  have hc := h.2.2.2.2.1
  have e1 : (100 + g 3).toInt = 100 + (g 3).toInt := by rw [i32a (by rw [t100]; omega) (by rw [t100]; omega), t100]
  have m0 : 0 ≤ (B 0 j).toInt * (100 + g 3).toInt := Int.mul_nonneg h0.1 (by omega)
  have m1 : (B 0 j).toInt * (100 + g 3).toInt ≤ 50000 * 150 := Int.mul_le_mul h0.2 (by omega) (by omega) (by decide)
  unfold wB
  split
  · rw [i32m (by omega) (by omega)]; omega
  · split
    · omega
    · split
      · have := cWorth_b h h1 h0
        omega
      · split
        · rw [t0]; omega
        · omega
theorem bN_b (h : Bd g L B n b) (ln : Nat) {j : Nat} (hj : j < b) : 0 ≤ (bN g B ln j).toInt ∧ (bN g B ln j).toInt ≤ 7500000 := by
  show 0 ≤ (if B 2 j = 0 then wB g (B 0 j) (B 1 j) ln else 0).toInt ∧ (if B 2 j = 0 then wB g (B 0 j) (B 1 j) ln else 0).toInt ≤ 7500000
  split
  · exact wB_b h hj ln
  · rw [t0]; omega
theorem wL_b (h : Bd g L B n b) {j : Nat} (hj : j < n) (ln : Nat) : 0 ≤ (wL g (mCount g L j) (L 3 j) ln).toInt ∧ (wL g (mCount g L j) (L 3 j) ln).toInt ≤ 1000000 := by
  have hc := mCount_b h hj
  have h1 := (h.2.2.2.2.2.2.1 j hj).2.2
  unfold wL
  split
  · rw [i32m (by rw [t100]; omega) (by rw [t100]; omega), t100]; omega
  · split
    · omega
    · split
      · have := cWorth_b h h1 (x := mCount g L j) (by omega)
        omega
      · split
        · rw [t0]; omega
        · omega
theorem lN_b (h : Bd g L B n b) (set : Int32) (ln : Nat) {j : Nat} (hj : j < n) : 0 ≤ (lN9 g L set ln j).toInt ∧ (lN9 g L set ln j).toInt ≤ 1000000 := by
  show 0 ≤ (if hB set j = true then wL g (mCount g L j) (L 3 j) ln else 0).toInt ∧ (if hB set j = true then wL g (mCount g L j) (L 3 j) ln else 0).toInt ≤ 1000000
  split
  · exact wL_b h hj ln
  · rw [t0]; omega
theorem nB_b (h : Bd g L B n b) (ln : Nat) : -1480000000 ≤ (nB g (mBeside g B b) ln).toInt ∧ (nB g (mBeside g B b) ln).toInt ≤ 0 := by
  have hb := mBeside_b h
  have hc := h.2.2.2.1
  unfold nB
  split
  · rw [i32m (by rw [tm100]; omega) (by rw [tm100]; omega), tm100]; omega
  · split
    · rw [i32n (by omega)]; omega
    · rw [i32n (by omega)]; omega
theorem smB_b (h : Bd g L B n b) (ln : Nat) : 0 ≤ sm (fun j => (bN g B ln j).toInt) b ∧ sm (fun j => (bN g B ln j).toInt) b ≤ 37500000 := by
  have h5 := h.2.1
  have h2 := sm_b (M := 7500000) (by decide) b (fun j hj => bN_b h ln hj)
  omega
theorem smL_b (h : Bd g L B n b) (set : Int32) (ln : Nat) : 0 ≤ sm (fun j => (lN9 g L set ln j).toInt) n ∧ sm (fun j => (lN9 g L set ln j).toInt) n ≤ 12000000 := by
  have h5 := h.1
  have h2 := sm_b (M := 1000000) (by decide) n (fun j hj => lN_b h set ln hj)
  omega
theorem TT_b (h : Bd g L B n b) (set : Int32) (ln : Nat) : -1492000000 ≤ TT g L B n b set ln ∧ TT g L B n b set ln ≤ 37500000 := by
  have h1 := nB_b h ln
  have h2 := smB_b h ln
  have h3 := smL_b h set ln
  unfold TT
  omega
/-- the class's line -/
theorem cM_int (h : Bd g L B n b) (nd : Nat → Int32) (gv : Nat → Nat → Int32) {set : Int32} (hs : okS n set) {ln : Nat} (hl : ln < 9) : (cMiss (fsN nd g B b) (gvS gv g L n) ln set 12).toInt = TT g L B n b set ln := by
  have h1 := nB_b h ln
  have h2 := smB_b h ln
  have h3 := smL_b h set ln
  have n12 := h.1
  have b5 := h.2.1
  have e2 : (su (bN g B ln) b).toInt = sm (fun j => (bN g B ln j).toInt) b := su_int (M := 7500000) (by decide) b (fun j hj => bN_b h ln hj) (by omega)
  have e3 : (su (lN9 g L set ln) n).toInt = sm (fun j => (lN9 g L set ln j).toInt) n := su_int (M := 1000000) (by decide) n (fun j hj => lN_b h set ln hj) (by omega)
  rw [cM_at nd g gv L B n12 hs hl]
  unfold TT
  have e4 : (nB g (mBeside g B b) ln + su (bN g B ln) b).toInt = (nB g (mBeside g B b) ln).toInt + sm (fun j => (bN g B ln j).toInt) b := by rw [i32a (by omega) (by omega), e2]
  rw [i32s (by omega) (by omega), e4, e3]
/-! the reference's, in longs -/
theorem mPos_int (x : Int64) : (mPos x).toInt = max 0 x.toInt := by
  unfold mPos
  have e0 : (0 : Int64).toInt = 0 := rfl
  split
  · next h => rw [Int64.le_iff_toInt_le, e0] at h; omega
  · next h => rw [Int64.le_iff_toInt_le, e0] at h; rw [e0]; omega
theorem z64 (c : Prop) [Decidable c] (x : Int32) : (if c then x.toInt64 else 0).toInt = (if c then x else 0).toInt := by
  split
  · exact Int32.toInt_toInt64 x
  · rfl
abbrev cN (g : Nat → Int32) (L : Nat → Nat → Int32) (set : Int32) : Nat → Int := fun j => if hB set j = true then (mCount g L j).toInt else 0
theorem cN_b (h : Bd g L B n b) (set : Int32) {j : Nat} (hj : j < n) : 0 ≤ cN g L set j ∧ cN g L set j ≤ 10000 := by
  have hc := mCount_b h hj
  show 0 ≤ (if hB set j = true then (mCount g L j).toInt else 0) ∧ (if hB set j = true then (mCount g L j).toInt else 0) ≤ 10000
  split <;> omega
theorem mFace_int (h : Bd g L B n b) (set : Int32) : ∀ k, k ≤ n → (mFace g L B b set k).toInt = (mBeside g B b).toInt + sm (cN g L set) k
  | 0, _ => by
    show (mBeside g B b).toInt64.toInt = _ + 0
    rw [Int32.toInt_toInt64, Int.add_zero]
  | k + 1, hk => by
    have ih := mFace_int h set k (by omega)
    have hb := mBeside_b h
    have hs := sm_b (f := cN g L set) (M := 10000) (by decide) k (fun j hj => cN_b h set (show j < n by omega))
    have hc := cN_b h set (show k < n by omega)
    have n12 := h.1
    have e : (if (set >>> (nI k &&& 31)) &&& 1 = 1 then (mCount g L k).toInt64 else 0).toInt = cN g L set k := by
      show _ = if hB set k = true then (mCount g L k).toInt else 0
      by_cases q : hB set k = true
      · rw [if_pos ((hB_m set (by omega)).mpr q), if_pos q, Int32.toInt_toInt64]
      · rw [if_neg (fun z => q ((hB_m set (by omega)).mp z)), if_neg q]; rfl
    unfold mFace
    show _ = _ + (sm (cN g L set) k + cN g L set k)
    rw [i64a (by rw [ih, e]; omega) (by rw [ih, e]; omega), ih, e]
    omega
theorem mLackF_int (h : Bd g L B n b) (set : Int32) : (mLackF g L B n b set).toInt = max 0 (TT g L B n b set 0) := by
  obtain ⟨eo, o1, o2⟩ := mOwed_int h
  have hb := mBeside_b h
  have hc := h.2.2.2.2.1
  have n12 := h.1
  have b5 := h.2.1
  have ef := mFace_int h set n (Nat.le_refl _)
  have hs := sm_b (f := cN g L set) (M := 10000) (by decide) n (fun j hj => cN_b h set hj)
  have e1 : (100 + g 3).toInt = 100 + (g 3).toInt := by rw [i32a (by rw [t100]; omega) (by rw [t100]; omega), t100]
  have m0 : 0 ≤ (mOwed B b).toInt * (100 + g 3).toInt := Int.mul_nonneg o1 (by omega)
  have m1 : (mOwed B b).toInt * (100 + g 3).toInt ≤ 250000 * 150 := Int.mul_le_mul o2 (by omega) (by omega) (by decide)
  have e2 : ((mOwed B b).toInt64 * (100 + g 3).toInt64).toInt = (mOwed B b).toInt * (100 + g 3).toInt := by
    rw [i64m (by rw [Int32.toInt_toInt64, Int32.toInt_toInt64]; omega) (by rw [Int32.toInt_toInt64, Int32.toInt_toInt64]; omega), Int32.toInt_toInt64, Int32.toInt_toInt64]
  have t1 : (100 : Int64).toInt = 100 := rfl
  have e3 : (100 * mFace g L B b set n).toInt = 100 * (mFace g L B b set n).toInt := by rw [i64m (by rw [t1]; omega) (by rw [t1]; omega), t1]
  have e4 : (nB g (mBeside g B b) 0).toInt = -100 * (mBeside g B b).toInt := by
    show ((-100) * mBeside g B b).toInt = _
    rw [i32m (by rw [tm100]; omega) (by rw [tm100]; omega), tm100]
  have e5 : sm (fun j => (bN g B 0 j).toInt) b = (mOwed B b).toInt * (100 + g 3).toInt := by
    rw [eo, Int.mul_comm, ← sm_mul]
    refine sm_c b (fun j hj => ?_)
    show (if B 2 j = 0 then B 0 j * (100 + g 3) else 0).toInt = (100 + g 3).toInt * (if B 2 j = 0 then B 0 j else 0).toInt
    obtain ⟨h0, -⟩ := h.2.2.2.2.2.2.2 j hj
    have p0 : 0 ≤ (B 0 j).toInt * (100 + g 3).toInt := Int.mul_nonneg h0.1 (by omega)
    have p1 : (B 0 j).toInt * (100 + g 3).toInt ≤ 50000 * 150 := Int.mul_le_mul h0.2 (by omega) (by omega) (by decide)
    split
    · rw [i32m (by omega) (by omega), Int.mul_comm]
    · rw [t0, Int.mul_zero]
  have e6 : sm (fun j => (lN9 g L set 0 j).toInt) n = 100 * sm (cN g L set) n := by
    rw [← sm_mul]
    refine sm_c n (fun j hj => ?_)
    have hcj := mCount_b h hj
    show (if hB set j = true then 100 * mCount g L j else 0).toInt = 100 * (if hB set j = true then (mCount g L j).toInt else 0)
    split
    · rw [i32m (by rw [t100]; omega) (by rw [t100]; omega), t100]
    · rw [t0, Int.mul_zero]
  unfold mLackF
  rw [mPos_int, i64s (by rw [e2, e3]; omega) (by rw [e2, e3]; omega), e2, e3, ef]
  unfold TT
  rw [e4, e5, e6]
  congr 1
  omega
end LCK
