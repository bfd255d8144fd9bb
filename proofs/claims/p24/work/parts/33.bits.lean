/-! ===== pure: bits of ints ===== -/
def hB (x : Int32) (i : Nat) : Bool := x.toBitVec.getLsbD i
theorem hB_ext {x y : Int32} (h : ∀ i, i < 32 → hB x i = hB y i) : x = y := Int32.toBitVec_inj.mp (BitVec.eq_of_getLsbD_eq (fun i hi => h i hi))
theorem hB_and (x y : Int32) (i : Nat) : hB (x &&& y) i = (hB x i && hB y i) := by unfold hB; rw [Int32.toBitVec_and, BitVec.getLsbD_and]
theorem hB_or (x y : Int32) (i : Nat) : hB (x ||| y) i = (hB x i || hB y i) := by unfold hB; rw [Int32.toBitVec_or, BitVec.getLsbD_or]
theorem hB_xor (x y : Int32) (i : Nat) : hB (x ^^^ y) i = (hB x i ^^ hB y i) := by unfold hB; rw [Int32.toBitVec_xor, BitVec.getLsbD_xor]
theorem hB_m1 : ∀ i, i < 32 → hB (-1) i = true := by decide +kernel
theorem hB_0 (i : Nat) : hB 0 i = false := BitVec.getLsbD_zero
theorem hB_big {x : Int32} {i : Nat} (h : 32 ≤ i) : hB x i = false := BitVec.getLsbD_of_ge _ _ h
theorem hB_one : ∀ j, j < 12 → ((1 : Int32) <<< (nI j &&& 31)).toBitVec = BitVec.twoPow 32 j := by decide +kernel
theorem hB_bit {j : Nat} (hj : j < 12) (i : Nat) : hB ((1 : Int32) <<< (nI j &&& 31)) i = decide (j = i) := by
  unfold hB
  rw [hB_one j hj, BitVec.getLsbD_twoPow]
  simp [show j < 32 by omega]
theorem hB_c (x : Int32) {j : Nat} (hj : j < 12) : (x &&& ((1 : Int32) <<< (nI j &&& 31)) = 0) ↔ hB x j = false := by
  constructor
  · intro h
    have h1 : hB (x &&& ((1 : Int32) <<< (nI j &&& 31))) j = false := by rw [h]; exact hB_0 j
    rw [hB_and, hB_bit hj] at h1
    simpa using h1
  · intro h
    refine hB_ext (fun i hi => ?_)
    rw [hB_and, hB_bit hj, hB_0]
    by_cases e : j = i
    · subst e; rw [h]; rfl
    · simp [e]
theorem hB_sl : ∀ n, n < 12 → ((nI n &&& 31).toBitVec.smod 32).toNat = n := by decide +kernel
theorem hB_1 : ∀ i, i < 32 → hB 1 i = decide (i = 0) := by decide +kernel
theorem hB_shr (x : Int32) {j : Nat} (hj : j < 12) : hB (x >>> (nI j &&& 31)) 0 = hB x j := by
  unfold hB
  rw [Int32.toBitVec_shiftRight]
  show (BitVec.sshiftRight x.toBitVec ((nI j &&& 31).toBitVec.smod 32).toNat).getLsbD 0 = _
  rw [hB_sl j hj, BitVec.getLsbD_sshiftRight]
  simp [show j < 32 by omega]
theorem hB_m (x : Int32) {j : Nat} (hj : j < 12) : ((x >>> (nI j &&& 31)) &&& 1 = 1) ↔ hB x j = true := by
  rw [← hB_shr x hj]
  generalize x >>> (nI j &&& 31) = y
  constructor
  · intro h
    have h1 : hB (y &&& 1) 0 = true := by rw [h]; decide
    rw [hB_and] at h1
    simp only [Bool.and_eq_true] at h1
    exact h1.1
  · intro h
    refine hB_ext (fun i hi => ?_)
    rw [hB_and, hB_1 i hi]
    by_cases e : i = 0
    · subst e; rw [h]; rfl
    · simp [e]
theorem hB_nI (a i : Nat) (hi : i < 32) : hB (nI a) i = a.testBit i := by
  unfold hB nI
  show (BitVec.ofNat 32 a).getLsbD i = _
  rw [BitVec.getLsbD_ofNat]
  simp [hi]
theorem nI_or (a b : Nat) : nI a ||| nI b = nI (a ||| b) := by
  refine hB_ext (fun i hi => ?_)
  rw [hB_or, hB_nI _ _ hi, hB_nI _ _ hi, hB_nI _ _ hi, Nat.testBit_or]
theorem hB_pool (L : Nat → Nat → Int32) (k : Int32) : ∀ n, n ≤ 12 → ∀ i, hB (mPool L k n) i = (decide (i < n) && decide (L 5 i = k))
  | 0, _, i => by rw [mPool, hB_0]; simp
  | n + 1, h, i => by
    rw [mPool, hB_or, hB_pool L k n (by omega) i]
    by_cases hk : L 5 n = k
    · rw [if_pos hk, hB_bit (by omega)]
      by_cases e : n = i
      · subst e; simp [hk]
      · by_cases h1 : i < n
        · simp [e, h1, show i < n + 1 by omega]
        · simp [e, h1, show ¬ i < n + 1 by omega]
    · rw [if_neg hk, hB_0, Bool.or_false]
      by_cases e : n = i
      · subst e; simp [hk]
      · by_cases h1 : i < n
        · simp [h1, show i < n + 1 by omega]
        · simp [h1, show ¬ i < n + 1 by omega]
/-- no bits from n on -/
def okS (n : Nat) (set : Int32) : Prop := ∀ i, n ≤ i → i < 12 → hB set i = false
theorem okS_pool (L : Nat → Nat → Int32) (k : Int32) {n : Nat} (hn : n ≤ 12) : okS n (mPool L k n) := fun i h _ => by
  rw [hB_pool L k n hn i]
  simp [show ¬ i < n by omega]
theorem okS_out (L : Nat → Nat → Int32) {n : Nat} (hn : n ≤ 12) (p : Int32) : okS n (outOf L n p) := fun i h h2 => by
  unfold outOf
  rw [hB_and, okS_pool L 1 hn i h h2, Bool.false_and]
theorem okS_then (L : Nat → Nat → Int32) {n : Nat} (hn : n ≤ 12) (p : Int32) {k : Nat} (hk : k < n) : okS n (thenOf L n p (nI k)) := fun i h h2 => by
  unfold thenOf
  rw [hB_or, hB_and, okS_pool L 1 hn i h h2, Bool.false_and, hB_bit (by omega)]
  simp [show ¬ k = i by omega]
theorem okS_or {n : Nat} {x : Int32} (hx : okS n x) {j : Nat} (hj : j < 2 ^ n) : okS n (x ||| nI j) := fun i h h2 => by
  rw [hB_or, hx i h h2, hB_nI _ _ (by omega), Bool.false_or]
  exact Nat.testBit_lt_two_pow (Nat.lt_of_lt_of_le hj (Nat.pow_le_pow_right (by decide) h))
