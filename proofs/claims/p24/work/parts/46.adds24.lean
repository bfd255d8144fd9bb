/-! ===== pure: the least set, taken in loan by loan ===== -/
section CGR
variable {g : Nat → Int32} {L L' B : Nat → Nat → Int32} {n b : Nat}
theorem mFace_c (hc : ∀ j, mCount g L' j = mCount g L j) (set : Int32) : ∀ k, mFace g L' B b set k = mFace g L B b set k
  | 0 => rfl
  | k + 1 => by
    have ih := mFace_c hc set k
    show mFace g L' B b set k + (if _ then (mCount g L' k).toInt64 else 0) = mFace g L B b set k + (if _ then (mCount g L k).toInt64 else 0)
    rw [ih, hc]
theorem mWorthL_c (hc : ∀ j, mCount g L' j = mCount g L j) (h3 : ∀ j, L' 3 j = L 3 j) (set r : Int32) : ∀ k, mWorthL g L' B b set r k = mWorthL g L B b set r k
  | 0 => rfl
  | k + 1 => by
    have ih := mWorthL_c hc h3 set r k
    show mWorthL g L' B b set r k - (if _ then (mValued g (mCount g L' k) (L' 3 k) r).toInt64 else 0) = mWorthL g L B b set r k - (if _ then (mValued g (mCount g L k) (L 3 k) r).toInt64 else 0)
    rw [ih, hc, h3]
theorem mMoneyL_c (hc : ∀ j, mCount g L' j = mCount g L j) (h3 : ∀ j, L' 3 j = L 3 j) (set r : Int32) : ∀ k, mMoneyL g L' B b set r k = mMoneyL g L B b set r k
  | 0 => rfl
  | k + 1 => by
    have ih := mMoneyL_c hc h3 set r k
    show mMoneyL g L' B b set r k - (if _ then (if g 0 + r < L' 3 k then 0 else (mCount g L' k).toInt64) else 0) = mMoneyL g L B b set r k - (if _ then (if g 0 + r < L 3 k then 0 else (mCount g L k).toInt64) else 0)
    rw [ih, hc, h3]
theorem mLackM_c (hc : ∀ j, mCount g L' j = mCount g L j) (h3 : ∀ j, L' 3 j = L 3 j) (set : Int32) : ∀ k, mLackM g L' B n b set k = mLackM g L B n b set k
  | 0 => by rw [mLackM, mLackM]
  | k + 1 => by
    have ih := mLackM_c hc h3 set k
    rw [mLackM, mLackM, ih, mMoneyL_c hc h3]
theorem mLack_c (hc : ∀ j, mCount g L' j = mCount g L j) (h3 : ∀ j, L' 3 j = L 3 j) (t set : Int32) : mLack g L' B n b t set = mLack g L B n b t set := by
  unfold mLack mLackF mLackW
  rw [mFace_c hc, mLackM_c hc h3, mWorthL_c hc h3, mWorthL_c hc h3]
theorem mSafe_c (hc : ∀ j, mCount g L' j = mCount g L j) (h3 : ∀ j, L' 3 j = L 3 j) (set : Int32) : mSafe g L' B n b set ↔ mSafe g L B n b set := by
  unfold mSafe
  rw [mLack_c hc h3, mLack_c hc h3, mLack_c hc h3]
theorem mCount_c (h : ∀ k, ¬ k = 5 → ∀ i, L' k i = L k i) (j : Nat) : mCount g L' j = mCount g L j := by
  unfold mCount
  rw [h 4 (by decide), h 2 (by decide), h 0 (by decide), h 1 (by decide)]
theorem mSafe_5 (h : ∀ k, ¬ k = 5 → ∀ i, L' k i = L k i) (set : Int32) : mSafe g L' B n b set ↔ mSafe g L B n b set :=
  mSafe_c (mCount_c h) (h 3 (by decide)) set
end CGR
def addS (L : Nat → Nat → Int32) (s : Nat) : Nat → Nat → Nat → Int32
  | 0 => L
  | j + 1 => if s.testBit j = true then updL (addS L s j) 5 j 1 else addS L s j
theorem addS_y {L : Nat → Nat → Int32} {s j : Nat} (h : s.testBit j = true) : addS L s (j + 1) = updL (addS L s j) 5 j 1 := if_pos h
theorem addS_n {L : Nat → Nat → Int32} {s j : Nat} (h : ¬ s.testBit j = true) : addS L s (j + 1) = addS L s j := if_neg h
theorem addS_k (L : Nat → Nat → Int32) (s : Nat) : ∀ j k, ¬ k = 5 → ∀ i, addS L s j k i = L k i
  | 0, _, _, _ => rfl
  | j + 1, k, hk, i => by
    have ih := addS_k L s j k hk i
    unfold addS
    split
    · rw [updL_nk _ _ _ _ hk]; exact ih
    · exact ih
theorem addS_5 (L : Nat → Nat → Int32) (s : Nat) : ∀ j i, addS L s j 5 i = if i < j ∧ s.testBit i = true then 1 else L 5 i
  | 0, i => by rw [if_neg (by omega)]; rfl
  | j + 1, i => by
    have ih := addS_5 L s j i
    unfold addS
    by_cases e : i = j
    · subst e
      by_cases q : s.testBit i = true
      · rw [if_pos q, updL_at, if_pos ⟨by omega, q⟩]
      · rw [if_neg q, ih, if_neg (by omega), if_neg (fun z => q z.2)]
    · have e2 : (i < j + 1 ∧ s.testBit i = true) ↔ (i < j ∧ s.testBit i = true) := by
        constructor
        · rintro ⟨a, c⟩; exact ⟨by omega, c⟩
        · rintro ⟨a, c⟩; exact ⟨by omega, c⟩
      by_cases q : s.testBit j = true
      · rw [if_pos q, updL_ni _ _ _ _ e, ih]
        simp only [e2]
      · rw [if_neg q, ih]
        simp only [e2]
def lastS (s : Nat) : Nat → Int32
  | 0 => -1
  | j + 1 => if s.testBit j = true then nI j else lastS s j
theorem lastS_y {s j : Nat} (h : s.testBit j = true) : lastS s (j + 1) = nI j := if_pos h
theorem lastS_n {s j : Nat} (h : ¬ s.testBit j = true) : lastS s (j + 1) = lastS s j := if_neg h
theorem lastS_bit (s : Nat) : ∀ j, (∃ i, i < j ∧ s.testBit i = true) → ∃ q, q < j ∧ s.testBit q = true ∧ lastS s j = nI q
  | 0, h => by obtain ⟨i, hi, -⟩ := h; omega
  | j + 1, h => by
    unfold lastS
    by_cases q : s.testBit j = true
    · exact ⟨j, by omega, q, if_pos q⟩
    · rw [if_neg q]
      obtain ⟨i, hi, h2⟩ := h
      have hne : i ≠ j := fun e => q (by rw [← e]; exact h2)
      obtain ⟨q1, a, c, d⟩ := lastS_bit s j ⟨i, by omega, h2⟩
      exact ⟨q1, by omega, c, d⟩
section LST
variable {g : Nat → Int32} {L B : Nat → Nat → Int32} {n b : Nat}
theorem or_nI0 (x : Int32) : x ||| nI 0 = x := hB_ext (fun i hi => by rw [hB_or, hB_nI _ _ hi, Nat.zero_testBit, Bool.or_false])
theorem p2le (hn : n ≤ 12) : 2 ^ n ≤ 4096 := Nat.le_trans (Nat.pow_le_pow_right (by decide) hn) (by decide)
/-- the least set is empty just where all tests hold -/
theorem mFound_0 (hn : n ≤ 12) : mFound g L B n b (2 ^ n) = 0 ↔ mSafe g L B n b (mPool L 1 n) := by
  obtain ⟨ro, e, h1, h2⟩ := mFound_spec g L B n b (2 ^ n) (p2le hn)
  have h0 : sub9 L n 0 := (sub9_iff (by decide)).mpr (fun i q => by rw [Nat.zero_testBit] at q; cases q)
  have hp : 0 < 2 ^ n := Nat.two_pow_pos n
  constructor
  · intro h
    rw [e] at h
    rcases h1 with q | ⟨s, q, v1, v2, v3⟩
    · rw [q] at h; exact absurd h (by decide)
    · rw [q] at h
      have h4 : s = 0 := (nI_eq (by have := p2le hn; omega) (by decide)).mp (show nI s = nI 0 from h)
      rw [h4, or_nI0] at v3
      exact v3
  · intro h
    have h3 := h2 0 hp h0 (by rw [or_nI0]; exact h)
    rw [e]
    rcases h1 with q | ⟨s, q, v1, v2, v3⟩
    · rw [q] at h3; exact absurd trivial h3
    · rw [q] at h3 ⊢
      have h4 : ¬ lt2 0 s := h3
      unfold lt2 at h4
      have e0 : pcN 0 12 = 0 := by decide
      rw [e0] at h4
      have : s = 0 := by omega
      rw [this]; rfl
/-- a least set that isn't empty -/
def LSt (g : Nat → Int32) (L B : Nat → Nat → Int32) (n b s : Nat) : Prop :=
  s < 2 ^ n ∧ mSafe g L B n b (mPool L 1 n ||| nI s) ∧ (∀ i, s.testBit i = true → i < n ∧ L 5 i = 0) ∧ (∃ i, i < n ∧ s.testBit i = true) ∧ ∀ t, t < s → (∀ i, t.testBit i = true → s.testBit i = true) → ¬ mSafe g L B n b (mPool L 1 n ||| nI t)
theorem mFound_LSt (hn : n ≤ 12) (h : 0 < mFound g L B n b (2 ^ n)) : ∃ s, mFound g L B n b (2 ^ n) = nI s ∧ s < 4096 ∧ LSt g L B n b s := by
  obtain ⟨ro, e, h1, h2⟩ := mFound_spec g L B n b (2 ^ n) (p2le hn)
  rw [e] at h
  rcases h1 with q | ⟨s, q, v1, v2, v3⟩
  · rw [q] at h; exact absurd h (by decide)
  · rw [q] at h h2 e
    have hs : s < 4096 := by have := p2le hn; omega
    have hout := (sub9_iff hs).mp v2
    have hpos : 0 < s := by
      rcases Nat.eq_zero_or_pos s with z | z
      · rw [z] at h; exact absurd h (by decide)
      · exact z
    have hbits : ∀ i, s.testBit i = true → i < n ∧ L 5 i = 0 := fun i hi => by
      have h3 := hout i hi
      rw [hB_pool L 0 n hn i] at h3
      simpa using h3
    refine ⟨s, e, hs, v1, v3, hbits, ?_, fun t ht hsub hsafe => ?_⟩
    · obtain ⟨i, hi⟩ := Nat.exists_testBit_of_ne_zero (Nat.ne_of_gt hpos)
      exact ⟨i, (hbits i hi).1, hi⟩
    · have ht9 : sub9 L n t := (sub9_iff (by omega)).mpr (fun i hi => hout i (hsub i hi))
      have h3 := h2 t (by omega) ht9 hsafe
      have h4 : ¬ lt2 t s := h3
      unfold lt2 at h4
      have h5 := pcN_mono hsub 12
      omega
theorem mod_sub (s j : Nat) : ∀ i, (s % 2 ^ j).testBit i = true → s.testBit i = true := fun i hi => by
  rw [Nat.testBit_mod_two_pow] at hi
  simp only [Bool.and_eq_true] at hi
  exact hi.2
theorem pool_addS (hn : n ≤ 12) {s : Nat} (hs : LSt g L B n b s) {j : Nat} (hj : j ≤ n) : mPool (addS L s j) 1 n = mPool L 1 n ||| nI (s % 2 ^ j) := by
  refine hB_ext (fun i hi => ?_)
  rw [hB_or, hB_pool _ 1 n hn, hB_pool _ 1 n hn, hB_nI _ _ hi, Nat.testBit_mod_two_pow, addS_5]
  by_cases q : s.testBit i = true
  · have h1 := hs.2.2.1 i q
    by_cases e : i < j
    · simp [e, q, h1.1]
    · simp [e, q, h1.2]
  · simp [q]
/-- before its last loan is in, the tests don't all hold -/
theorem mOk_part (hn : n ≤ 12) {s : Nat} (hs : LSt g L B n b s) {j : Nat} (hj : j < n) (hb : s.testBit j = true) : ¬ mSafe g (addS L s j) B n b (mPool (addS L s j) 1 n) := by
  rw [mSafe_5 (addS_k L s j), pool_addS hn hs (Nat.le_of_lt hj)]
  refine hs.2.2.2.2 _ ?_ (mod_sub s j)
  have h1 : s % 2 ^ j < 2 ^ j := Nat.mod_lt _ (Nat.two_pow_pos j)
  have h2 : 2 ^ j ≤ s := Nat.ge_two_pow_of_testBit hb
  omega
theorem mOk_full (hn : n ≤ 12) {s : Nat} (hs : LSt g L B n b s) : mSafe g (addS L s n) B n b (mPool (addS L s n) 1 n) := by
  rw [mSafe_5 (addS_k L s n), pool_addS hn hs (Nat.le_refl n), Nat.mod_eq_of_lt hs.1]
  exact hs.2.1
theorem out_full (hn : n ≤ 12) {s : Nat} (hs : LSt g L B n b s) {q : Nat} (hq : q < n) (hb : s.testBit q = true) : ¬ mSafe g (addS L s n) B n b (outOf (addS L s n) n (nI q)) := by
  have e : outOf (addS L s n) n (nI q) = mPool L 1 n ||| nI (s ^^^ 2 ^ q) := by
    unfold outOf
    rw [pool_addS hn hs (Nat.le_refl n), Nat.mod_eq_of_lt hs.1]
    refine hB_ext (fun i hi => ?_)
    rw [hB_and, hB_or, hB_or, hB_xor, hB_m1 i hi, hB_bit (by omega), hB_nI _ _ hi, hB_nI _ _ hi, Nat.testBit_xor, Nat.testBit_two_pow]
    by_cases e : q = i
    · subst e
      have h0 : hB (mPool L 1 n) q = false := by
        rw [hB_pool _ 1 n hn, (hs.2.2.1 q hb).2]
        simp
      simp [hb, h0]
    · simp [e]
  have hsub : ∀ i, (s ^^^ 2 ^ q).testBit i = true → s.testBit i = true := fun i hi => by
    rw [Nat.testBit_xor, Nat.testBit_two_pow] at hi
    by_cases e : q = i
    · subst e; exact hb
    · simpa [e] using hi
  rw [mSafe_5 (addS_k L s n), e]
  refine hs.2.2.2.2 _ (Nat.lt_of_le_of_ne (sub_le hsub) (fun e2 => ?_)) hsub
  have h3 : (s ^^^ 2 ^ q).testBit q = s.testBit q := by rw [e2]
  rw [Nat.testBit_xor, Nat.testBit_two_pow, hb] at h3
  simp at h3
def addsL (g : Nat → Int32) (L B : Nat → Nat → Int32) (n b : Nat) : Nat → Nat → Int32 := if 0 < mFound g L B n b (2 ^ n) then addS L (ixN (mFound g L B n b (2 ^ n))) n else L
theorem addsL_y {s9 : Nat} (h : 0 < mFound g L B n b (2 ^ n)) (e : mFound g L B n b (2 ^ n) = nI s9) (hs : s9 < 4096) : addsL g L B n b = addS L s9 n := by
  unfold addsL
  rw [if_pos h, e, show ixN (nI s9) = s9 from nI_clamp (by omega)]
theorem addsL_n (h : ¬ 0 < mFound g L B n b (2 ^ n)) : addsL g L B n b = L := if_neg h
theorem addsL_k (g : Nat → Int32) (L B : Nat → Nat → Int32) (n b : Nat) : (∀ k, ¬ k = 5 → ∀ i, addsL g L B n b k i = L k i) ∧ ∀ i, n ≤ i → addsL g L B n b 5 i = L 5 i := by
  unfold addsL
  split
  · exact ⟨addS_k L _ n, fun i hi => by rw [addS_5, if_neg (by omega)]⟩
  · exact ⟨fun _ _ _ => rfl, fun _ _ => rfl⟩
theorem LV.adds {fa fd fs : Nat → Int32} {k9 : Nat} (h : LV fa fd fs g L B n b k9) : LV fa fd fs g (addsL g L B n b) B n b k9 := by
  obtain ⟨h1, h2, h3, h4, h5, h6, h7⟩ := h
  obtain ⟨a1, a2⟩ := addsL_k g L B n b
  refine ⟨h1.setL (fun i hi => ⟨a1 0 (by decide) i, ?_, a1 3 (by decide) i⟩) (fun i hi => ⟨a1 4 (by decide) i, a2 i hi⟩), h2, fun j hj => by rw [a1 0 (by decide)]; exact h3 j hj, h4, h5, fun j hj => by rw [a1 4 (by decide)]; exact h6 j hj, h7⟩
  rw [a1 1 (by decide)]
  exact (h1.2.2.2.2.2.2.1 i hi).2.1
end LST
