/-! ===== pure: numbers without overflow ===== -/
theorem i32a {a b : Int32} (h1 : -2147483648 ≤ a.toInt + b.toInt) (h2 : a.toInt + b.toInt < 2147483648) : (a + b).toInt = a.toInt + b.toInt := by
  rw [Int32.toInt_add]
  exact Int.bmod_eq_of_le (by omega) (by omega)
theorem i32s {a b : Int32} (h1 : -2147483648 ≤ a.toInt - b.toInt) (h2 : a.toInt - b.toInt < 2147483648) : (a - b).toInt = a.toInt - b.toInt := by
  rw [Int32.toInt_sub]
  exact Int.bmod_eq_of_le (by omega) (by omega)
theorem i32m {a b : Int32} (h1 : -2147483648 ≤ a.toInt * b.toInt) (h2 : a.toInt * b.toInt < 2147483648) : (a * b).toInt = a.toInt * b.toInt := by
  rw [Int32.toInt_mul]
  exact Int.bmod_eq_of_le (by omega) (by omega)
theorem i32n {a : Int32} (h1 : -2147483648 < a.toInt) : (-a).toInt = -a.toInt := by
  have h2 := Int32.toInt_lt a
  rw [Int32.toInt_neg]
  exact Int.bmod_eq_of_le (by omega) (by omega)
theorem i32d {a d : Int32} (ha : 0 ≤ a.toInt) (hd : 0 < d.toInt) : (a / d).toInt = a.toInt / d.toInt := by
  rw [Int32.toInt_div, Int.tdiv_eq_ediv_of_nonneg ha]
  have h1 := Int.ediv_nonneg ha (Int.le_of_lt hd)
  have h2 := Int.ediv_le_self d.toInt ha
  have h3 := Int32.toInt_lt a
  exact Int.bmod_eq_of_le (by omega) (by omega)
theorem i64a {a b : Int64} (h1 : -4611686018427387904 ≤ a.toInt + b.toInt) (h2 : a.toInt + b.toInt < 4611686018427387904) : (a + b).toInt = a.toInt + b.toInt := by
  rw [Int64.toInt_add]
  exact Int.bmod_eq_of_le (by omega) (by omega)
theorem i64s {a b : Int64} (h1 : -4611686018427387904 ≤ a.toInt - b.toInt) (h2 : a.toInt - b.toInt < 4611686018427387904) : (a - b).toInt = a.toInt - b.toInt := by
  rw [Int64.toInt_sub]
  exact Int.bmod_eq_of_le (by omega) (by omega)
theorem i64m {a b : Int64} (h1 : -4611686018427387904 ≤ a.toInt * b.toInt) (h2 : a.toInt * b.toInt < 4611686018427387904) : (a * b).toInt = a.toInt * b.toInt := by
  rw [Int64.toInt_mul]
  exact Int.bmod_eq_of_le (by omega) (by omega)
def sm (f : Nat → Int) : Nat → Int
  | 0 => 0
  | j + 1 => sm f j + f j
def su (f : Nat → Int32) : Nat → Int32
  | 0 => 0
  | j + 1 => su f j + f j
theorem sm_b {f : Nat → Int} {M : Int} (hM : 0 ≤ M) : ∀ k, (∀ j, j < k → 0 ≤ f j ∧ f j ≤ M) → 0 ≤ sm f k ∧ sm f k ≤ (k : Int) * M
  | 0, _ => by simp [sm]
  | k + 1, h => by
    obtain ⟨h1, h2⟩ := sm_b hM k (fun j hj => h j (by omega))
    obtain ⟨h3, h4⟩ := h k (by omega)
    have e : ((k + 1 : Nat) : Int) * M = (k : Int) * M + M := by rw [Int.natCast_succ, Int.add_mul, Int.one_mul]
    unfold sm
    rw [e]
    omega
theorem sm_c {f f' : Nat → Int} : ∀ k, (∀ j, j < k → f j = f' j) → sm f k = sm f' k
  | 0, _ => rfl
  | k + 1, h => by unfold sm; rw [sm_c k (fun j hj => h j (by omega)), h k (by omega)]
theorem sm_mul (c : Int) (f : Nat → Int) : ∀ k, sm (fun j => c * f j) k = c * sm f k
  | 0 => by simp [sm]
  | k + 1 => by unfold sm; rw [sm_mul c f k, Int.mul_add]
theorem su_c {f f' : Nat → Int32} : ∀ k, (∀ j, j < k → f j = f' j) → su f k = su f' k
  | 0, _ => rfl
  | k + 1, h => by unfold su; rw [su_c k (fun j hj => h j (by omega)), h k (by omega)]
theorem su_tail {f : Nat → Int32} {n : Nat} : ∀ d, (∀ j, n ≤ j → j < n + d → f j = 0) → su f (n + d) = su f n
  | 0, _ => rfl
  | d + 1, h => by
    show su f (n + d) + f (n + d) = _
    rw [su_tail d (fun j h1 h2 => h j h1 (by omega)), h (n + d) (by omega) (by omega), Int32.add_zero]
theorem su_int {f : Nat → Int32} {M : Int} (hM : 0 ≤ M) : ∀ k, (∀ j, j < k → 0 ≤ (f j).toInt ∧ (f j).toInt ≤ M) → (k : Int) * M < 2147483648 → (su f k).toInt = sm (fun j => (f j).toInt) k
  | 0, _, _ => rfl
  | k + 1, h, hk => by
    have e : ((k + 1 : Nat) : Int) * M = (k : Int) * M + M := by rw [Int.natCast_succ, Int.add_mul, Int.one_mul]
    have ih := su_int hM k (fun j hj => h j (by omega)) (by omega)
    obtain ⟨h1, h2⟩ := sm_b (f := fun j => (f j).toInt) hM k (fun j hj => h j (by omega))
    obtain ⟨h3, h4⟩ := h k (by omega)
    unfold su sm
    rw [i32a (by rw [ih]; omega) (by rw [ih]; omega), ih]
theorem t0 : (0 : Int32).toInt = 0 := rfl
theorem t100 : (100 : Int32).toInt = 100 := rfl
theorem t80 : (80 : Int32).toInt = 80 := rfl
theorem t15 : (15 : Int32).toInt = 15 := rfl
theorem t1200 : (1200 : Int32).toInt = 1200 := rfl
theorem tm100 : (-100 : Int32).toInt = -100 := rfl
theorem ltI (a b : Int32) : a < b ↔ a.toInt < b.toInt := Int32.lt_iff_toInt_lt
theorem leI (a b : Int32) : a ≤ b ↔ a.toInt ≤ b.toInt := Int32.le_iff_toInt_le
/-- what the state keeps to, for one call's numbers -/
def Bd (g : Nat → Int32) (L B : Nat → Nat → Int32) (n b : Nat) : Prop :=
  n ≤ 12 ∧ b ≤ 5 ∧ (0 ≤ (g 0).toInt ∧ (g 0).toInt ≤ 12288) ∧ (0 ≤ (g 1).toInt ∧ (g 1).toInt ≤ 1480000000) ∧ (0 ≤ (g 3).toInt ∧ (g 3).toInt ≤ 50) ∧ (0 ≤ (g 4).toInt ∧ (g 4).toInt ≤ 20) ∧
  (∀ i, i < n → (0 ≤ (L 0 i).toInt ∧ (L 0 i).toInt ≤ 10000) ∧ (0 ≤ (L 1 i).toInt ∧ (L 1 i).toInt ≤ 20000) ∧ (0 ≤ (L 3 i).toInt ∧ (L 3 i).toInt ≤ 12888)) ∧
  (∀ i, i < b → (0 ≤ (B 0 i).toInt ∧ (B 0 i).toInt ≤ 50000) ∧ (0 ≤ (B 1 i).toInt ∧ (B 1 i).toInt ≤ 12888))
section BDV
variable {g : Nat → Int32} {L B : Nat → Nat → Int32} {n b : Nat}
theorem mCount_b (h : Bd g L B n b) {i : Nat} (hi : i < n) : 0 ≤ (mCount g L i).toInt ∧ (mCount g L i).toInt ≤ 10000 := by
  obtain ⟨-, -, -, -, -, -, hL, -⟩ := h
  obtain ⟨h0, h1, -⟩ := hL i hi
  unfold mCount
  have e1 : (L 1 i * 80).toInt = (L 1 i).toInt * 80 := i32m (by rw [t80]; omega) (by rw [t80]; omega)
  have e2 : (L 1 i * 80 / 100).toInt = (L 1 i).toInt * 80 / 100 := by rw [i32d (by rw [e1]; omega) (by rw [t100]; omega), e1, t100]
  split
  · rw [t0]; omega
  · split
    · split
      · exact h0
      · next h3 => rw [leI, e2] at h3; rw [e2]; omega
    · rw [t0]; omega
theorem mMonths_b (h : Bd g L B n b) {w : Int32} (hw : 0 ≤ w.toInt ∧ w.toInt ≤ 12888) : 0 ≤ (mMonths g w).toInt ∧ (mMonths g w).toInt ≤ 12888 := by
  obtain ⟨-, -, hm, -⟩ := h
  unfold mMonths
  split
  · rw [t0]; omega
  · next h1 => rw [leI] at h1; rw [i32s (by omega) (by omega)]; omega
theorem mDiv_b (h : Bd g L B n b) {w r : Int32} (hw : 0 ≤ w.toInt ∧ w.toInt ≤ 12888) (hr : 0 ≤ r.toInt ∧ r.toInt ≤ 20) : 1200 ≤ (1200 + r * mMonths g w).toInt := by
  have hm := mMonths_b h hw
  have h1 : 0 ≤ r.toInt * (mMonths g w).toInt := Int.mul_nonneg hr.1 hm.1
  have h2 : r.toInt * (mMonths g w).toInt ≤ 20 * 12888 := Int.mul_le_mul hr.2 hm.2 hm.1 (by decide)
  rw [i32a (by rw [i32m (by omega) (by omega), t1200]; omega) (by rw [i32m (by omega) (by omega), t1200]; omega), i32m (by omega) (by omega), t1200]
  omega
theorem dv_ok (h : Bd g L B n b) {r : Int32} (hr : 0 ≤ r.toInt ∧ r.toInt ≤ 20) : dvOK g L B n b r := by
  have hh := h
  obtain ⟨-, -, -, -, -, -, hL, hB⟩ := h
  refine ⟨fun i hi e => ?_, fun i hi e => ?_⟩
  · have := mDiv_b hh (hL i hi).2.2 hr
    rw [e, t0] at this
    omega
  · have := mDiv_b hh (hB i hi).2 hr
    rw [e, t0] at this
    omega
theorem cWorth_eq (h : Bd g L B n b) {x w : Int32} (hw : 0 ≤ w.toInt ∧ w.toInt ≤ 12888) : cWorth g x w = mValued g x w (g 4) := by
  have hm := h.2.2.1
  have hr := h.2.2.2.2.2.1
  have e : (if 0 < w - g 0 then w - g 0 else 0) = mMonths g w := by
    have e1 : (w - g 0).toInt = w.toInt - (g 0).toInt := i32s (by omega) (by omega)
    unfold mMonths
    by_cases h1 : w ≤ g 0
    · rw [if_pos h1, if_neg]
      rw [leI] at h1
      rw [ltI, e1, t0]
      omega
    · rw [if_neg h1, if_pos]
      rw [leI] at h1
      rw [ltI, e1, t0]
      omega
  unfold cWorth mValued
  rw [e, if_pos]
  have := mDiv_b h hw hr
  rw [ltI, t0]
  omega
theorem cWorth_b (h : Bd g L B n b) {x w : Int32} (hw : 0 ≤ w.toInt ∧ w.toInt ≤ 12888) (hx : 0 ≤ x.toInt ∧ x.toInt ≤ 50000) : 0 ≤ (cWorth g x w).toInt ∧ (cWorth g x w).toInt ≤ x.toInt := by
  rw [cWorth_eq h hw]
  have hd := mDiv_b h hw h.2.2.2.2.2.1
  unfold mValued
  have e1 : ((1200 : Int32) * x).toInt = 1200 * x.toInt := i32m (by rw [t1200]; omega) (by rw [t1200]; omega)
  rw [i32d (by rw [e1]; omega) (by omega), e1]
  refine ⟨Int.ediv_nonneg (by omega) (by omega), ?_⟩
  refine Int.ediv_le_of_le_mul (by omega) ?_
  calc 1200 * x.toInt = x.toInt * 1200 := Int.mul_comm _ _
    _ ≤ x.toInt * (1200 + g 4 * mMonths g w).toInt := Int.mul_le_mul_of_nonneg_left hd hx.1
theorem mValued_0 {x w : Int32} (hx : 0 ≤ x.toInt ∧ x.toInt ≤ 50000) : mValued g x w 0 = x := by
  unfold mValued
  rw [Int32.zero_mul, Int32.add_zero]
  apply Int32.toInt_inj.mp
  have e1 : ((1200 : Int32) * x).toInt = 1200 * x.toInt := i32m (by rw [t1200]; omega) (by rw [t1200]; omega)
  rw [i32d (by rw [e1]; omega) (by rw [t1200]; omega), e1, t1200]
  omega
end BDV
