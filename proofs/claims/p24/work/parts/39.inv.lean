/-! ===== pure: what every call keeps ===== -/
def Iv (g : Nat → Int32) (L B : Nat → Nat → Int32) (n b : Nat) : Prop :=
  n ≤ 12 ∧ b ≤ 5 ∧ (0 ≤ (g 0).toInt ∧ (g 0).toInt ≤ 12288) ∧ (0 ≤ (g 1).toInt ∧ (g 1).toInt ≤ 120000 * (g 0).toInt + 50000 * (b : Int)) ∧ (0 ≤ (g 3).toInt ∧ (g 3).toInt ≤ 50) ∧ (0 ≤ (g 4).toInt ∧ (g 4).toInt ≤ 20) ∧
  (∀ i, i < n → (0 ≤ (L 0 i).toInt ∧ (L 0 i).toInt ≤ 10000) ∧ (0 ≤ (L 1 i).toInt ∧ (L 1 i).toInt ≤ 20000) ∧ (0 ≤ (L 3 i).toInt ∧ (L 3 i).toInt ≤ 600)) ∧
  (∀ i, i < b → (0 ≤ (B 0 i).toInt ∧ (B 0 i).toInt ≤ 50000) ∧ (0 ≤ (B 1 i).toInt ∧ (B 1 i).toInt ≤ 600 + (g 0).toInt)) ∧
  (∀ i, n ≤ i → L 4 i = 0 ∧ L 5 i = 0) ∧ (∀ i, b ≤ i → B 2 i = 0 ∧ B 3 i = 0)
theorem Iv_0 : Iv g0 (fun _ _ => 0) (fun _ _ => 0) 0 0 := by
  refine ⟨by decide, by decide, by decide, by decide, by decide, by decide, fun i h => absurd h (Nat.not_lt_zero _), fun i h => absurd h (Nat.not_lt_zero _), fun i _ => ⟨rfl, rfl⟩, fun i _ => ⟨rfl, rfl⟩⟩
section IVS
variable {g : Nat → Int32} {L B : Nat → Nat → Int32} {n b : Nat}
theorem Iv.bd (h : Iv g L B n b) : Bd g L B n b := by
  obtain ⟨h1, h2, h3, h4, h5, h6, h7, h8, -, -⟩ := h
  refine ⟨h1, h2, h3, ⟨h4.1, by omega⟩, h5, h6, fun i hi => ?_, fun i hi => ?_⟩
  · have := h7 i hi; exact ⟨this.1, this.2.1, this.2.2.1, by omega⟩
  · have := h8 i hi; exact ⟨this.1, this.2.1, by omega⟩
theorem Iv.setL (h : Iv g L B n b) {L' : Nat → Nat → Int32} (h1 : ∀ i, i < n → L' 0 i = L 0 i ∧ (0 ≤ (L' 1 i).toInt ∧ (L' 1 i).toInt ≤ 20000) ∧ L' 3 i = L 3 i) (h2 : ∀ i, n ≤ i → L' 4 i = L 4 i ∧ L' 5 i = L 5 i) : Iv g L' B n b := by
  obtain ⟨q1, q2, q3, q4, q5, q6, q7, q8, q9, q10⟩ := h
  refine ⟨q1, q2, q3, q4, q5, q6, fun i hi => ?_, q8, fun i hi => ?_, q10⟩
  · obtain ⟨a, c, d⟩ := h1 i hi
    rw [a, d]
    exact ⟨(q7 i hi).1, c, (q7 i hi).2.2⟩
  · obtain ⟨a, c⟩ := h2 i hi
    rw [a, c]
    exact q9 i hi
theorem Iv.k5 (h : Iv g L B n b) {i : Nat} (hi : i < n) (v : Int32) : Iv g (updL L 5 i v) B n b :=
  h.setL (fun j hj => ⟨updL_nk _ _ _ _ (by decide), by rw [updL_nk _ _ _ _ (by decide)]; exact (h.2.2.2.2.2.2.1 j hj).2.1, updL_nk _ _ _ _ (by decide)⟩) (fun j hj => ⟨updL_nk _ _ _ _ (by decide), updL_ni _ _ _ _ (by omega)⟩)
theorem Iv.k4 (h : Iv g L B n b) {i : Nat} (hi : i < n) (v : Int32) : Iv g (updL L 4 i v) B n b :=
  h.setL (fun j hj => ⟨updL_nk _ _ _ _ (by decide), by rw [updL_nk _ _ _ _ (by decide)]; exact (h.2.2.2.2.2.2.1 j hj).2.1, updL_nk _ _ _ _ (by decide)⟩) (fun j hj => ⟨updL_ni _ _ _ _ (by omega), updL_nk _ _ _ _ (by decide)⟩)
theorem Iv.k1 (h : Iv g L B n b) {i : Nat} (_ : i < n) {v : Int32} (hv : 0 ≤ v.toInt ∧ v.toInt ≤ 20000) : Iv g (updL L 1 i v) B n b :=
  h.setL (fun j hj => ⟨updL_nk _ _ _ _ (by decide), by
    by_cases e : j = i
    · subst e; rw [updL_at]; exact hv
    · rw [updL_ni _ _ _ _ e]; exact (h.2.2.2.2.2.2.1 j hj).2.1, updL_nk _ _ _ _ (by decide)⟩) (fun j hj => ⟨updL_nk _ _ _ _ (by decide), updL_nk _ _ _ _ (by decide)⟩)
theorem isIx_lt (hn : n ≤ 12) {x : Int32} (h : isIx n x) : ixN x < n := by
  rcases isIx_cases n (by omega) x with q | ⟨j, hj, rfl⟩
  · exact absurd h q
  · rw [ixN_nI (by omega)]; exact hj
theorem kSt_0 {k x : Int32} (h : kSt L n k x = 0) : isIx n x := by
  unfold kSt at h
  by_cases q : isIx n x
  · exact q
  · rw [if_neg q] at h; exact absurd h (by decide)
theorem kSwap_0 {x y : Int32} (h : kSwap L n x y = 0) : isIx n x ∧ isIx n y := by
  unfold kSwap at h
  by_cases q : isIx n x ∧ isIx n y
  · exact q
  · rw [if_neg q] at h; exact absurd h (by decide)
theorem kArr_0 {x y : Int32} (h : kArr L n x y = 0) : isIx n x := by
  unfold kArr at h
  by_cases q : isIx n x
  · exact q
  · rw [if_neg q] at h; exact absurd h (by decide)
theorem kWorth_0 {x y : Int32} (h : kWorth n x y = 0) : isIx n x ∧ wi y 0 20000 := by
  unfold kWorth at h
  by_cases q : isIx n x
  · rw [if_pos q] at h
    by_cases q2 : wi y 0 20000
    · exact ⟨q, q2⟩
    · rw [if_neg q2] at h; exact absurd h (by decide)
  · rw [if_neg q] at h; exact absurd h (by decide)
theorem wi_int {x a c : Int32} (h : wi x a c) : a.toInt ≤ x.toInt ∧ x.toInt ≤ c.toInt := by
  obtain ⟨h1, h2⟩ := h
  rw [ltI] at h1 h2
  omega
theorem Iv.worth (h : Iv g L B n b) {x y : Int32} (hk : kWorth n x y = 0) : Iv g (updL L 1 (ixN x) y) B n b := by
  obtain ⟨h1, h2⟩ := kWorth_0 hk
  have h3 := wi_int h2
  rw [t0, show (20000 : Int32).toInt = 20000 from rfl] at h3
  exact h.k1 (isIx_lt h.1 h1) h3
theorem Iv.take (h : Iv g L B n b) {x : Int32} (hk : kTake g x = 0) : Iv (upd g 1 (g 1 - x)) L B n b := by
  unfold kTake at hk
  by_cases q : wi x 1 100000
  · rw [if_pos q] at hk
    by_cases q2 : g 1 < x
    · rw [if_pos q2] at hk; exact absurd hk (by decide)
    · have h3 := wi_int q
      rw [show (1 : Int32).toInt = 1 from rfl, show (100000 : Int32).toInt = 100000 from rfl] at h3
      rw [ltI] at q2
      obtain ⟨q1, q2, q3, q4, q5, q6, q7, q8, q9, q10⟩ := h
      have e : (g 1 - x).toInt = (g 1).toInt - x.toInt := i32s (by omega) (by omega)
      refine ⟨q1, q2, ?_, ?_, ?_, ?_, q7, fun i hi => ?_, q9, q10⟩
      · rw [upd_ne (by decide)]; exact q3
      · rw [upd_at, upd_ne (by decide), e]; omega
      · rw [upd_ne (by decide)]; exact q5
      · rw [upd_ne (by decide)]; exact q6
      · rw [upd_ne (by decide)]; exact q8 i hi
  · rw [if_neg q] at hk; exact absurd hk (by decide)
theorem Iv.rules (h : Iv g L B n b) {x y z : Int32} (hk : kRules x y z = 0) : Iv (rulesG g x y z) L B n b := by
  unfold kRules at hk
  by_cases q : wi x 1 5 ∧ wi y 0 50 ∧ wi z 0 20
  · have h3 := wi_int q.2.1
    have h4 := wi_int q.2.2
    rw [t0, show (50 : Int32).toInt = 50 from rfl] at h3
    rw [t0, show (20 : Int32).toInt = 20 from rfl] at h4
    obtain ⟨q1, q2, q3, q4, q5, q6, q7, q8, q9, q10⟩ := h
    have e0 : rulesG g x y z 0 = g 0 := by unfold rulesG; rw [upd_ne (by decide), upd_ne (by decide), upd_ne (by decide)]
    have e1 : rulesG g x y z 1 = g 1 := by unfold rulesG; rw [upd_ne (by decide), upd_ne (by decide), upd_ne (by decide)]
    have e3 : rulesG g x y z 3 = y := by unfold rulesG; rw [upd_ne (by decide), upd_at]
    have e4 : rulesG g x y z 4 = z := by unfold rulesG; rw [upd_at]
    refine ⟨q1, q2, ?_, ?_, ?_, ?_, q7, fun i hi => ?_, q9, q10⟩
    · rw [e0]; exact q3
    · rw [e0, e1]; exact q4
    · rw [e3]; exact h3
    · rw [e4]; exact h4
    · rw [e0]; exact q8 i hi
  · rw [if_neg q] at hk; exact absurd hk (by decide)
theorem Iv.loan (h : Iv g L B n b) {x y z w : Int32} (hk : kAddLoan g n x y z w = 0) : Iv g (addL L n x y z w) B (n + 1) b ∧ n < 12 := by
  unfold kAddLoan at hk
  by_cases q : okLoan g x y z w
  · rw [if_pos q] at hk
    by_cases q2 : 12 ≤ nI n
    · rw [if_pos q2] at hk; exact absurd hk (by decide)
    · obtain ⟨w1, w2, -, w4, w5⟩ := q
      obtain ⟨q1, q2', q3, q4, q5, q6, q7, q8, q9, q10⟩ := h
      have hn : n < 12 := by
        rcases Nat.lt_or_ge n 12 with z | z
        · exact z
        · exact absurd (show nI 12 ≤ nI n from nI_le z (by omega)) q2
      have a1 := wi_int w1
      have a2 := wi_int w2
      rw [show (1 : Int32).toInt = 1 from rfl, show (10000 : Int32).toInt = 10000 from rfl] at a1
      rw [t0, show (20000 : Int32).toInt = 20000 from rfl] at a2
      rw [leI] at w4
      rw [ltI, show (600 : Int32).toInt = 600 from rfl] at w5
      have f0 : ∀ i, addL L n x y z w 0 i = if i = n then x else L 0 i := fun i => by
        unfold addL
        rw [updL_nk _ _ _ _ (by decide), updL_nk _ _ _ _ (by decide), updL_nk _ _ _ _ (by decide)]
        by_cases e : i = n
        · subst e; rw [updL_at, if_pos rfl]
        · rw [updL_ni _ _ _ _ e, if_neg e]
      have f1 : ∀ i, addL L n x y z w 1 i = if i = n then y else L 1 i := fun i => by
        unfold addL
        rw [updL_nk _ _ _ _ (by decide), updL_nk _ _ _ _ (by decide)]
        by_cases e : i = n
        · subst e; rw [updL_at, if_pos rfl]
        · rw [updL_ni _ _ _ _ e, updL_ni _ _ _ _ e, if_neg e]
      have f3 : ∀ i, addL L n x y z w 3 i = if i = n then w else L 3 i := fun i => by
        unfold addL
        by_cases e : i = n
        · subst e; rw [updL_at, if_pos rfl]
        · rw [updL_ni _ _ _ _ e, updL_ni _ _ _ _ e, updL_ni _ _ _ _ e, updL_ni _ _ _ _ e, if_neg e]
      refine ⟨⟨hn, q2', q3, q4, q5, q6, fun i hi => ?_, q8, fun i hi => ?_, q10⟩, hn⟩
      · rw [f0, f1, f3]
        by_cases e : i = n
        · rw [if_pos e, if_pos e, if_pos e]; omega
        · rw [if_neg e, if_neg e, if_neg e]; exact q7 i (by omega)
      · unfold addL
        rw [updL_nk _ _ _ _ (by decide), updL_nk _ _ _ _ (by decide), updL_nk _ _ _ _ (by decide), updL_nk _ _ _ _ (by decide), updL_nk _ _ _ _ (by decide), updL_nk _ _ _ _ (by decide), updL_nk _ _ _ _ (by decide), updL_nk _ _ _ _ (by decide)]
        exact q9 i (by omega)
  · rw [if_neg q] at hk; exact absurd hk (by decide)
theorem Iv.bond (h : Iv g L B n b) {x y : Int32} (hk : kAddBond g b x y = 0) : Iv (upd g 1 (g 1 + x)) L (addB B b x y) n (b + 1) ∧ b < 5 := by
  unfold kAddBond at hk
  by_cases q : okBond g x y
  · rw [if_pos q] at hk
    by_cases q2 : 5 ≤ nI b
    · rw [if_pos q2] at hk; exact absurd hk (by decide)
    · obtain ⟨w1, w4, w5⟩ := q
      obtain ⟨q1, q2', q3, q4, q5, q6, q7, q8, q9, q10⟩ := h
      have hn : b < 5 := by
        rcases Nat.lt_or_ge b 5 with z | z
        · exact z
        · exact absurd (show nI 5 ≤ nI b from nI_le z (by omega)) q2
      have a1 := wi_int w1
      rw [show (1 : Int32).toInt = 1 from rfl, show (50000 : Int32).toInt = 50000 from rfl] at a1
      rw [leI] at w4
      rw [ltI, show (600 : Int32).toInt = 600 from rfl] at w5
      have e : (g 1 + x).toInt = (g 1).toInt + x.toInt := i32a (by omega) (by omega)
      have f0 : ∀ i, addB B b x y 0 i = if i = b then x else B 0 i := fun i => by
        unfold addB
        rw [updL_nk _ _ _ _ (by decide)]
        by_cases e : i = b
        · subst e; rw [updL_at, if_pos rfl]
        · rw [updL_ni _ _ _ _ e, if_neg e]
      have f1 : ∀ i, addB B b x y 1 i = if i = b then y else B 1 i := fun i => by
        unfold addB
        by_cases e : i = b
        · subst e; rw [updL_at, if_pos rfl]
        · rw [updL_ni _ _ _ _ e, updL_ni _ _ _ _ e, if_neg e]
      have u0 : upd g 1 (g 1 + x) 0 = g 0 := upd_ne (by decide)
      refine ⟨⟨q1, hn, ?_, ?_, ?_, ?_, q7, fun i hi => ?_, q9, fun i hi => ?_⟩, hn⟩
      · rw [u0]; exact q3
      · rw [upd_at, u0, e]
        have : ((b + 1 : Nat) : Int) = (b : Int) + 1 := rfl
        omega
      · rw [upd_ne (by decide)]; exact q5
      · rw [upd_ne (by decide)]; exact q6
      · rw [f0, f1, u0]
        by_cases e : i = b
        · rw [if_pos e, if_pos e]; omega
        · rw [if_neg e, if_neg e]; exact q8 i (by omega)
      · unfold addB
        rw [updL_nk _ _ _ _ (by decide), updL_nk _ _ _ _ (by decide), updL_nk _ _ _ _ (by decide), updL_nk _ _ _ _ (by decide)]
        exact q10 i (by omega)
  · rw [if_neg q] at hk; exact absurd hk (by decide)
theorem lvCash_b (h : Iv g L B n b) (m : Int32) : ∀ k, k ≤ n → (g 1).toInt ≤ (lvCash L m (g 1) k).toInt ∧ (lvCash L m (g 1) k).toInt ≤ (g 1).toInt + 10000 * (k : Int)
  | 0, _ => by show (g 1).toInt ≤ (g 1).toInt ∧ (g 1).toInt ≤ (g 1).toInt + 10000 * 0; omega
  | k + 1, hk => by
    have ih := lvCash_b h m k (by omega)
    have h0 := (h.2.2.2.2.2.2.1 k (by omega)).1
    have h4 := h.2.2.2.1
    have h3 := h.2.2.1
    have h5 := h.2.1
    have h1 := h.1
    have ec : ((k + 1 : Nat) : Int) = (k : Int) + 1 := rfl
    unfold lvCash
    split
    · rw [i32a (by omega) (by omega)]; omega
    · omega
theorem bdS_c (h : ∀ i, i < b → 0 ≤ (B 0 i).toInt) (m c : Int32) (hc : 0 ≤ c.toInt) : ∀ k, k ≤ b → 0 ≤ (bdS m c B k).1.toInt ∧ (bdS m c B k).1.toInt ≤ c.toInt
  | 0, _ => by show 0 ≤ c.toInt ∧ c.toInt ≤ c.toInt; omega
  | k + 1, hk => by
    have ih := bdS_c h m c hc k (by omega)
    have h0 := h k (by omega)
    have hlt := Int32.toInt_lt c
    unfold bdS
    by_cases q : B 2 k = 0
    · rw [if_pos q]
      by_cases q1 : m < B 1 k
      · rw [if_pos q1]; exact ih
      · rw [if_neg q1]
        by_cases q2 : (bdS m c B k).1 < B 0 k
        · rw [if_pos q2]; split <;> exact ih
        · rw [if_neg q2]
          rw [ltI] at q2
          show 0 ≤ ((bdS m c B k).1 - B 0 k).toInt ∧ ((bdS m c B k).1 - B 0 k).toInt ≤ c.toInt
          rw [i32s (by omega) (by omega)]
          omega
    · rw [if_neg q]; exact ih
theorem bdS_1 (m c : Int32) (B : Nat → Nat → Int32) (i : Nat) : ∀ j, (bdS m c B j).2 1 i = B 1 i ∨ (bdS m c B j).2 1 i = m + 12
  | 0 => Or.inl rfl
  | j + 1 => by
    have ih := bdS_1 m c B i j
    unfold bdS
    by_cases q : B 2 j = 0
    · rw [if_pos q]
      by_cases q1 : m < B 1 j
      · rw [if_pos q1]; exact ih
      · rw [if_neg q1]
        by_cases q2 : (bdS m c B j).1 < B 0 j
        · rw [if_pos q2]
          split
          · show updL (updL (bdS m c B j).2 3 j 1) 1 j (m + 12) 1 i = _ ∨ updL (updL (bdS m c B j).2 3 j 1) 1 j (m + 12) 1 i = _
            by_cases e : i = j
            · subst e; exact Or.inr (updL_at _ _ _ _)
            · rw [updL_ni _ _ _ _ e, updL_ni _ _ _ _ e]; exact ih
          · show updL (bdS m c B j).2 2 j 3 1 i = _ ∨ updL (bdS m c B j).2 2 j 3 1 i = _
            rw [updL_nk _ _ _ _ (by decide)]; exact ih
        · rw [if_neg q2]
          show updL (bdS m c B j).2 2 j 2 1 i = _ ∨ updL (bdS m c B j).2 2 j 2 1 i = _
          rw [updL_nk _ _ _ _ (by decide)]; exact ih
    · rw [if_neg q]; exact ih
theorem lvOne_b (h : Iv g L B n b) (hm : (g 0).toInt < 12288) : Iv (lvOne n b (g, L, B)).1 (lvOne n b (g, L, B)).2.1 (lvOne n b (g, L, B)).2.2 n b ∧ ((lvOne n b (g, L, B)).1 0).toInt = (g 0).toInt + 1 := by
  have hh := h
  obtain ⟨q1, q2, q3, q4, q5, q6, q7, q8, q9, q10⟩ := h
  have em : (g 0 + 1).toInt = (g 0).toInt + 1 := by rw [i32a (by rw [show (1 : Int32).toInt = 1 from rfl]; omega) (by rw [show (1 : Int32).toInt = 1 from rfl]; omega)]; rfl
  have ec := lvCash_b hh (g 0 + 1) n (Nat.le_refl _)
  have eb := bdS_c (B := B) (b := b) (fun i hi => (q8 i hi).1.1) (g 0 + 1) (lvCash L (g 0 + 1) (g 1) n) (by omega) b (Nat.le_refl _)
  have e12 : (g 0 + 1 + 12).toInt = (g 0).toInt + 13 := by rw [i32a (by rw [em, show (12 : Int32).toInt = 12 from rfl]; omega) (by rw [em, show (12 : Int32).toInt = 12 from rfl]; omega), em, show (12 : Int32).toInt = 12 from rfl]; omega
  show Iv (upd (upd g 0 (g 0 + 1)) 1 (bdS (g 0 + 1) (lvCash L (g 0 + 1) (g 1) n) B b).1) (lvL L (g 0 + 1) n) (bdS (g 0 + 1) (lvCash L (g 0 + 1) (g 1) n) B b).2 n b ∧ (upd (upd g 0 (g 0 + 1)) 1 (bdS (g 0 + 1) (lvCash L (g 0 + 1) (g 1) n) B b).1 0).toInt = _
  generalize lvCash L (g 0 + 1) (g 1) n = c at ec eb ⊢
  have u0 : upd (upd g 0 (g 0 + 1)) 1 (bdS (g 0 + 1) c B b).1 0 = g 0 + 1 := by rw [upd_ne (by decide), upd_at]
  refine ⟨⟨q1, q2, ?_, ?_, ?_, ?_, fun i hi => ?_, fun i hi => ?_, fun i hi => ?_, fun i hi => ?_⟩, by rw [u0, em]⟩
  · rw [u0, em]; omega
  · rw [u0, em, upd_at]; omega
  · rw [upd_ne (by decide), upd_ne (by decide)]; exact q5
  · rw [upd_ne (by decide), upd_ne (by decide)]; exact q6
  · rw [lvL_k _ _ (by decide), lvL_k _ _ (by decide), lvL_k _ _ (by decide)]; exact q7 i hi
  · rw [bdS_0, u0, em]
    refine ⟨(q8 i hi).1, ?_⟩
    have := (q8 i hi).2
    rcases bdS_1 (g 0 + 1) c B i b with e | e
    · rw [e]; omega
    · rw [e, e12]; omega
  · rw [lvL_k _ _ (by decide), lvL_ge _ _ _ hi]; exact q9 i hi
  · rw [bdS_ge _ _ _ _ _ hi, bdS_ge _ _ _ _ _ hi]; exact q10 i hi
theorem lvMany_b (h : Iv g L B n b) : ∀ k : Nat, (g 0).toInt + k ≤ 12288 → Iv (lvMany n b (g, L, B) k).1 (lvMany n b (g, L, B) k).2.1 (lvMany n b (g, L, B) k).2.2 n b ∧ ((lvMany n b (g, L, B) k).1 0).toInt = (g 0).toInt + k
  | 0, _ => ⟨h, by show (g 0).toInt = (g 0).toInt + 0; omega⟩
  | k + 1, hk => by
    have ec : ((k + 1 : Nat) : Int) = (k : Int) + 1 := rfl
    obtain ⟨i1, i2⟩ := lvMany_b h k (by omega)
    have := lvOne_b i1 (by omega)
    show Iv (lvOne n b (lvMany n b (g, L, B) k)).1 (lvOne n b (lvMany n b (g, L, B) k)).2.1 (lvOne n b (lvMany n b (g, L, B) k)).2.2 n b ∧ ((lvOne n b (lvMany n b (g, L, B) k)).1 0).toInt = _
    exact ⟨this.1, by rw [this.2]; omega⟩
theorem Iv.pass (h : Iv g L B n b) {x : Int32} (hk : kIn 1 24 x = 0) (hm : (g 0).toInt + 24 ≤ 12288) : Iv (lvMany n b (g, L, B) (ixN x)).1 (lvMany n b (g, L, B) (ixN x)).2.1 (lvMany n b (g, L, B) (ixN x)).2.2 n b ∧ ((lvMany n b (g, L, B) (ixN x)).1 0).toInt ≤ (g 0).toInt + 24 := by
  unfold kIn at hk
  by_cases q : wi x 1 24
  · obtain ⟨k, -, h24, rfl⟩ := wi_nI (lo := 1) (hi := 24) (by decide) (by decide) (by decide) q
    rw [ixN_nI (by omega)]
    obtain ⟨a, c⟩ := lvMany_b h k (by omega)
    exact ⟨a, by omega⟩
  · rw [if_neg q] at hk; exact absurd hk (by decide)
end IVS
