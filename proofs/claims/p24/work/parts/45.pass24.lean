/-! ===== pure: what months bring and take ===== -/
def spL (L : Nat → Nat → Int32) : Nat → Int32
  | 0 => 0
  | j + 1 => spL L j + (if L 5 j = 2 then L 0 j else 0)
def spB (B : Nat → Nat → Int32) : Nat → Int32
  | 0 => 0
  | j + 1 => spB B j + (if B 2 j = 2 then B 0 j else 0)
theorem spL_c {L L' : Nat → Nat → Int32} : ∀ k, (∀ j, j < k → L 5 j = L' 5 j ∧ L 0 j = L' 0 j) → spL L k = spL L' k
  | 0, _ => rfl
  | k + 1, h => by
    unfold spL
    rw [spL_c k (fun j hj => h j (by omega)), (h k (by omega)).1, (h k (by omega)).2]
theorem spB_c {B B' : Nat → Nat → Int32} : ∀ k, (∀ j, j < k → B 2 j = B' 2 j ∧ B 0 j = B' 0 j) → spB B k = spB B' k
  | 0, _ => rfl
  | k + 1, h => by
    unfold spB
    rw [spB_c k (fun j hj => h j (by omega)), (h k (by omega)).1, (h k (by omega)).2]
theorem lvCash_sp (L : Nat → Nat → Int32) (m c : Int32) : ∀ j, lvCash L m c j = c + (spL (lvL L m j) j - spL L j)
  | 0 => by unfold lvCash spL; grind
  | j + 1 => by
    have ih := lvCash_sp L m c j
    have e0 : lvL L m (j + 1) 0 j = L 0 j := lvL_k L m (by decide) j (j + 1)
    have es : spL (lvL L m (j + 1)) j = spL (lvL L m j) j := spL_c j (fun i hi => by
      refine ⟨?_, by rw [lvL_k L m (by decide), lvL_k L m (by decide)]⟩
      rw [lvL]
      split
      · rw [updL_ni _ _ _ _ (by omega)]
      · rfl)
    have h1 : spL (lvL L m (j + 1)) (j + 1) = spL (lvL L m j) j + (if lvL L m (j + 1) 5 j = 2 then L 0 j else 0) := by
      rw [spL, es, e0]
    have h2 : spL L (j + 1) = spL L j + (if L 5 j = 2 then L 0 j else 0) := rfl
    rw [h1, h2, lvCash, ih]
    by_cases q : lvP L m j
    · have e5 : lvL L m (j + 1) 5 j = 2 := by rw [lvL, if_pos q, updL_at]
      rw [if_pos q, if_pos e5, if_neg (by rw [q.1]; decide)]
      grind
    · have e5 : lvL L m (j + 1) 5 j = L 5 j := by rw [lvL, if_neg q]; exact lvL_ge L m j (Nat.le_refl j)
      rw [if_neg q, e5]
      grind
theorem bdS_lo (m c : Int32) (B : Nat → Nat → Int32) {i j : Nat} (h : i < j) (k : Nat) : (bdS m c B (j + 1)).2 k i = (bdS m c B j).2 k i := by
  rw [bdS]
  repeat' split
  all_goals (try dsimp only)
  all_goals first | rfl | (rw [updL_ni _ _ _ _ (by omega), updL_ni _ _ _ _ (by omega)]) | (rw [updL_ni _ _ _ _ (by omega)])
theorem bdS_sp (m c : Int32) (B : Nat → Nat → Int32) : ∀ j, (bdS m c B j).1 = c - (spB (bdS m c B j).2 j - spB B j)
  | 0 => by unfold bdS spB; grind
  | j + 1 => by
    have ih := bdS_sp m c B j
    have es : spB (bdS m c B (j + 1)).2 j = spB (bdS m c B j).2 j := spB_c j (fun i hi => ⟨bdS_lo m c B hi 2, bdS_lo m c B hi 0⟩)
    have h1 : spB (bdS m c B (j + 1)).2 (j + 1) = spB (bdS m c B j).2 j + (if (bdS m c B (j + 1)).2 2 j = 2 then B 0 j else 0) := by
      rw [spB, es, bdS_0]
    have h2 : spB B (j + 1) = spB B j + (if B 2 j = 2 then B 0 j else 0) := rfl
    have e2 := bdS_ge m c B (i := j) 2 j (Nat.le_refl j)
    rw [h1, h2]
    by_cases q : B 2 j = 0
    · rw [if_neg (show ¬ B 2 j = 2 by rw [q]; decide)]
      by_cases q1 : m < B 1 j
      · have e : bdS m c B (j + 1) = bdS m c B j := by rw [bdS, if_pos q, if_pos q1]
        rw [e, e2, if_neg (show ¬ B 2 j = 2 by rw [q]; decide), ih]
        grind
      · by_cases q2 : (bdS m c B j).1 < B 0 j
        · by_cases q3 : B 3 j = 0
          · have e : bdS m c B (j + 1) = ((bdS m c B j).1, updL (updL (bdS m c B j).2 3 j 1) 1 j (m + 12)) := by rw [bdS, if_pos q, if_neg q1, if_pos q2, if_pos q3]
            have e5 : (bdS m c B (j + 1)).2 2 j = 0 := by rw [e]; show updL (updL (bdS m c B j).2 3 j 1) 1 j (m + 12) 2 j = 0; rw [updL_nk _ _ _ _ (by decide), updL_nk _ _ _ _ (by decide), e2, q]
            have e6 : (bdS m c B (j + 1)).1 = (bdS m c B j).1 := by rw [e]
            rw [e5, e6, if_neg (by decide), ih]
            grind
          · have e : bdS m c B (j + 1) = ((bdS m c B j).1, updL (bdS m c B j).2 2 j 3) := by rw [bdS, if_pos q, if_neg q1, if_pos q2, if_neg q3]
            have e5 : (bdS m c B (j + 1)).2 2 j = 3 := by rw [e]; dsimp only; rw [updL_at]
            have e6 : (bdS m c B (j + 1)).1 = (bdS m c B j).1 := by rw [e]
            rw [e5, e6, if_neg (by decide), ih]
            grind
        · have e : bdS m c B (j + 1) = ((bdS m c B j).1 - B 0 j, updL (bdS m c B j).2 2 j 2) := by rw [bdS, if_pos q, if_neg q1, if_neg q2]
          have e5 : (bdS m c B (j + 1)).2 2 j = 2 := by rw [e]; dsimp only; rw [updL_at]
          have e6 : (bdS m c B (j + 1)).1 = (bdS m c B j).1 - B 0 j := by rw [e]
          rw [e5, e6, if_pos rfl, ih]
          grind
    · have e : bdS m c B (j + 1) = bdS m c B j := by rw [bdS, if_neg q]
      rw [e, e2, ih]
      grind
/-- the bonds behind a month -/
theorem bdS_BI (m c : Int32) (B : Nat → Nat → Int32) (b : Nat) (hm : m ≤ m + 12 ∧ m < m + 12) (h : ∀ j, j < b → ¬ B 2 j = 0 → B 1 j ≤ m) : ∀ k, k ≤ b → ∀ j, j < k → ((bdS m c B k).2 2 j = 0 → m < (bdS m c B k).2 1 j) ∧ (¬ (bdS m c B k).2 2 j = 0 → (bdS m c B k).2 1 j ≤ m) ∧ B 1 j ≤ (bdS m c B k).2 1 j
  | 0, _, j, hj => absurd hj (Nat.not_lt_zero j)
  | k + 1, hk, j, hj => by
    have ih := bdS_BI m c B b hm h k (by omega)
    by_cases ej : j < k
    · rw [bdS_lo m c B ej, bdS_lo m c B ej]
      exact ih j ej
    · obtain rfl : j = k := by omega
      have e2 := bdS_ge m c B (i := j) 2 j (Nat.le_refl j)
      have e1 := bdS_ge m c B (i := j) 1 j (Nat.le_refl j)
      by_cases q : B 2 j = 0
      · by_cases q1 : m < B 1 j
        · have e : bdS m c B (j + 1) = bdS m c B j := by rw [bdS, if_pos q, if_pos q1]
          rw [e, e2, e1]
          exact ⟨fun _ => q1, fun z => absurd q z, Int32.le_refl _⟩
        · have q1' := Int32.not_lt.mp q1
          by_cases q2 : (bdS m c B j).1 < B 0 j
          · by_cases q3 : B 3 j = 0
            · have e : bdS m c B (j + 1) = ((bdS m c B j).1, updL (updL (bdS m c B j).2 3 j 1) 1 j (m + 12)) := by rw [bdS, if_pos q, if_neg q1, if_pos q2, if_pos q3]
              have e5 : (bdS m c B (j + 1)).2 2 j = 0 := by rw [e]; show updL (updL (bdS m c B j).2 3 j 1) 1 j (m + 12) 2 j = 0; rw [updL_nk _ _ _ _ (by decide), updL_nk _ _ _ _ (by decide), e2, q]
              have e6 : (bdS m c B (j + 1)).2 1 j = m + 12 := by rw [e]; dsimp only; rw [updL_at]
              rw [e5, e6]
              exact ⟨fun _ => hm.2, fun z => absurd rfl z, Int32.le_trans q1' hm.1⟩
            · have e : bdS m c B (j + 1) = ((bdS m c B j).1, updL (bdS m c B j).2 2 j 3) := by rw [bdS, if_pos q, if_neg q1, if_pos q2, if_neg q3]
              have e5 : (bdS m c B (j + 1)).2 2 j = 3 := by rw [e]; dsimp only; rw [updL_at]
              have e6 : (bdS m c B (j + 1)).2 1 j = B 1 j := by rw [e]; show updL (bdS m c B j).2 2 j 3 1 j = _; rw [updL_nk _ _ _ _ (by decide), e1]
              rw [e5, e6]
              exact ⟨fun z => absurd z (by decide), fun _ => q1', Int32.le_refl _⟩
          · have e : bdS m c B (j + 1) = ((bdS m c B j).1 - B 0 j, updL (bdS m c B j).2 2 j 2) := by rw [bdS, if_pos q, if_neg q1, if_neg q2]
            have e5 : (bdS m c B (j + 1)).2 2 j = 2 := by rw [e]; dsimp only; rw [updL_at]
            have e6 : (bdS m c B (j + 1)).2 1 j = B 1 j := by rw [e]; show updL (bdS m c B j).2 2 j 2 1 j = _; rw [updL_nk _ _ _ _ (by decide), e1]
            rw [e5, e6]
            exact ⟨fun z => absurd z (by decide), fun _ => q1', Int32.le_refl _⟩
      · have e : bdS m c B (j + 1) = bdS m c B j := by rw [bdS, if_neg q]
        rw [e, e2, e1]
        exact ⟨fun z => absurd z q, fun z => h j (by omega) z, Int32.le_refl _⟩
/-- what months do, one after the other -/
def PS (n b : Nat) (x y : G3) : Prop :=
  y.1 1 = x.1 1 + (0 - spL x.2.1 n + spB x.2.2 b + spL y.2.1 n - spB y.2.2 b) ∧ (∀ i, y.2.1 0 i = x.2.1 0 i) ∧ (∀ i, y.2.1 4 i = x.2.1 4 i) ∧ (∀ i, y.2.2 0 i = x.2.2 0 i) ∧ (∀ j, j < b → x.2.2 1 j ≤ y.2.2 1 j) ∧ BI y.1 y.2.2 b
theorem PS_one {g : Nat → Int32} {L B : Nat → Nat → Int32} {n b : Nat} (h : Iv g L B n b) (hm : (g 0).toInt < 12288) (hB : BI g B b) : PS n b (g, L, B) (lvOne n b (g, L, B)) := by
  have h3 := h.2.2.1
  have em : (g 0 + 1).toInt = (g 0).toInt + 1 := by rw [i32a (by rw [show (1 : Int32).toInt = 1 from rfl]; omega) (by rw [show (1 : Int32).toInt = 1 from rfl]; omega)]; rfl
  have e12 : (g 0 + 1 + 12).toInt = (g 0).toInt + 13 := by rw [i32a (by rw [em, show (12 : Int32).toInt = 12 from rfl]; omega) (by rw [em, show (12 : Int32).toInt = 12 from rfl]; omega), em, show (12 : Int32).toInt = 12 from rfl]; omega
  have hc := lvCash_sp L (g 0 + 1) (g 1) n
  have hbs := bdS_sp (g 0 + 1) (lvCash L (g 0 + 1) (g 1) n) B b
  have hbi := bdS_BI (g 0 + 1) (lvCash L (g 0 + 1) (g 1) n) B b ⟨by rw [leI, e12, em]; omega, by rw [ltI, e12, em]; omega⟩ (fun j hj q => by
    have := (hB j hj).2 q
    rw [leI] at this ⊢
    rw [em]; omega) b (Nat.le_refl b)
  refine ⟨?_, fun i => lvL_k _ _ (by decide) i n, fun i => lvL_k _ _ (by decide) i n, fun i => bdS_0 _ _ _ i b, fun j hj => (hbi j hj).2.2, fun j hj => ?_⟩
  · show upd (upd g 0 (g 0 + 1)) 1 (bdS (g 0 + 1) (lvCash L (g 0 + 1) (g 1) n) B b).1 1 = g 1 + (0 - spL L n + spB B b + spL (lvL L (g 0 + 1) n) n - spB (bdS (g 0 + 1) (lvCash L (g 0 + 1) (g 1) n) B b).2 b)
    rw [upd_at, hbs]
    generalize spB (bdS (g 0 + 1) (lvCash L (g 0 + 1) (g 1) n) B b).2 b = X1
    rw [hc]
    grind
  · show ((bdS (g 0 + 1) (lvCash L (g 0 + 1) (g 1) n) B b).2 2 j = 0 → upd (upd g 0 (g 0 + 1)) 1 (bdS (g 0 + 1) (lvCash L (g 0 + 1) (g 1) n) B b).1 0 < (bdS (g 0 + 1) (lvCash L (g 0 + 1) (g 1) n) B b).2 1 j) ∧ (¬ (bdS (g 0 + 1) (lvCash L (g 0 + 1) (g 1) n) B b).2 2 j = 0 → (bdS (g 0 + 1) (lvCash L (g 0 + 1) (g 1) n) B b).2 1 j ≤ upd (upd g 0 (g 0 + 1)) 1 (bdS (g 0 + 1) (lvCash L (g 0 + 1) (g 1) n) B b).1 0)
    rw [upd_ne (by decide), upd_at]
    exact ⟨(hbi j hj).1, (hbi j hj).2.1⟩
theorem PS_many {g : Nat → Int32} {L B : Nat → Nat → Int32} {n b : Nat} (h : Iv g L B n b) (hB : BI g B b) : ∀ k : Nat, (g 0).toInt + k ≤ 12288 → PS n b (g, L, B) (lvMany n b (g, L, B) k)
  | 0, _ => ⟨by show g 1 = g 1 + (0 - spL L n + spB B b + spL L n - spB B b); grind, fun _ => rfl, fun _ => rfl, fun _ => rfl, fun _ _ => Int32.le_refl _, hB⟩
  | k + 1, hk => by
    have ec : ((k + 1 : Nat) : Int) = (k : Int) + 1 := rfl
    obtain ⟨i1, i2⟩ := lvMany_b h k (by omega)
    obtain ⟨a1, a2, a3, a4, a5, a6⟩ := PS_many h hB k (by omega)
    obtain ⟨c1, c2, c3, c4, c5, c6⟩ := PS_one i1 (by omega) a6
    show PS n b (g, L, B) (lvOne n b (lvMany n b (g, L, B) k))
    generalize lvMany n b (g, L, B) k = y at *
    have ey : (y.1, y.2.1, y.2.2) = y := rfl
    rw [ey] at c1 c2 c3 c4 c5 c6
    refine ⟨?_, fun i => (c2 i).trans (a2 i), fun i => (c3 i).trans (a3 i), fun i => (c4 i).trans (a4 i), fun j hj => Int32.le_trans (a5 j hj) (c5 j hj), c6⟩
    rw [c1, a1]
    dsimp only
    grind
/-- a pass, as the law counts it -/
theorem LV.pass {fa fd fs g : Nat → Int32} {L B : Nat → Nat → Int32} {n b k9 : Nat} (h : LV fa fd fs g L B n b k9) (hk9 : k9 < 50) {x : Nat} (hx : x < 24) : kIn 1 24 (nI (1 + x)) = 0 ∧ (lvMany n b (g, L, B) (1 + x)).1 1 = g 1 + (0 - spL L n + spB B b + spL (lvMany n b (g, L, B) (1 + x)).2.1 n - spB (lvMany n b (g, L, B) (1 + x)).2.2 b) ∧ (∀ j, j < b → fd j ≤ (lvMany n b (g, L, B) (1 + x)).2.2 1 j) ∧ ∀ fd', (∀ j, j < b → fd' j = (lvMany n b (g, L, B) (1 + x)).2.2 1 j) → LV fa fd' fs (lvMany n b (g, L, B) (1 + x)).1 (lvMany n b (g, L, B) (1 + x)).2.1 (lvMany n b (g, L, B) (1 + x)).2.2 n b (k9 + 1) := by
  obtain ⟨h1, h2, h3, h4, h5, h6, h7⟩ := h
  have ec : ((1 + x : Nat) : Int) = 1 + (x : Int) := by omega
  obtain ⟨a1, a2, a3, a4, a5, a6⟩ := PS_many h1 h7 (1 + x) (by omega)
  obtain ⟨i1, i2⟩ := lvMany_b h1 (1 + x) (by omega)
  have hk : kIn 1 24 (nI (1 + x)) = 0 := by
    have w9 : wi (nI (1 + x)) 1 24 := ⟨fun q => absurd ((nI_ltI (by omega) (by omega)).mp (show nI (1 + x) < nI 1 from q)) (by omega), fun q => absurd ((nI_ltI (by omega) (by omega)).mp (show nI 24 < nI (1 + x) from q)) (by omega)⟩
    exact if_pos w9
  refine ⟨hk, a1, fun j hj => by rw [h5 j hj]; exact a5 j hj, fun fd' hf => ⟨i1, by omega, fun j hj => by rw [h3 j hj]; exact (a2 j).symm, fun j hj => by rw [h4 j hj]; exact (a4 j).symm, hf, fun j hj => by rw [a3 j]; exact h6 j hj, a6⟩⟩
