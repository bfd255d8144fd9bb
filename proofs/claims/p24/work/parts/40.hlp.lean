/-! ===== what the law's helpers stand on ===== -/
theorem kIn_02 {x : Int32} (h : kIn 0 2 x = 0) : ∃ t, t < 3 ∧ x = nI t := by
  unfold kIn at h
  by_cases q : wi x 0 2
  · obtain ⟨j, hj, rfl⟩ := nI_of q.1
    refine ⟨j, ?_, rfl⟩
    have := q.2
    rcases Nat.lt_or_ge j 3 with z | z
    · exact z
    · exact absurd (show nI 2 < nI j from nI_lt (by omega) (by omega)) this
  · rw [if_neg q] at h; exact absurd h (by decide)
theorem lack_eq {g : Nat → Int32} {L B : Nat → Nat → Int32} {n b : Nat} (h : Bd g L B n b) (nd : Nat → Int32) (gv : Nat → Nat → Int32) {x : Int32} (hk : kIn 0 2 x = 0) : (cMost (fsN nd g B b) (gvS gv g L n) x (mPool L 1 n) 9).toInt64 = mLack g L B n b x (mPool L 1 n) := by
  obtain ⟨t, ht, rfl⟩ := kIn_02 hk
  exact cMost_eq h nd gv (okS_pool L 1 h.1) ht
theorem swap_iff {g : Nat → Int32} {L B : Nat → Nat → Int32} {n b : Nat} (h : Bd g L B n b) (nd : Nat → Int32) (gv : Nat → Nat → Int32) {x y : Int32} (hk : kSwap L n x y = 0) : cSwap (fsN nd g B b) (gvS gv g L n) (mPool L 1 n) (thenOf L n x y) ↔ canSwap g L B n b x y := by
  obtain ⟨-, h2⟩ := kSwap_0 hk
  rcases isIx_cases n (by have := h.1; omega) y with q | ⟨k, hk9, rfl⟩
  · exact absurd h2 q
  · exact cSwap_eq h nd gv (okS_pool L 1 h.1) (okS_then L h.1 x hk9)
theorem kAddLoan_lt {g : Nat → Int32} {n : Nat} {x y z w : Int32} (hn : n ≤ 12) (h : kAddLoan g n x y z w = 0) : n + 1 ≤ 12 := by
  unfold kAddLoan at h
  split at h
  · split at h
    · exact absurd h (by decide)
    · next q2 =>
      rcases Nat.lt_or_ge n 12 with z | z
      · exact z
      · exact absurd (show nI 12 ≤ nI n from nI_le z (by omega)) q2
  · exact absurd h (by decide)
theorem kAddBond_lt {g : Nat → Int32} {b : Nat} {x y : Int32} (hb : b ≤ 5) (h : kAddBond g b x y = 0) : b + 1 ≤ 5 := by
  unfold kAddBond at h
  split at h
  · split at h
    · exact absurd h (by decide)
    · next q2 =>
      rcases Nat.lt_or_ge b 5 with z | z
      · exact z
      · exact absurd (show nI 5 ≤ nI b from nI_le z (by omega)) q2
  · exact absurd h (by decide)
