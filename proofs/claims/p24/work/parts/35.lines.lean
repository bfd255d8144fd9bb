/-! ===== pure: the sheet's nine lines ===== -/
def wL (g : Nat → Int32) (c d : Int32) (ln : Nat) : Int32 := if ln = 0 then 100 * c else if ln = 1 then c else if ln = 2 then cWorth g c d else if g 0 + nI (ln - 2) < d then 0 else c
def wB (g : Nat → Int32) (a d : Int32) (ln : Nat) : Int32 := if ln = 0 then a * (100 + g 3) else if ln = 1 then a else if ln = 2 then cWorth g a d else if g 0 + nI (ln - 2) < d then 0 else a
def nB (g : Nat → Int32) (be : Int32) (ln : Nat) : Int32 := if ln = 0 then (-100) * be else if ln ≤ 2 then -be else -g 1
theorem upd_at (f : Nat → Int32) (k : Nat) (v : Int32) : upd f k v k = v := pk_us
theorem upd_ne {f : Nat → Int32} {k j : Nat} {v : Int32} (h : j ≠ k) : upd f k v j = f j := pk_un h
theorem rowU_lo (f g : Nat → Int32) (c d : Int32) {ln : Nat} (h : ln ≤ 2) : ∀ k, rowU f g c d k ln = rowU f g c d 0 ln
  | 0 => rfl
  | k + 1 => by
    show upd (rowU f g c d k) (2 + (k + 1)) _ ln = _
    rw [upd_ne (by omega)]
    exact rowU_lo f g c d h k
theorem rowU_hi (f g : Nat → Int32) (c d : Int32) {i : Nat} : ∀ k, i < k → rowU f g c d k (2 + (i + 1)) = if g 0 + nI (i + 1) < d then 0 else c
  | 0, h => absurd h (Nat.not_lt_zero _)
  | k + 1, h => by
    show upd (rowU f g c d k) (2 + (k + 1)) _ (2 + (i + 1)) = _
    by_cases e : i = k
    · subst e; rw [upd_at]
    · rw [upd_ne (by omega)]
      exact rowU_hi f g c d k (by omega)
theorem rowU_at (f g : Nat → Int32) (c d : Int32) {ln : Nat} (h : ln < 9) : rowU f g c d 6 ln = wL g c d ln := by
  by_cases h2 : ln ≤ 2
  · rw [rowU_lo f g c d h2]
    rcases (show ln = 0 ∨ ln = 1 ∨ ln = 2 by omega) with rfl | rfl | rfl <;> rfl
  · obtain ⟨i, rfl⟩ : ∃ i, ln = 2 + (i + 1) := ⟨ln - 3, by omega⟩
    rw [rowU_hi f g c d 6 (by omega)]
    rw [wL, if_neg (show ¬ 2 + (i + 1) = 0 by omega), if_neg (show ¬ 2 + (i + 1) = 1 by omega), if_neg (show ¬ 2 + (i + 1) = 2 by omega), Nat.add_sub_cancel_left]
theorem ndS_lo (f g : Nat → Int32) (be : Int32) {ln : Nat} (h : ln ≤ 2) : ∀ k, ndS f g be k ln = ndS f g be 0 ln
  | 0 => rfl
  | k + 1 => by
    show upd (ndS f g be k) (2 + (k + 1)) _ ln = _
    rw [upd_ne (by omega)]
    exact ndS_lo f g be h k
theorem ndS_hi (f g : Nat → Int32) (be : Int32) {i : Nat} : ∀ k, i < k → ndS f g be k (2 + (i + 1)) = -g 1
  | 0, h => absurd h (Nat.not_lt_zero _)
  | k + 1, h => by
    show upd (ndS f g be k) (2 + (k + 1)) _ (2 + (i + 1)) = _
    by_cases e : i = k
    · subst e; rw [upd_at]
    · rw [upd_ne (by omega)]
      exact ndS_hi f g be k (by omega)
theorem ndS_at (f g : Nat → Int32) (be : Int32) {ln : Nat} (h : ln < 9) : ndS f g be 6 ln = nB g be ln := by
  by_cases h2 : ln ≤ 2
  · rw [ndS_lo f g be h2]
    rcases (show ln = 0 ∨ ln = 1 ∨ ln = 2 by omega) with rfl | rfl | rfl <;> rfl
  · obtain ⟨i, rfl⟩ : ∃ i, ln = 2 + (i + 1) := ⟨ln - 3, by omega⟩
    rw [ndS_hi f g be 6 (by omega)]
    unfold nB
    rw [if_neg (by omega), if_neg (by omega)]
theorem ndB_lo (f g : Nat → Int32) (a d : Int32) {ln : Nat} (h : ln ≤ 2) : ∀ k, ndB f g a d k ln = ndB f g a d 0 ln
  | 0 => rfl
  | k + 1 => by
    unfold ndB
    split
    · exact ndB_lo f g a d h k
    · rw [upd_ne (by omega)]
      exact ndB_lo f g a d h k
theorem ndB_no (f g : Nat → Int32) (a d : Int32) {i : Nat} : ∀ k, k ≤ i → ndB f g a d k (2 + (i + 1)) = f (2 + (i + 1))
  | 0, _ => by
    show upd (ndB1 f g a) 2 _ (2 + (i + 1)) = _
    rw [upd_ne (by omega)]
    show upd (ndB0 f g a) 1 _ (2 + (i + 1)) = _
    rw [upd_ne (by omega)]
    show upd f 0 _ (2 + (i + 1)) = _
    rw [upd_ne (by omega)]
  | k + 1, h => by
    unfold ndB
    split
    · exact ndB_no f g a d k (by omega)
    · rw [upd_ne (by omega)]
      exact ndB_no f g a d k (by omega)
theorem ndB_hi (f g : Nat → Int32) (a d : Int32) {i : Nat} : ∀ k, i < k → ndB f g a d k (2 + (i + 1)) = f (2 + (i + 1)) + if g 0 + nI (i + 1) < d then 0 else a
  | 0, h => absurd h (Nat.not_lt_zero _)
  | k + 1, h => by
    unfold ndB
    by_cases e : i = k
    · subst e
      split
      · rw [ndB_no f g a d _ (Nat.le_refl _), Int32.add_zero]
      · rw [upd_at, ndB_no f g a d _ (Nat.le_refl _)]
    · split
      · exact ndB_hi f g a d k (by omega)
      · rw [upd_ne (by omega)]
        exact ndB_hi f g a d k (by omega)
theorem ndB_at (f g : Nat → Int32) (a d : Int32) {ln : Nat} (h : ln < 9) : ndB f g a d 6 ln = f ln + wB g a d ln := by
  by_cases h2 : ln ≤ 2
  · rw [ndB_lo f g a d h2]
    rcases (show ln = 0 ∨ ln = 1 ∨ ln = 2 by omega) with rfl | rfl | rfl
    · show upd (ndB1 f g a) 2 _ 0 = _
      rw [upd_ne (by omega)]
      show upd (ndB0 f g a) 1 _ 0 = _
      rw [upd_ne (by omega)]
      show upd f 0 _ 0 = _
      rw [upd_at]
      rfl
    · show upd (ndB1 f g a) 2 _ 1 = _
      rw [upd_ne (by omega)]
      show upd (ndB0 f g a) 1 _ 1 = _
      rw [upd_at]
      show upd f 0 _ 1 + a = _
      rw [upd_ne (by omega)]
      rfl
    · show upd (ndB1 f g a) 2 _ 2 = _
      rw [upd_at]
      show upd (ndB0 f g a) 1 _ 2 + _ = _
      rw [upd_ne (by omega)]
      show upd f 0 _ 2 + _ = _
      rw [upd_ne (by omega)]
      rfl
  · obtain ⟨i, rfl⟩ : ∃ i, ln = 2 + (i + 1) := ⟨ln - 3, by omega⟩
    rw [ndB_hi f g a d 6 (by omega)]
    rw [wB, if_neg (show ¬ 2 + (i + 1) = 0 by omega), if_neg (show ¬ 2 + (i + 1) = 1 by omega), if_neg (show ¬ 2 + (i + 1) = 2 by omega), Nat.add_sub_cancel_left]
abbrev bN (g : Nat → Int32) (B : Nat → Nat → Int32) (ln : Nat) : Nat → Int32 := fun j => if B 2 j = 0 then wB g (B 0 j) (B 1 j) ln else 0
abbrev lN9 (g : Nat → Int32) (L : Nat → Nat → Int32) (set : Int32) (ln : Nat) : Nat → Int32 := fun j => if hB set j = true then wL g (mCount g L j) (L 3 j) ln else 0
theorem ndF_at (nd g : Nat → Int32) (B : Nat → Nat → Int32) {ln : Nat} (h : ln < 9) : ∀ j, ndF nd g B j ln = nd ln + su (bN g B ln) j
  | 0 => by show nd ln = nd ln + 0; rw [Int32.add_zero]
  | j + 1 => by
    unfold ndF su
    by_cases h2 : B 2 j = 0
    · rw [if_pos h2, ndB_at _ _ _ _ h, ndF_at nd g B h j]
      show _ = nd ln + (su (bN g B ln) j + if B 2 j = 0 then wB g (B 0 j) (B 1 j) ln else 0)
      rw [if_pos h2, Int32.add_assoc]
    · rw [if_neg h2, ndF_at nd g B h j]
      show _ = nd ln + (su (bN g B ln) j + if B 2 j = 0 then wB g (B 0 j) (B 1 j) ln else 0)
      rw [if_neg h2, Int32.add_zero]
theorem fsN_at (nd g : Nat → Int32) (B : Nat → Nat → Int32) (b : Nat) {ln : Nat} (h : ln < 9) : fsN nd g B b ln = nB g (mBeside g B b) ln + su (bN g B ln) b := by
  unfold fsN
  rw [ndF_at _ _ _ h, ndS_at _ _ _ h]
theorem gvS_at (gv : Nat → Nat → Int32) (g : Nat → Int32) (L : Nat → Nat → Int32) {ln i : Nat} (h : ln < 9) : ∀ n, i < n → gvS gv g L n i ln = wL g (mCount g L i) (L 3 i) ln
  | 0, hi => absurd hi (Nat.not_lt_zero _)
  | n + 1, hi => by
    unfold gvS
    by_cases e : i = n
    · subst e; rw [va_up_self, rowU_at _ _ _ _ h]
    · rw [va_up_ne _ _ e]
      exact gvS_at gv g L h n (by omega)
theorem sub_sub9 (a s v : Int32) : a - s - v = a - (s + v) := by
  rw [Int32.sub_eq_add_neg, Int32.sub_eq_add_neg, Int32.sub_eq_add_neg, Int32.neg_add, Int32.sub_eq_add_neg, Int32.add_assoc]
theorem cMiss_at (nd : Nat → Int32) (gv : Nat → Nat → Int32) (ln : Nat) (pool : Int32) : ∀ k, k ≤ 12 → cMiss nd gv ln pool k = nd ln - su (fun j => if hB pool j = true then gv j ln else 0) k
  | 0, _ => by rw [cMiss]; show nd ln = nd ln - 0; rw [Int32.sub_zero]
  | k + 1, hk => by
    rw [cMiss]
    unfold su
    have ih := cMiss_at nd gv ln pool k (by omega)
    by_cases h2 : hB pool k = true
    · rw [if_neg (fun q => by rw [(hB_c pool (by omega)).mp q] at h2; cases h2), ih]
      show _ = nd ln - (su (fun j => if hB pool j = true then gv j ln else 0) k + if hB pool k = true then gv k ln else 0)
      rw [if_pos h2, sub_sub9]
    · rw [if_pos ((hB_c pool (by omega)).mpr (by simpa using h2)), ih]
      show _ = nd ln - (su (fun j => if hB pool j = true then gv j ln else 0) k + if hB pool k = true then gv k ln else 0)
      rw [if_neg h2, Int32.add_zero]
theorem cM_at (nd g : Nat → Int32) (gv : Nat → Nat → Int32) (L B : Nat → Nat → Int32) {n b : Nat} (hn : n ≤ 12) {set : Int32} (hs : okS n set) {ln : Nat} (h : ln < 9) : cMiss (fsN nd g B b) (gvS gv g L n) ln set 12 = (nB g (mBeside g B b) ln + su (bN g B ln) b) - su (lN9 g L set ln) n := by
  rw [cMiss_at _ _ _ _ 12 (Nat.le_refl _), fsN_at _ _ _ _ h]
  congr 1
  obtain ⟨d, hd⟩ : ∃ d, 12 = n + d := ⟨12 - n, by omega⟩
  rw [hd, su_tail d (fun j h1 h2 => by rw [hs j h1 (by omega)]; rfl)]
  refine su_c n (fun j hj => ?_)
  by_cases h2 : hB set j = true
  · show (if hB set j = true then gvS gv g L n j ln else 0) = if hB set j = true then wL g (mCount g L j) (L 3 j) ln else 0
    rw [if_pos h2, if_pos h2, gvS_at gv g L h n hj]
  · show (if hB set j = true then gvS gv g L n j ln else 0) = if hB set j = true then wL g (mCount g L j) (L 3 j) ln else 0
    rw [if_neg h2, if_neg h2]
