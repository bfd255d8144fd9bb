/-! ===== the law of p24: its world, and what each call of it brings ===== -/
def LI (D : va_G) (cs : Nat → ClassId) (s : State) (AL : Nat → Prop) (adL : Nat → Nat) (z0 o sz1 : Nat) (fa fd fs g : Nat → Int32) (L B : Nat → Nat → Int32) (n b k9 : Nat) (H : Heap) (locs : List Loc) : Prop :=
  RC D cs (AC s.heap.size AL) z0 o g L B n b H ∧ wP D AL lvL3 adL (ctL cs fa fd fs) H ∧ sz1 ≤ H.size ∧ va_S (fun q => s.heap.size ≤ q) s.heap H locs ∧ LV fa fd fs g L B n b k9
theorem lt3 {r : Nat} (h : r < 3) : r = 0 ∨ r = 1 ∨ r = 2 := by omega
theorem ctL_0 {D : va_G} {cs : Nat → ClassId} {AL : Nat → Prop} {adL : Nat → Nat} {fa fd fs f : Nat → Int32} {H : Heap} (h : wP D AL lvL3 adL (va_up (ctL cs fa fd fs) 0 (.inl (cs 0, 12, .inl f))) H) : wP D AL lvL3 adL (ctL cs f fd fs) H :=
  h.to (fun r hr => ⟨hr, rfl, by rcases lt3 hr with rfl | rfl | rfl <;> rfl⟩)
theorem ctL_1 {D : va_G} {cs : Nat → ClassId} {AL : Nat → Prop} {adL : Nat → Nat} {fa fd fs f : Nat → Int32} {H : Heap} (h : wP D AL lvL3 adL (va_up (ctL cs fa fd fs) 1 (.inl (cs 0, 5, .inl f))) H) : wP D AL lvL3 adL (ctL cs fa f fs) H :=
  h.to (fun r hr => ⟨hr, rfl, by rcases lt3 hr with rfl | rfl | rfl <;> rfl⟩)
theorem ctL_2 {D : va_G} {cs : Nat → ClassId} {AL : Nat → Prop} {adL : Nat → Nat} {fa fd fs f : Nat → Int32} {H : Heap} (h : wP D AL lvL3 adL (va_up (ctL cs fa fd fs) 2 (.inl (cs 0, 5, .inl f))) H) : wP D AL lvL3 adL (ctL cs fa fd f) H :=
  h.to (fun r hr => ⟨hr, rfl, by rcases lt3 hr with rfl | rfl | rfl <;> rfl⟩)
theorem nI_nn {a : Nat} (h : a < 2147483648) : 0 ≤ (nI a).toInt := by rw [nI_toInt h]; omega
theorem nI_b {a : Nat} (h : a ≤ 20000) : 0 ≤ (nI a).toInt ∧ (nI a).toInt ≤ 20000 := by rw [nI_toInt (by omega)]; omega
theorem nn_lt {x : Int32} (h : 0 ≤ x.toInt) : ¬ x < 0 := by rw [ltI, t0]; omega
theorem wi_n {a lo hi : Nat} (h : lo ≤ a ∧ a ≤ hi) (hh : hi < 1000000) : wi (nI a) (nI lo) (nI hi) := ⟨nI_nlt h.1 (by omega), nI_nlt h.2 (by omega)⟩
theorem gt600 {d : Nat} (h : d ≤ 600) : ¬ 600 < nI d := nI_nlt (a := 600) (b := d) h (by decide)
theorem kAL {g : Nat → Int32} {n a w r d : Nat} (hn : n ≤ 12) (ha : 1 ≤ a) (ha2 : a ≤ 10000) (hw : w ≤ 20000) (hr : 1 ≤ r ∧ r ≤ 5) (hd : d ≤ 600) : kAddLoan g n (nI a) (nI w) (nI r) (nI d) = if nI d ≤ g 0 then 1 else if 12 ≤ n then 2 else 0 := by
  have h1 : wi (nI a) 1 10000 := wi_n (lo := 1) (hi := 10000) ⟨ha, ha2⟩ (by decide)
  have h2 : wi (nI w) 0 20000 := wi_n (lo := 0) (hi := 20000) ⟨Nat.zero_le _, hw⟩ (by decide)
  have h3 : wi (nI r) 1 5 := wi_n (lo := 1) (hi := 5) hr (by decide)
  unfold kAddLoan
  by_cases hq : nI d ≤ g 0
  · rw [if_pos hq, if_neg (fun z => z.2.2.2.1 hq)]
  · rw [if_neg hq, if_pos ⟨h1, h2, h3, hq, gt600 hd⟩]
    by_cases h12 : 12 ≤ n
    · have q12 : (12 : Int32) ≤ nI n := show nI 12 ≤ nI n from nI_le h12 (by omega)
      rw [if_pos h12, if_pos q12]
    · have q12 : ¬ (12 : Int32) ≤ nI n := show ¬ nI 12 ≤ nI n from nI_ge (Nat.lt_of_not_le h12) (by decide)
      rw [if_neg h12, if_neg q12]
theorem kAB {g : Nat → Int32} {b a d : Nat} (hb : b ≤ 5) (ha : 1 ≤ a) (ha2 : a ≤ 50000) (hd : d ≤ 600) : kAddBond g b (nI a) (nI d) = if nI d ≤ g 0 then 1 else if 5 ≤ b then 2 else 0 := by
  have h1 : wi (nI a) 1 50000 := wi_n (lo := 1) (hi := 50000) ⟨ha, ha2⟩ (by decide)
  unfold kAddBond
  by_cases hq : nI d ≤ g 0
  · rw [if_pos hq, if_neg (fun z => z.2.1 hq)]
  · rw [if_neg hq, if_pos ⟨h1, hq, gt600 hd⟩]
    by_cases h12 : 5 ≤ b
    · have q12 : (5 : Int32) ≤ nI b := show nI 5 ≤ nI b from nI_le h12 (by omega)
      rw [if_pos h12, if_pos q12]
    · have q12 : ¬ (5 : Int32) ≤ nI b := show ¬ nI 5 ≤ nI b from nI_ge (Nat.lt_of_not_le h12) (by decide)
      rw [if_neg h12, if_neg q12]
theorem kArr_24 {L : Nat → Nat → Int32} {n k a : Nat} (hk : k < n) (hn : n < 1000) (ha : a ≤ 60) : kArr L n (nI k) (nI a) = if L 5 k = 2 then 3 else 0 := by
  unfold kArr
  rw [if_pos (isIx_nI hk hn), if_pos (show wi (nI a) 0 60 from wi_n (lo := 0) (hi := 60) ⟨Nat.zero_le _, ha⟩ (by decide)), ixN_nI (by omega)]
theorem kWorth_24 {n k a : Nat} (hk : k < n) (hn : n < 1000) (ha : a ≤ 20000) : kWorth n (nI k) (nI a) = 0 := by
  unfold kWorth
  rw [if_pos (isIx_nI hk hn), if_pos (show wi (nI a) 0 20000 from wi_n (lo := 0) (hi := 20000) ⟨Nat.zero_le _, ha⟩ (by decide))]
theorem kRules_24 {a c d : Nat} (h1 : 1 ≤ a) (h2 : a ≤ 5) (h3 : c ≤ 50) (h4 : d ≤ 20) : kRules (nI a) (nI c) (nI d) = 0 :=
  if_pos ⟨wi_n (lo := 1) (hi := 5) ⟨h1, h2⟩ (by decide), wi_n (lo := 0) (hi := 50) ⟨Nat.zero_le _, h3⟩ (by decide), wi_n (lo := 0) (hi := 20) ⟨Nat.zero_le _, h4⟩ (by decide)⟩
theorem kTake_24 {g : Nat → Int32} {a : Nat} (h1 : 1 ≤ a) (h2 : a ≤ 100000) : kTake g (nI a) = if g 1 < nI a then 2 else 0 :=
  if_pos (wi_n (lo := 1) (hi := 100000) ⟨h1, h2⟩ (by decide))
theorem kSwap_2 {L : Nat → Nat → Int32} {n k k2 : Nat} (hk : k < n) (hk2 : k2 < n) (hn : n < 1000) (h : ¬ (L 5 k = 1 ∧ L 5 k2 = 0)) : kSwap L n (nI k) (nI k2) = 2 := by
  unfold kSwap
  rw [if_pos ⟨isIx_nI hk hn, isIx_nI hk2 hn⟩, ixN_nI (by omega), ixN_nI (by omega), if_neg h]
theorem kSwap_00 {L : Nat → Nat → Int32} {n k k2 : Nat} (hk : k < n) (hk2 : k2 < n) (hn : n < 1000) (h1 : L 5 k = 1) (h2 : L 5 k2 = 0) : kSwap L n (nI k) (nI k2) = 0 := by
  unfold kSwap
  rw [if_pos ⟨isIx_nI hk hn, isIx_nI hk2 hn⟩, ixN_nI (by omega), ixN_nI (by omega), if_pos ⟨h1, h2⟩]
section LVS
variable {fa fd fs g : Nat → Int32} {L B : Nat → Nat → Int32} {n b k9 : Nat}
theorem LV.k5 (h : LV fa fd fs g L B n b k9) {i : Nat} (hi : i < n) (v : Int32) : LV fa fd fs g (updL L 5 i v) B n b k9 := by
  obtain ⟨h1, h2, h3, h4, h5, h6, h7⟩ := h
  exact ⟨h1.k5 hi v, h2, fun j hj => by rw [updL_nk _ _ _ _ (by decide)]; exact h3 j hj, h4, h5, fun j hj => by rw [updL_nk _ _ _ _ (by decide)]; exact h6 j hj, h7⟩
theorem LV.k4 (h : LV fa fd fs g L B n b k9) {i : Nat} (hi : i < n) {v : Int32} (hv : 0 ≤ v.toInt) : LV fa fd fs g (updL L 4 i v) B n b k9 := by
  obtain ⟨h1, h2, h3, h4, h5, h6, h7⟩ := h
  refine ⟨h1.k4 hi v, h2, fun j hj => by rw [updL_nk _ _ _ _ (by decide)]; exact h3 j hj, h4, h5, fun j hj => ?_, h7⟩
  by_cases e : j = i
  · subst e; rw [updL_at]; exact hv
  · rw [updL_ni _ _ _ _ e]; exact h6 j hj
theorem LV.k1 (h : LV fa fd fs g L B n b k9) {i : Nat} (hi : i < n) {v : Int32} (hv : 0 ≤ v.toInt ∧ v.toInt ≤ 20000) : LV fa fd fs g (updL L 1 i v) B n b k9 := by
  obtain ⟨h1, h2, h3, h4, h5, h6, h7⟩ := h
  exact ⟨h1.k1 hi hv, h2, fun j hj => by rw [updL_nk _ _ _ _ (by decide)]; exact h3 j hj, h4, h5, fun j hj => by rw [updL_nk _ _ _ _ (by decide)]; exact h6 j hj, h7⟩
theorem LV.rules (h : LV fa fd fs g L B n b k9) {x y z : Int32} (hk : kRules x y z = 0) : LV fa fd fs (rulesG g x y z) L B n b k9 := by
  obtain ⟨h1, h2, h3, h4, h5, h6, h7⟩ := h
  have e0 : rulesG g x y z 0 = g 0 := by unfold rulesG; rw [upd_ne (by decide), upd_ne (by decide), upd_ne (by decide)]
  exact ⟨h1.rules hk, by rw [e0]; exact h2, h3, h4, h5, h6, fun j hj => by rw [e0]; exact h7 j hj⟩
theorem LV.take (h : LV fa fd fs g L B n b k9) {x : Int32} (hk : kTake g x = 0) : LV fa fd fs (upd g 1 (g 1 - x)) L B n b k9 := by
  obtain ⟨h1, h2, h3, h4, h5, h6, h7⟩ := h
  have e0 : upd g 1 (g 1 - x) 0 = g 0 := upd_ne (by decide)
  exact ⟨h1.take hk, by rw [e0]; exact h2, h3, h4, h5, h6, fun j hj => by rw [e0]; exact h7 j hj⟩
theorem LV.loan (h : LV fa fd fs g L B n b k9) {x y z w : Int32} (hk : kAddLoan g n x y z w = 0) : LV (upd fa n x) fd fs g (addL L n x y z w) B (n + 1) b k9 := by
  obtain ⟨h1, h2, h3, h4, h5, h6, h7⟩ := h
  have f0 : ∀ i, addL L n x y z w 0 i = if i = n then x else L 0 i := fun i => by
    unfold addL
    rw [updL_nk _ _ _ _ (by decide), updL_nk _ _ _ _ (by decide), updL_nk _ _ _ _ (by decide)]
    by_cases e : i = n
    · subst e; rw [updL_at, if_pos rfl]
    · rw [updL_ni _ _ _ _ e, if_neg e]
  have f4 : ∀ i, addL L n x y z w 4 i = L 4 i := fun i => by
    unfold addL
    rw [updL_nk _ _ _ _ (by decide), updL_nk _ _ _ _ (by decide), updL_nk _ _ _ _ (by decide), updL_nk _ _ _ _ (by decide)]
  refine ⟨(h1.loan hk).1, h2, fun j hj => ?_, h4, h5, fun j hj => ?_, h7⟩
  · rw [f0]
    by_cases e : j = n
    · subst e; rw [upd_at, if_pos rfl]
    · rw [upd_ne e, if_neg e]; exact h3 j (by omega)
  · rw [f4]
    by_cases e : j = n
    · subst e; rw [(h1.2.2.2.2.2.2.2.2.1 j (Nat.le_refl j)).1]; decide
    · exact h6 j (by omega)
theorem LV.bond (h : LV fa fd fs g L B n b k9) {x y : Int32} (hk : kAddBond g b x y = 0) : LV fa (upd fd b y) (upd fs b x) (upd g 1 (g 1 + x)) L (addB B b x y) n (b + 1) k9 := by
  obtain ⟨h1, h2, h3, h4, h5, h6, h7⟩ := h
  have e0 : upd g 1 (g 1 + x) 0 = g 0 := upd_ne (by decide)
  have hy : ¬ y ≤ g 0 := by
    unfold kAddBond at hk
    by_cases q : okBond g x y
    · exact q.2.1
    · rw [if_neg q] at hk; exact absurd hk (by decide)
  have f0 : ∀ i, addB B b x y 0 i = if i = b then x else B 0 i := fun i => by
    unfold addB
    rw [updL_nk _ _ _ _ (by decide)]
    by_cases e : i = b
    · subst e; rw [updL_at, if_pos rfl]
    · rw [updL_ni _ _ _ _ e, if_neg e]
  have f1 : ∀ i, addB B b x y 1 i = if i = b then y else B 1 i := fun i => by
    unfold addB
    by_cases e : i = b
    · subst e; rw [updL_at, if_pos rfl]
    · rw [updL_ni _ _ _ _ e, updL_ni _ _ _ _ e, if_neg e]
  have f2 : ∀ i, addB B b x y 2 i = B 2 i := fun i => by
    unfold addB
    rw [updL_nk _ _ _ _ (by decide), updL_nk _ _ _ _ (by decide)]
  refine ⟨(h1.bond hk).1, by rw [e0]; exact h2, h3, fun j hj => ?_, fun j hj => ?_, h6, fun j hj => ?_⟩
  · rw [f0]
    by_cases e : j = b
    · subst e; rw [upd_at, if_pos rfl]
    · rw [upd_ne e, if_neg e]; exact h4 j (by omega)
  · rw [f1]
    by_cases e : j = b
    · subst e; rw [upd_at, if_pos rfl]
    · rw [upd_ne e, if_neg e]; exact h5 j (by omega)
  · rw [f1, f2, e0]
    by_cases e : j = b
    · subst e
      rw [if_pos rfl, (h1.2.2.2.2.2.2.2.2.2 j (Nat.le_refl j)).1]
      exact ⟨fun _ => Int32.not_le.mp hy, fun z => absurd rfl z⟩
    · rw [if_neg e]; exact h7 j (by omega)
theorem mPool_out (hn : n ≤ 12) {k : Nat} (hk : k < n) : mPool (updL L 5 k 0) 1 n = outOf L n (nI k) := by
  refine hB_ext (fun i hi => ?_)
  unfold outOf
  rw [hB_pool _ 1 n hn, hB_and, hB_pool _ 1 n hn, hB_xor, hB_m1 i hi, hB_bit (by omega)]
  by_cases e : i = k
  · subst e; rw [updL_at]; simp
  · rw [updL_ni _ _ _ _ e]; simp [Ne.symm e]
theorem leave_ok (hn : n ≤ 12) {k : Nat} (hk : k < n) (hP : mSafe g L B n b (outOf L n (nI k))) : mSafe g (updL L 5 k 0) B n b (mPool (updL L 5 k 0) 1 n) := by
  rw [mSafe_5 (fun k hk i => updL_nk _ _ _ _ hk), mPool_out hn hk]
  exact hP
theorem mPool_then (hn : n ≤ 12) {k k2 : Nat} (hk : k < n) (hk2 : k2 < n) : mPool (updL (updL L 5 k 0) 5 k2 1) 1 n = thenOf L n (nI k) (nI k2) := by
  refine hB_ext (fun i hi => ?_)
  unfold thenOf
  rw [hB_pool _ 1 n hn, hB_or, hB_and, hB_pool _ 1 n hn, hB_xor, hB_m1 i hi, hB_bit (by omega), hB_bit (by omega)]
  by_cases e2 : i = k2
  · subst e2; rw [updL_at]; simp [hk2]
  · rw [updL_ni _ _ _ _ e2]
    by_cases e : i = k
    · subst e; rw [updL_at]; simp [Ne.symm e2]
    · rw [updL_ni _ _ _ _ e]; simp [Ne.symm e, Ne.symm e2]
end LVS
def hv (g : Nat → Int32) (L B : Nat → Nat → Int32) (n b : Nat) (t : Int32) : Int32 := if mLack g L B n b t (mPool L 1 n) = 0 then 1 else 0
def held9 (g : Nat → Int32) (L B : Nat → Nat → Int32) (n b : Nat) : Int32 := hv g L B n b 0 + 2 * hv g L B n b 1 + 4 * hv g L B n b 2
theorem hv_01 (g : Nat → Int32) (L B : Nat → Nat → Int32) (n b : Nat) (t : Int32) : hv g L B n b t = 0 ∨ hv g L B n b t = 1 := by
  unfold hv
  split
  · exact Or.inr rfl
  · exact Or.inl rfl
theorem held_sub {a0 a1 a2 c0 c1 c2 : Int32} (h0 : a0 = 0 ∨ a0 = 1) (h1 : a1 = 0 ∨ a1 = 1) (h2 : a2 = 0 ∨ a2 = 1) (k0 : c0 = 0 ∨ c0 = 1) (k1 : c1 = 0 ∨ c1 = 1) (k2 : c2 = 0 ∨ c2 = 1) (i0 : a0 = 1 → c0 = 1) (i1 : a1 = 1 → c1 = 1) (i2 : a2 = 1 → c2 = 1) : (a0 + 2 * a1 + 4 * a2) &&& ((c0 + 2 * c1 + 4 * c2) ^^^ (-1)) = 0 := by
  rcases h0 with rfl | rfl <;> rcases h1 with rfl | rfl <;> rcases h2 with rfl | rfl <;> rcases k0 with rfl | rfl <;> rcases k1 with rfl | rfl <;> rcases k2 with rfl | rfl <;> first | decide | exact absurd (i0 rfl) (by decide) | exact absurd (i1 rfl) (by decide) | exact absurd (i2 rfl) (by decide)
theorem held_self (g : Nat → Int32) (L B : Nat → Nat → Int32) (n b : Nat) : held9 g L B n b &&& (held9 g L B n b ^^^ (-1)) = 0 :=
  held_sub (hv_01 _ _ _ _ _ _) (hv_01 _ _ _ _ _ _) (hv_01 _ _ _ _ _ _) (hv_01 _ _ _ _ _ _) (hv_01 _ _ _ _ _ _) (hv_01 _ _ _ _ _ _) (fun h => h) (fun h => h) (fun h => h)
theorem swap_held {g : Nat → Int32} {L B : Nat → Nat → Int32} {n b k k2 : Nat} (hn : n ≤ 12) (hk : k < n) (hk2 : k2 < n) (_ : L 5 k = 1) (_ : L 5 k2 = 0) (hP : canSwap g L B n b (nI k) (nI k2)) : held9 g L B n b &&& (held9 g (updL (updL L 5 k 0) 5 k2 1) B n b ^^^ (-1)) = 0 := by
  have hall := (mCan_all g L B n b (mPool L 1 n) (thenOf L n (nI k) (nI k2)) 3).mp hP
  have h5 : ∀ k', ¬ k' = 5 → ∀ i, updL (updL L 5 k 0) 5 k2 1 k' i = L k' i := fun k' h i => by rw [updL_nk _ _ _ _ h, updL_nk _ _ _ _ h]
  have himp : ∀ t : Nat, t < 3 → hv g L B n b (nI t) = 1 → hv g (updL (updL L 5 k 0) 5 k2 1) B n b (nI t) = 1 := fun t ht h => by
    unfold hv at h ⊢
    by_cases q : mLack g L B n b (nI t) (mPool L 1 n) = 0
    · rcases hall t ht with z | z
      · rw [q] at z; exact absurd z (by decide)
      · rw [if_pos]
        rw [mPool_then hn hk hk2, mLack_c (mCount_c h5) (h5 3 (by decide))]
        exact z
    · rw [if_neg q] at h; exact absurd h (by decide)
  exact held_sub (hv_01 _ _ _ _ _ _) (hv_01 _ _ _ _ _ _) (hv_01 _ _ _ _ _ _) (hv_01 _ _ _ _ _ _) (hv_01 _ _ _ _ _ _) (hv_01 _ _ _ _ _ _) (himp 0 (by decide)) (himp 1 (by decide)) (himp 2 (by decide))
theorem mCount_arr {g : Nat → Int32} {L : Nat → Nat → Int32} {k : Nat} {v : Int32} (h : 3 ≤ v) : mCount g (updL L 4 k v) k = 0 := by
  unfold mCount
  rw [updL_at, if_pos h]
theorem mn_mono {a x y : Int32} (h : x ≤ y) : (if a ≤ x then a else x) ≤ (if a ≤ y then a else y) := by
  rw [leI] at h
  by_cases p1 : a ≤ x
  · rw [if_pos p1]
    by_cases p2 : a ≤ y
    · rw [if_pos p2]; exact Int32.le_refl a
    · rw [if_neg p2]; rw [leI] at p1 p2 ⊢; omega
  · rw [if_neg p1]
    by_cases p2 : a ≤ y
    · rw [if_pos p2]; rw [leI] at p1 p2 ⊢; omega
    · rw [if_neg p2]; rw [leI]; exact h
theorem mc80 {x : Int32} (h : 0 ≤ x.toInt ∧ x.toInt ≤ 20000) : (x * 80 / 100).toInt = x.toInt * 80 / 100 := by
  have e1 : (x * 80).toInt = x.toInt * 80 := by rw [i32m (by rw [t80]; omega) (by rw [t80]; omega), t80]
  rw [i32d (by rw [e1]; omega) (by decide), e1, t100]
theorem mCount_v {g : Nat → Int32} {L L' : Nat → Nat → Int32} {k : Nat} (h0 : L' 0 k = L 0 k) (h2 : L' 2 k = L 2 k) (h4 : L' 4 k = L 4 k) (h : L 1 k * 80 / 100 ≤ L' 1 k * 80 / 100) : mCount g L k ≤ mCount g L' k := by
  unfold mCount
  rw [h0, h2, h4]
  by_cases a : 3 ≤ L 4 k
  · rw [if_pos a, if_pos a]; exact Int32.le_refl 0
  · rw [if_neg a, if_neg a]
    by_cases r : L 2 k ≤ g 2
    · rw [if_pos r, if_pos r]; exact mn_mono h
    · rw [if_neg r, if_neg r]; exact Int32.le_refl 0
theorem mCount_up {g : Nat → Int32} {L B : Nat → Nat → Int32} {n b k : Nat} {v : Int32} (h : Iv g L B n b) (hk : k < n) (hv : 0 ≤ v.toInt ∧ v.toInt ≤ 20000) (hle : L 1 k ≤ v) : mCount g L k ≤ mCount g (updL L 1 k v) k := by
  refine mCount_v (updL_nk _ _ _ _ (by decide)) (updL_nk _ _ _ _ (by decide)) (updL_nk _ _ _ _ (by decide)) ?_
  rw [updL_at, leI, mc80 hv, mc80 (h.2.2.2.2.2.2.1 k hk).2.1]
  rw [leI] at hle
  omega
theorem mCount_dn {g : Nat → Int32} {L B : Nat → Nat → Int32} {n b k : Nat} {v : Int32} (h : Iv g L B n b) (hk : k < n) (hv : 0 ≤ v.toInt ∧ v.toInt ≤ 20000) (hle : v ≤ L 1 k) : mCount g (updL L 1 k v) k ≤ mCount g L k := by
  refine mCount_v (updL_nk _ _ _ _ (by decide)).symm (updL_nk _ _ _ _ (by decide)).symm (updL_nk _ _ _ _ (by decide)).symm ?_
  rw [updL_at, leI, mc80 hv, mc80 (h.2.2.2.2.2.2.1 k hk).2.1]
  rw [leI] at hle
  omega
theorem mCount_le {g : Nat → Int32} {L B : Nat → Nat → Int32} {n b k : Nat} {v : Int32} (h : Iv g L B n b) (hk : k < n) : mCount g (updL L 1 k v) k ≤ L 0 k := by
  have h0 := (h.2.2.2.2.2.2.1 k hk).1.1
  unfold mCount
  rw [updL_nk _ _ _ _ (show ¬ 0 = 1 by decide), updL_nk _ _ _ _ (show ¬ 2 = 1 by decide), updL_nk _ _ _ _ (show ¬ 4 = 1 by decide)]
  repeat' split
  · rw [leI, t0]; omega
  · exact Int32.le_refl _
  · next q => rw [leI] at q ⊢; omega
  · rw [leI, t0]; omega
/-- holds, its answer as a number -/
theorem c_L_holds_v (l : Launch) (hst : l.stackTraces = false) (D : va_G) (cs : Nat → ClassId) (A : Nat → Prop) (z0 : Nat) (sa : Nat → Nat) (o : Nat) (g : Nat → Int32) (L B : Nat → Nat → Int32) (n b : Nat) (hn : n ≤ 12) (hb5 : b ≤ 5) (x : Int32) (hbd : Bd g L B n b) (hk : kIn 0 2 x = 0) : vx_Met l yL_holds wsL_holds ({ frames := 10, cells := 1, slots := 6, locals := 218 } : Room) (va_Pc [.ref o, .int x] (pR D cs A z0 sa o g L B n b)) (va_Qi (fun (r9 : Int32) (_ : Unit) => r9 = hv g L B n b x) (fun _ t9 => RC D cs A z0 o g L B n b t9.heap) A) (vx_X (fun (_ : Unit) => False) (fun _ _ _ => True) (fun _ => False)) 1 6 A := by
  unfold hv
  by_cases hP : mLack g L B n b x (mPool L 1 n) = 0
  · rw [if_pos hP]
    exact c_L_holds_0t l hst D cs A z0 sa o g L B n b hn hb5 x hbd hk hP
  · rw [if_neg hP]
    exact c_L_holds_0f l hst D cs A z0 sa o g L B n b hn hb5 x hbd hk hP
