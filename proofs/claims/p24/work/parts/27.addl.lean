/-! ===== adding a loan, a bond: what the list's add leaves, as the class's world ===== -/
theorem kAddLoan_1 {g : Nat → Int32} {n : Nat} {x y z w : Int32} (h : ¬ (wi x 1 10000 ∧ wi y 0 20000 ∧ wi z 1 5 ∧ dueOk g w)) : kAddLoan g n x y z w = 1 := if_neg h
theorem kAddLoan_2 {g : Nat → Int32} {n : Nat} {x y z w : Int32} (h1 : wi x 1 10000) (h2 : wi y 0 20000) (h3 : wi z 1 5) (h4 : dueOk g w) (h5 : ¬ nI n < 12) : kAddLoan g n x y z w = 2 := by
  unfold kAddLoan
  rw [if_pos ⟨h1, h2, h3, h4⟩, if_pos (Int32.not_lt.mp h5)]
theorem kAddLoan_0 {g : Nat → Int32} {n : Nat} {x y z w : Int32} (h1 : wi x 1 10000) (h2 : wi y 0 20000) (h3 : wi z 1 5) (h4 : dueOk g w) (h5 : nI n < 12) : kAddLoan g n x y z w = 0 := by
  unfold kAddLoan
  rw [if_pos ⟨h1, h2, h3, h4⟩, if_neg (Int32.not_le.mpr h5)]
theorem kAddBond_1 {g : Nat → Int32} {n : Nat} {x y : Int32} (h : ¬ (wi x 1 50000 ∧ dueOk g y)) : kAddBond g n x y = 1 := if_neg h
theorem kAddBond_2 {g : Nat → Int32} {n : Nat} {x y : Int32} (h1 : wi x 1 50000) (h2 : dueOk g y) (h5 : ¬ nI n < 5) : kAddBond g n x y = 2 := by
  unfold kAddBond
  rw [if_pos ⟨h1, h2⟩, if_pos (Int32.not_lt.mp h5)]
theorem kAddBond_0 {g : Nat → Int32} {n : Nat} {x y : Int32} (h1 : wi x 1 50000) (h2 : dueOk g y) (h5 : nI n < 5) : kAddBond g n x y = 0 := by
  unfold kAddBond
  rw [if_pos ⟨h1, h2⟩, if_neg (Int32.not_le.mpr h5)]
abbrev rowF (ad : Nat → Nat) (k n : Nat) : Nat → Option Nat := fun j => if j < n then some (ad (k + j)) else none
theorem rowF_add (ad : Nat → Nat) (k n j : Nat) : va_up (cut9 n (rowF ad k n)) n (some (ad (k + n))) j = if j < n + 1 then some (ad (k + j)) else none := by
  unfold va_up cut9 rowF
  by_cases h : j = n
  · subst h; rw [if_pos rfl, if_pos (by omega)]
  · rw [if_neg h]
    by_cases h1 : j < n
    · rw [if_pos h1, if_pos h1, if_pos (by omega)]
    · rw [if_neg h1, if_neg (by omega)]
theorem rowF_in (ad : Nat → Nat) (k n j : Nat) : va_up (rowF ad k n) n (some (ad (k + n))) j = if j < n + 1 then some (ad (k + j)) else none := by
  unfold va_up rowF
  by_cases h : j = n
  · subst h; rw [if_pos rfl, if_pos (by omega)]
  · rw [if_neg h]
    by_cases h1 : j < n
    · rw [if_pos h1, if_pos (by omega)]
    · rw [if_neg h1, if_neg (by omega)]
section ADL
variable {D : va_G} {A : Nat → Prop} {H : Heap} {q : Nat} {cs : Nat → ClassId} {ad : Nat → Nat} {z0 : Nat} {g : Nat → Int32} {L B : Nat → Nat → Int32} {n b : Nat} {y1 y2 : Int32} {N1 N2 : Nat} {nd : Nat → Int32} {gv : Nat → Nat → Int32}
theorem new1 (x y z w : Int32) (hn : n < 12) (hb5 : b ≤ 5) (h : wP D A (fun r => lvC n b r ∨ r = 20 + n) (va_up ad (20 + n) q) (va_up (ctC cs ad z0 g L B n b y1 y2 N1 N2 nd gv) (20 + n) (.inr (2, [.int 0, .int 0, .int 0, .int 0, .int 0, .int 0]))) H) :
    wP D A (lvA n b (20 + n)) (va_up ad (20 + n) q) (va_up (ctC cs (va_up ad (20 + n) q) z0 g (addL L n x y z w) B n b y1 y2 N1 N2 nd gv) (20 + n) (.inr (2, [.int 0, .int 0, .int 0, .int 0, .int 0, .int 0]))) H := by
  refine h.to (fun r hr => ⟨hr, rfl, ?_⟩)
  by_cases e : r = 20 + n
  · subst e; rw [va_up_self, va_up_self]
  · rw [va_up_ne _ _ e, va_up_ne _ _ e]
    have ea : ∀ k, k ≠ 20 + n → va_up ad (20 + n) q k = ad k := fun k hk => va_up_ne _ _ hk
    have e4 : (fun j => if j < 12 then some (va_up ad (20 + n) q (8 + j)) else none) = fun j => if j < 12 then some (ad (8 + j)) else none := by
      funext j
      by_cases hj : j < 12
      · rw [ea (8 + j) (by omega)]
      · rw [if_neg hj, if_neg hj]
    have e5 : (fun j => if j < n then some (va_up ad (20 + n) q (20 + j)) else none) = fun j => if j < n then some (ad (20 + j)) else none := by
      funext j
      by_cases hj : j < n
      · rw [ea (20 + j) (by omega)]
      · rw [if_neg hj, if_neg hj]
    have e6 : (fun j => if j < b then some (va_up ad (20 + n) q (32 + j)) else none) = fun j => if j < b then some (ad (32 + j)) else none := by funext j; rw [ea (32 + j) (by omega)]
    rw [ctC_L (L := L) (L' := addL L n x y z w) (fun i k h1 _ => by unfold addL; rw [updL_ni _ _ _ _ (by omega), updL_ni _ _ _ _ (by omega), updL_ni _ _ _ _ (by omega), updL_ni _ _ _ _ (by omega)])]
    unfold ctC
    rw [ea 1 (by omega), ea 2 (by omega), ea 3 (by omega), ea 4 (by omega), ea 5 (by omega), ea 6 (by omega), ea 7 (by omega), e4, e5, e6]
theorem init1 {x y z w : Int32} (hn : n < 12) (hz : L 4 n = 0 ∧ L 5 n = 0) (h : wP D A (lvA n b (20 + n)) ad (va_up (va_up (ctC cs ad z0 g (addL L n x y z w) B n b y1 y2 N1 N2 nd gv) (20 + n) (.inr (2, [.int 0, .int 0, .int 0, .int 0, .int 0, .int 0]))) (20 + n) (.inr (2, [.int x, .int z, .int w, .int y, .int 0, .int 0]))) H) : wP D A (lvA n b (20 + n)) ad (ctC cs ad z0 g (addL L n x y z w) B n b y1 y2 N1 N2 nd gv) H := by
  rw [up_up] at h
  refine h.up ?_ (fun r _ hr => rfl)
  rw [ctC_ln hn]
  simp [addL, updL_at, updL_nk, hz.1, hz.2]
theorem Lst1 (hN1 : n ≤ N1 ∧ N1 < 1000) : Lst cs z0 (lvA n b (20 + n)) ad (ctC cs ad z0 g L B n b y1 y2 N1 N2 nd gv) n (if n = 0 then z0 else ad 6) 6 N1 (rowF ad 20 n) := by
  by_cases h : n = 0
  · exact Or.inl ⟨h, if_pos h⟩
  · exact Or.inr ⟨by omega, by unfold lvA lvC; omega, if_neg h, rfl, hN1.1, hN1.2⟩
theorem Lel1 (hn : n < 12) : Lel (lvA n b (20 + n)) ad (ctC cs ad z0 g L B n b y1 y2 N1 N2 nd gv) 2 n (rowF ad 20 n) := fun i hi y hy => by
  rw [show rowF ad 20 n i = some (ad (20 + i)) from if_pos hi] at hy
  cases hy
  exact ⟨20 + i, _, Or.inl (lvC_ln hi), rfl, ctC_ln (by omega)⟩
abbrev PO1 (D : va_G) (cs : Nat → ClassId) (A : Nat → Prop) (z0 : Nat) (ad : Nat → Nat) (g : Nat → Int32) (L B : Nat → Nat → Int32) (n b : Nat) (y1 y2 : Int32) (N2 : Nat) (nd : Nat → Int32) (gv : Nat → Nat → Int32) (H : Heap) : Prop :=
  ∃ (ad9 : Nat → Nat) (M : Nat), (n + 1 ≤ M ∧ M < 1000) ∧ ad9 0 = ad 0 ∧ wP D A (lvC (n + 1) b) ad9 (ctC cs ad9 z0 g L B (n + 1) b y1 y2 M N2 nd gv) H
theorem fin1 (hn : n < 12) (hb5 : b ≤ 5) (q1 M : Nat) (H : Heap) (h1 : n + 1 ≤ M) (h2 : M ≤ 20) (hW : wP D A (fun z => lvA n b (20 + n) z ∨ z = 38) (va_up ad 38 q1) (va_up (va_up (ctC cs ad z0 g L B n b y1 y2 N1 N2 nd gv) 38 (.inl (cs 2, M, rfs (va_up (cut9 n (rowF ad 20 n)) n (some (ad (20 + n))))))) 1 (.inr (0, [.int (y1 + 1), .ref q1, .int (nI (n + 1))]))) H) : PO1 D cs A z0 ad g L B n b (y1 + 1) y2 N2 nd gv H :=
  ⟨va_up ad 6 q1, M, ⟨h1, by omega⟩, va_up_ne _ _ (by decide), add1_fin (y1' := y1) (N1 := N1) hW hb5 (by omega) hn (fun z hz => hz) (by rw [va_up_ne _ _ (by decide), va_up_self]) (va_up_self _ _ _) (fun z z1 z2 => by rw [va_up_ne _ _ z2, va_up_ne _ _ z1]) (fun j => rowF_add ad 20 n j)⟩
theorem inp1 (hn : n < 12) (hb5 : b ≤ 5) (hN9 : N1 < 1000) (H : Heap) (h0 : 0 < n) (h1 : n < N1) (hW : wP D A (lvA n b (20 + n)) ad (va_up (va_up (ctC cs ad z0 g L B n b y1 y2 N1 N2 nd gv) 6 (.inl (cs 2, N1, rfs (va_up (rowF ad 20 n) n (some (ad (20 + n))))))) 1 (.inr (0, [.int (y1 + 1), .ref (if n = 0 then z0 else ad 6), .int (nI (n + 1))]))) H) : PO1 D cs A z0 ad g L B n b (y1 + 1) y2 N2 nd gv H :=
  ⟨va_up ad 6 (ad 6), N1, ⟨h1, hN9⟩, va_up_ne _ _ (by decide), add1_in (y1' := y1) hW hb5 (by omega) hn h0 (fun z hz => hz) (by rw [va_up_ne _ _ (by decide), va_up_self]) (by rw [va_up_self, if_neg (by omega)]) (fun z z1 z2 => by rw [va_up_ne _ _ z2, va_up_ne _ _ z1]) (fun j => rowF_in ad 20 n j)⟩
theorem new2 (x y : Int32) (hn : n ≤ 12) (hb5 : b < 5) (h : wP D A (fun r => lvC n b r ∨ r = 32 + b) (va_up ad (32 + b) q) (va_up (ctC cs ad z0 g L B n b y1 y2 N1 N2 nd gv) (32 + b) (.inr (1, [.int 0, .int 0, .int 0, .int 0]))) H) :
    wP D A (lvA n b (32 + b)) (va_up ad (32 + b) q) (va_up (ctC cs (va_up ad (32 + b) q) z0 g L (addB B b x y) n b y1 y2 N1 N2 nd gv) (32 + b) (.inr (1, [.int 0, .int 0, .int 0, .int 0]))) H := by
  refine h.to (fun r hr => ⟨hr, rfl, ?_⟩)
  by_cases e : r = 32 + b
  · subst e; rw [va_up_self, va_up_self]
  · rw [va_up_ne _ _ e, va_up_ne _ _ e]
    have ea : ∀ k, k ≠ 32 + b → va_up ad (32 + b) q k = ad k := fun k hk => va_up_ne _ _ hk
    have e4 : (fun j => if j < 12 then some (va_up ad (32 + b) q (8 + j)) else none) = fun j => if j < 12 then some (ad (8 + j)) else none := by
      funext j
      by_cases hj : j < 12
      · rw [ea (8 + j) (by omega)]
      · rw [if_neg hj, if_neg hj]
    have e5 : (fun j => if j < n then some (va_up ad (32 + b) q (20 + j)) else none) = fun j => if j < n then some (ad (20 + j)) else none := by
      funext j
      by_cases hj : j < n
      · rw [ea (20 + j) (by omega)]
      · rw [if_neg hj, if_neg hj]
    have e6 : (fun j => if j < b then some (va_up ad (32 + b) q (32 + j)) else none) = fun j => if j < b then some (ad (32 + j)) else none := by
      funext j
      by_cases hj : j < b
      · rw [ea (32 + j) (by omega)]
      · rw [if_neg hj, if_neg hj]
    rw [ctC_B (B := B) (B' := addB B b x y) (fun i k h1 => by unfold addB; rw [updL_ni _ _ _ _ (by omega), updL_ni _ _ _ _ (by omega)])]
    unfold ctC
    rw [ea 1 (by omega), ea 2 (by omega), ea 3 (by omega), ea 4 (by omega), ea 5 (by omega), ea 6 (by omega), ea 7 (by omega), e4, e5, e6]
theorem init2 {x y : Int32} (hz : B 2 b = 0 ∧ B 3 b = 0) (h : wP D A (lvA n b (32 + b)) ad (va_up (va_up (ctC cs ad z0 g L (addB B b x y) n b y1 y2 N1 N2 nd gv) (32 + b) (.inr (1, [.int 0, .int 0, .int 0, .int 0]))) (32 + b) (.inr (1, [.int x, .int y, .int 0, .int 0]))) H) : wP D A (lvA n b (32 + b)) ad (ctC cs ad z0 g L (addB B b x y) n b y1 y2 N1 N2 nd gv) H := by
  rw [up_up] at h
  refine h.up ?_ (fun r _ hr => rfl)
  rw [ctC_bd]
  simp [addB, updL_at, updL_nk, hz.1, hz.2]
theorem Lst2 (hN2 : b ≤ N2 ∧ N2 < 1000) : Lst cs z0 (lvA n b (32 + b)) ad (ctC cs ad z0 g L B n b y1 y2 N1 N2 nd gv) b (if b = 0 then z0 else ad 7) 7 N2 (rowF ad 32 b) := by
  by_cases h : b = 0
  · exact Or.inl ⟨h, if_pos h⟩
  · exact Or.inr ⟨by omega, by unfold lvA lvC; omega, if_neg h, rfl, hN2.1, hN2.2⟩
theorem Lel2 : Lel (lvA n b (32 + b)) ad (ctC cs ad z0 g L B n b y1 y2 N1 N2 nd gv) 1 b (rowF ad 32 b) := fun i hi y hy => by
  rw [show rowF ad 32 b i = some (ad (32 + i)) from if_pos hi] at hy
  cases hy
  exact ⟨32 + i, _, Or.inl (lvC_bd hi), rfl, ctC_bd⟩
abbrev PO2 (D : va_G) (cs : Nat → ClassId) (A : Nat → Prop) (z0 : Nat) (ad : Nat → Nat) (g : Nat → Int32) (L B : Nat → Nat → Int32) (n b : Nat) (y1 y2 : Int32) (N1 : Nat) (nd : Nat → Int32) (gv : Nat → Nat → Int32) (H : Heap) : Prop :=
  ∃ (ad9 : Nat → Nat) (M : Nat), (b + 1 ≤ M ∧ M < 1000) ∧ ad9 0 = ad 0 ∧ wP D A (lvC n (b + 1)) ad9 (ctC cs ad9 z0 g L B n (b + 1) y1 y2 N1 M nd gv) H
theorem fin2 (hn : n ≤ 12) (hb5 : b < 5) (q1 M : Nat) (H : Heap) (h1 : b + 1 ≤ M) (h2 : M ≤ 20) (hW : wP D A (fun z => lvA n b (32 + b) z ∨ z = 38) (va_up ad 38 q1) (va_up (va_up (ctC cs ad z0 g L B n b y1 y2 N1 N2 nd gv) 38 (.inl (cs 2, M, rfs (va_up (cut9 b (rowF ad 32 b)) b (some (ad (32 + b))))))) 2 (.inr (0, [.int (y2 + 1), .ref q1, .int (nI (b + 1))]))) H) : PO2 D cs A z0 ad g L B n b y1 (y2 + 1) N1 nd gv H :=
  ⟨va_up ad 7 q1, M, ⟨h1, by omega⟩, va_up_ne _ _ (by decide), add2_fin (y2' := y2) (N2 := N2) hW (by omega) hn hb5 (fun z hz => hz) (by rw [va_up_ne _ _ (by decide), va_up_self]) (va_up_self _ _ _) (fun z z1 z2 => by rw [va_up_ne _ _ z2, va_up_ne _ _ z1]) (fun j => rowF_add ad 32 b j)⟩
theorem inp2 (hn : n ≤ 12) (hb5 : b < 5) (hN9 : N2 < 1000) (H : Heap) (h0 : 0 < b) (h1 : b < N2) (hW : wP D A (lvA n b (32 + b)) ad (va_up (va_up (ctC cs ad z0 g L B n b y1 y2 N1 N2 nd gv) 7 (.inl (cs 2, N2, rfs (va_up (rowF ad 32 b) b (some (ad (32 + b))))))) 2 (.inr (0, [.int (y2 + 1), .ref (if b = 0 then z0 else ad 7), .int (nI (b + 1))]))) H) : PO2 D cs A z0 ad g L B n b y1 (y2 + 1) N1 nd gv H :=
  ⟨va_up ad 7 (ad 7), N2, ⟨h1, hN9⟩, va_up_ne _ _ (by decide), add2_in (y2' := y2) hW (by omega) hn hb5 h0 (fun z hz => hz) (by rw [va_up_ne _ _ (by decide), va_up_self]) (by rw [va_up_self, if_neg (by omega)]) (fun z z1 z2 => by rw [va_up_ne _ _ z2, va_up_ne _ _ z1]) (fun j => rowF_in ad 32 b j)⟩
end ADL
