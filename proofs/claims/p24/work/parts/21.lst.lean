theorem wP.map {D : va_G} {A lv lv' : Nat → Prop} {ad ad' : Nat → Nat} {ct ct' : Nat → va_E} {H : Heap} (h : wP D A lv ad ct H) (f : Nat → Nat) (ht : ∀ r, lv' r → lv (f r) ∧ ad' r = ad (f r) ∧ ct' r = ct (f r)) (hi : ∀ r r', lv' r → lv' r' → f r = f r' → r = r') (h64 : ∀ r, lv' r → r < 64) : wP D A lv' ad' ct' H := by
  refine ⟨h64, fun r r' hr hr' e => ?_, fun r hr => ?_⟩
  · obtain ⟨a1, a2, -⟩ := ht r hr
    obtain ⟨b1, b2, -⟩ := ht r' hr'
    exact hi r r' hr hr' (h.2.1 _ _ a1 b1 (by rw [← a2, ← b2]; exact e))
  · obtain ⟨a1, a2, a3⟩ := ht r hr
    rw [a2, a3]
    exact h.2.2 _ a1
theorem mx_nI {a b : Nat} (ha : a < 1000) (hb : b < 1000) : (if nI a < nI b then nI b else nI a) = nI (max a b) := by
  by_cases h : a < b
  · rw [if_pos (nI_lt h (by omega)), Nat.max_eq_right (by omega)]
  · rw [if_neg (nI_nlt (by omega) (by omega)), Nat.max_eq_left (by omega)]
abbrev lvA (n b r0 : Nat) : Nat → Prop := fun r => lvC n b r ∨ r = r0
abbrev rfs (f : Nat → Option Nat) : (Nat → Int32) ⊕ (Nat → Int64) ⊕ (Nat → UInt32) ⊕ (Nat → UInt64) ⊕ (Nat → Option Nat) := .inr (.inr (.inr (.inr f)))
section LST
variable {D : va_G} {A lv9 : Nat → Prop} {H : Heap} {ct9 : Nat → va_E} {q M : Nat} {F1 : Nat → Option Nat}
variable {cs : Nat → ClassId} {ad : Nat → Nat} {z0 : Nat} {g : Nat → Int32} {L B : Nat → Nat → Int32} {n b : Nat} {y1 y2 y1' y2' : Int32} {N1 N2 : Nat} {nd : Nat → Int32} {gv : Nat → Nat → Int32} {r : Nat}
theorem ctC_y1 (h : r ≠ 1) : ctC cs ad z0 g L B n b y1 y2 N1 N2 nd gv r = ctC cs ad z0 g L B n b y1' y2 N1 N2 nd gv r := by
  unfold ctC
  simp only [if_neg h]
theorem ctC_y2 (h : r ≠ 2) : ctC cs ad z0 g L B n b y1 y2 N1 N2 nd gv r = ctC cs ad z0 g L B n b y1 y2' N1 N2 nd gv r := by
  unfold ctC
  simp only [if_neg h]
theorem ctC_mv1 (h1 : r ≠ 1) (h6 : r ≠ 6) : ctC cs (va_up ad 6 q) z0 g L B (n + 1) b y1 y2 M N2 nd gv r = ctC cs ad z0 g L B n b y1' y2 N1 N2 nd gv r := by
  have e : ∀ k, k ≠ 6 → va_up ad 6 q k = ad k := fun k hk => va_up_ne _ _ hk
  have e5 : (fun j => if j < 12 then some (va_up ad 6 q (8 + j)) else none) = fun j => if j < 12 then some (ad (8 + j)) else none := by funext j; rw [e (8 + j) (by omega)]
  have e6 : (fun j => if j < b then some (va_up ad 6 q (32 + j)) else none) = fun j => if j < b then some (ad (32 + j)) else none := by funext j; rw [e (32 + j) (by omega)]
  unfold ctC
  simp only [if_neg h1, if_neg h6, e 1 (by decide), e 2 (by decide), e 3 (by decide), e 4 (by decide), e 5 (by decide), e 7 (by decide), e5, e6]
theorem add1_fin (h : wP D A lv9 (va_up ad 38 q) ct9 H) (hb5 : b ≤ 5) (hn : n ≤ 12) (hN : n < 12) (hlv : ∀ z, lvA n b (20 + n) z ∨ z = 38 → lv9 z) (h38 : ct9 38 = .inl (cs 2, M, rfs F1)) (h1 : ct9 1 = .inr (0, [.int y1, .ref q, .int (nI (n + 1))])) (ho : ∀ z, z ≠ 38 → z ≠ 1 → ct9 z = ctC cs ad z0 g L B n b y1' y2 N1 N2 nd gv z) (hF : ∀ j, F1 j = if j < n + 1 then some (ad (20 + j)) else none) :
    wP D A (lvC (n + 1) b) (va_up ad 6 q) (ctC cs (va_up ad 6 q) z0 g L B (n + 1) b y1 y2 M N2 nd gv) H := by
  refine h.map (fun r => if r = 6 then 38 else r) (fun r hr => ?_) (fun r r' hr hr' e => ?_) (fun r hr => by unfold lvC at hr; omega)
  · by_cases e6 : r = 6
    · subst e6
      refine ⟨hlv _ (Or.inr rfl), by rw [if_pos rfl, va_up_self, va_up_self], ?_⟩
      rw [if_pos rfl, h38]
      show (Sum.inl (cs 2, M, rfs (fun j => if j < n + 1 then some (va_up ad 6 q (20 + j)) else none)) : va_E) = _
      congr 4
      funext j
      rw [hF j, va_up_ne _ _ (show 20 + j ≠ 6 by omega)]
    · have hr38 : r ≠ 38 := by unfold lvC at hr; omega
      rw [if_neg e6]
      refine ⟨hlv _ (Or.inl (by unfold lvA lvC; unfold lvC at hr; omega)), by rw [va_up_ne _ _ e6, va_up_ne _ _ hr38], ?_⟩
      by_cases e1 : r = 1
      · subst e1
        rw [h1]
        show (Sum.inr (0, [.int y1, .ref (if n + 1 = 0 then z0 else va_up ad 6 q 6), .int (nI (n + 1))]) : va_E) = _
        rw [if_neg (by omega), va_up_self]
      · rw [ho r hr38 e1]
        exact ctC_mv1 e1 e6
  · unfold lvC at hr hr'
    try dsimp only at e
    split at e <;> split at e <;> omega
theorem add1_in (h : wP D A lv9 ad ct9 H) (hb5 : b ≤ 5) (hn : n ≤ 12) (hN : n < 12) (h0 : 0 < n) (hlv : ∀ z, lvA n b (20 + n) z → lv9 z) (h6 : ct9 6 = .inl (cs 2, N1, rfs F1)) (h1 : ct9 1 = .inr (0, [.int y1, .ref (ad 6), .int (nI (n + 1))])) (ho : ∀ z, z ≠ 6 → z ≠ 1 → ct9 z = ctC cs ad z0 g L B n b y1' y2 N1 N2 nd gv z) (hF : ∀ j, F1 j = if j < n + 1 then some (ad (20 + j)) else none) :
    wP D A (lvC (n + 1) b) (va_up ad 6 (ad 6)) (ctC cs (va_up ad 6 (ad 6)) z0 g L B (n + 1) b y1 y2 N1 N2 nd gv) H := by
  refine h.to (fun r hr => ?_)
  have ea : ∀ k, va_up ad 6 (ad 6) k = ad k := fun k => by
    by_cases hk : k = 6
    · subst hk; rw [va_up_self]
    · rw [va_up_ne _ _ hk]
  refine ⟨hlv _ (by unfold lvA lvC; unfold lvC at hr; omega), ea r, ?_⟩
  by_cases e6 : r = 6
  · subst e6
    rw [h6]
    show (Sum.inl (cs 2, N1, rfs (fun j => if j < n + 1 then some (va_up ad 6 (ad 6) (20 + j)) else none)) : va_E) = _
    congr 4
    funext j
    rw [hF j, ea]
  · by_cases e1 : r = 1
    · subst e1
      rw [h1]
      show (Sum.inr (0, [.int y1, .ref (if n + 1 = 0 then z0 else va_up ad 6 (ad 6) 6), .int (nI (n + 1))]) : va_E) = _
      rw [if_neg (by omega), va_up_self]
    · rw [ho r e6 e1]
      exact ctC_mv1 e1 e6
theorem ctC_mv2 (h1 : r ≠ 2) (h6 : r ≠ 7) : ctC cs (va_up ad 7 q) z0 g L B n (b + 1) y1 y2 N1 M nd gv r = ctC cs ad z0 g L B n b y1 y2' N1 N2 nd gv r := by
  have e : ∀ k, k ≠ 7 → va_up ad 7 q k = ad k := fun k hk => va_up_ne _ _ hk
  have e5 : (fun j => if j < 12 then some (va_up ad 7 q (8 + j)) else none) = fun j => if j < 12 then some (ad (8 + j)) else none := by funext j; rw [e (8 + j) (by omega)]
  have e6 : (fun j => if j < n then some (va_up ad 7 q (20 + j)) else none) = fun j => if j < n then some (ad (20 + j)) else none := by funext j; rw [e (20 + j) (by omega)]
  unfold ctC
  simp only [if_neg h1, if_neg h6, e 1 (by decide), e 2 (by decide), e 3 (by decide), e 4 (by decide), e 5 (by decide), e 6 (by decide), e5, e6]
theorem add2_fin (h : wP D A lv9 (va_up ad 38 q) ct9 H) (hb5 : b ≤ 5) (hn : n ≤ 12) (hN : b < 5) (hlv : ∀ z, lvA n b (32 + b) z ∨ z = 38 → lv9 z) (h38 : ct9 38 = .inl (cs 2, M, rfs F1)) (h1 : ct9 2 = .inr (0, [.int y2, .ref q, .int (nI (b + 1))])) (ho : ∀ z, z ≠ 38 → z ≠ 2 → ct9 z = ctC cs ad z0 g L B n b y1 y2' N1 N2 nd gv z) (hF : ∀ j, F1 j = if j < b + 1 then some (ad (32 + j)) else none) :
    wP D A (lvC n (b + 1)) (va_up ad 7 q) (ctC cs (va_up ad 7 q) z0 g L B n (b + 1) y1 y2 N1 M nd gv) H := by
  refine h.map (fun r => if r = 7 then 38 else r) (fun r hr => ?_) (fun r r' hr hr' e => ?_) (fun r hr => by unfold lvC at hr; omega)
  · by_cases e6 : r = 7
    · subst e6
      refine ⟨hlv _ (Or.inr rfl), by rw [if_pos rfl, va_up_self, va_up_self], ?_⟩
      rw [if_pos rfl, h38]
      show (Sum.inl (cs 2, M, rfs (fun j => if j < b + 1 then some (va_up ad 7 q (32 + j)) else none)) : va_E) = _
      congr 4
      funext j
      rw [hF j, va_up_ne _ _ (show 32 + j ≠ 7 by omega)]
    · have hr38 : r ≠ 38 := by unfold lvC at hr; omega
      rw [if_neg e6]
      refine ⟨hlv _ (Or.inl (by unfold lvA lvC; unfold lvC at hr; omega)), by rw [va_up_ne _ _ e6, va_up_ne _ _ hr38], ?_⟩
      by_cases e1 : r = 2
      · subst e1
        rw [h1]
        show (Sum.inr (0, [.int y2, .ref (if b + 1 = 0 then z0 else va_up ad 7 q 7), .int (nI (b + 1))]) : va_E) = _
        rw [if_neg (by omega), va_up_self]
      · rw [ho r hr38 e1]
        exact ctC_mv2 e1 e6
  · unfold lvC at hr hr'
    try dsimp only at e
    split at e <;> split at e <;> omega
theorem add2_in (h : wP D A lv9 ad ct9 H) (hb5 : b ≤ 5) (hn : n ≤ 12) (hN : b < 5) (h0 : 0 < b) (hlv : ∀ z, lvA n b (32 + b) z → lv9 z) (h6 : ct9 7 = .inl (cs 2, N2, rfs F1)) (h1 : ct9 2 = .inr (0, [.int y2, .ref (ad 7), .int (nI (b + 1))])) (ho : ∀ z, z ≠ 7 → z ≠ 2 → ct9 z = ctC cs ad z0 g L B n b y1 y2' N1 N2 nd gv z) (hF : ∀ j, F1 j = if j < b + 1 then some (ad (32 + j)) else none) :
    wP D A (lvC n (b + 1)) (va_up ad 7 (ad 7)) (ctC cs (va_up ad 7 (ad 7)) z0 g L B n (b + 1) y1 y2 N1 N2 nd gv) H := by
  refine h.to (fun r hr => ?_)
  have ea : ∀ k, va_up ad 7 (ad 7) k = ad k := fun k => by
    by_cases hk : k = 7
    · subst hk; rw [va_up_self]
    · rw [va_up_ne _ _ hk]
  refine ⟨hlv _ (by unfold lvA lvC; unfold lvC at hr; omega), ea r, ?_⟩
  by_cases e6 : r = 7
  · subst e6
    rw [h6]
    show (Sum.inl (cs 2, N2, rfs (fun j => if j < b + 1 then some (va_up ad 7 (ad 7) (32 + j)) else none)) : va_E) = _
    congr 4
    funext j
    rw [hF j, ea]
  · by_cases e1 : r = 2
    · subst e1
      rw [h1]
      show (Sum.inr (0, [.int y2, .ref (if b + 1 = 0 then z0 else va_up ad 7 (ad 7) 7), .int (nI (b + 1))]) : va_E) = _
      rw [if_neg (by omega), va_up_self]
    · rw [ho r e6 e1]
      exact ctC_mv2 e1 e6
end LST
