/-! ===== the law's start: nothing in, nothing owed ===== -/
theorem lack0 (set : Int32) {t : Nat} (ht : t < 3) : mLack g0 (fun _ _ => 0) (fun _ _ => 0) 0 0 (nI t) set = 0 := by
  have hbd := Iv_0.bd
  have hT : ∀ ln, TT g0 (fun _ _ => 0) (fun _ _ => 0) 0 0 set ln ≤ 0 := fun ln => by
    have h1 := (nB_b hbd ln).2
    unfold TT
    show _ + 0 - 0 ≤ (0 : Int)
    omega
  apply Int64.toInt_inj.mp
  rw [mLack_int hbd set ht, show (0 : Int64).toInt = 0 from rfl]
  rcases (show t = 0 ∨ t = 1 ∨ t = 2 by omega) with rfl | rfl | rfl
  · rw [mxL_0]; have := hT 0; omega
  · rw [mxL_1]; have := hT 1; have := hT 2; omega
  · rw [mxL_2]; have := hT 3; have := hT 4; have := hT 5; have := hT 6; have := hT 7; have := hT 8; omega
theorem safe0 : mSafe g0 (fun _ _ => 0) (fun _ _ => 0) 0 0 (mPool (fun _ _ => 0) 1 0) :=
  ⟨lack0 _ (t := 0) (by decide), lack0 _ (t := 1) (by decide), lack0 _ (t := 2) (by decide)⟩
theorem LV_0 (fa fd fs : Nat → Int32) : LV fa fd fs g0 (fun _ _ => 0) (fun _ _ => 0) 0 0 0 :=
  ⟨Iv_0, by decide, fun j hj => absurd hj (Nat.not_lt_zero j), fun j hj => absurd hj (Nat.not_lt_zero j), fun j hj => absurd hj (Nat.not_lt_zero j), fun j hj => absurd hj (Nat.not_lt_zero j), fun j hj => absurd hj (Nat.not_lt_zero j)⟩
theorem va_S.tr {A A2 : Nat → Prop} {H0 H H1 : Heap} {locs1 : List Loc} (h : va_S A H0 H []) (h2 : va_S A2 H H1 locs1) (hA : ∀ q, A2 q → A q) : va_S A H0 H1 locs1 :=
  ⟨Nat.le_trans h.1 h2.1, fun q h1 h3 => (h2.2.1 q (Nat.lt_of_lt_of_le h1 h.1) (fun z => h3 (hA q z))).trans (h.2.1 q h1 h3), fun x hx => hA _ (h2.2.2 x hx)⟩
theorem va_S.no {A : Nat → Prop} {H0 H : Heap} {locs : List Loc} (h : va_S A H0 H locs) : va_S A H0 H [] := ⟨h.1, h.2.1, fun _ h => by cases h⟩
theorem wP.one {D : va_G} {A : Nat → Prop} {ad : Nat → Nat} {ct : Nat → va_E} {q : Nat} {e : va_E} {H : Heap} (h : wP D A (fun z => False ∨ z = 0) (va_up ad 0 q) (va_up ct 0 e) H) : wP D A (fun z => z = 0) (fun _ => q) (fun _ => e) H :=
  h.to (fun r hr => by
    cases (show r = 0 from hr)
    exact ⟨Or.inr rfl, (va_up_self ad 0 q).symm, (va_up_self ct 0 e).symm⟩)
