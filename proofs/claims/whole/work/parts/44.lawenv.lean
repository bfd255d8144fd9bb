/-! ===== the law: what holds at its loop's head ===== -/
abbrev AC (sz : Nat) (AM : Nat → Prop) (oo : Nat) : Nat → Prop := fun q => sz ≤ q ∧ ¬ AM q ∧ q ≠ oo
theorem sel_n {α : Type} {k : Int32} {x y : α} (h : ¬ k = 0) : sel k x y = y := if_neg h
theorem RC.keptA {D : va_G} {cs : Nat → ClassId} {A A1 : Nat → Prop} {z0 o : Nat} {g : Nat → Int32} {L B : Nat → Nat → Int32} {n b : Nat} {H H1 : Heap} (h : RC D cs A z0 o g L B n b H) (hd : ∀ q, A q → ¬ A1 q) (hk : ∀ q, q < H.size → ¬ A1 q → H1[q]? = H[q]?) : RC D cs A z0 o g L B n b H1 := by
  obtain ⟨ad, y1, y2, N1, N2, nd, gv, h1, h2, h3, h4⟩ := h
  exact ⟨ad, y1, y2, N1, N2, nd, gv, h1, h2, h3, h4.keptA hd hk⟩
theorem Ev.narrow {D : va_G} {cs : Nat → ClassId} {A A' : Nat → Prop} {z0 : Nat} {sa : Nat → Nat} {U : State} (h : Ev D cs A z0 sa U) (hA : ∀ q, A' q → A q) (h2 : ∀ q, U.heap.size ≤ q → A' q) : Ev D cs A' z0 sa U :=
  ⟨h.1, h2, h.2.2.1.narrow hA, h.2.2.2.1.narrow hA, h.2.2.2.2.1.narrow hA, h.2.2.2.2.2.1.narrow hA, h.2.2.2.2.2.2⟩
theorem Ev.law {D : va_G} {cs : Nat → ClassId} {AM : Nat → Prop} {z0 oo sz1 : Nat} {sa : Nat → Nat} {s U : State} {H : Heap} {locs : List Loc} (h : Ev D cs (fun q => s.heap.size ≤ q) z0 sa s) (hS : va_S (fun q => s.heap.size ≤ q) s.heap H locs) (hsz : sz1 ≤ H.size) (hAM : ∀ q, AM q → s.heap.size ≤ q ∧ q < sz1) (hoo : s.heap.size ≤ oo ∧ oo < sz1 ∧ ¬ AM oo) (hW : s.WarmedH U.vm) (hU : U.heap = H) : Ev D cs (AC s.heap.size AM oo) z0 sa U :=
  (h.at (fun _ q => q) hS hW hU).narrow (fun q hq => hq.1) (fun q hq => by
    rw [hU] at hq
    refine ⟨Nat.le_trans hS.1 hq, fun z => ?_, fun z => ?_⟩
    · have := (hAM q z).2; omega
    · have := hoo.2.1; omega)
def LI (D : va_G) (cs : Nat → ClassId) (s : State) (AM : Nat → Prop) (adM : Nat → Nat) (z0 o oo sz1 b9 : Nat) (g : Nat → Int32) (L B : Nat → Nat → Int32) (n b : Nat) (k9 i9 : Nat) (H : Heap) (locs : List Loc) (ls : Array Slot) : Prop :=
  RC D cs (AC s.heap.size AM oo) z0 o g L B n b H ∧ (∃ t : Int32, wP D AM lvM adM (ctM cs adM g L B n b t) H) ∧ OC D cs oo (fun _ => True) H ∧ Iv g L B n b ∧ (g 0).toInt ≤ 24 * (k9 : Int) ∧ sz1 ≤ H.size ∧ va_S (fun q => s.heap.size ≤ q) s.heap H locs ∧ lv_has ls 8 [(0, .ref b9), (1, .ref o), (2, .ref (adM 0)), (3, .ref oo), (4, .int (nI i9))]
theorem pick1 {α : Type} {P : Prop} {i : Decidable P} {T : α → Prop} {X Y : α} (h : T (@ite α P i X Y)) (hP : P) : T X := by
  rw [if_pos hP] at h
  exact h
theorem pick2 {α : Type} {P : Prop} {i : Decidable P} {T : α → Prop} {X Y : α} (h : T (@ite α P i X Y)) (hP : ¬ P) : T Y := by
  rw [if_neg hP] at h
  exact h
