/-! ===== the law's helpers: the class's world beside the one cell that takes the answer ===== -/
def OC (D : va_G) (cs : Nat → ClassId) (oo : Nat) (P : Int64 → Prop) (H : Heap) : Prop := ∃ f : Nat → Int64, P (f 0) ∧ wP D (fun q => q = oo) (fun z => z = 0) (fun _ => oo) (fun _ => .inl (cs 4, 1, .inr (.inl f))) H
theorem OC.weak {D : va_G} {cs : Nat → ClassId} {oo : Nat} {P : Int64 → Prop} {H : Heap} (h : OC D cs oo P H) : OC D cs oo (fun _ => True) H := by
  obtain ⟨f, -, h2⟩ := h
  exact ⟨f, trivial, h2⟩
theorem OC.keptA {D : va_G} {cs : Nat → ClassId} {oo : Nat} {P : Int64 → Prop} {A1 : Nat → Prop} {H H1 : Heap} (h : OC D cs oo P H) (hd : ¬ A1 oo) (hk : ∀ q, q < H.size → ¬ A1 q → H1[q]? = H[q]?) : OC D cs oo P H1 := by
  obtain ⟨f, h1, h2⟩ := h
  exact ⟨f, h1, h2.keptA (fun q hq => by rw [hq]; exact hd) hk⟩
def pH (D : va_G) (cs : Nat → ClassId) (A : Nat → Prop) (z0 : Nat) (sa : Nat → Nat) (oo : Nat) (lv : Nat → Prop) (ad : Nat → Nat) (ct : Nat → va_E) (U : State) : Prop :=
  pC D cs A z0 sa lv ad ct U ∧ OC D cs oo (fun _ => True) U.heap ∧ va_Nc xS xA U ∧ va_Nc xS xI U ∧ va_Nc xA xI U
theorem pH_fb {D : va_G} {cs : Nat → ClassId} {A : Nat → Prop} {z0 : Nat} {sa : Nat → Nat} {oo : Nat} {lv : Nat → Prop} {ad : Nat → Nat} {ct : Nat → va_E} {av : List Value} : FrameBlind (va_Pc av (pH D cs A z0 sa oo lv ad ct)) := fun a U g mk q => by
  obtain ⟨q0, ⟨q1, q2⟩, q3, q4, q5, q6⟩ := q
  exact ⟨q0, ⟨q1.fb, q2⟩, q3, q4.moved (u := U) (U := U.calling g mk a) (Vm.Alike.refl U.vm), q5.moved (u := U) (U := U.calling g mk a) (Vm.Alike.refl U.vm), q6.moved (u := U) (U := U.calling g mk a) (Vm.Alike.refl U.vm)⟩
theorem wP.joinO {D : va_G} {A lv : Nat → Prop} {ad : Nat → Nat} {ct : Nat → va_E} {oo : Nat} {e : va_E} {H : Heap} (h1 : wP D A lv ad ct H) (h2 : wP D (fun q => q = oo) (fun z => z = 0) (fun _ => oo) (fun _ => e) H) (hoo : ¬ A oo) (h40 : ∀ r, lv r → r ≠ 40) : wP D (fun q => A q ∨ q = oo) (fun r => lv r ∨ r = 40) (va_up ad 40 oo) (va_up ct 40 e) H := by
  refine ⟨fun r hr => ?_, fun r r' hr hr' he => ?_, fun r hr => ?_⟩
  · rcases hr with hr | hr
    · exact h1.1 r hr
    · omega
  · by_cases e1 : r = 40 <;> by_cases e2 : r' = 40
    · omega
    · have hr'' := hr'.resolve_right e2
      rw [e1, va_up_self, va_up_ne _ _ e2] at he
      exact absurd (h1.2.2 r' hr'').1 (by rw [← he]; exact hoo)
    · have hr'' := hr.resolve_right e1
      rw [e2, va_up_self, va_up_ne _ _ e1] at he
      exact absurd (h1.2.2 r hr'').1 (by rw [he]; exact hoo)
    · rw [va_up_ne _ _ e1, va_up_ne _ _ e2] at he
      exact h1.2.1 r r' (hr.resolve_right e1) (hr'.resolve_right e2) he
  · by_cases e1 : r = 40
    · subst e1
      rw [va_up_self, va_up_self]
      exact ⟨Or.inr rfl, (h2.2.2 0 rfl).2⟩
    · rw [va_up_ne _ _ e1, va_up_ne _ _ e1]
      have := h1.2.2 r (hr.resolve_right e1)
      exact ⟨Or.inl this.1, this.2⟩
theorem wP.splitO {D : va_G} {A lv : Nat → Prop} {ad : Nat → Nat} {ct : Nat → va_E} {oo : Nat} {e : va_E} {H : Heap} (h40 : ∀ r, lv r → r ≠ 40) (h : wP D (fun q => A q ∨ q = oo) (fun r => lv r ∨ r = 40) (va_up ad 40 oo) (va_up ct 40 e) H) : wP D A lv ad ct H ∧ wP D (fun q => q = oo) (fun z => z = 0) (fun _ => oo) (fun _ => e) H := by
  refine ⟨⟨fun r hr => h.1 r (Or.inl hr), fun r r' hr hr' he => ?_, fun r hr => ?_⟩, ⟨fun r hr => by omega, fun r r' hr hr' _ => by omega, fun r hr => ⟨rfl, ?_⟩⟩⟩
  · exact h.2.1 r r' (Or.inl hr) (Or.inl hr') (by rw [va_up_ne _ _ (h40 r hr), va_up_ne _ _ (h40 r' hr')]; exact he)
  · have h9 := h.2.2 r (Or.inl hr)
    rw [va_up_ne _ _ (h40 r hr), va_up_ne _ _ (h40 r hr)] at h9
    refine ⟨h9.1.resolve_right (fun q => ?_), h9.2⟩
    exact h40 r hr (h.2.1 r 40 (Or.inl hr) (Or.inr rfl) (by rw [va_up_ne _ _ (h40 r hr), va_up_self]; exact q))
  · have h9 := h.2.2 40 (Or.inr rfl)
    rw [va_up_self, va_up_self] at h9
    exact h9.2
theorem lvC_40 {n b : Nat} (hn : n ≤ 12) (hb : b ≤ 5) : ∀ r, lvC n b r → r ≠ 40 := fun r hr => by unfold lvC at hr; omega
section WBO
variable {p : Program} {l : Launch} {e : Env} {R : Room} {s : State} {m : MethodId} {args : Array Value} {below : List Frame} {meth : Method} {c : Code} {H : Heap} {locs : List Loc} {cells slots : Nat} {Q : State → Prop}
variable {cc : ByteArray} {pc : Nat} {ls : Array Slot} {rest : List Value} {D : va_G} {A A0 : Nat → Prop} {tys : List (ClassId × FieldType)} {H0 : Heap} {lv : Nat → Prop} {ad : Nat → Nat} {ct : Nat → va_E}
theorem wb_lald (hexec : p.tables.exec = Jvm.exec) (hb : c.code = cc) (hK : va_K D vwCl tys s) (hW : wP D A lv ad ct H) (r : Nat) (hr : lv r) (t0 : Nat) {a : Nat} (ha : a = ad r) {cA : ClassId} {n : Nat} {f : Nat → Int64} (he : ct r = .inl (cA, n, .inr (.inl f))) (ht : tys[t0]? = some (cA, .long)) {i : Int32} (j : Nat) (hi : i = nI j) (hj : j < n) (hn : n < 1000) (hdg : decode cc pc = .ok (.laload, 1))
    (kk : W p l e R s m args below meth c H locs cells slots Q (F0 m (pc + 1) ls (.long (f j) :: rest))) : W p l e R s m args below meth c H locs cells slots Q (F0 m pc ls (.int i :: .ref a :: rest)) := by
  subst hi
  subst ha
  obtain ⟨ws, h0, -, hP, hD, -⟩ := hW.open_ hr
  exact va_lald hexec hb hK hP 0 t0 (by rw [h0, he]) ht (vp_in_nI hj (by omega)) hdg (by rw [nI_clamp (by omega)]; exact kk)
theorem wb_last (hexec : p.tables.exec = Jvm.exec) (hb : c.code = cc) (hK : va_K D vwCl tys s) (hW : wP D A lv ad ct H) (hS : va_S A H0 H locs) (r : Nat) (hr : lv r) (t0 : Nat) {a : Nat} (ha : a = ad r) {cA : ClassId} {n : Nat} {f : Nat → Int64} (he : ct r = .inl (cA, n, .inr (.inl f))) (ht : tys[t0]? = some (cA, .long)) {i : Int32} {x : Int64} (j : Nat) (hi : i = nI j) (hj : j < n) (hn : n < 1000) (hdg : decode cc pc = .ok (.lastore, 1))
    (kk : ∀ (H1 : Heap) (locs1 : List Loc), wP D A lv ad (va_up ct r (.inl (cA, n, .inr (.inl (vp_updL f j x))))) H1 → va_S A H0 H1 locs1 → W p l e R s m args below meth c H1 locs1 cells slots Q (F0 m (pc + 1) ls rest)) : W p l e R s m args below meth c H locs cells slots Q (F0 m pc ls (.long x :: .int i :: .ref a :: rest)) := by
  subst hi
  subst ha
  obtain ⟨ws, h0, -, hP, hD, back⟩ := hW.open_ hr
  refine va_last hexec hb hK hP hD hS 0 t0 (by rw [h0, he]) ht (vp_in_nI hj (by omega)) hdg fun H1 locs1 hP1 _ hS1 => ?_
  rw [nI_clamp (by omega)] at hP1
  exact kk H1 locs1 (back _ _ hP1) hS1
end WBO
/-- the answer's cell takes a number; the class's world stays -/
theorem RC_out {p : Program} {l : Launch} {e : Env} {R : Room} {s : State} {m : MethodId} {args : Array Value} {below : List Frame} {meth : Method} {c : Code} {H : Heap} {locs : List Loc} {cells slots : Nat} {Q : State → Prop} {cc : ByteArray} {pc : Nat} {ls : Array Slot} {rest : List Value} {D : va_G} {A : Nat → Prop} {H0 : Heap} {cs : Nat → ClassId} {z0 o oo : Nat} {g : Nat → Int32} {L B : Nat → Nat → Int32} {n b : Nat}
    (hexec : p.tables.exec = Jvm.exec) (hb : c.code = cc) (hK : va_K D vwCl (vT cs) s) (hn : n ≤ 12) (hb5 : b ≤ 5) (hoo : ¬ A oo) (hR : RC D cs A z0 o g L B n b H) (hO : OC D cs oo (fun _ => True) H) (hS : va_S (fun q => A q ∨ q = oo) H0 H locs) {x : Int64} (hdg : decode cc pc = .ok (.lastore, 1))
    (kk : ∀ (H1 : Heap) (locs1 : List Loc), RC D cs A z0 o g L B n b H1 → OC D cs oo (fun v => v = x) H1 → va_S (fun q => A q ∨ q = oo) H0 H1 locs1 → W p l e R s m args below meth c H1 locs1 cells slots Q (F0 m (pc + 1) ls rest)) : W p l e R s m args below meth c H locs cells slots Q (F0 m pc ls (.long x :: .int 0 :: .ref oo :: rest)) := by
  obtain ⟨ad, y1, y2, N1, N2, nd, gv, rfl, h1, h2, hW⟩ := hR
  obtain ⟨f, -, hf⟩ := hO
  refine wb_last hexec hb hK (hW.joinO hf hoo (lvC_40 hn hb5)) hS 40 (Or.inr rfl) 4 (va_up_self _ _ _).symm (va_up_self _ _ _) rfl 0 nI_0.symm (by decide) (by decide) hdg (fun H1 locs1 hW1 hS1 => ?_)
  rw [up_up] at hW1
  obtain ⟨a1, a2⟩ := wP.splitO (lvC_40 hn hb5) hW1
  exact kk H1 locs1 ⟨ad, y1, y2, N1, N2, nd, gv, rfl, h1, h2, a1⟩ ⟨_, pk_uLs, a2⟩ hS1
theorem kIn_02 {x : Int32} (h : kIn 0 2 x = 0) : ∃ t, t < 3 ∧ x = nI t := by
  unfold kIn at h
  by_cases q : wi x 0 2
  · obtain ⟨j, hj, rfl⟩ := nI_of q.1
    refine ⟨j, ?_, rfl⟩
    have := q.2
    rcases Nat.lt_or_ge j 3 with z | z
    · exact z
    · exact absurd (show nI 2 < nI j from nI_lt (by omega) (by omega)) this
  · rw [if_neg q] at h; exact absurd h (by decide)
theorem lack_eq {g : Nat → Int32} {L B : Nat → Nat → Int32} {n b : Nat} (h : Bd g L B n b) (nd : Nat → Int32) (gv : Nat → Nat → Int32) {x : Int32} (hk : kIn 0 2 x = 0) : (cMost (fsN nd g B b) (gvS gv g L n) x (mPool L 1 n) 9).toInt64 = mLack g L B n b x (mPool L 1 n) := by
  obtain ⟨t, ht, rfl⟩ := kIn_02 hk
  exact cMost_eq h nd gv (okS_pool L 1 h.1) ht
theorem swap_iff {g : Nat → Int32} {L B : Nat → Nat → Int32} {n b : Nat} (h : Bd g L B n b) (nd : Nat → Int32) (gv : Nat → Nat → Int32) {x y : Int32} (hk : kSwap L n x y = 0) : cSwap (fsN nd g B b) (gvS gv g L n) (mPool L 1 n) (thenOf L n x y) ↔ canSwap g L B n b x y := by
  obtain ⟨-, h2⟩ := kSwap_0 hk
  rcases isIx_cases n (by have := h.1; omega) y with q | ⟨k, hk9, rfl⟩
  · exact absurd h2 q
  · exact cSwap_eq h nd gv (okS_pool L 1 h.1) (okS_then L h.1 x hk9)
theorem kAddLoan_lt {g : Nat → Int32} {n : Nat} {x y z w : Int32} (hn : n ≤ 12) (h : kAddLoan g n x y z w = 0) : n + 1 ≤ 12 := by
  unfold kAddLoan at h
  split at h
  · split at h
    · exact absurd h (by decide)
    · next q2 =>
      rcases Nat.lt_or_ge n 12 with z | z
      · exact z
      · exact absurd (show nI 12 ≤ nI n from nI_le z (by omega)) q2
  · exact absurd h (by decide)
theorem kAddBond_lt {g : Nat → Int32} {b : Nat} {x y : Int32} (hb : b ≤ 5) (h : kAddBond g b x y = 0) : b + 1 ≤ 5 := by
  unfold kAddBond at h
  split at h
  · split at h
    · exact absurd h (by decide)
    · next q2 =>
      rcases Nat.lt_or_ge b 5 with z | z
      · exact z
      · exact absurd (show nI 5 ≤ nI b from nI_le z (by omega)) q2
  · exact absurd h (by decide)
