/-! ===== new objects, as the worlds ===== -/
def g0 : Nat → Int32 := fun k => if k = 2 then 3 else if k = 3 then 5 else if k = 4 then 6 else 0
def ctSh (cs : Nat → ClassId) (ad : Nat → Nat) (ct : Nat → va_E) : Nat → va_E := fun z => if z = 3 then .inr (3, [.ref (ad 4), .ref (ad 5)]) else if z = 4 then .inl (cs 0, 9, .inl (fun _ => 0)) else if z = 5 then .inl (cs 3, 12, rfs (fun j => if j < 12 then some (ad (8 + j)) else none)) else if 8 ≤ z ∧ z < 20 then .inl (cs 0, 9, .inl (fun _ => 0)) else ct z
theorem sheet_fin {D : va_G} {cs : Nat → ClassId} {A : Nat → Prop} {lv : Nat → Prop} {ad : Nat → Nat} {ct : Nat → va_E} {q4 q5 : Nat} {rw5 : Nat → Nat} {H : Heap} {a3 : va_E} (hno : ∀ z, lv z → z < 4)
    (h : wP D A (fun z => (lv z ∨ z = 4) ∨ z = 5 ∨ (8 ≤ z ∧ z < 20)) (adMn (va_up ad 4 q4) q5 rw5) (va_up (ctMn cs (va_up (va_up ct 4 (.inl (cs 0, 9, .inl (fun _ => 0)))) 3 a3) rw5) 3 (.inr (3, [.ref q4, .ref q5]))) H) :
    (∀ z, z < 4 → adMn (va_up ad 4 q4) q5 rw5 z = ad z) ∧ wP D A (fun z => lv z ∨ z = 4 ∨ z = 5 ∨ (8 ≤ z ∧ z < 20)) (adMn (va_up ad 4 q4) q5 rw5) (ctSh cs (adMn (va_up ad 4 q4) q5 rw5) ct) H := by
  refine ⟨fun z hz => by unfold adMn; rw [if_neg (by omega), if_neg (by omega), va_up_ne _ _ (by omega)], h.to (fun z hz => ⟨?_, rfl, ?_⟩)⟩
  · rcases hz with hz | hz | hz | hz
    · exact Or.inl (Or.inl hz)
    · exact Or.inl (Or.inr hz)
    · exact Or.inr (Or.inl hz)
    · exact Or.inr (Or.inr hz)
  · unfold ctSh
    by_cases e3 : z = 3
    · subst e3; rw [va_up_self]; rfl
    · rw [if_neg e3, va_up_ne _ _ e3]
      by_cases e4 : z = 4
      · subst e4; rfl
      · rw [if_neg e4]
        unfold ctMn
        by_cases e5 : z = 5
        · rw [if_pos e5, if_pos e5]
          congr 4
          funext j
          by_cases hj : j < 12
          · rw [if_pos hj, if_pos hj]
            unfold adMn
            rw [if_neg (by omega), if_pos (by omega), Nat.add_sub_cancel_left]
          · rw [if_neg hj, if_neg hj]
        · rw [if_neg e5, if_neg e5]
          by_cases e8 : 8 ≤ z ∧ z < 20
          · rw [if_pos e8, if_pos e8]
          · rw [if_neg e8, if_neg e8, va_up_ne _ _ e3, va_up_ne _ _ e4]
theorem pool_fin {D : va_G} {cs : Nat → ClassId} {A : Nat → Prop} {z0 o q1 q2 q3 : Nat} {ad : Nat → Nat} {H : Heap} {ct : Nat → va_E} (e0 : ad 0 = o) (e1 : ad 1 = q1) (e2 : ad 2 = q2) (e3 : ad 3 = q3)
    (h : wP D A (fun z => (((z = 0 ∨ z = 1) ∨ z = 2) ∨ z = 3) ∨ z = 4 ∨ z = 5 ∨ (8 ≤ z ∧ z < 20)) ad ct H)
    (h0 : ct 0 = .inr (4, [.ref q1, .ref q2, .ref q3, .int 0, .int 0, .int 3, .int 5, .int 6])) (h1 : ct 1 = .inr (0, [.int 0, .ref z0, .int 0])) (h2 : ct 2 = .inr (0, [.int 0, .ref z0, .int 0])) (h3 : ct 3 = .inr (3, [.ref (ad 4), .ref (ad 5)])) (h4 : ct 4 = .inl (cs 0, 9, .inl (fun _ => 0))) (h5 : ct 5 = .inl (cs 3, 12, rfs (fun j => if j < 12 then some (ad (8 + j)) else none))) (h8 : ∀ j, j < 12 → ct (8 + j) = .inl (cs 0, 9, .inl (fun _ => 0))) :
    RC D cs A z0 o g0 (fun _ _ => 0) (fun _ _ => 0) 0 0 H := by
  refine ⟨ad, 0, 0, 0, 0, fun _ => 0, fun _ _ => 0, e0, ⟨Nat.le_refl _, by decide⟩, ⟨Nat.le_refl _, by decide⟩, h.to (fun r hr => ⟨?_, rfl, ?_⟩)⟩
  · unfold lvC at hr; omega
  · rcases (show r = 0 ∨ r = 1 ∨ r = 2 ∨ r = 3 ∨ r = 4 ∨ r = 5 ∨ ∃ j, j < 12 ∧ r = 8 + j from by
      unfold lvC at hr
      by_cases h9 : 8 ≤ r
      · exact Or.inr (Or.inr (Or.inr (Or.inr (Or.inr (Or.inr ⟨r - 8, by omega, by omega⟩)))))
      · omega) with rfl | rfl | rfl | rfl | rfl | rfl | ⟨j, hj, rfl⟩
    · rw [h0, ← e1, ← e2, ← e3]; rfl
    · rw [h1]; rfl
    · rw [h2]; rfl
    · rw [h3]; rfl
    · rw [h4]; rfl
    · rw [h5]; rfl
    · rw [h8 j hj, ctC_rw hj]
theorem model_fin {D : va_G} {cs : Nat → ClassId} {A : Nat → Prop} {lv : Nat → Prop} {ad : Nat → Nat} {H : Heap} {ct : Nat → va_E} (o : Nat) (h : wP D A lv ad ct H) (hlv : ∀ r, r < 11 → lv r) (e0 : ad 0 = o) (hct : ∀ r, r < 11 → ct r = ctM cs ad g0 (fun _ _ => 0) (fun _ _ => 0) 0 0 0 r) :
    ∃ ad9 : Nat → Nat, ad9 0 = o ∧ wP D A lvM ad9 (ctM cs ad9 g0 (fun _ _ => 0) (fun _ _ => 0) 0 0 0) H :=
  ⟨ad, e0, h.to (fun r hr => ⟨hlv r hr, rfl, (hct r hr).symm⟩)⟩
def pI (D : va_G) (cs : Nat → ClassId) (A : Nat → Prop) (lv : Nat → Prop) (ad : Nat → Nat) (ct : Nat → va_E) (U : State) : Prop := va_K D vwCl (vT cs) U ∧ (∀ q, U.heap.size ≤ q → A q) ∧ wP D A lv ad ct U.heap
theorem pI_fb {D : va_G} {cs : Nat → ClassId} {A lv : Nat → Prop} {ad : Nat → Nat} {ct : Nat → va_E} {av : List Value} : FrameBlind (va_Pc av (pI D cs A lv ad ct)) := fun a U g mk q => ⟨q.1, va_K.moved (u := U) (U := U.calling g mk a) (Vm.Alike.refl U.vm) q.2.1, q.2.2.1, q.2.2.2⟩
def pCn (D : va_G) (cs : Nat → ClassId) (A : Nat → Prop) (z0 : Nat) (sa : Nat → Nat) (lv : Nat → Prop) (ad : Nat → Nat) (ct : Nat → va_E) (U : State) : Prop := pC D cs A z0 sa lv ad ct U ∧ va_Nw (.methodLinkNest RX3 21 yX2_init "Coverpool") U
theorem pCn_fb {D : va_G} {cs : Nat → ClassId} {A : Nat → Prop} {z0 : Nat} {sa : Nat → Nat} {lv : Nat → Prop} {ad : Nat → Nat} {ct : Nat → va_E} {av : List Value} : FrameBlind (va_Pc av (pCn D cs A z0 sa lv ad ct)) := fun a U g mk q => ⟨q.1, ⟨q.2.1.1.fb, q.2.1.2⟩, va_Nw.same (u := U) (U := U.calling g mk a) rfl rfl q.2.2⟩
