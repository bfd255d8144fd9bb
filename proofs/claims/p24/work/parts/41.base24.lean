/-! ===== the law of p24: what its helpers take and leave ===== -/
def pR (D : va_G) (cs : Nat → ClassId) (A : Nat → Prop) (z0 : Nat) (sa : Nat → Nat) (o : Nat) (g : Nat → Int32) (L B : Nat → Nat → Int32) (n b : Nat) (U : State) : Prop :=
  Ev D cs A z0 sa U ∧ RC D cs A z0 o g L B n b U.heap ∧ va_Nc xS xA U ∧ va_Nc xS xI U ∧ va_Nc xA xI U
theorem pR_fb {D : va_G} {cs : Nat → ClassId} {A : Nat → Prop} {z0 : Nat} {sa : Nat → Nat} {o : Nat} {g : Nat → Int32} {L B : Nat → Nat → Int32} {n b : Nat} {av : List Value} : FrameBlind (va_Pc av (pR D cs A z0 sa o g L B n b)) := fun a U g mk q => by
  obtain ⟨q0, q1, q2, q4, q5, q6⟩ := q
  exact ⟨q0, q1.fb, q2, q4.moved (u := U) (U := U.calling g mk a) (Vm.Alike.refl U.vm), q5.moved (u := U) (U := U.calling g mk a) (Vm.Alike.refl U.vm), q6.moved (u := U) (U := U.calling g mk a) (Vm.Alike.refl U.vm)⟩
theorem RC.keptA {D : va_G} {cs : Nat → ClassId} {A A1 : Nat → Prop} {z0 o : Nat} {g : Nat → Int32} {L B : Nat → Nat → Int32} {n b : Nat} {H H1 : Heap} (h : RC D cs A z0 o g L B n b H) (hd : ∀ q, A q → ¬ A1 q) (hk : ∀ q, q < H.size → ¬ A1 q → H1[q]? = H[q]?) : RC D cs A z0 o g L B n b H1 := by
  obtain ⟨ad, y1, y2, N1, N2, nd, gv, h1, h2, h3, h4⟩ := h
  exact ⟨ad, y1, y2, N1, N2, nd, gv, h1, h2, h3, h4.keptA hd hk⟩
theorem Ev.narrow {D : va_G} {cs : Nat → ClassId} {A A' : Nat → Prop} {z0 : Nat} {sa : Nat → Nat} {U : State} (h : Ev D cs A z0 sa U) (hA : ∀ q, A' q → A q) (h2 : ∀ q, U.heap.size ≤ q → A' q) : Ev D cs A' z0 sa U :=
  ⟨h.1, h2, h.2.2.1.narrow hA, h.2.2.2.1.narrow hA, h.2.2.2.2.1.narrow hA, h.2.2.2.2.2.1.narrow hA, h.2.2.2.2.2.2⟩
/-- the class's part of the heap; the law's arrays lie in AL -/
abbrev AC (sz : Nat) (AL : Nat → Prop) : Nat → Prop := fun q => sz ≤ q ∧ ¬ AL q
theorem Ev.law {D : va_G} {cs : Nat → ClassId} {AL : Nat → Prop} {z0 sz1 : Nat} {sa : Nat → Nat} {s U : State} {H : Heap} {locs : List Loc} (h : Ev D cs (fun q => s.heap.size ≤ q) z0 sa s) (hS : va_S (fun q => s.heap.size ≤ q) s.heap H locs) (hsz : sz1 ≤ H.size) (hAL : ∀ q, AL q → s.heap.size ≤ q ∧ q < sz1) (hW : s.WarmedH U.vm) (hU : U.heap = H) : Ev D cs (AC s.heap.size AL) z0 sa U :=
  (h.at (fun _ q => q) hS hW hU).narrow (fun q hq => hq.1) (fun q hq => by
    rw [hU] at hq
    refine ⟨Nat.le_trans hS.1 hq, fun z => ?_⟩
    have := (hAL q z).2; omega)
abbrev lvL3 : Nat → Prop := fun r => r < 3
abbrev ctL (cs : Nat → ClassId) (fa fd fs : Nat → Int32) : Nat → va_E := fun r => match r with
  | 0 => .inl (cs 0, 12, .inl fa)
  | 1 => .inl (cs 0, 5, .inl fd)
  | _ => .inl (cs 0, 5, .inl fs)
section WBL
variable {p : Program} {l : Launch} {e : Env} {R : Room} {s : State} {m : MethodId} {args : Array Value} {below : List Frame} {meth : Method} {c : Code} {H : Heap} {locs : List Loc} {cells slots : Nat} {Q : State → Prop}
variable {cc : ByteArray} {pc : Nat} {ls : Array Slot} {rest : List Value} {D : va_G} {A A0 : Nat → Prop} {tys : List (ClassId × FieldType)} {H0 : Heap} {lv : Nat → Prop} {ad : Nat → Nat} {ct : Nat → va_E}
/-- an int goes into an array of the law: all else stays -/
theorem wb_iastL (hexec : p.tables.exec = Jvm.exec) (hb : c.code = cc) (hK : va_K D vwCl tys s) (hW : wP D A lv ad ct H) (hS : va_S A0 H0 H locs) (hAA : ∀ q, A q → A0 q) (r : Nat) (hr : lv r) (t0 : Nat) {cA : ClassId} {n : Nat} {f : Nat → Int32} (he : ct r = .inl (cA, n, .inl f)) (ht : tys[t0]? = some (cA, .int)) {i x : Int32} (j : Nat) (hi : i = nI j) (hj : j < n) (hn : n < 1000) (hdg : decode cc pc = .ok (.iastore, 1))
    (kk : ∀ (H1 : Heap) (locs1 : List Loc), wP D A lv ad (va_up ct r (.inl (cA, n, .inl (upd f j x)))) H1 → va_S A0 H0 H1 locs1 → H.size ≤ H1.size → (∀ q, q < H.size → ¬ (fun z => z = ad r) q → H1[q]? = H[q]?) → W p l e R s m args below meth c H1 locs1 cells slots Q (F0 m (pc + 1) ls rest)) : W p l e R s m args below meth c H locs cells slots Q (F0 m pc ls (.int x :: .int i :: .ref (ad r) :: rest)) := by
  subst hi
  obtain ⟨ws, h0, -, hP, hD, back⟩ := hW.open_ hr
  have ha : ws[0]? = some (ad r, .inl (cA, n, .inl f)) := by rw [h0, he]
  have hin : vp_in (nI j) n := vp_in_nI hj (by omega)
  refine W.iast hexec hb (hP 0 _ ha) ((hK.2 t0 _ ht).1 n (fun j => .int (f j))) (fun q => by cases q) (by show ¬ (_ < 0 ∨ (arrV _ _ _).slots.size ≤ _); rw [arrV_size]; exact hin) rfl rfl hdg fun H1 e z oq => ?_
  refine kk H1 _ (back _ _ (hP.set hD ha ?_ oq)) (hS.put z oq (hAA _ (hD.2 0 _ ha))) (Nat.le_of_eq z.symm) (fun q _ hq => oq q hq)
  show H1[ad r]? = some (vp_cell _ _)
  rw [e]
  rw [vp_cell_i, vp_cell_i, arrV_store]
  congr 2
  funext q
  rw [nI_clamp (by omega)]
  by_cases hq : q = j
  · subst hq
    simp [updV, upd]
  · simp [updV, upd, hq]
end WBL
