section WCP
variable {p : Program} {l : Launch} {e : Env} {R : Room} {s : State} {m : MethodId} {args : Array Value} {below : List Frame} {meth : Method} {c : Code} {H : Heap} {locs : List Loc} {cells slots : Nat} {Q : State → Prop}
variable {cc : ByteArray} {pc : Nat} {ls : Array Slot} {rest : List Value} {D : va_G} {A : Nat → Prop} {tys : List (ClassId × FieldType)} {H0 : Heap} {lv : Nat → Prop} {ad : Nat → Nat} {ct : Nat → va_E}
theorem wb_alenE (hexec : p.tables.exec = Jvm.exec) (hb : c.code = cc) (hK : va_K D vwCl tys s) (hW : wP D A lv ad ct H) (r : Nat) (hr : lv r) (t0 : Nat) {cA : ClassId} {n a : Nat} {x : (Nat → Int32) ⊕ (Nat → Int64) ⊕ (Nat → UInt32) ⊕ (Nat → UInt64) ⊕ (Nat → Option Nat)} (ha : a = ad r) (he : ct r = .inl (cA, n, x)) {ty : FieldType} (ht : tys[t0]? = some (cA, ty)) (hdg : decode cc pc = .ok (.arraylength, 1))
    (kk : W p l e R s m args below meth c H locs cells slots Q (F0 m (pc + 1) ls (.int (nI n) :: rest))) : W p l e R s m args below meth c H locs cells slots Q (F0 m pc ls (.ref a :: rest)) := by
  subst ha
  exact wb_alen hexec hb hK hW r hr t0 he ht hdg kk
theorem wb_copy (hexec : p.tables.exec = Jvm.exec) (hb : c.code = cc) (hml : c.maxLocals = ls.size) {own : String} {index : Nat} (hown : s.vm.findClass own = some m.cls) (hlink : (Cond.methodLink own index arraycopyName).before args s = true) (hnat : (Cond.native arraycopyName).before args s = true) (hstat : (Cond.static arraycopyName).before args s = true) (hini : (Cond.initialized "java/lang/System").before args s = true)
    (hK : va_K D vwCl tys s) (hW : wP D A lv ad ct H) (hS : va_S A H0 H locs) (r r1 t0 : Nat) (hr : lv r) (hr1 : lv r1) {c0 : ClassId} {N M a0 a1 ci : Nat} {q : vw_C} {f g : Nat → Option Nat} {E : String} (ha0 : a0 = ad r) (ha1 : a1 = ad r1) (he : ct r = .inl (c0, N, rfs f)) (he1 : ct r1 = .inl (c0, M, rfs g)) (ht0 : tys[t0]? = some (c0, .object E)) (hN : N < 1000) (hM : N ≤ M) (hc : vwCl[ci]? = some q)
    (hel : ∀ i : Nat, i < N → ∀ y : Nat, f i = some y → ∃ (z : Nat) (vs : List Value), lv z ∧ ad z = y ∧ ct z = .inr (ci, vs)) (hca : va_Nw (.castable q.1 E) s)
    (hframes : 1 ≤ R.frames) (hlocals : (rest.map fun v => v.category).sum + (nativeFrameWords "java/lang/System" "arraycopy" 5 + 11) ≤ R.locals) (hdg : decode cc pc = .ok (.invokestatic index, 3))
    (kk : ∀ (H1 : Heap) (locs1 : List Loc), wP D A lv ad (va_up ct r1 (.inl (c0, M, rfs (va_cpy f g 0 0 N)))) H1 → va_S A H0 H1 locs1 → W p l e R s m args below meth c H1 locs1 cells slots Q (F0 m (pc + 3) ls rest)) : W p l e R s m args below meth c H locs cells slots Q (F0 m pc ls (.int (nI N) :: .int 0 :: .ref a1 :: .int 0 :: .ref a0 :: rest)) := by
  subst ha0
  subst ha1
  obtain ⟨ws, h0, hall, hP, hD, back⟩ := hW.open_ hr1
  obtain ⟨k0, hk0⟩ := hall r hr
  have hcl : (nI N).toNatClampNeg = N := nI_clamp (by omega)
  have h00 : (0 : Int32).toNatClampNeg = 0 := rfl
  refine va_copyq (C := q.1) hexec hb hml hown hlink hnat hstat hini hK hP hD hS k0 0 t0 t0 (by rw [hk0, he]) (by rw [h0, he1]) ht0 ht0 (by decide) (by decide) (nI_pos (by omega)) (by rw [hcl, h00]; omega) (by rw [hcl, h00]; omega) (fun i hi y hy => ?_) (fun comp c0 f1 f2 => ?_) hframes hlocals hdg (fun H1 locs1 hP1 _ hS1 => ?_)
  · rw [hcl] at hi
    rw [h00, Nat.zero_add] at hy
    obtain ⟨z, vs, z1, rfl, z3⟩ := hel i hi y hy
    exact wb_recv hK hW z1 hc z3
  · obtain ⟨d0, d1, g1, g2, g3⟩ := Cond.castable_spec (va_Nw.use (A := #[]) rfl hca)
    cases g1.symm.trans f2
    cases g2.symm.trans f1
    exact g3
  · rw [hcl, h00] at hP1
    exact kk H1 locs1 (back _ _ hP1) hS1
end WCP
theorem cpy_0 {f : Nat → Option Nat} {N : Nat} : va_cpy f (fun _ => none) 0 0 N = fun j => if j < N then f j else none := by
  funext k
  unfold va_cpy
  by_cases h : k < N
  · rw [if_pos ⟨Nat.zero_le _, by omega⟩, if_pos h]; simp
  · rw [if_neg (by omega), if_neg h]
def pCm (D : va_G) (cs : Nat → ClassId) (A : Nat → Prop) (z0 : Nat) (sa : Nat → Nat) (lv : Nat → Prop) (ad : Nat → Nat) (ct : Nat → va_E) (mi : Nat) (U : State) : Prop := pC D cs A z0 sa lv ad ct U ∧ va_Mi "[Ljava/lang/Object;" mi U
theorem pCm_fb {D : va_G} {cs : Nat → ClassId} {A : Nat → Prop} {z0 : Nat} {sa : Nat → Nat} {lv : Nat → Prop} {ad : Nat → Nat} {ct : Nat → va_E} {mi : Nat} {av : List Value} : FrameBlind (va_Pc av (pCm D cs A z0 sa lv ad ct mi)) := fun a U g mk q => ⟨q.1, ⟨q.2.1.1.fb, q.2.1.2⟩, q.2.2.moved (U := U.calling g mk a) (Vm.Alike.refl U.vm)⟩
