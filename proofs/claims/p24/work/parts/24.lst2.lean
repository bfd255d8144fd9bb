theorem nI_sub1 (n : Nat) : nI (n + 1) - nI n = nI 1 := by
  rw [← nI_add, Int32.add_comm]
  exact Int32.add_sub_cancel _ _
theorem nI_shr1 : ∀ n, n < 13 → nI n >>> ((1 : Int32) &&& 31) = nI (n / 2) := by decide
section WCE
variable {p : Program} {l : Launch} {e : Env} {R : Room} {s : State} {m : MethodId} {args : Array Value} {below : List Frame} {meth : Method} {c : Code} {H : Heap} {locs : List Loc} {cells slots : Nat} {Q : State → Prop}
variable {cc : ByteArray} {pc : Nat} {ls : Array Slot} {rest : List Value} {D : va_G} {A : Nat → Prop} {tys : List (ClassId × FieldType)} {H0 : Heap} {lv : Nat → Prop} {ad : Nat → Nat} {ct : Nat → va_E}
theorem wb_getE (hexec : p.tables.exec = Jvm.exec) (hb : c.code = cc) {own ref C : String} {T : u_T} {N ci index : Nat} {Ts : List Cond} (hts : ∀ w ∈ Ts, w.before args s = true) (hin : ∀ w ∈ u_ws C T N, w ∈ Ts) (hown : s.vm.findClass own = some m.cls) (hK : va_K D vwCl tys s) (hW : wP D A lv ad ct H) (r : Nat) {a : Nat} (ha : a = ad r) (hr : lv r) {fs : List Value} (he : ct r = .inr (ci, fs)) (hc : vwCl[ci]? = some (C, T, N)) (k : Nat) (hk : k < N) (hlink : (Cond.fieldLink own index ref (T k).2.1 (T k).2.2.1).before args s = true) (hsame : ∀ x, s.fieldFound? (T k).1 (T k).2.1 (T k).2.2.1 = some x → s.fieldFound? ref (T k).2.1 (T k).2.2.1 = some x) {v : Value} (hv : fs[k]? = some v) (hdg : decode cc pc = .ok (.getfield index, 3))
    (kk : W p l e R s m args below meth c H locs cells slots Q (F0 m (pc + 3) ls (v :: rest))) : W p l e R s m args below meth c H locs cells slots Q (F0 m pc ls (.ref a :: rest)) := by
  subst ha
  exact wb_get hexec hb hts hin hown hK hW r hr he hc k hk hlink hsame hv hdg kk
theorem wb_putE (hexec : p.tables.exec = Jvm.exec) (hb : c.code = cc) {own ref C : String} {T : u_T} {N ci index : Nat} {Ts : List Cond} (hts : ∀ w ∈ Ts, w.before args s = true) (hin : ∀ w ∈ u_ws C T N, w ∈ Ts) (ty0 : Nat → FieldType) (hty : ∀ k, k < N → parseFieldDescriptor (T k).2.2.1 = some (ty0 k)) (hnm : ∀ a, a < N → ∀ b, b < N → a ≠ b → (T a).2.1 ≠ (T b).2.1) (hown : s.vm.findClass own = some m.cls) (hK : va_K D vwCl tys s) (hW : wP D A lv ad ct H) (hS : va_S A H0 H locs) (r : Nat) {a : Nat} (ha : a = ad r) (hr : lv r) {fs : List Value} (he : ct r = .inr (ci, fs)) (hc : vwCl[ci]? = some (C, T, N)) (k : Nat) (hk : k < N) (hlink : (Cond.fieldLink own index ref (T k).2.1 (T k).2.2.1).before args s = true) (hsame : ∀ x, s.fieldFound? (T k).1 (T k).2.1 (T k).2.2.1 = some x → s.fieldFound? ref (T k).2.1 (T k).2.2.1 = some x) (hfin : (T k).2.2.2 = false) {ty : FieldType} {v : Value} (hd : parseFieldDescriptor (T k).2.2.1 = some ty) (hn : narrow ty v = v) (hfit : fits ty v = true) (hl : k < fs.length)
    (hdg : decode cc pc = .ok (.putfield index, 3)) (kk : ∀ (H1 : Heap) (locs1 : List Loc), wP D A lv ad (va_up ct r (.inr (ci, fs.set k v))) H1 → va_S A H0 H1 locs1 → W p l e R s m args below meth c H1 locs1 cells slots Q (F0 m (pc + 3) ls rest)) : W p l e R s m args below meth c H locs cells slots Q (F0 m pc ls (v :: .ref a :: rest)) := by
  subst ha
  exact wb_put hexec hb hts hin ty0 hty hnm hown hK hW hS r hr he hc k hk hlink hsame hfin hd hn hfit hl hdg kk
theorem wb_putFE (hexec : p.tables.exec = Jvm.exec) (hb : c.code = cc) {own ref C : String} {T : u_T} {N ci index : Nat} {Ts : List Cond} (hts : ∀ w ∈ Ts, w.before args s = true) (hin : ∀ w ∈ u_ws C T N, w ∈ Ts) (ty0 : Nat → FieldType) (hty : ∀ k, k < N → parseFieldDescriptor (T k).2.2.1 = some (ty0 k)) (hnm : ∀ a, a < N → ∀ b, b < N → a ≠ b → (T a).2.1 ≠ (T b).2.1) (hown : s.vm.findClass own = some m.cls) (hK : va_K D vwCl tys s) (hW : wP D A lv ad ct H) (hS : va_S A H0 H locs) (r : Nat) {a : Nat} (ha : a = ad r) (hr : lv r) {fs : List Value} (he : ct r = .inr (ci, fs)) (hc : vwCl[ci]? = some (C, T, N)) (k : Nat) (hk : k < N) (hlink : (Cond.fieldLink own index ref (T k).2.1 (T k).2.2.1).before args s = true) (hsame : ∀ x, s.fieldFound? (T k).1 (T k).2.1 (T k).2.2.1 = some x → s.fieldFound? ref (T k).2.1 (T k).2.2.1 = some x) (hfin : (T k).2.2.2 = true) (hin2 : meth.name = "<init>") (hdecl : (T k).1 = own) {ty : FieldType} {v : Value} (hd : parseFieldDescriptor (T k).2.2.1 = some ty) (hn : narrow ty v = v) (hfit : fits ty v = true) (hl : k < fs.length)
    (hdg : decode cc pc = .ok (.putfield index, 3)) (kk : ∀ (H1 : Heap) (locs1 : List Loc), wP D A lv ad (va_up ct r (.inr (ci, fs.set k v))) H1 → va_S A H0 H1 locs1 → W p l e R s m args below meth c H1 locs1 cells slots Q (F0 m (pc + 3) ls rest)) : W p l e R s m args below meth c H locs cells slots Q (F0 m pc ls (v :: .ref a :: rest)) := by
  subst ha
  exact wb_putF hexec hb hts hin ty0 hty hnm hown hK hW hS r hr he hc k hk hlink hsame hfin hin2 hdecl hd hn hfit hl hdg kk
theorem wb_aastE (hexec : p.tables.exec = Jvm.exec) (hb : c.code = cc) (hK : va_K D vwCl tys s) (hW : wP D A lv ad ct H) (hS : va_S A H0 H locs) (r rv : Nat) {a av : Nat} (ha : a = ad r) (hav : av = ad rv) (hr : lv r) (hrv : lv rv) (t0 ci : Nat) {E : String} {cA : ClassId} {q : vw_C} {n : Nat} {vs : List Value} {f : Nat → Option Nat} (he : ct r = .inl (cA, n, rfs f)) (ht : tys[t0]? = some (cA, .object E)) (hca : va_Nw (.castable q.1 E) s) (hv : ct rv = .inr (ci, vs)) (hc : vwCl[ci]? = some q) {i : Int32} (j : Nat) (hi : i = nI j) (hj : j < n) (hn : n < 1000) (hdg : decode cc pc = .ok (.aastore, 1))
    (kk : ∀ (H1 : Heap) (locs1 : List Loc), wP D A lv ad (va_up ct r (.inl (cA, n, rfs (va_up f j (some av))))) H1 → va_S A H0 H1 locs1 → W p l e R s m args below meth c H1 locs1 cells slots Q (F0 m (pc + 1) ls rest)) : W p l e R s m args below meth c H locs cells slots Q (F0 m pc ls (.ref av :: .int i :: .ref a :: rest)) := by
  subst ha
  subst hav
  exact wb_aast hexec hb hK hW hS r rv hr hrv t0 ci he ht hca hv hc j hi hj hn hdg kk
end WCE
theorem up_up {α : Type} (f : Nat → α) (k : Nat) (u v : α) : va_up (va_up f k u) k v = va_up f k v := by
  funext j; unfold va_up; by_cases h : j = k <;> simp [h]
theorem up_sw {α : Type} (f : Nat → α) {k k' : Nat} (h : k ≠ k') (u v : α) : va_up (va_up f k u) k' v = va_up (va_up f k' v) k u := by
  funext j; unfold va_up; by_cases h1 : j = k <;> by_cases h2 : j = k' <;> simp [h1, h2] <;> omega
/-- a list's row: the shared empty one, or its own -/
def Lst (cs : Nat → ClassId) (z0 : Nat) (lv : Nat → Prop) (ad : Nat → Nat) (ct : Nat → va_E) (n a0 rr N1 : Nat) (f : Nat → Option Nat) : Prop :=
  (n = 0 ∧ a0 = z0) ∨ (0 < n ∧ lv rr ∧ a0 = ad rr ∧ ct rr = .inl (cs 2, N1, rfs f) ∧ n ≤ N1 ∧ N1 < 1000)
def Lel (lv : Nat → Prop) (ad : Nat → Nat) (ct : Nat → va_E) (ci n : Nat) (f : Nat → Option Nat) : Prop :=
  ∀ i : Nat, i < n → ∀ y : Nat, f i = some y → ∃ (z : Nat) (vs : List Value), lv z ∧ ad z = y ∧ ct z = .inr (ci, vs)
abbrev cut9 (n : Nat) (f : Nat → Option Nat) : Nat → Option Nat := fun j => if j < n then f j else none
theorem cut9_0 (f : Nat → Option Nat) : cut9 0 f = fun _ => none := rfl
theorem nI_inj {a b : Nat} (ha : a < 1000) (hb : b < 1000) (h : nI a = nI b) : a = b := by
  have h1 : ixN (nI a) = ixN (nI b) := by rw [h]
  rw [ixN_nI ha, ixN_nI hb] at h1
  exact h1
