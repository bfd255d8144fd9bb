/-! ===== my world: which roles live, where they lie, what lies there ===== -/
abbrev vT (cs : Nat → ClassId) : List (ClassId × FieldType) := [(cs 0, .int), (cs 0, .int), (cs 2, .object "java/lang/Object"), (cs 3, .array .int), (cs 0, .int)]
def wP (D : va_G) (A : Nat → Prop) (lv : Nat → Prop) (ad : Nat → Nat) (ct : Nat → va_E) (H : Heap) : Prop :=
  (∀ r, lv r → r < 64) ∧ (∀ r r', lv r → lv r' → ad r = ad r' → r = r') ∧ ∀ r, lv r → A (ad r) ∧ va_at D vwCl (ad r, ct r) H
theorem wP.hat {D : va_G} {A lv : Nat → Prop} {ad : Nat → Nat} {ct : Nat → va_E} {H : Heap} (h : wP D A lv ad ct H) {r : Nat} (hr : lv r) : va_at D vwCl (ad r, ct r) H := (h.2.2 r hr).2
theorem wP.keptA {D : va_G} {A A1 lv : Nat → Prop} {ad : Nat → Nat} {ct : Nat → va_E} {H H1 : Heap} (h : wP D A lv ad ct H) (hd : ∀ q, A q → ¬ A1 q) (hk : ∀ q, q < H.size → ¬ A1 q → H1[q]? = H[q]?) : wP D A lv ad ct H1 :=
  ⟨h.1, h.2.1, fun r hr => ⟨(h.2.2 r hr).1, (h.hat hr).kept (hk _ (h.hat hr).lt (hd _ (h.2.2 r hr).1))⟩⟩
theorem wP.kept {D : va_G} {A lv : Nat → Prop} {ad : Nat → Nat} {ct : Nat → va_E} {H H1 : Heap} (h : wP D A lv ad ct H) (hk : ∀ q, q < H.size → ¬ (fun _ : Nat => False) q → H1[q]? = H[q]?) : wP D A lv ad ct H1 :=
  h.keptA (fun _ _ h => h) hk
theorem wP.to {D : va_G} {A lv lv' : Nat → Prop} {ad ad' : Nat → Nat} {ct ct' : Nat → va_E} {H : Heap} (h : wP D A lv ad ct H) (ht : ∀ r, lv' r → lv r ∧ ad' r = ad r ∧ ct' r = ct r) : wP D A lv' ad' ct' H := by
  refine ⟨fun r hr => h.1 r (ht r hr).1, fun r r' hr hr' e => ?_, fun r hr => ?_⟩
  · obtain ⟨a1, a2, -⟩ := ht r hr
    obtain ⟨b1, b2, -⟩ := ht r' hr'
    exact h.2.1 r r' a1 b1 (by rw [← a2, ← b2]; exact e)
  · obtain ⟨a1, a2, a3⟩ := ht r hr
    rw [a2, a3]
    exact h.2.2 r a1
theorem wP.open_ {D : va_G} {A lv : Nat → Prop} {ad : Nat → Nat} {ct : Nat → va_E} {H : Heap} (h : wP D A lv ad ct H) {r0 : Nat} (hr : lv r0) :
    ∃ ws : va_W, ws[0]? = some (ad r0, ct r0) ∧ (∀ r, lv r → ∃ k : Nat, ws[k]? = some (ad r, ct r)) ∧ va_P D vwCl ws H ∧ va_D A ws ∧ ∀ (e : va_E) (H1 : Heap), va_P D vwCl (ws.set 0 (ad r0, e)) H1 → wP D A lv ad (va_up ct r0 e) H1 := by
  classical
  obtain ⟨rs, hrs, hnd⟩ : ∃ rs : List Nat, (∀ r, r ∈ rs ↔ (lv r ∧ r ≠ r0)) ∧ rs.Nodup := by
    refine ⟨(List.range 64).filter (fun r => decide (lv r ∧ r ≠ r0)), fun r => ?_, List.Nodup.sublist List.filter_sublist List.nodup_range⟩
    rw [List.mem_filter, List.mem_range, decide_eq_true_iff]
    exact ⟨fun q => q.2, fun q => ⟨h.1 r q.1, q⟩⟩
  have hnd2 : (r0 :: rs).Nodup := List.nodup_cons.mpr ⟨fun q => ((hrs r0).mp q).2 rfl, hnd⟩
  have hlv : ∀ r, r ∈ r0 :: rs → lv r := fun r q => by
    rcases List.mem_cons.mp q with e | e
    · rw [e]; exact hr
    · exact ((hrs r).mp e).1
  refine ⟨(r0 :: rs).map (fun r => (ad r, ct r)), rfl, fun r q => ?_, fun k q hk => ?_, ⟨fun i j x y hi hj hxy => ?_, fun k q hk => ?_⟩, fun e H1 hP => ?_⟩
  · have hm : r ∈ r0 :: rs := by
      by_cases e : r = r0
      · rw [e]; exact List.mem_cons_self
      · exact List.mem_cons_of_mem _ ((hrs r).mpr ⟨q, e⟩)
    obtain ⟨k, hk⟩ := List.mem_iff_getElem?.mp hm
    exact ⟨k, by rw [List.getElem?_map, hk]; rfl⟩
  · obtain ⟨r, h1, rfl⟩ := List.mem_map.mp (List.mem_of_getElem? hk)
    exact h.hat (hlv r h1)
  · rw [List.getElem?_map] at hi hj
    cases h1 : (r0 :: rs)[i]? with
    | none => rw [h1] at hi; cases hi
    | some r1 =>
      cases h2 : (r0 :: rs)[j]? with
      | none => rw [h2] at hj; cases hj
      | some r2 =>
        rw [h1] at hi
        rw [h2] at hj
        cases hi
        cases hj
        have e := h.2.1 r1 r2 (hlv _ (List.mem_of_getElem? h1)) (hlv _ (List.mem_of_getElem? h2)) hxy
        subst e
        exact (List.getElem?_inj (List.getElem?_eq_some_iff.mp h1).1 hnd2).mp (h1.trans h2.symm)
  · obtain ⟨r, h1, rfl⟩ := List.mem_map.mp (List.mem_of_getElem? hk)
    exact (h.2.2 r (hlv r h1)).1
  · refine ⟨h.1, h.2.1, fun r q => ⟨(h.2.2 r q).1, ?_⟩⟩
    by_cases e0 : r = r0
    · subst e0
      rw [va_up_self]
      exact hP 0 _ rfl
    · rw [va_up_ne _ _ e0]
      have hm : r ∈ rs := (hrs r).mpr ⟨q, e0⟩
      obtain ⟨k, hk⟩ := List.mem_iff_getElem?.mp hm
      exact hP (k + 1) (ad r, ct r) (by
        show (rs.map (fun r => (ad r, ct r)))[k]? = _
        rw [List.getElem?_map, hk]; rfl)
theorem wP.openN {D : va_G} {A lv : Nat → Prop} {ad : Nat → Nat} {ct : Nat → va_E} {H : Heap} (h : wP D A lv ad ct H) {r0 : Nat} (hr : ¬ lv r0) (h64 : r0 < 64) :
    ∃ ws : va_W, va_P D vwCl ws H ∧ va_D A ws ∧ ∀ (q : Nat) (e : va_E) (H1 : Heap), va_P D vwCl (ws ++ [(q, e)]) H1 → va_D A (ws ++ [(q, e)]) → wP D A (fun r => lv r ∨ r = r0) (va_up ad r0 q) (va_up ct r0 e) H1 := by
  classical
  obtain ⟨rs, hrs, hnd⟩ : ∃ rs : List Nat, (∀ r, r ∈ rs ↔ lv r) ∧ rs.Nodup := by
    refine ⟨(List.range 64).filter (fun r => decide (lv r)), fun r => ?_, List.Nodup.sublist List.filter_sublist List.nodup_range⟩
    rw [List.mem_filter, List.mem_range, decide_eq_true_iff]
    exact ⟨fun q => q.2, fun q => ⟨h.1 r q, q⟩⟩
  have hget : ∀ r, lv r → ∃ k : Nat, k < rs.length ∧ (rs.map (fun r => (ad r, ct r)))[k]? = some (ad r, ct r) := fun r q => by
    obtain ⟨k, hk⟩ := List.mem_iff_getElem?.mp ((hrs r).mpr q)
    exact ⟨k, (List.getElem?_eq_some_iff.mp hk).1, by rw [List.getElem?_map, hk]; rfl⟩
  refine ⟨rs.map (fun r => (ad r, ct r)), fun k q hk => ?_, ⟨fun i j x y hi hj hxy => ?_, fun k q hk => ?_⟩, fun q e H1 hP hD => ?_⟩
  · obtain ⟨r, h1, rfl⟩ := List.mem_map.mp (List.mem_of_getElem? hk)
    exact h.hat ((hrs r).mp h1)
  · rw [List.getElem?_map] at hi hj
    cases h1 : rs[i]? with
    | none => rw [h1] at hi; cases hi
    | some r1 =>
      cases h2 : rs[j]? with
      | none => rw [h2] at hj; cases hj
      | some r2 =>
        rw [h1] at hi
        rw [h2] at hj
        cases hi
        cases hj
        have e := h.2.1 r1 r2 ((hrs _).mp (List.mem_of_getElem? h1)) ((hrs _).mp (List.mem_of_getElem? h2)) hxy
        subst e
        exact (List.getElem?_inj (List.getElem?_eq_some_iff.mp h1).1 hnd).mp (h1.trans h2.symm)
  · obtain ⟨r, h1, rfl⟩ := List.mem_map.mp (List.mem_of_getElem? hk)
    exact (h.2.2 r ((hrs r).mp h1)).1
  · have hlast : (rs.map (fun r => (ad r, ct r)) ++ [(q, e)])[rs.length]? = some (q, e) := by
      rw [List.getElem?_append_right (by rw [List.length_map]; exact Nat.le_refl _), List.length_map, Nat.sub_self]
      rfl
    have hold : ∀ r, lv r → ∃ k : Nat, k < rs.length ∧ (rs.map (fun r => (ad r, ct r)) ++ [(q, e)])[k]? = some (ad r, ct r) := fun r z => by
      obtain ⟨k, h1, h2⟩ := hget r z
      exact ⟨k, h1, by rw [List.getElem?_append_left (by rw [List.length_map]; exact h1)]; exact h2⟩
    have hfr : ∀ r, lv r → ad r ≠ q := fun r z e1 => by
      obtain ⟨k, h1, h2⟩ := hold r z
      have := hD.1 k rs.length _ _ h2 hlast e1
      omega
    have hne : ∀ r, lv r → r ≠ r0 := fun r z e1 => hr (e1 ▸ z)
    refine ⟨fun r z => ?_, fun r r' z z' e1 => ?_, fun r z => ?_⟩
    · rcases z with z | z
      · exact h.1 r z
      · omega
    · rcases z with z | z <;> rcases z' with z' | z'
      · rw [va_up_ne _ _ (hne r z), va_up_ne _ _ (hne r' z')] at e1
        exact h.2.1 r r' z z' e1
      · subst z'
        rw [va_up_ne _ _ (hne r z), va_up_self] at e1
        exact absurd e1 (hfr r z)
      · subst z
        rw [va_up_ne _ _ (hne r' z'), va_up_self] at e1
        exact absurd e1.symm (hfr r' z')
      · rw [z, z']
    · rcases z with z | z
      · rw [va_up_ne _ _ (hne r z), va_up_ne _ _ (hne r z)]
        obtain ⟨k, h1, h2⟩ := hold r z
        exact ⟨(h.2.2 r z).1, hP k _ h2⟩
      · subst z
        rw [va_up_self, va_up_self]
        exact ⟨hD.2 _ _ hlast, hP _ _ hlast⟩
/-- an empty world -/
theorem wP.nil {D : va_G} {A : Nat → Prop} {ad : Nat → Nat} {ct : Nat → va_E} {H : Heap} : wP D A (fun _ => False) ad ct H := ⟨fun _ h => h.elim, fun _ _ h => h.elim, fun _ h => h.elim⟩
section WB
variable {p : Program} {l : Launch} {e : Env} {R : Room} {s : State} {m : MethodId} {args : Array Value} {below : List Frame} {meth : Method} {c : Code} {H : Heap} {locs : List Loc} {cells slots : Nat} {Q : State → Prop}
variable {cc : ByteArray} {pc : Nat} {ls : Array Slot} {rest : List Value} {D : va_G} {A A0 : Nat → Prop} {tys : List (ClassId × FieldType)} {H0 : Heap} {lv : Nat → Prop} {ad : Nat → Nat} {ct : Nat → va_E}
theorem wb_get (hexec : p.tables.exec = Jvm.exec) (hb : c.code = cc) {own ref C : String} {T : u_T} {N ci index : Nat} {Ts : List Cond} (hts : ∀ w ∈ Ts, w.before args s = true) (hin : ∀ w ∈ u_ws C T N, w ∈ Ts) (hown : s.vm.findClass own = some m.cls) (hK : va_K D vwCl tys s) (hW : wP D A lv ad ct H) (r : Nat) (hr : lv r) {fs : List Value} (he : ct r = .inr (ci, fs)) (hc : vwCl[ci]? = some (C, T, N)) (k : Nat) (hk : k < N) (hlink : (Cond.fieldLink own index ref (T k).2.1 (T k).2.2.1).before args s = true) (hsame : ∀ x, s.fieldFound? (T k).1 (T k).2.1 (T k).2.2.1 = some x → s.fieldFound? ref (T k).2.1 (T k).2.2.1 = some x) {v : Value} (hv : fs[k]? = some v) (hdg : decode cc pc = .ok (.getfield index, 3))
    (kk : W p l e R s m args below meth c H locs cells slots Q (F0 m (pc + 3) ls (v :: rest))) : W p l e R s m args below meth c H locs cells slots Q (F0 m pc ls (.ref (ad r) :: rest)) := by
  obtain ⟨ws, h0, -, hP, hD, -⟩ := hW.open_ hr
  exact va_get hexec hb hts hin hown hK hP 0 (by rw [h0, he]) hc k hk hlink hsame hv hdg kk
theorem wb_put (hexec : p.tables.exec = Jvm.exec) (hb : c.code = cc) {own ref C : String} {T : u_T} {N ci index : Nat} {Ts : List Cond} (hts : ∀ w ∈ Ts, w.before args s = true) (hin : ∀ w ∈ u_ws C T N, w ∈ Ts) (ty0 : Nat → FieldType) (hty : ∀ k, k < N → parseFieldDescriptor (T k).2.2.1 = some (ty0 k)) (hnm : ∀ a, a < N → ∀ b, b < N → a ≠ b → (T a).2.1 ≠ (T b).2.1) (hown : s.vm.findClass own = some m.cls) (hK : va_K D vwCl tys s) (hW : wP D A lv ad ct H) (hS : va_S A H0 H locs) (r : Nat) (hr : lv r) {fs : List Value} (he : ct r = .inr (ci, fs)) (hc : vwCl[ci]? = some (C, T, N)) (k : Nat) (hk : k < N) (hlink : (Cond.fieldLink own index ref (T k).2.1 (T k).2.2.1).before args s = true) (hsame : ∀ x, s.fieldFound? (T k).1 (T k).2.1 (T k).2.2.1 = some x → s.fieldFound? ref (T k).2.1 (T k).2.2.1 = some x) (hfin : (T k).2.2.2 = false) {ty : FieldType} {v : Value} (hd : parseFieldDescriptor (T k).2.2.1 = some ty) (hn : narrow ty v = v) (hfit : fits ty v = true) (hl : k < fs.length)
    (hdg : decode cc pc = .ok (.putfield index, 3)) (kk : ∀ (H1 : Heap) (locs1 : List Loc), wP D A lv ad (va_up ct r (.inr (ci, fs.set k v))) H1 → va_S A H0 H1 locs1 → W p l e R s m args below meth c H1 locs1 cells slots Q (F0 m (pc + 3) ls rest)) : W p l e R s m args below meth c H locs cells slots Q (F0 m pc ls (v :: .ref (ad r) :: rest)) := by
  obtain ⟨ws, h0, -, hP, hD, back⟩ := hW.open_ hr
  exact va_put hexec hb hts hin ty0 hty hnm hown hK hP hD hS 0 (by rw [h0, he]) hc k hk hlink hsame hfin hd hn hfit hl hdg fun H1 locs1 hP1 _ hS1 => kk H1 locs1 (back _ _ hP1) hS1
theorem wb_putF (hexec : p.tables.exec = Jvm.exec) (hb : c.code = cc) {own ref C : String} {T : u_T} {N ci index : Nat} {Ts : List Cond} (hts : ∀ w ∈ Ts, w.before args s = true) (hin : ∀ w ∈ u_ws C T N, w ∈ Ts) (ty0 : Nat → FieldType) (hty : ∀ k, k < N → parseFieldDescriptor (T k).2.2.1 = some (ty0 k)) (hnm : ∀ a, a < N → ∀ b, b < N → a ≠ b → (T a).2.1 ≠ (T b).2.1) (hown : s.vm.findClass own = some m.cls) (hK : va_K D vwCl tys s) (hW : wP D A lv ad ct H) (hS : va_S A H0 H locs) (r : Nat) (hr : lv r) {fs : List Value} (he : ct r = .inr (ci, fs)) (hc : vwCl[ci]? = some (C, T, N)) (k : Nat) (hk : k < N) (hlink : (Cond.fieldLink own index ref (T k).2.1 (T k).2.2.1).before args s = true) (hsame : ∀ x, s.fieldFound? (T k).1 (T k).2.1 (T k).2.2.1 = some x → s.fieldFound? ref (T k).2.1 (T k).2.2.1 = some x) (hfin : (T k).2.2.2 = true) (hin2 : meth.name = "<init>") (hdecl : (T k).1 = own) {ty : FieldType} {v : Value} (hd : parseFieldDescriptor (T k).2.2.1 = some ty) (hn : narrow ty v = v) (hfit : fits ty v = true) (hl : k < fs.length)
    (hdg : decode cc pc = .ok (.putfield index, 3)) (kk : ∀ (H1 : Heap) (locs1 : List Loc), wP D A lv ad (va_up ct r (.inr (ci, fs.set k v))) H1 → va_S A H0 H1 locs1 → W p l e R s m args below meth c H1 locs1 cells slots Q (F0 m (pc + 3) ls rest)) : W p l e R s m args below meth c H locs cells slots Q (F0 m pc ls (v :: .ref (ad r) :: rest)) := by
  obtain ⟨ws, h0, -, hP, hD, back⟩ := hW.open_ hr
  exact va_putF hexec hb hts hin ty0 hty hnm hown hK hP hD hS 0 (by rw [h0, he]) hc k hk hlink hsame hfin hin2 hdecl hd hn hfit hl hdg fun H1 locs1 hP1 _ hS1 => kk H1 locs1 (back _ _ hP1) hS1
/-- the index is a small number -/
theorem wb_iald (hexec : p.tables.exec = Jvm.exec) (hb : c.code = cc) (hK : va_K D vwCl tys s) (hW : wP D A lv ad ct H) (r : Nat) (hr : lv r) (t0 : Nat) {cA : ClassId} {n : Nat} {f : Nat → Int32} (he : ct r = .inl (cA, n, .inl f)) (ht : tys[t0]? = some (cA, .int)) {i : Int32} (j : Nat) (hi : i = nI j) (hj : j < n) (hn : n < 1000) (hdg : decode cc pc = .ok (.iaload, 1))
    (kk : W p l e R s m args below meth c H locs cells slots Q (F0 m (pc + 1) ls (.int (f j) :: rest))) : W p l e R s m args below meth c H locs cells slots Q (F0 m pc ls (.int i :: .ref (ad r) :: rest)) := by
  subst hi
  obtain ⟨ws, h0, -, hP, hD, -⟩ := hW.open_ hr
  exact va_iald hexec hb hK hP 0 t0 (by rw [h0, he]) ht (vp_in_nI hj (by omega)) hdg (by rw [nI_clamp (by omega)]; exact kk)
theorem wb_zald (hexec : p.tables.exec = Jvm.exec) (hb : c.code = cc) (hK : va_K D vwCl tys s) (hW : wP D A lv ad ct H) (r : Nat) (hr : lv r) (t0 : Nat) {cA : ClassId} {n : Nat} {f : Nat → Int32} (he : ct r = .inl (cA, n, .inl f)) (ht : tys[t0]? = some (cA, .boolean)) {i : Int32} (j : Nat) (hi : i = nI j) (hj : j < n) (hn : n < 1000) (hdg : decode cc pc = .ok (.baload, 1))
    (kk : W p l e R s m args below meth c H locs cells slots Q (F0 m (pc + 1) ls (.int (f j) :: rest))) : W p l e R s m args below meth c H locs cells slots Q (F0 m pc ls (.int i :: .ref (ad r) :: rest)) := by
  subst hi
  obtain ⟨ws, h0, -, hP, hD, -⟩ := hW.open_ hr
  exact va_zald hexec hb hK hP 0 t0 (by rw [h0, he]) ht (vp_in_nI hj (by omega)) hdg (by rw [nI_clamp (by omega)]; exact kk)
theorem wb_aald (hexec : p.tables.exec = Jvm.exec) (hb : c.code = cc) (hK : va_K D vwCl tys s) (hW : wP D A lv ad ct H) (r : Nat) (hr : lv r) (t0 : Nat) {cA : ClassId} {C : String} {n : Nat} {f : Nat → Option Nat} (he : ct r = .inl (cA, n, .inr (.inr (.inr (.inr f))))) (ht : tys[t0]? = some (cA, .object C)) {i : Int32} (j : Nat) (hi : i = nI j) (hj : j < n) (hn : n < 1000) (hdg : decode cc pc = .ok (.aaload, 1))
    (kk : W p l e R s m args below meth c H locs cells slots Q (F0 m (pc + 1) ls (va_rf (f j) :: rest))) : W p l e R s m args below meth c H locs cells slots Q (F0 m pc ls (.int i :: .ref (ad r) :: rest)) := by
  subst hi
  obtain ⟨ws, h0, -, hP, hD, -⟩ := hW.open_ hr
  exact va_aldq hexec hb hK hP 0 t0 (by rw [h0, he]) ht (vp_in_nI hj (by omega)) hdg (by rw [nI_clamp (by omega)]; exact kk)
theorem wb_aaldI (hexec : p.tables.exec = Jvm.exec) (hb : c.code = cc) (hK : va_K D vwCl tys s) (hW : wP D A lv ad ct H) (r : Nat) (hr : lv r) (t0 : Nat) {cA : ClassId} {n : Nat} {f : Nat → Option Nat} (he : ct r = .inl (cA, n, .inr (.inr (.inr (.inr f))))) (ht : tys[t0]? = some (cA, .array .int)) {i : Int32} (j : Nat) (hi : i = nI j) (hj : j < n) (hn : n < 1000) (hdg : decode cc pc = .ok (.aaload, 1))
    (kk : W p l e R s m args below meth c H locs cells slots Q (F0 m (pc + 1) ls (va_rf (f j) :: rest))) : W p l e R s m args below meth c H locs cells slots Q (F0 m pc ls (.int i :: .ref (ad r) :: rest)) := by
  subst hi
  have h0 : va_at D vwCl (ad r, .inl (cA, n, .inr (.inr (.inr (.inr f))))) H := by
    have := hW.hat hr
    rw [he] at this
    exact this
  have h1 : H[ad r]? = some (arrV cA n (fun j => va_rf (f j))) := by rw [← vp_cell_q]; exact h0
  exact W.aald (v := va_rf (f j)) (ty := .array .int) hexec hb h1 ((hK.2 t0 _ ht).1 n (fun j => va_rf (f j))) rfl (fun q => by cases q) (by show ¬ (_ < 0 ∨ (arrV _ _ _).slots.size ≤ _); rw [arrV_size]; exact vp_in_nI hj (by omega)) (by show (arrV _ _ _).slots[_]? = _; rw [nI_clamp (by omega), arrV_read _ _ hj]) rfl rfl hdg kk
theorem wb_alen (hexec : p.tables.exec = Jvm.exec) (hb : c.code = cc) (hK : va_K D vwCl tys s) (hW : wP D A lv ad ct H) (r : Nat) (hr : lv r) (t0 : Nat) {cA : ClassId} {n : Nat} {x : (Nat → Int32) ⊕ (Nat → Int64) ⊕ (Nat → UInt32) ⊕ (Nat → UInt64) ⊕ (Nat → Option Nat)} (he : ct r = .inl (cA, n, x)) {ty : FieldType} (ht : tys[t0]? = some (cA, ty)) (hdg : decode cc pc = .ok (.arraylength, 1))
    (kk : W p l e R s m args below meth c H locs cells slots Q (F0 m (pc + 1) ls (.int (nI n) :: rest))) : W p l e R s m args below meth c H locs cells slots Q (F0 m pc ls (.ref (ad r) :: rest)) := by
  obtain ⟨ws, h0, -, hP, hD, -⟩ := hW.open_ hr
  exact va_alen (x := (n, x)) hexec hb hK hP 0 t0 (by rw [h0, he]) ht rfl hdg kk
theorem wb_iast (hexec : p.tables.exec = Jvm.exec) (hb : c.code = cc) (hK : va_K D vwCl tys s) (hW : wP D A lv ad ct H) (hS : va_S A H0 H locs) (r : Nat) (hr : lv r) (t0 : Nat) {cA : ClassId} {n : Nat} {f : Nat → Int32} (he : ct r = .inl (cA, n, .inl f)) (ht : tys[t0]? = some (cA, .int)) {i x : Int32} (j : Nat) (hi : i = nI j) (hj : j < n) (hn : n < 1000) (hdg : decode cc pc = .ok (.iastore, 1))
    (kk : ∀ (H1 : Heap) (locs1 : List Loc), wP D A lv ad (va_up ct r (.inl (cA, n, .inl (upd f j x)))) H1 → va_S A H0 H1 locs1 → W p l e R s m args below meth c H1 locs1 cells slots Q (F0 m (pc + 1) ls rest)) : W p l e R s m args below meth c H locs cells slots Q (F0 m pc ls (.int x :: .int i :: .ref (ad r) :: rest)) := by
  subst hi
  obtain ⟨ws, h0, -, hP, hD, back⟩ := hW.open_ hr
  refine va_iast hexec hb hK hP hD hS 0 t0 (by rw [h0, he]) ht (vp_in_nI hj (by omega)) hdg fun H1 locs1 hP1 _ hS1 => ?_
  rw [nI_clamp (by omega)] at hP1
  exact kk H1 locs1 (back _ _ hP1) hS1
theorem wb_zast (hexec : p.tables.exec = Jvm.exec) (hb : c.code = cc) (hK : va_K D vwCl tys s) (hW : wP D A lv ad ct H) (hS : va_S A H0 H locs) (r : Nat) (hr : lv r) (t0 : Nat) {cA : ClassId} {n : Nat} {f : Nat → Int32} (he : ct r = .inl (cA, n, .inl f)) (ht : tys[t0]? = some (cA, .boolean)) {i x : Int32} (hx1 : vp_nar .boolean x = x) (j : Nat) (hi : i = nI j) (hj : j < n) (hn : n < 1000) (hdg : decode cc pc = .ok (.bastore, 1))
    (kk : ∀ (H1 : Heap) (locs1 : List Loc), wP D A lv ad (va_up ct r (.inl (cA, n, .inl (upd f j x)))) H1 → va_S A H0 H1 locs1 → W p l e R s m args below meth c H1 locs1 cells slots Q (F0 m (pc + 1) ls rest)) : W p l e R s m args below meth c H locs cells slots Q (F0 m pc ls (.int x :: .int i :: .ref (ad r) :: rest)) := by
  subst hi
  obtain ⟨ws, h0, -, hP, hD, back⟩ := hW.open_ hr
  refine va_zast hexec hb hK hP hD hS 0 t0 (by rw [h0, he]) ht (vp_in_nI hj (by omega)) hdg fun H1 locs1 hP1 _ hS1 => ?_
  rw [nI_clamp (by omega), hx1] at hP1
  exact kk H1 locs1 (back _ _ hP1) hS1
theorem wb_aast (hexec : p.tables.exec = Jvm.exec) (hb : c.code = cc) (hK : va_K D vwCl tys s) (hW : wP D A lv ad ct H) (hS : va_S A H0 H locs) (r rv : Nat) (hr : lv r) (hrv : lv rv) (t0 ci : Nat) {E : String} {cA : ClassId} {q : vw_C} {n : Nat} {vs : List Value} {f : Nat → Option Nat} (he : ct r = .inl (cA, n, .inr (.inr (.inr (.inr f))))) (ht : tys[t0]? = some (cA, .object E)) (hca : va_Nw (.castable q.1 E) s) (hv : ct rv = .inr (ci, vs)) (hc : vwCl[ci]? = some q) {i : Int32} (j : Nat) (hi : i = nI j) (hj : j < n) (hn : n < 1000) (hdg : decode cc pc = .ok (.aastore, 1))
    (kk : ∀ (H1 : Heap) (locs1 : List Loc), wP D A lv ad (va_up ct r (.inl (cA, n, .inr (.inr (.inr (.inr (va_up f j (some (ad rv)))))))) ) H1 → va_S A H0 H1 locs1 → W p l e R s m args below meth c H1 locs1 cells slots Q (F0 m (pc + 1) ls rest)) : W p l e R s m args below meth c H locs cells slots Q (F0 m pc ls (.ref (ad rv) :: .int i :: .ref (ad r) :: rest)) := by
  subst hi
  obtain ⟨ws, h0, hall, hP, hD, back⟩ := hW.open_ hr
  obtain ⟨kv, hkv⟩ := hall rv hrv
  refine va_astqO hexec hb hK hP hD hS 0 t0 kv ci (by rw [h0, he]) ht hca (by rw [hkv, hv]) hc (vp_in_nI hj (by omega)) hdg fun H1 locs1 hP1 _ hS1 => ?_
  rw [nI_clamp (by omega)] at hP1
  exact kk H1 locs1 (back _ _ hP1) hS1
theorem wb_new (hexec : p.tables.exec = Jvm.exec) (hb : c.code = cc) {own C : String} {T : u_T} {N ci index : Nat} {Ts : List Cond} (hts : ∀ w ∈ Ts, w.before args s = true) (hin : ∀ w ∈ u_ws C T N, w ∈ Ts) (ty : Nat → FieldType) (hty : ∀ k, k < N → parseFieldDescriptor (T k).2.2.1 = some (ty k)) (hown : s.vm.findClass own = some m.cls) (hcl : (Cond.classLink own index C).before args s = true) (hinst : (Cond.instantiable C N).before args s = true) (hini : (Cond.initialized C).before args s = true)
    (hK : va_K D vwCl tys s) (hW : wP D A lv ad ct H) (hS : va_S A H0 H locs) (hA : ∀ q, H0.size ≤ q → A q) (r : Nat) (hr : ¬ lv r) (h64 : r < 64) (hc : vwCl[ci]? = some (C, T, N)) {fs : List Value} (hfs : ∀ j, j < N → defaultValue (ty j) = vp_V fs j) (hcells : cells + 1 ≤ R.cells) (hslots : slots + N ≤ R.slots) (hdg : decode cc pc = .ok (.new index, 3))
    (kk : ∀ (q : Nat) (H1 : Heap), wP D A (fun z => lv z ∨ z = r) (va_up ad r q) (va_up ct r (.inr (ci, fs))) H1 → va_S A H0 H1 locs →
      W p l e R s m args below meth c H1 locs (cells + 1) (slots + N) Q (F0 m (pc + 3) ls (.ref q :: rest))) : W p l e R s m args below meth c H locs cells slots Q (F0 m pc ls rest) := by
  obtain ⟨ws, hP, hD, back⟩ := hW.openN hr h64
  exact va_new hexec hb hts hin ty hty hown hcl hinst hini hK hP hD hS hA hc hfs hcells hslots hdg fun q H1 hP1 hD1 hS1 => kk q H1 (back _ _ _ hP1 hD1) hS1
theorem wb_newa (hexec : p.tables.exec = Jvm.exec) (hb : c.code = cc) {atype : ArrayType} (harr : (Cond.arrayClass (newarray.typeOf atype)).before args s = true) {ty : FieldType} (hty : newarray.typeOf atype = ty) (hK : va_K D vwCl tys s) (hW : wP D A lv ad ct H) (hS : va_S A H0 H locs) (hA : ∀ q, H0.size ≤ q → A q) (r : Nat) (hr : ¬ lv r) (h64 : r < 64) (t0 : Nat) {cA : ClassId} (ht : tys[t0]? = some (cA, ty)) (hno : ∀ C, ty ≠ .object C)
    {n : Int32} {N' : Nat} {a0 : vp_A} (ha : ∀ cA : ClassId, vp_cell cA a0 = arrV cA N' (fun _ => defaultValue ty)) (hn : ¬ n < 0) (hN : n.toNatClampNeg = N') (hbytes : N' * componentBytes ty ≤ 536870912) (hcells : cells + 1 ≤ R.cells) (hslots : slots + N' ≤ R.slots) (hdg : decode cc pc = .ok (.newarray atype, 2))
    (kk : ∀ (q : Nat) (H1 : Heap), wP D A (fun z => lv z ∨ z = r) (va_up ad r q) (va_up ct r (.inl (cA, a0))) H1 → va_S A H0 H1 locs →
      W p l e R s m args below meth c H1 locs (cells + 1) (slots + N') Q (F0 m (pc + 2) ls (.ref q :: rest))) : W p l e R s m args below meth c H locs cells slots Q (F0 m pc ls (.int n :: rest)) := by
  obtain ⟨ws, hP, hD, back⟩ := hW.openN hr h64
  refine va_newa hexec hb harr hty hK hP hD hS hA ha hn hN hbytes hcells hslots hdg fun q cA' H1 hK1 hP1 hD1 hS1 => ?_
  have e1 : cA' = cA := by
    have h1 := (hK.2 t0 _ ht).2
    have h2 := (hK1.2 tys.length (cA', ty) (by rw [List.getElem?_append_right (Nat.le_refl _), Nat.sub_self]; rfl)).2
    cases ty with
    | object C => exact absurd rfl (hno C)
    | _ => exact Option.some.inj (h2.symm.trans h1)
  subst e1
  exact kk q H1 (back _ _ _ hP1 hD1) hS1
theorem wb_newq (hexec : p.tables.exec = Jvm.exec) (hb : c.code = cc) {own C : String} {index : Nat} (hown : s.vm.findClass own = some m.cls) (hclink : (Cond.classLink own index C).before args s = true) (hover : va_AO C s) (hK : va_K D vwCl tys s) (hW : wP D A lv ad ct H) (hS : va_S A H0 H locs) (hA : ∀ q, H0.size ≤ q → A q) (r : Nat) (hr : ¬ lv r) (h64 : r < 64) (t0 : Nat) {cA : ClassId} (ht : tys[t0]? = some (cA, .object C))
    {n : Int32} {N' : Nat} (hn : ¬ n < 0) (hN : n.toNatClampNeg = N') (hbytes : N' * 4 ≤ 536870912) (hcells : cells + 1 ≤ R.cells) (hslots : slots + N' ≤ R.slots) (hdg : decode cc pc = .ok (.anewarray index, 3))
    (kk : ∀ (q : Nat) (H1 : Heap), wP D A (fun z => lv z ∨ z = r) (va_up ad r q) (va_up ct r (.inl (cA, N', .inr (.inr (.inr (.inr (fun _ => none))))))) H1 → va_S A H0 H1 locs →
      W p l e R s m args below meth c H1 locs (cells + 1) (slots + N') Q (F0 m (pc + 3) ls (.ref q :: rest))) : W p l e R s m args below meth c H locs cells slots Q (F0 m pc ls (.int n :: rest)) := by
  obtain ⟨ws, hP, hD, back⟩ := hW.openN hr h64
  refine va_newq hexec hb hown hclink hover hK hP hD hS hA hn hN hbytes hcells hslots hdg fun q cA' H1 hK1 hP1 hD1 hS1 => ?_
  have e1 : cA' = cA := by
    obtain ⟨-, _, _, -, -, -, h1⟩ := hK.2 t0 _ ht
    obtain ⟨-, _, _, -, -, -, h2⟩ := hK1.2 tys.length (cA', .object C) (by rw [List.getElem?_append_right (Nat.le_refl _), Nat.sub_self]; rfl)
    exact Option.some.inj (h2.symm.trans h1)
  subst e1
  exact kk q H1 (back _ _ _ hP1 hD1) hS1
theorem wb_recv {s : State} {q : vw_C} {r ci : Nat} {fs : List Value} (hK : va_K D vwCl tys s) (hW : wP D A lv ad ct H) (hr : lv r) (hc : vwCl[ci]? = some q) (he : ct r = .inr (ci, fs)) : ∃ cell : Cell, H[ad r]? = some cell ∧ cell.vm.isStatics = false ∧ s.vm.findClass q.1 = some cell.cls := by
  obtain ⟨ws, h0, -, hP, hD, -⟩ := hW.open_ hr
  exact va_recv hK hP hc (q0 := 0) (fs := fs) (by rw [h0, he])
end WB
