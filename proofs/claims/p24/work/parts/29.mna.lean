/-! ===== new int[12][9] in the world: role 5 the outer, roles 8 to 19 the rows ===== -/
theorem wP.openL {D : va_G} {A lv : Nat → Prop} {ad : Nat → Nat} {ct : Nat → va_E} {H : Heap} (h : wP D A lv ad ct H) :
    ∃ ws : va_W, (∀ r, lv r → ∃ k : Nat, k < ws.length ∧ ws[k]? = some (ad r, ct r)) ∧ va_P D vwCl ws H ∧ va_D A ws := by
  classical
  obtain ⟨rs, hrs, hnd⟩ : ∃ rs : List Nat, (∀ r, r ∈ rs ↔ lv r) ∧ rs.Nodup := by
    refine ⟨(List.range 64).filter (fun r => decide (lv r)), fun r => ?_, List.Nodup.sublist List.filter_sublist List.nodup_range⟩
    rw [List.mem_filter, List.mem_range, decide_eq_true_iff]
    exact ⟨fun q => q.2, fun q => ⟨h.1 r q, q⟩⟩
  refine ⟨rs.map (fun r => (ad r, ct r)), fun r q => ?_, fun k q hk => ?_, ⟨fun i j x y hi hj hxy => ?_, fun k q hk => ?_⟩⟩
  · obtain ⟨k, hk⟩ := List.mem_iff_getElem?.mp ((hrs r).mpr q)
    exact ⟨k, by rw [List.length_map]; exact (List.getElem?_eq_some_iff.mp hk).1, by rw [List.getElem?_map, hk]; rfl⟩
  · obtain ⟨r, h1, rfl⟩ := List.mem_map.mp (List.mem_of_getElem? hk)
    exact h.hat ((hrs r).mp h1)
  · rw [List.getElem?_map] at hi hj
    cases h1 : rs[i]? with
    | none => rw [h1] at hi; cases hi
    | some r1 =>
      cases h2 : rs[j]? with
      | none => rw [h2] at hj; cases hj
      | some r2 =>
        rw [h1] at hi
        rw [h2] at hj
        cases hi
        cases hj
        have e := h.2.1 r1 r2 ((hrs _).mp (List.mem_of_getElem? h1)) ((hrs _).mp (List.mem_of_getElem? h2)) hxy
        subst e
        exact (List.getElem?_inj (List.getElem?_eq_some_iff.mp h1).1 hnd).mp (h1.trans h2.symm)
  · obtain ⟨r, h1, rfl⟩ := List.mem_map.mp (List.mem_of_getElem? hk)
    exact (h.2.2 r ((hrs r).mp h1)).1
def adMn (ad : Nat → Nat) (q : Nat) (r : Nat → Nat) : Nat → Nat := fun z => if z = 5 then q else if 8 ≤ z ∧ z < 20 then r (z - 8) else ad z
def ctMn (cs : Nat → ClassId) (ct : Nat → va_E) (r : Nat → Nat) : Nat → va_E := fun z => if z = 5 then .inl (cs 3, 12, rfs (fun j => if j < 12 then some (r j) else none)) else if 8 ≤ z ∧ z < 20 then .inl (cs 0, 9, .inl (fun _ => 0)) else ct z
section WMN
variable {p : Program} {l : Launch} {e : Env} {R : Room} {s : State} {m : MethodId} {args : Array Value} {below : List Frame} {meth : Method} {c : Code} {H : Heap} {locs : List Loc} {cells slots : Nat} {Q : State → Prop}
variable {cc : ByteArray} {pc : Nat} {ls : Array Slot} {rest : List Value} {D : va_G} {A : Nat → Prop} {H0 : Heap} {lv : Nat → Prop} {ad : Nat → Nat} {ct : Nat → va_E} {cs : Nat → ClassId}
theorem wb_mna (hexec : p.tables.exec = Jvm.exec) (hb : c.code = cc) {own : String} {index : Nat} (hown : s.vm.findClass own = some m.cls) (hclink : (Cond.classLink own index "[[I").before args s = true) (hover : va_AOA .int s) (harr : (Cond.arrayClass .int).before args s = true)
    (hK : va_K D vwCl (vT cs) s) (hW : wP D A lv ad ct H) (hS : va_S A H0 H locs) (hA : ∀ q, H0.size ≤ q → A q) (h5 : ∀ z, lv z → z ≠ 5 ∧ ¬ (8 ≤ z ∧ z < 20)) (hcells : cells + (1 + 12) ≤ R.cells) (hslots : slots + (12 + 12 * 9) ≤ R.slots) (hdg : decode cc pc = .ok (.multianewarray index 2, 4))
    (kk : ∀ (q : Nat) (r : Nat → Nat) (H1 : Heap), wP D A (fun z => lv z ∨ z = 5 ∨ (8 ≤ z ∧ z < 20)) (adMn ad q r) (ctMn cs ct r) H1 → va_S A H0 H1 locs →
      W p l e R s m args below meth c H1 locs (cells + 1 + 12) (slots + 12 + 12 * 9) Q (F0 m (pc + 4) ls (.ref q :: rest))) : W p l e R s m args below meth c H locs cells slots Q (F0 m pc ls (.int 9 :: .int 12 :: rest)) := by
  obtain ⟨ws, hget, hP, hD⟩ := hW.openL
  refine va_mna (X := ws) (L := []) (f := fun _ => .inl (cs 0, 0, .inl (fun _ => 0))) (ty := .int) (cy := cs 0) (z := (9, .inl (fun _ => 0))) (N' := 12) (K' := 9) hexec hb hown hclink hover harr (hK.2 0 _ rfl).2 hK (by simpa [va_pl] using hP) (by simpa [va_pl] using hD) hS hA (by decide) (by decide) rfl rfl (by decide) (by decide) (by decide) rfl rfl hcells hslots (fun c => by rw [vp_cell_i]; exact arrV_new _ _ _) hdg (fun q r cA H1 hinj _ hK1 hP1 hD1 hS1 => ?_)
  have hc : cA = cs 3 := by
    have h1 := (hK.2 3 _ rfl).2
    have h2 := (hK1.2 (vT cs).length (cA, .array .int) (by rw [List.getElem?_append_right (Nat.le_refl _), Nat.sub_self]; rfl)).2
    exact Option.some.inj (h2.symm.trans h1)
  subst hc
  refine kk q r H1 ?_ hS1
  generalize hF : vr_up (fun _ => (.inl (cs 0, 0, .inl (fun _ => 0)) : va_E)) ((List.range 12).map r) (.inl (cs 0, 9, .inl (fun _ => 0))) = F at hP1 hD1
  have hFr : ∀ j, j < 12 → F (r j) = .inl (cs 0, 9, .inl (fun _ => 0)) := fun j hj => by
    rw [← hF]
    exact vr_up_in (List.mem_map.mpr ⟨j, List.mem_range.mpr hj, rfl⟩)
  have hrow : ∀ j, j < 12 → (va_pl ([] ++ (List.range 12).map r) F)[j]? = some (r j, .inl (cs 0, 9, .inl (fun _ => 0))) := fun j hj => by
    unfold va_pl
    rw [List.nil_append, List.map_map, List.getElem?_map, List.getElem?_range hj]
    show some (r j, F (r j)) = _
    rw [hFr j hj]
  generalize hWW : (ws ++ [(q, (.inl (cs 3, 12, .inr (.inr (.inr (.inr (fun i => if i < 12 then some (r i) else none))))) : va_E))]) ++ va_pl ([] ++ (List.range 12).map r) F = WW at hP1 hD1
  have hlen : (ws ++ [(q, (.inl (cs 3, 12, .inr (.inr (.inr (.inr (fun i => if i < 12 then some (r i) else none))))) : va_E))]).length = ws.length + 1 := by rw [List.length_append]; rfl
  have key : ∀ z, (lv z ∨ z = 5 ∨ (8 ≤ z ∧ z < 20)) → ∃ k : Nat, WW[k]? = some (adMn ad q r z, ctMn cs ct r z) ∧ ((lv z ∧ k < ws.length ∧ adMn ad q r z = ad z) ∨ (z = 5 ∧ k = ws.length) ∨ (8 ≤ z ∧ z < 20 ∧ k = ws.length + 1 + (z - 8))) := fun z hz => by
    rcases hz with hz | rfl | hz
    · obtain ⟨k, h1, h2⟩ := hget z hz
      obtain ⟨a1, a2⟩ := h5 z hz
      have e1 : adMn ad q r z = ad z := by unfold adMn; rw [if_neg a1, if_neg a2]
      have e2 : ctMn cs ct r z = ct z := by unfold ctMn; rw [if_neg a1, if_neg a2]
      refine ⟨k, ?_, Or.inl ⟨hz, h1, e1⟩⟩
      rw [e1, e2, ← hWW, List.getElem?_append_left (by rw [hlen]; omega), List.getElem?_append_left h1, h2]
    · refine ⟨ws.length, ?_, Or.inr (Or.inl ⟨rfl, rfl⟩)⟩
      rw [← hWW, List.getElem?_append_left (by rw [hlen]; omega), List.getElem?_append_right (Nat.le_refl _), Nat.sub_self]
      rfl
    · have e1 : adMn ad q r z = r (z - 8) := by unfold adMn; rw [if_neg (by omega), if_pos hz]
      have e2 : ctMn cs ct r z = .inl (cs 0, 9, .inl (fun _ => 0)) := by unfold ctMn; rw [if_neg (by omega), if_pos hz]
      refine ⟨ws.length + 1 + (z - 8), ?_, Or.inr (Or.inr ⟨hz.1, hz.2, rfl⟩)⟩
      rw [e1, e2, ← hWW, List.getElem?_append_right (by rw [hlen]; omega), hlen, Nat.add_sub_cancel_left, hrow _ (by omega)]
  refine ⟨fun z hz => ?_, fun z z' hz hz' he => ?_, fun z hz => ?_⟩
  · rcases hz with hz | hz | hz
    · exact hW.1 z hz
    · omega
    · omega
  · obtain ⟨k, h1, h2⟩ := key z hz
    obtain ⟨k', h1', h2'⟩ := key z' hz'
    have ek := hD1.1 k k' _ _ h1 h1' he
    rcases h2 with ⟨a1, a2, a3⟩ | ⟨a1, a2⟩ | ⟨a1, a2, a3⟩ <;> rcases h2' with ⟨b1, b2, b3⟩ | ⟨b1, b2⟩ | ⟨b1, b2, b3⟩ <;> first | omega | (exact hW.2.1 z z' a1 b1 (by rw [← a3, ← b3]; exact he))
  · obtain ⟨k, h1, -⟩ := key z hz
    exact ⟨hD1.2 _ _ h1, hP1 _ _ h1⟩
end WMN
