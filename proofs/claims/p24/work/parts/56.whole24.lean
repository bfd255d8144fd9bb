/-! ===== the law's entry: the object, the law's arrays, then its begin ===== -/
set_option maxHeartbeats 4000000 in
set_option maxRecDepth 100000 in
/-- YOUR PART: from the entry, for every script of at most 260 ints, the law comes to its end with true ('hflags': the launch's flags, for a law that throws: no stack traces) -/
theorem whole_start {p : Program} {e : Env} {s : State} {m : MethodId} {below : List Frame} {meth : Method} {c : Code} (l : Launch) (hflags : l.flags = flags0) {b L : Nat} {xs : Nat → Int32} (hL : L ≤ 260) (C0 : lw_At p s m meth c b L xs) : W p l e room_1 s m #[Value.ref b] below meth c s.heap [] 0 0 (lw_Z below #[Value.ref b] s) (entryFrame m ([Value.ref b] : List Value).toArray 20) := by
  have hst : l.stackTraces = false := by unfold Launch.stackTraces; rw [hflags]; decide +kernel
  obtain ⟨D, cs, z0, sa, hE, hnc, hnest⟩ := law_env C0
  have C9 := C0
  obtain ⟨hx, hb0, hr, hml, hown0, hts0, hX, hbl, hlocks, hgv⟩ := C0
  have hb : c.code = cL_law := hb0
  have hown : s.vm.findClass RL = some m.cls := hown0
  have hts : ∀ w ∈ wsL_law, w.before #[Value.ref b] s = true := fun w h => hts0 w (wsL_law_in w h)
  have hK := hE.1
  have hS : va_S (fun q => s.heap.size ≤ q) s.heap s.heap [] := va_S.rf
  have hl := lv_entry ([.ref b]) (n := 20) (Nat.le_of_ble_eq_true rfl)
  rw [lg_entry_eq]
  generalize (lg_sl ([.ref b]) ++ List.replicate (20 - (lg_sl ([.ref b])).length) Slot.unset).toArray = ls at hl ⊢
  have hl : lv_has ls 20 [(0, .ref b)] := hl
  refine wb_new (ci := 4) (fs := [.null, .null, .null, .int 0, .int 0, .int 0, .int 0, .int 0]) (ad := fun _ => 0) (ct := fun _ => .inr (0, [])) hx hb hts (T := TX3) (N := 8) (C := RX3) inlX3 tyX3 tyX3_ok hown (hts (.classLink RL 10 RX3) (by decide +kernel)) (hts (.instantiable RX3 8) (by decide +kernel)) (hts (.initialized RX3) (by decide +kernel)) hK wP.nil hS (fun _ h => h) 0 (fun h => h) (by decide) rfl (fun j hj => by rcases (show j = 0 ∨ j = 1 ∨ j = 2 ∨ j = 3 ∨ j = 4 ∨ j = 5 ∨ j = 6 ∨ j = 7 by omega) with rfl | rfl | rfl | rfl | rfl | rfl | rfl | rfl <;> rfl) (Nat.le_of_ble_eq_true rfl) (Nat.le_of_ble_eq_true rfl) dL_law_0 (fun o H hW hS => ?_)
  have hW := hW.one
  refine lv_dup hx hb dL_law_3 rfl ?_
  refine va_callv (va_runI (As := []) (rest := [.ref o]) ⟨hx, hb, hml, hown, hts⟩ (c_X3_init l D cs (fun z => s.heap.size ≤ z) z0 sa o) (cwI 0 hts gL_law_X3_init rfl rfl rfl (hts (.initialized RX3) (by decide +kernel)) (hts (.methodLink RL 99 yX3_init) (by decide +kernel)) (hts (.instanceMethod yX3_init) (by decide +kernel)) rfl (by decide +kernel) ⟨Nat.le_of_ble_eq_true rfl, Nat.le_of_ble_eq_true rfl⟩) ⟨pCn_fb, fun U hU hV => ⟨rfl, ⟨hE.at (fun _ h => h) hS hV hU, by rw [hU]; exact hW⟩, hnest.warmM hV⟩⟩ rfl rfl hl.1 rfl (lv_room (Nat.le_of_ble_eq_true rfl)) dL_law_4 ⟨Nat.le_of_ble_eq_true rfl, Nat.le_of_ble_eq_true rfl⟩) hS (fun _ _ h => h) (fun _ h => h) (fun u t9 H1 locs ht hvm hw hB hz1 hk1 hS => ?_)
  rw [ht] at hB
  refine lv_astore_n (lv' := [(1, .ref o), (0, .ref b)]) hx hb dL_law_7 rfl hl (by decide) rfl (fun ls hl => ?_)
  refine va_forget (fun q hq => hS.2.2 q hq) ?_
  have hS1 := hS.no
  have hS2 : va_S (fun q => H1.size ≤ q) H1 H1 [] := va_S.rf
  refine lv_bipush (v := 12) hx hb dL_law_8 (by decide) ?_
  refine wb_newa (atype := .int) (ty := .int) (N' := 12) (a0 := (12, .inl (fun _ => 0))) (ad := fun _ => 0) (ct := fun _ => .inr (0, [])) hx hb (hts (.arrayClass .int) (by decide +kernel)) rfl hK wP.nil hS2 (fun _ h => h) 0 (fun h => h) (by decide) 0 rfl (fun _ h9 => by cases h9) (fun _ => rfl) (by decide) rfl (by decide) (Nat.le_of_ble_eq_true rfl) (Nat.le_of_ble_eq_true rfl) dL_law_10 (fun q0 H2 hW2 hS2 => ?_)
  refine lv_astore_n (lv' := [(2, .ref q0), (1, .ref o), (0, .ref b)]) hx hb dL_law_12 rfl hl (by decide) rfl (fun ls hl => ?_)
  refine lv_iconst (v := 5) hx hb dL_law_13 (by decide) ?_
  refine wb_newa (atype := .int) (ty := .int) (N' := 5) (a0 := (5, .inl (fun _ => 0))) hx hb (hts (.arrayClass .int) (by decide +kernel)) rfl hK hW2 hS2 (fun _ h => h) 1 (fun h => h.elim (fun z => z) (fun z => absurd z (by decide))) (by decide) 0 rfl (fun _ h9 => by cases h9) (fun _ => rfl) (by decide) rfl (by decide) (Nat.le_of_ble_eq_true rfl) (Nat.le_of_ble_eq_true rfl) dL_law_14 (fun q1 H3 hW2 hS2 => ?_)
  refine lv_astore_n (lv' := [(3, .ref q1), (2, .ref q0), (1, .ref o), (0, .ref b)]) hx hb dL_law_16 rfl hl (by decide) rfl (fun ls hl => ?_)
  refine lv_iconst (v := 5) hx hb dL_law_17 (by decide) ?_
  refine wb_newa (atype := .int) (ty := .int) (N' := 5) (a0 := (5, .inl (fun _ => 0))) hx hb (hts (.arrayClass .int) (by decide +kernel)) rfl hK hW2 hS2 (fun _ h => h) 2 (fun h => h.elim (fun z => z.elim (fun w => w) (fun w => absurd w (by decide))) (fun z => absurd z (by decide))) (by decide) 0 rfl (fun _ h9 => by cases h9) (fun _ => rfl) (by decide) rfl (by decide) (Nat.le_of_ble_eq_true rfl) (Nat.le_of_ble_eq_true rfl) dL_law_18 (fun q2 H4 hW2 hS2 => ?_)
  refine lv_astore (lv' := [(4, .ref q2), (3, .ref q1), (2, .ref q0), (1, .ref o), (0, .ref b)]) hx hb dL_law_20 hl (by decide) rfl (fun ls hl => ?_)
  obtain ⟨adL, eL⟩ : ∃ adL : Nat → Nat, adL = va_up (va_up (va_up (fun _ => 0) 0 q0) 1 q1) 2 q2 := ⟨_, rfl⟩
  have e0 : q0 = adL 0 := by rw [eL]; rfl
  have e1 : q1 = adL 1 := by rw [eL]; rfl
  have e2 : q2 = adL 2 := by rw [eL]; rfl
  have hA : wP D (fun q => H1.size ≤ q) lvL3 adL (ctL cs (fun _ => 0) (fun _ => 0) (fun _ => 0)) H4 := by
    rw [eL]
    exact hW2.to (fun r hr => by
      rcases lt3 hr with rfl | rfl | rfl
      · exact ⟨Or.inl (Or.inl (Or.inr rfl)), rfl, rfl⟩
      · exact ⟨Or.inl (Or.inr rfl), rfl, rfl⟩
      · exact ⟨Or.inr rfl, rfl, rfl⟩)
  have hA := hA.reA (A' := fun z => H1.size ≤ z ∧ z < H4.size) (fun z h1 h2 => ⟨h1, h2⟩)
  have hS5 := hS1.tr hS2 (fun z hz => Nat.le_trans hS1.1 hz)
  have hR := ((hB.reA (A' := fun z => s.heap.size ≤ z ∧ z < H1.size) (fun z h1 h2 => ⟨h1, h2⟩)).keptA (A1 := fun z => H1.size ≤ z) (fun z hz => Nat.not_le.mpr hz.2) hS2.2.1).reA (A' := AC s.heap.size (fun z => H1.size ≤ z ∧ z < H4.size)) (fun z h1 h2 => ⟨h1.1, fun h3 => by have := h1.2; have := h3.1; omega⟩)
  have hAL : ∀ q, (fun z => H1.size ≤ z ∧ z < H4.size) q → s.heap.size ≤ q ∧ q < H4.size := fun q hq => ⟨Nat.le_trans hS1.1 hq.1, hq.2⟩
  refine W.widen (k := 25) (n := 200) (Nat.le_of_ble_eq_true rfl) (Nat.le_of_ble_eq_true rfl) ?_
  rw [e0, e1, e2] at hl
  exact law_begin (AL := fun z => H1.size ≤ z ∧ z < H4.size) hst C9 hE hnc hAL hL ⟨hR, hA, Nat.le_refl _, hS5, LV_0 _ _ _⟩ (lv_sub hl [4, 3, 2, 1, 0] rfl)
