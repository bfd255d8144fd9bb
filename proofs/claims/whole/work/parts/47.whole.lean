/-! ===== the law's entry: the two objects, the cell of the law's own, then its loop ===== -/
theorem va_S.tr {A A2 : Nat → Prop} {H0 H H1 : Heap} {locs1 : List Loc} (h : va_S A H0 H []) (h2 : va_S A2 H H1 locs1) (hA : ∀ q, A2 q → A q) : va_S A H0 H1 locs1 :=
  ⟨Nat.le_trans h.1 h2.1, fun q h1 h3 => (h2.2.1 q (Nat.lt_of_lt_of_le h1 h.1) (fun z => h3 (hA q z))).trans (h.2.1 q h1 h3), fun x hx => hA _ (h2.2.2 x hx)⟩
theorem va_S.no {A : Nat → Prop} {H0 H : Heap} {locs : List Loc} (h : va_S A H0 H locs) : va_S A H0 H [] := ⟨h.1, h.2.1, fun _ h => by cases h⟩
theorem wP.one {D : va_G} {A : Nat → Prop} {ad : Nat → Nat} {ct : Nat → va_E} {q : Nat} {e : va_E} {H : Heap} (h : wP D A (fun z => False ∨ z = 0) (va_up ad 0 q) (va_up ct 0 e) H) : wP D A (fun z => z = 0) (fun _ => q) (fun _ => e) H :=
  h.to (fun r hr => by
    cases (show r = 0 from hr)
    exact ⟨Or.inr rfl, (va_up_self ad 0 q).symm, (va_up_self ct 0 e).symm⟩)
theorem OC.mk0 {D : va_G} {cs : Nat → ClassId} {A : Nat → Prop} {oo : Nat} {H : Heap} (h : wP D A (fun z => z = 0) (fun _ => oo) (fun _ => .inl (cs 4, 1, .inr (.inl (fun _ => 0)))) H) : OC D cs oo (fun _ => True) H :=
  ⟨fun _ => 0, trivial, h.1, h.2.1, fun r hr => ⟨rfl, h.hat hr⟩⟩
set_option maxHeartbeats 4000000 in
set_option maxRecDepth 100000 in
/-- YOUR PART: from the entry, for every script of at most 2560 ints, the law comes to its end with true ('hflags': the launch's flags, for a law that throws: no stack traces) -/
theorem whole_start {p : Program} {e : Env} {s : State} {m : MethodId} {below : List Frame} {meth : Method} {c : Code} (l : Launch) (hflags : l.flags = flags0) {b L : Nat} {xs : Nat → Int32} (hL : L ≤ 2560) (C0 : lw_At p s m meth c b L xs) : W p l e room_1 s m #[Value.ref b] below meth c s.heap [] 0 0 (lw_Z below #[Value.ref b] s) (entryFrame m ([Value.ref b] : List Value).toArray 8) := by
  have hst : l.stackTraces = false := by unfold Launch.stackTraces; rw [hflags]; decide +kernel
  obtain ⟨D, cs, z0, sa, hE, hnc, hnest⟩ := law_env C0
  have C9 := C0
  obtain ⟨hx, hb0, hr, hml, hown0, hts0, hX, hbl, hlocks, hgv⟩ := C0
  have hb : c.code = cL_law := hb0
  have hown : s.vm.findClass RL = some m.cls := hown0
  have hts : ∀ w ∈ wsL_law, w.before #[Value.ref b] s = true := fun w h => hts0 w (wsL_law_in w h)
  have hK := hE.1
  have hS : va_S (fun q => s.heap.size ≤ q) s.heap s.heap [] := va_S.rf
  have hl := lv_entry ([.ref b]) (n := 8) (Nat.le_of_ble_eq_true rfl)
  rw [lg_entry_eq]
  generalize (lg_sl ([.ref b]) ++ List.replicate (8 - (lg_sl ([.ref b])).length) Slot.unset).toArray = ls at hl ⊢
  have hl : lv_has ls 8 [(0, .ref b)] := hl
  refine wb_new (ci := 4) (fs := [.null, .null, .null, .int 0, .int 0, .int 0, .int 0, .int 0]) (ad := fun _ => 0) (ct := fun _ => .inr (0, [])) hx hb hts (T := TX3) (N := 8) (C := RX3) inlX3 tyX3 tyX3_ok hown (hts (.classLink RL 8 RX3) (by decide +kernel)) (hts (.instantiable RX3 8) (by decide +kernel)) (hts (.initialized RX3) (by decide +kernel)) hK wP.nil hS (fun _ h => h) 0 (fun h => h) (by decide) rfl (fun j hj => by rcases (show j = 0 ∨ j = 1 ∨ j = 2 ∨ j = 3 ∨ j = 4 ∨ j = 5 ∨ j = 6 ∨ j = 7 by omega) with rfl | rfl | rfl | rfl | rfl | rfl | rfl | rfl <;> rfl) (Nat.le_of_ble_eq_true rfl) (Nat.le_of_ble_eq_true rfl) dL_law_0 (fun o H hW hS => ?_)
  have hW := hW.one
  refine lv_dup hx hb dL_law_3 rfl ?_
  refine va_callv (va_runI (As := []) (rest := [.ref o]) ⟨hx, hb, hml, hown, hts⟩ (c_X3_init l D cs (fun z => s.heap.size ≤ z) z0 sa o) (cwI 0 hts gL_law_X3_init rfl rfl rfl (hts (.initialized RX3) (by decide +kernel)) (hts (.methodLink RL 70 yX3_init) (by decide +kernel)) (hts (.instanceMethod yX3_init) (by decide +kernel)) rfl (by decide +kernel) ⟨Nat.le_of_ble_eq_true rfl, Nat.le_of_ble_eq_true rfl⟩) ⟨pCn_fb, fun U hU hV => ⟨rfl, ⟨hE.at (fun _ h => h) hS hV hU, by rw [hU]; exact hW⟩, hnest.warmM hV⟩⟩ rfl rfl hl.1 rfl (lv_room (Nat.le_of_ble_eq_true rfl)) dL_law_4 ⟨Nat.le_of_ble_eq_true rfl, Nat.le_of_ble_eq_true rfl⟩) hS (fun _ _ h => h) (fun _ h => h) (fun u t9 H1 locs ht hvm hw hB hz1 hk1 hS => ?_)
  rw [ht] at hB
  refine lv_astore_n (lv' := [(1, .ref o), (0, .ref b)]) hx hb dL_law_7 rfl hl (by decide) rfl (fun ls hl => ?_)
  refine va_forget (fun q hq => hS.2.2 q hq) ?_
  have hS1 := hS.no
  have hS2 : va_S (fun q => H1.size ≤ q) H1 H1 [] := va_S.rf
  refine wb_new (ci := 5) (fs := [.int 0, .int 0, .int 0, .int 0, .int 0, .null, .null, .null, .null, .null, .null, .int 0, .null, .null, .null, .null, .int 0, .int 0]) (ad := fun _ => 0) (ct := fun _ => .inr (0, [])) hx hb hts (T := TX4) (N := 18) (C := RX4) inlX4 tyX4 tyX4_ok hown (hts (.classLink RL 71 RX4) (by decide +kernel)) (hts (.instantiable RX4 18) (by decide +kernel)) (hts (.initialized RX4) (by decide +kernel)) hK wP.nil hS2 (fun _ h => h) 0 (fun h => h) (by decide) rfl (fun j hj => by rcases (show j = 0 ∨ j = 1 ∨ j = 2 ∨ j = 3 ∨ j = 4 ∨ j = 5 ∨ j = 6 ∨ j = 7 ∨ j = 8 ∨ j = 9 ∨ j = 10 ∨ j = 11 ∨ j = 12 ∨ j = 13 ∨ j = 14 ∨ j = 15 ∨ j = 16 ∨ j = 17 by omega) with rfl | rfl | rfl | rfl | rfl | rfl | rfl | rfl | rfl | rfl | rfl | rfl | rfl | rfl | rfl | rfl | rfl | rfl <;> rfl) (Nat.le_of_ble_eq_true rfl) (Nat.le_of_ble_eq_true rfl) dL_law_8 (fun q2 H2 hW2 hS2 => ?_)
  have hW2 := hW2.one
  refine lv_dup hx hb dL_law_11 rfl ?_
  refine va_callv (va_runI (As := []) (rest := [.ref q2]) ⟨hx, hb, hml, hown, hts⟩ (c_X4_init l D cs (fun z => H1.size ≤ z) q2) (cwI 0 hts gL_law_X4_init rfl rfl rfl (hts (.initialized RX4) (by decide +kernel)) (hts (.methodLink RL 73 yX4_init) (by decide +kernel)) (hts (.instanceMethod yX4_init) (by decide +kernel)) rfl (by decide +kernel) ⟨Nat.le_of_ble_eq_true rfl, Nat.le_of_ble_eq_true rfl⟩) ⟨pI_fb, fun U hU hV => ⟨rfl, va_K.moved hV.alike hK, fun q hq => Nat.le_trans hS2.1 (by rw [hU] at hq; exact hq), by rw [hU]; exact hW2⟩⟩ rfl rfl hl.1 rfl (lv_room (Nat.le_of_ble_eq_true rfl)) dL_law_12 ⟨Nat.le_of_ble_eq_true rfl, Nat.le_of_ble_eq_true rfl⟩) hS2 (fun _ _ h => h) (fun _ h => h) (fun u3 t3 H3 locs3 ht3 hvm3 hw3 hB3 hz3 hk3 hS3 => ?_)
  rw [ht3] at hB3
  obtain ⟨adM, had, hM⟩ := hB3
  subst had
  refine lv_astore_n (lv' := [(2, .ref (adM 0)), (1, .ref o), (0, .ref b)]) hx hb dL_law_15 rfl hl (by decide) rfl (fun ls hl => ?_)
  have hz13 : H1.size ≤ H3.size := hS3.1
  have hR := (hB.reA (A' := fun z => s.heap.size ≤ z ∧ z < H1.size) (fun z h1 h2 => ⟨h1, h2⟩)).keptA (A1 := fun z => H1.size ≤ z) (fun z hz => Nat.not_le.mpr hz.2) hS3.2.1
  have hM := hM.reA (A' := fun z => H1.size ≤ z ∧ z < H3.size) (fun z h1 h2 => ⟨h1, h2⟩)
  have hS4 := hS1.tr hS3 (fun z hz => Nat.le_trans hS1.1 hz)
  refine va_forget (fun q hq => hS4.2.2 q hq) ?_
  have hS5 := hS4.no
  have hS6 : va_S (fun q => H3.size ≤ q) H3 H3 [] := va_S.rf
  refine lv_iconst (v := 1) hx hb dL_law_16 (by decide) ?_
  refine wb_newa (atype := .long) (ty := .long) (N' := 1) (a0 := (1, .inr (.inl (fun _ => 0)))) (ad := fun _ => 0) (ct := fun _ => .inr (0, [])) hx hb (hts (.arrayClass .long) (by decide +kernel)) rfl hK wP.nil hS6 (fun _ h => h) 0 (fun h => h) (by decide) 4 rfl (fun _ h9 => by cases h9) (fun _ => rfl) (by decide) rfl (by decide) (Nat.le_of_ble_eq_true rfl) (Nat.le_of_ble_eq_true rfl) dL_law_17 (fun oo H4 hW4 hS7 => ?_)
  have hW4 := hW4.one
  have hoo1 : H3.size ≤ oo := (hW4.2.2 0 rfl).1
  have hoo2 : oo < H4.size := (hW4.hat (r := 0) rfl).lt
  have hO := OC.mk0 hW4
  have hR := (hR.keptA (A1 := fun z => H3.size ≤ z) (fun z hz hz2 => by have := hz.2; omega) hS7.2.1).reA (A' := AC s.heap.size (fun z => H1.size ≤ z ∧ z < H3.size) oo) (fun z h1 h2 => ⟨h1.1, fun h3 => by have := h1.2; have := h3.1; omega, by have := h1.2; omega⟩)
  have hM := hM.keptA (A1 := fun z => H3.size ≤ z) (fun z hz hz2 => by have := hz.2; omega) hS7.2.1
  have hS8 := hS5.tr hS7 (fun z hz => Nat.le_trans hS5.1 hz)
  refine lv_astore_n (lv' := [(3, .ref oo), (2, .ref (adM 0)), (1, .ref o), (0, .ref b)]) hx hb dL_law_19 rfl hl (by decide) rfl (fun ls hl => ?_)
  refine lv_iconst (v := nI (5 * 0)) hx hb dL_law_20 (by decide) ?_
  refine lv_istore (lv' := [(4, .int (nI (5 * 0))), (3, .ref oo), (2, .ref (adM 0)), (1, .ref o), (0, .ref b)]) hx hb dL_law_21 hl (by decide) rfl (fun ls hl => ?_)
  refine W.widen (k := 30 + 2 * 0) (n := 300 + 30 * 0) (by decide) (by decide) ?_
  have hAM : ∀ q, (fun z => H1.size ≤ z ∧ z < H3.size) q → s.heap.size ≤ q ∧ q < H4.size := fun q hq => ⟨Nat.le_trans hS1.1 hq.1, Nat.lt_of_lt_of_le hq.2 hS7.1⟩
  have hoo : s.heap.size ≤ oo ∧ oo < H4.size ∧ ¬ (fun z => H1.size ≤ z ∧ z < H3.size) oo := ⟨Nat.le_trans hS5.1 hoo1, hoo2, fun h => by have := h.2; omega⟩
  exact law_loop (AM := fun z => H1.size ≤ z ∧ z < H3.size) hst hL C9 hE hnc hAM hoo 513 0 (by decide) (by decide) H4 _ ls g0 _ _ 0 0 ⟨hR, ⟨_, hM⟩, hO, Iv_0, (by decide), Nat.le_refl _, hS8, lv_sub hl [4, 3, 2, 1, 0] rfl⟩
