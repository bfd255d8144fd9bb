set_option maxHeartbeats 4000000 in
set_option maxRecDepth 100000 in
theorem c_Jxa1e45_init_da8c8 (l : Launch) (a : Nat) : Met l yJxa1e45_init_da8c8 wsJxa1e45_init_da8c8 ({ frames := 1, cells := 0, slots := 0, locals := 24 } : Room) (va_Pc [.ref a] (fun _ => True)) (va_Qv (fun (_ : Unit) => True) (fun _ _ => True) (fun _ => False)) 0 0 (fun _ => False) := by
  refine Met.ofW (cc := cJxa1e45_init_da8c8) (maxL := 1) (ret := none) (by decide) rfl ?_
  intro p e s m args below meth c s₁ BB hml hv
  obtain ⟨rfl, hv⟩ := hv
  have hx := BB.exec
  have hb := BB.bytes
  have hr := BB.returns
  have hts := atoms_spec (ws := wsJxa1e45_init_da8c8) BB.pre
  have hown : s.vm.findClass RJxa1e45 = some m.cls := findClass_of_methodNamed BB.named
  have hlocks := BB.notSynchronized
  have hS : va_S (fun _ => False) s.heap s.heap [] := va_S.rf
  have hl := lv_entry ([.ref a]) (n := 1) (Nat.le_of_ble_eq_true rfl)
  rw [lg_entry_eq]
  generalize (lg_sl ([.ref a]) ++ List.replicate (1 - (lg_sl ([.ref a])).length) Slot.unset).toArray = ls at hl ⊢
  have hl : lv_has ls 1 [(0, .ref a)] := hl
  refine lv_aload_n hx hb dJxa1e45_init_da8c8_0 rfl (lv_at hl 0 rfl) ?_
  refine W.objInit hx hb hown (hts (.methodLink RJxa1e45 1 objectInit) (by decide +kernel)) (hts (.instanceMethod objectInit) (by decide +kernel)) (hts (.code objectInit ⟨#[0xb1]⟩ 1 none) (by decide +kernel)) rfl (by rw [hml]; exact hl.1) rfl dJxa1e45_init_da8c8_1 (Nat.le_of_ble_eq_true rfl) (Nat.le_of_ble_eq_true rfl) ?_
  refine W.eq (g2 := F0 m 4 ls []) rfl ?_
  exact W.vret hx hb hr (fun t9 ht9 hW9 => ⟨⟨(), rfl, trivial, trivial⟩, hS.F ht9⟩) hS.2.2 dJxa1e45_init_da8c8_4

set_option maxHeartbeats 4000000 in
set_option maxRecDepth 100000 in
theorem c_Jxc12de_init_da8c8 (l : Launch) (D : va_G) (cs : Nat → ClassId) (A : Nat → Prop) (z0 : Nat) (sa : Nat → Nat) (lv : Nat → Prop) (ad : Nat → Nat) (ct : Nat → va_E) (rl : Nat) (hrl : lv rl) (hcl : ct rl = .inr (0, [.int 0, .null, .int 0])) : Met l yJxc12de_init_da8c8 wsJxc12de_init_da8c8 ({ frames := 3, cells := 0, slots := 0, locals := 60 } : Room) (va_Pc [.ref (ad rl)] (pC D cs A z0 sa lv ad ct)) (va_Qv (fun (_ : Unit) => True) (fun _ t9 => wP D A lv ad ct t9.heap) A) 0 0 A := by
  refine Met.ofW (cc := cJxc12de_init_da8c8) (maxL := 1) (ret := none) (by decide) rfl ?_
  intro p e s m args below meth c s₁ BB hml hv
  obtain ⟨rfl, hv⟩ := hv
  obtain ⟨hE, hW⟩ := hv
  have hK := hE.1
  have hx := BB.exec
  have hb := BB.bytes
  have hr := BB.returns
  have hts := atoms_spec (ws := wsJxc12de_init_da8c8) BB.pre
  have hown : s.vm.findClass RJxc12de = some m.cls := findClass_of_methodNamed BB.named
  have hlocks := BB.notSynchronized
  have hS : va_S A s.heap s.heap [] := va_S.rf
  have hl := lv_entry ([.ref (ad rl)]) (n := 1) (Nat.le_of_ble_eq_true rfl)
  rw [lg_entry_eq]
  generalize (lg_sl ([.ref (ad rl)]) ++ List.replicate (1 - (lg_sl ([.ref (ad rl)])).length) Slot.unset).toArray = ls at hl ⊢
  have hl : lv_has ls 1 [(0, .ref (ad rl))] := hl
  have hf7 := hts (.fieldLink RJxc12de 7 "java/util/AbstractList" "modCount" "I") (by decide +kernel)
  have hinJx4a65c : ∀ w ∈ u_ws RJx4a65c TJx4a65c 3, w ∈ wsJxc12de_init_da8c8 := by decide +kernel
  refine lv_aload_n hx hb dJxc12de_init_da8c8_0 rfl (lv_at hl 0 rfl) ?_
  refine va_callv (va_runI (As := []) (rest := []) ⟨hx, hb, hml, hown, hts⟩ (c_Jxa1e45_init_da8c8 l (ad rl)) (cwI 0 hts gJxc12de_init_da8c8_Jxa1e45_init_da8c8 rfl rfl rfl (hts (.initialized RJxa1e45) (by decide +kernel)) (hts (.methodLink RJxc12de 1 yJxa1e45_init_da8c8) (by decide +kernel)) (hts (.instanceMethod yJxa1e45_init_da8c8) (by decide +kernel)) rfl (by decide +kernel) ⟨Nat.le_of_ble_eq_true rfl, Nat.le_of_ble_eq_true rfl⟩) ⟨pT_fb, fun U hU hV => ⟨rfl, trivial⟩⟩ rfl rfl hl.1 rfl (lv_room (Nat.le_of_ble_eq_true rfl)) dJxc12de_init_da8c8_1 ⟨Nat.le_of_ble_eq_true rfl, Nat.le_of_ble_eq_true rfl⟩) hS (fun _ _ h => h.elim) (fun _ h => h.elim) (fun u t9 H locs ht hvm hw hB hz1 hk1 hS => ?_)
  have hW := hW.kept hk1
  refine lv_aload_n hx hb dJxc12de_init_da8c8_4 rfl (lv_at hl 0 rfl) ?_
  refine lv_iconst (v := 0) hx hb dJxc12de_init_da8c8_5 (by decide) ?_
  refine wb_putE (fs := [.int 0, .null, .int 0]) (v := .int 0) (ty := .int) hx hb hts hinJx4a65c tyJx4a65c tyJx4a65c_ok nmJx4a65c hown hK hW hS rl rfl hrl hcl rfl 0 (by decide) hf7 (fun _ h9 => h9) rfl (by decide +kernel) rfl rfl (Nat.le_of_ble_eq_true rfl) dJxc12de_init_da8c8_6 (fun H locs hW hS => ?_)
  have hW : wP D A lv ad ct H := hW.up hcl (fun _ _ _ => rfl)
  exact W.vret hx hb hr (fun t8 ht8 hW8 => ⟨⟨(), rfl, trivial, by dsimp only; rw [ht8]; exact hW⟩, hS.F ht8⟩) hS.2.2 dJxc12de_init_da8c8_9

set_option maxHeartbeats 4000000 in
set_option maxRecDepth 100000 in
theorem c_Jx4a65c_init_da8c8 (l : Launch) (D : va_G) (cs : Nat → ClassId) (A : Nat → Prop) (z0 : Nat) (sa : Nat → Nat) (lv : Nat → Prop) (ad : Nat → Nat) (ct : Nat → va_E) (rl : Nat) (hrl : lv rl) (hcl : ct rl = .inr (0, [.int 0, .null, .int 0])) : Met l yJx4a65c_init_da8c8 wsJx4a65c_init_da8c8 ({ frames := 4, cells := 0, slots := 0, locals := 100 } : Room) (va_Pc [.ref (ad rl)] (pC D cs A z0 sa lv ad ct)) (va_Qv (fun (_ : Unit) => True) (fun _ t9 => wP D A lv ad (va_up ct rl (.inr (0, [.int 0, .ref z0, .int 0]))) t9.heap) A) 0 0 A := by
  refine Met.ofW (cc := cJx4a65c_init_da8c8) (maxL := 1) (ret := none) (by decide) rfl ?_
  intro p e s m args below meth c s₁ BB hml hv
  obtain ⟨rfl, hv⟩ := hv
  obtain ⟨hE, hW⟩ := hv
  have hK := hE.1
  have hx := BB.exec
  have hb := BB.bytes
  have hr := BB.returns
  have hts := atoms_spec (ws := wsJx4a65c_init_da8c8) BB.pre
  have hown : s.vm.findClass RJx4a65c = some m.cls := findClass_of_methodNamed BB.named
  have hlocks := BB.notSynchronized
  have hS : va_S A s.heap s.heap [] := va_S.rf
  have hl := lv_entry ([.ref (ad rl)]) (n := 1) (Nat.le_of_ble_eq_true rfl)
  rw [lg_entry_eq]
  generalize (lg_sl ([.ref (ad rl)]) ++ List.replicate (1 - (lg_sl ([.ref (ad rl)])).length) Slot.unset).toArray = ls at hl ⊢
  have hl : lv_has ls 1 [(0, .ref (ad rl))] := hl
  have hf9 := hts (.fieldLink RJx4a65c 9 "java/util/ArrayList" "elementData" "[Ljava/lang/Object;") (by decide +kernel)
  have hinJx4a65c : ∀ w ∈ u_ws RJx4a65c TJx4a65c 3, w ∈ wsJx4a65c_init_da8c8 := by decide +kernel
  refine lv_aload_n hx hb dJx4a65c_init_da8c8_0 rfl (lv_at hl 0 rfl) ?_
  refine va_callv (va_runI (As := []) (rest := []) ⟨hx, hb, hml, hown, hts⟩ (c_Jxc12de_init_da8c8 l D cs A z0 sa lv ad ct rl hrl hcl) (cwI 0 hts gJx4a65c_init_da8c8_Jxc12de_init_da8c8 rfl rfl rfl (hts (.initialized RJxc12de) (by decide +kernel)) (hts (.methodLink RJx4a65c 1 yJxc12de_init_da8c8) (by decide +kernel)) (hts (.instanceMethod yJxc12de_init_da8c8) (by decide +kernel)) rfl (by decide +kernel) ⟨Nat.le_of_ble_eq_true rfl, Nat.le_of_ble_eq_true rfl⟩) ⟨pC_fb, fun U hU hV => ⟨rfl, hE.at (fun _ h => h) hS hV hU, by rw [hU]; exact hW⟩⟩ rfl rfl hl.1 rfl (lv_room (Nat.le_of_ble_eq_true rfl)) dJx4a65c_init_da8c8_1 ⟨Nat.le_of_ble_eq_true rfl, Nat.le_of_ble_eq_true rfl⟩) hS (fun _ _ h => h) (fun _ h => h) (fun u t9 H locs ht hvm hw hB hz1 hk1 hS => ?_)
  rw [ht] at hB
  have hW := hB
  refine lv_aload_n hx hb dJx4a65c_init_da8c8_4 rfl (lv_at hl 0 rfl) ?_
  refine va_gets hx hb hE.2.2.1 hS hown (hts (.fieldLink RJx4a65c 39 zC zN zD) (by decide +kernel)) (fun _ h9 => h9) dJx4a65c_init_da8c8_5 ?_
  refine wb_putE (fs := [.int 0, .null, .int 0]) (v := .ref z0) (ty := (.array (.object "java/lang/Object"))) hx hb hts hinJx4a65c tyJx4a65c tyJx4a65c_ok nmJx4a65c hown hK hW hS rl rfl hrl hcl rfl 1 (by decide) hf9 (fun _ h9 => h9) rfl (by decide +kernel) rfl rfl (Nat.le_of_ble_eq_true rfl) dJx4a65c_init_da8c8_8 (fun H locs hW hS => ?_)
  exact W.vret hx hb hr (fun t8 ht8 hW8 => ⟨⟨(), rfl, trivial, by dsimp only; rw [ht8]; exact hW⟩, hS.F ht8⟩) hS.2.2 dJx4a65c_init_da8c8_11

set_option maxHeartbeats 4000000 in
set_option maxRecDepth 100000 in
theorem c_X2_init (l : Launch) (D : va_G) (cs : Nat → ClassId) (A : Nat → Prop) (z0 : Nat) (sa : Nat → Nat) (lv : Nat → Prop) (ad : Nat → Nat) (ct : Nat → va_E) (h3 : lv 3) (hc3 : ct 3 = .inr (3, [.null, .null])) (hno : ∀ z, lv z → z < 4) : Met l yX2_init wsX2_init ({ frames := 1, cells := 14, slots := 129, locals := 24 } : Room) (va_Pc [.ref (ad 3)] (pC D cs A z0 sa lv ad ct)) (va_Qv (fun (_ : Unit) => True) (fun _ t9 => ∃ ad9 : Nat → Nat, (∀ z, z < 4 → ad9 z = ad z) ∧ wP D A (fun z => lv z ∨ z = 4 ∨ z = 5 ∨ (8 ≤ z ∧ z < 20)) ad9 (ctSh cs ad9 ct) t9.heap) A) 14 129 A := by
  refine Met.ofW (cc := cX2_init) (maxL := 1) (ret := none) (by decide) rfl ?_
  intro p e s m args below meth c s₁ BB hml hv
  obtain ⟨rfl, hv⟩ := hv
  obtain ⟨hE, hW⟩ := hv
  have hK := hE.1
  have hA := hE.2.1
  have hx := BB.exec
  have hb := BB.bytes
  have hr := BB.returns
  have hts := atoms_spec (ws := wsX2_init) BB.pre
  have hown : s.vm.findClass RX2 = some m.cls := findClass_of_methodNamed BB.named
  have hlocks := BB.notSynchronized
  have hS : va_S A s.heap s.heap [] := va_S.rf
  have hl := lv_entry ([.ref (ad 3)]) (n := 1) (Nat.le_of_ble_eq_true rfl)
  rw [lg_entry_eq]
  generalize (lg_sl ([.ref (ad 3)]) ++ List.replicate (1 - (lg_sl ([.ref (ad 3)])).length) Slot.unset).toArray = ls at hl ⊢
  have hl : lv_has ls 1 [(0, .ref (ad 3))] := hl
  have hf11 := hts (.fieldLink RX2 11 "Coverpool$Sheet" "needs" "[I") (by decide +kernel)
  have hf17 := hts (.fieldLink RX2 17 "Coverpool$Sheet" "gives" "[[I") (by decide +kernel)
  have hinX2 : ∀ w ∈ u_ws RX2 TX2 2, w ∈ wsX2_init := by decide +kernel
  have hin : meth.name = "<init>" := (name_of_methodNamed BB.named BB.method).1
  refine lv_aload_n hx hb dX2_init_0 rfl (lv_at hl 0 rfl) ?_
  refine W.objInit hx hb hown (hts (.methodLink RX2 5 objectInit) (by decide +kernel)) (hts (.instanceMethod objectInit) (by decide +kernel)) (hts (.code objectInit ⟨#[0xb1]⟩ 1 none) (by decide +kernel)) rfl (by rw [hml]; exact hl.1) rfl dX2_init_1 (Nat.le_of_ble_eq_true rfl) (Nat.le_of_ble_eq_true rfl) ?_
  refine W.eq (g2 := F0 m 4 ls []) rfl ?_
  refine lv_aload_n hx hb dX2_init_4 rfl (lv_at hl 0 rfl) ?_
  refine lv_bipush (v := 9) hx hb dX2_init_5 (by decide) ?_
  refine wb_newa (atype := .int) (ty := .int) (N' := 9) (a0 := (9, .inl (fun _ => 0))) hx hb (hts (.arrayClass .int) (by decide +kernel)) rfl hK hW hS hA 4 (fun h9 => by have := hno _ h9; omega) (by decide) 0 rfl (fun _ h9 => by cases h9) (fun _ => rfl) (by decide) rfl (by decide) (Nat.le_of_ble_eq_true rfl) (Nat.le_of_ble_eq_true rfl) dX2_init_7 (fun q4 H hW hS => ?_)
  refine wb_putFE (fs := [.null, .null]) (v := .ref q4) (ty := .array .int) hx hb hts hinX2 tyX2 tyX2_ok nmX2 hown hK hW hS 3 rfl (Or.inl h3) hc3 rfl 0 (by decide) hf11 (fun _ h9 => h9) rfl hin rfl (by decide +kernel) rfl rfl (Nat.le_of_ble_eq_true rfl) dX2_init_9 (fun H locs hW hS => ?_)
  refine lv_aload_n hx hb dX2_init_12 rfl (lv_at hl 0 rfl) ?_
  refine lv_bipush (v := 12) hx hb dX2_init_13 (by decide) ?_
  refine lv_bipush (v := 9) hx hb dX2_init_15 (by decide) ?_
  refine wb_mna hx hb hown (hts (.classLink RX2 15 "[[I") (by decide +kernel)) hE.2.2.2.2.2.2.2.2.2.2.2 (hts (.arrayClass .int) (by decide +kernel)) hK hW hS hA (fun z hz => by rcases hz with hz | hz; have := hno z hz; omega; omega) (Nat.le_of_ble_eq_true rfl) (Nat.le_of_ble_eq_true rfl) dX2_init_17 (fun q5 rw5 H hW hS => ?_)
  refine wb_putFE (fs := [.ref q4, .null]) (v := .ref q5) (ty := .array (.array .int)) hx hb hts hinX2 tyX2 tyX2_ok nmX2 hown hK hW hS 3 rfl (Or.inl (Or.inl h3)) rfl rfl 1 (by decide) hf17 (fun _ h9 => h9) rfl hin rfl (by decide +kernel) rfl rfl (Nat.le_of_ble_eq_true rfl) dX2_init_21 (fun H locs hW hS => ?_)
  have hW := sheet_fin hno hW
  refine W.widen (k := 14) (n := 129) (Nat.le_of_ble_eq_true rfl) (Nat.le_of_ble_eq_true rfl) ?_
  exact W.vret hx hb hr (fun t8 ht8 hW8 => ⟨⟨(), rfl, trivial, by dsimp only; rw [ht8]; exact ⟨_, hW⟩⟩, hS.F ht8⟩) hS.2.2 dX2_init_24

set_option maxHeartbeats 4000000 in
set_option maxRecDepth 100000 in
theorem c_X3_init (l : Launch) (D : va_G) (cs : Nat → ClassId) (A : Nat → Prop) (z0 : Nat) (sa : Nat → Nat) (o : Nat) : Met l yX3_init wsX3_init ({ frames := 6, cells := 17, slots := 137, locals := 150 } : Room) (va_Pc [.ref o] (pCn D cs A z0 sa (fun z => z = 0) (fun _ => o) (fun _ => .inr (4, [.null, .null, .null, .int 0, .int 0, .int 0, .int 0, .int 0])))) (va_Qv (fun (_ : Unit) => True) (fun _ t9 => RC D cs A z0 o g0 (fun _ _ => 0) (fun _ _ => 0) 0 0 t9.heap) A) 17 137 A := by
  refine Met.ofW (cc := cX3_init) (maxL := 1) (ret := none) (by decide) rfl ?_
  intro p e s m args below meth c s₁ BB hml hv
  obtain ⟨rfl, hv⟩ := hv
  obtain ⟨⟨hE, hW⟩, hnest⟩ := hv
  have hK := hE.1
  have hA := hE.2.1
  have hx := BB.exec
  have hb := BB.bytes
  have hr := BB.returns
  have hts := atoms_spec (ws := wsX3_init) BB.pre
  have hown : s.vm.findClass RX3 = some m.cls := findClass_of_methodNamed BB.named
  have hlocks := BB.notSynchronized
  have hS : va_S A s.heap s.heap [] := va_S.rf
  have hl := lv_entry ([.ref o]) (n := 1) (Nat.le_of_ble_eq_true rfl)
  rw [lg_entry_eq]
  generalize (lg_sl ([.ref o]) ++ List.replicate (1 - (lg_sl ([.ref o])).length) Slot.unset).toArray = ls at hl ⊢
  have hl : lv_has ls 1 [(0, .ref o)] := hl
  have hf10 := hts (.fieldLink RX3 10 "Coverpool" "loans" "Ljava/util/ArrayList;") (by decide +kernel)
  have hf16 := hts (.fieldLink RX3 16 "Coverpool" "bonds" "Ljava/util/ArrayList;") (by decide +kernel)
  have hf22 := hts (.fieldLink RX3 22 "Coverpool" "sheet" "LCoverpool$Sheet;") (by decide +kernel)
  have hf26 := hts (.fieldLink RX3 26 "Coverpool" "month" "I") (by decide +kernel)
  have hf30 := hts (.fieldLink RX3 30 "Coverpool" "cash" "I") (by decide +kernel)
  have hf33 := hts (.fieldLink RX3 33 "Coverpool" "rankThatCounts" "I") (by decide +kernel)
  have hf36 := hts (.fieldLink RX3 36 "Coverpool" "cover" "I") (by decide +kernel)
  have hf39 := hts (.fieldLink RX3 39 "Coverpool" "rate" "I") (by decide +kernel)
  have hinX3 : ∀ w ∈ u_ws RX3 TX3 8, w ∈ wsX3_init := by decide +kernel
  have hin : meth.name = "<init>" := (name_of_methodNamed BB.named BB.method).1
  refine lv_aload_n hx hb dX3_init_0 rfl (lv_at hl 0 rfl) ?_
  refine W.objInit hx hb hown (hts (.methodLink RX3 1 objectInit) (by decide +kernel)) (hts (.instanceMethod objectInit) (by decide +kernel)) (hts (.code objectInit ⟨#[0xb1]⟩ 1 none) (by decide +kernel)) rfl (by rw [hml]; exact hl.1) rfl dX3_init_1 (Nat.le_of_ble_eq_true rfl) (Nat.le_of_ble_eq_true rfl) ?_
  refine W.eq (g2 := F0 m 4 ls []) rfl ?_
  refine lv_aload_n hx hb dX3_init_4 rfl (lv_at hl 0 rfl) ?_
  refine wb_new (ci := 0) (fs := [.int 0, .null, .int 0]) hx hb hts (T := TJx4a65c) (N := 3) (C := RJx4a65c) (by decide +kernel) tyJx4a65c tyJx4a65c_ok hown (hts (.classLink RX3 7 RJx4a65c) (by decide +kernel)) (hts (.instantiable RJx4a65c 3) (by decide +kernel)) (hts (.initialized RJx4a65c) (by decide +kernel)) hK hW hS hA 1 (by first | omega | (dsimp only; omega)) (by decide) rfl (fun j hj => by rcases (show j = 0 ∨ j = 1 ∨ j = 2 by omega) with rfl | rfl | rfl <;> rfl) (Nat.le_of_ble_eq_true rfl) (Nat.le_of_ble_eq_true rfl) dX3_init_5 (fun q1 H hW hS => ?_)
  refine lv_dup hx hb dX3_init_8 rfl ?_
  refine va_callv (va_runI (As := []) (rest := [.ref q1, .ref o]) ⟨hx, hb, hml, hown, hts⟩ (c_Jx4a65c_init_da8c8 l D cs A z0 sa _ _ _ 1 (Or.inr rfl) rfl) (cwI 0 hts gX3_init_Jx4a65c_init_da8c8 rfl rfl rfl (hts (.initialized RJx4a65c) (by decide +kernel)) (hts (.methodLink RX3 9 yJx4a65c_init_da8c8) (by decide +kernel)) (hts (.instanceMethod yJx4a65c_init_da8c8) (by decide +kernel)) rfl (by decide +kernel) ⟨Nat.le_of_ble_eq_true rfl, Nat.le_of_ble_eq_true rfl⟩) ⟨pC_fb, fun U hU hV => ⟨rfl, hE.at (fun _ h => h) hS hV hU, by rw [hU]; exact hW⟩⟩ rfl rfl hl.1 rfl (lv_room (Nat.le_of_ble_eq_true rfl)) dX3_init_9 ⟨Nat.le_of_ble_eq_true rfl, Nat.le_of_ble_eq_true rfl⟩) hS (fun _ _ h => h) (fun _ h => h) (fun u t9 H locs ht hvm hw hB hz1 hk1 hS => ?_)
  rw [ht] at hB
  have hW := hB
  refine wb_putFE (fs := [.null, .null, .null, .int 0, .int 0, .int 0, .int 0, .int 0]) (v := .ref q1) (ty := (.object "java/util/ArrayList")) hx hb hts hinX3 tyX3 tyX3_ok nmX3 hown hK hW hS 0 rfl (Or.inl rfl) rfl rfl 0 (by decide) hf10 (fun _ h9 => h9) rfl hin rfl (by decide +kernel) rfl rfl (Nat.le_of_ble_eq_true rfl) dX3_init_12 (fun H locs hW hS => ?_)
  refine lv_aload_n hx hb dX3_init_15 rfl (lv_at hl 0 rfl) ?_
  refine wb_new (ci := 0) (fs := [.int 0, .null, .int 0]) hx hb hts (T := TJx4a65c) (N := 3) (C := RJx4a65c) (by decide +kernel) tyJx4a65c tyJx4a65c_ok hown (hts (.classLink RX3 7 RJx4a65c) (by decide +kernel)) (hts (.instantiable RJx4a65c 3) (by decide +kernel)) (hts (.initialized RJx4a65c) (by decide +kernel)) hK hW hS hA 2 (by first | omega | (dsimp only; omega)) (by decide) rfl (fun j hj => by rcases (show j = 0 ∨ j = 1 ∨ j = 2 by omega) with rfl | rfl | rfl <;> rfl) (Nat.le_of_ble_eq_true rfl) (Nat.le_of_ble_eq_true rfl) dX3_init_16 (fun q2 H hW hS => ?_)
  refine lv_dup hx hb dX3_init_19 rfl ?_
  refine va_callv (va_runI (As := []) (rest := [.ref q2, .ref o]) ⟨hx, hb, hml, hown, hts⟩ (c_Jx4a65c_init_da8c8 l D cs A z0 sa _ _ _ 2 (Or.inr rfl) rfl) (cwI 0 hts gX3_init_Jx4a65c_init_da8c8 rfl rfl rfl (hts (.initialized RJx4a65c) (by decide +kernel)) (hts (.methodLink RX3 9 yJx4a65c_init_da8c8) (by decide +kernel)) (hts (.instanceMethod yJx4a65c_init_da8c8) (by decide +kernel)) rfl (by decide +kernel) ⟨Nat.le_of_ble_eq_true rfl, Nat.le_of_ble_eq_true rfl⟩) ⟨pC_fb, fun U hU hV => ⟨rfl, hE.at (fun _ h => h) hS hV hU, by rw [hU]; exact hW⟩⟩ rfl rfl hl.1 rfl (lv_room (Nat.le_of_ble_eq_true rfl)) dX3_init_20 ⟨Nat.le_of_ble_eq_true rfl, Nat.le_of_ble_eq_true rfl⟩) hS (fun _ _ h => h) (fun _ h => h) (fun u t9 H locs ht hvm hw hB hz1 hk1 hS => ?_)
  rw [ht] at hB
  have hW := hB
  refine wb_putFE (fs := [.ref q1, .null, .null, .int 0, .int 0, .int 0, .int 0, .int 0]) (v := .ref q2) (ty := (.object "java/util/ArrayList")) hx hb hts hinX3 tyX3 tyX3_ok nmX3 hown hK hW hS 0 rfl (Or.inl (Or.inl rfl)) rfl rfl 1 (by decide) hf16 (fun _ h9 => h9) rfl hin rfl (by decide +kernel) rfl rfl (Nat.le_of_ble_eq_true rfl) dX3_init_23 (fun H locs hW hS => ?_)
  refine lv_aload_n hx hb dX3_init_26 rfl (lv_at hl 0 rfl) ?_
  refine wb_new (ci := 3) (fs := [.null, .null]) hx hb hts (T := TX2) (N := 2) (C := RX2) (by decide +kernel) tyX2 tyX2_ok hown (hts (.classLink RX3 19 RX2) (by decide +kernel)) (hts (.instantiable RX2 2) (by decide +kernel)) (hts (.initialized RX2) (by decide +kernel)) hK hW hS hA 3 (by first | omega | (dsimp only; omega)) (by decide) rfl (fun j hj => by rcases (show j = 0 ∨ j = 1 by omega) with rfl | rfl <;> rfl) (Nat.le_of_ble_eq_true rfl) (Nat.le_of_ble_eq_true rfl) dX3_init_27 (fun q3 H hW hS => ?_)
  refine lv_dup hx hb dX3_init_30 rfl ?_
  refine va_callv (va_runIN (As := []) (rest := [.ref q3, .ref o]) ⟨hx, hb, hml, hown, hts⟩ (c_X2_init l D cs A z0 sa (fun z => ((z = 0 ∨ z = 1) ∨ z = 2) ∨ z = 3) _ _ (Or.inr rfl) rfl (fun z hz => by first | omega | (dsimp only at hz; omega))) ⟨va_cnB (host := "Coverpool") 0 hts gX3_init_X2_init_n21 rfl rfl rfl hnest (hts (.initialized RX2) (by decide +kernel)) (by decide +kernel) ⟨Nat.le_of_ble_eq_true rfl, Nat.le_of_ble_eq_true rfl⟩, rfl, hts (.instanceMethod yX2_init) (by decide +kernel)⟩ ⟨pC_fb, fun U hU hV => ⟨rfl, hE.at (fun _ h => h) hS hV hU, by rw [hU]; exact hW⟩⟩ rfl rfl hl.1 rfl (lv_room (Nat.le_of_ble_eq_true rfl)) dX3_init_31 ⟨Nat.le_of_ble_eq_true rfl, Nat.le_of_ble_eq_true rfl⟩) hS (fun _ _ h => h) (fun _ h => h) (fun u t9 H locs ht hvm hw hB hz1 hk1 hS => ?_)
  rw [ht] at hB
  obtain ⟨ad9, had, hW⟩ := hB
  have e0 : ad9 0 = o := had 0 (by decide)
  have e1 : ad9 1 = q1 := had 1 (by decide)
  have e2 : ad9 2 = q2 := had 2 (by decide)
  have e3 : ad9 3 = q3 := had 3 (by decide)
  refine wb_putFE (fs := [.ref q1, .ref q2, .null, .int 0, .int 0, .int 0, .int 0, .int 0]) (v := .ref q3) (ty := (.object "Coverpool$Sheet")) hx hb hts hinX3 tyX3 tyX3_ok nmX3 hown hK hW hS 0 e0.symm (Or.inl (Or.inl (Or.inl (Or.inl rfl)))) rfl rfl 2 (by decide) hf22 (fun _ h9 => h9) rfl hin rfl (by decide +kernel) rfl rfl (Nat.le_of_ble_eq_true rfl) dX3_init_34 (fun H locs hW hS => ?_)
  refine lv_aload_n hx hb dX3_init_37 rfl (lv_at hl 0 rfl) ?_
  refine lv_iconst (v := 0) hx hb dX3_init_38 (by decide) ?_
  refine wb_putE (fs := [.ref q1, .ref q2, .ref q3, .int 0, .int 0, .int 0, .int 0, .int 0]) (v := .int 0) (ty := .int) hx hb hts hinX3 tyX3 tyX3_ok nmX3 hown hK hW hS 0 e0.symm (Or.inl (Or.inl (Or.inl (Or.inl rfl)))) rfl rfl 3 (by decide) hf26 (fun _ h9 => h9) rfl (by decide +kernel) rfl rfl (Nat.le_of_ble_eq_true rfl) dX3_init_39 (fun H locs hW hS => ?_)
  refine lv_aload_n hx hb dX3_init_42 rfl (lv_at hl 0 rfl) ?_
  refine lv_iconst (v := 0) hx hb dX3_init_43 (by decide) ?_
  refine wb_putE (fs := [.ref q1, .ref q2, .ref q3, .int 0, .int 0, .int 0, .int 0, .int 0]) (v := .int 0) (ty := .int) hx hb hts hinX3 tyX3 tyX3_ok nmX3 hown hK hW hS 0 e0.symm (Or.inl (Or.inl (Or.inl (Or.inl rfl)))) rfl rfl 4 (by decide) hf30 (fun _ h9 => h9) rfl (by decide +kernel) rfl rfl (Nat.le_of_ble_eq_true rfl) dX3_init_44 (fun H locs hW hS => ?_)
  refine lv_aload_n hx hb dX3_init_47 rfl (lv_at hl 0 rfl) ?_
  refine lv_iconst (v := 3) hx hb dX3_init_48 (by decide) ?_
  refine wb_putE (fs := [.ref q1, .ref q2, .ref q3, .int 0, .int 0, .int 0, .int 0, .int 0]) (v := .int 3) (ty := .int) hx hb hts hinX3 tyX3 tyX3_ok nmX3 hown hK hW hS 0 e0.symm (Or.inl (Or.inl (Or.inl (Or.inl rfl)))) rfl rfl 5 (by decide) hf33 (fun _ h9 => h9) rfl (by decide +kernel) rfl rfl (Nat.le_of_ble_eq_true rfl) dX3_init_49 (fun H locs hW hS => ?_)
  refine lv_aload_n hx hb dX3_init_52 rfl (lv_at hl 0 rfl) ?_
  refine lv_iconst (v := 5) hx hb dX3_init_53 (by decide) ?_
  refine wb_putE (fs := [.ref q1, .ref q2, .ref q3, .int 0, .int 0, .int 3, .int 0, .int 0]) (v := .int 5) (ty := .int) hx hb hts hinX3 tyX3 tyX3_ok nmX3 hown hK hW hS 0 e0.symm (Or.inl (Or.inl (Or.inl (Or.inl rfl)))) rfl rfl 6 (by decide) hf36 (fun _ h9 => h9) rfl (by decide +kernel) rfl rfl (Nat.le_of_ble_eq_true rfl) dX3_init_54 (fun H locs hW hS => ?_)
  refine lv_aload_n hx hb dX3_init_57 rfl (lv_at hl 0 rfl) ?_
  refine lv_bipush (v := 6) hx hb dX3_init_58 (by decide) ?_
  refine wb_putE (fs := [.ref q1, .ref q2, .ref q3, .int 0, .int 0, .int 3, .int 5, .int 0]) (v := .int 6) (ty := .int) hx hb hts hinX3 tyX3 tyX3_ok nmX3 hown hK hW hS 0 e0.symm (Or.inl (Or.inl (Or.inl (Or.inl rfl)))) rfl rfl 7 (by decide) hf39 (fun _ h9 => h9) rfl (by decide +kernel) rfl rfl (Nat.le_of_ble_eq_true rfl) dX3_init_60 (fun H locs hW hS => ?_)
  refine W.widen (k := 17) (n := 137) (Nat.le_of_ble_eq_true rfl) (Nat.le_of_ble_eq_true rfl) ?_
  exact W.vret hx hb hr (fun t8 ht8 hW8 => ⟨⟨(), rfl, trivial, by dsimp only; rw [ht8]; exact pool_fin e0 e1 e2 e3 hW rfl rfl rfl rfl rfl rfl (fun j hj => by rcases (show j = 0 ∨ j = 1 ∨ j = 2 ∨ j = 3 ∨ j = 4 ∨ j = 5 ∨ j = 6 ∨ j = 7 ∨ j = 8 ∨ j = 9 ∨ j = 10 ∨ j = 11 by omega) with rfl | rfl | rfl | rfl | rfl | rfl | rfl | rfl | rfl | rfl | rfl | rfl <;> rfl)⟩, hS.F ht8⟩) hS.2.2 dX3_init_63

